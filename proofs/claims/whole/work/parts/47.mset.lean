/-! the model: set, feed, image, back -/
theorem lin_m {x : Int32} {B : Int64} {a b : Nat} (hB : B.toInt = b) (ha : a < 2 ^ 30) (zhb : b < 2 ^ 30) : lin x.toInt64 (nI a).toInt64 B = !decide (x < nI a ∨ ¬ x ≤ nI b) := by
  have hl := lin_iff (x := x) (a := (nI a).toInt64) (b := B)
  rw [Int32.toInt_toInt64, nI_toInt (by omega), hB] at hl
  have e : (x < nI a ∨ ¬ x ≤ nI b) ↔ ¬ ((a : Int) ≤ x.toInt ∧ x.toInt ≤ (b : Int)) := by
    rw [Int32.lt_iff_toInt_lt, Int32.le_iff_toInt_le, nI_toInt (by omega), nI_toInt (by omega)]
    omega
  by_cases h : x < nI a ∨ ¬ x ≤ nI b
  · rw [decide_eq_true h]
    cases zhq : lin x.toInt64 (nI a).toInt64 B with
    | false => rfl
    | true => exact absurd (hl.mp zhq) (e.mp h)
  · rw [decide_eq_false h]
    exact hl.mpr (Decidable.not_not.mp (fun q => h (e.mpr q)))
theorem oks_345 {c c' : XI} {r : Nat} (zh3 : c' 3 = c 3) (zh4 : c' 4 = c 4) (zh5 : c' 5 = c 5) : ∀ n, oks c' r n = oks c r n
  | 0 => rfl
  | n + 1 => by
    show (oks c' r n && (decide (n = r) || !cf c' n r)) = (oks c r n && (decide (n = r) || !cf c n r))
    rw [oks_345 zh3 zh4 zh5 n]
    unfold cf
    rw [zh3, zh4, zh5]
theorem aks_o {c : XI} {n r : Nat} (h : aks c n = true) (hr : r < n) : oks c r n = true := oks_iff.mpr (fun o ho hne => aks_iff.mp h o r ho hr hne)
theorem MXset {I : XI} {n k r v : Nat} {c : CR} (h : XCm I 64 (ci c) n) : XCm (xi I (65 + k) r (nI v)) 64 (ci (setr c k r v)) n := by
  intro w a hw ha
  unfold ci
  by_cases e : w = k ∧ a = r
  · obtain ⟨rfl, rfl⟩ := e
    rw [show 64 + 1 + w = 65 + w from rfl, xi_eq, setr_at]
  · rw [xi_ne _ _ _ _ (by omega), setr_ne e]
    exact h w a hw ha
theorem sp_set_w {n dd w r : Nat} {c : CR} {v : Int32} (zh1 : 1 ≤ w) (zh5 : w ≤ 5) (hr : r < n) (hn5 : n ≤ 5) : sp_set n c dd (nI w) (nI r) v = if v < nI (lst c w r) ∨ ¬ v ≤ nI (mst w) then (-2, c, dd) else if oks (ci (setr c (rwo w) r v.toNatClampNeg)) r n = true then (nI (c (rwo w) r), setr c (rwo w) r v.toNatClampNeg, dd) else (-3, c, dd) := by
  unfold sp_set
  rw [if_neg (show ¬ nI w = 0 from fun q => by have := nIe (b := 0) q (by omega) (by decide); omega), if_neg (show ¬ (nI w < nI 1 ∨ nI 5 < nI w ∨ isR n (nI r) = false) from fun q => q.elim (fun q => absurd (nIlt q (by omega) (by decide)) (by omega)) (fun q => q.elim (fun q => absurd (nIlt q (by decide) (by omega)) (by omega)) (fun q => by rw [isR_t hr (by omega)] at q; cases q))), nI_clamp (n := w) (by omega), nI_clamp (n := r) (by omega)]
theorem wfc_set {n w r v : Nat} {c : CR} (h : wfc c n) (hr : r < n) (zh1 : 1 ≤ w) (zh5 : w ≤ 5) (hl : lst c w r ≤ v) (hm : v ≤ mst w) (ho : oks (ci (setr c (rwo w) r v)) r n = true) : wfc (setr c (rwo w) r v) n := by
  refine ⟨fun a ha => ?_, aks_setr h.2 ho⟩
  by_cases e : a = r
  · subst e; exact wfr_set (n := n) (h.1 a ha) zh1 zh5 hl hm
  · have := h.1 a ha
    unfold wfr at this ⊢
    have q : ∀ b, setr c (rwo w) r v b a = c b a := fun b => setr_ne (fun z => e z.2)
    rw [q, q, q, q, q, q, q]; exact this
theorem v_of {v : Int32} {a b : Nat} (h : ¬ (v < nI a ∨ ¬ v ≤ nI b)) (zhb : b < 1000) (ha : a < 1000) : ∃ k, v = nI k ∧ a ≤ k ∧ k ≤ b := by
  have zh1 : ¬ v < nI a := fun q => h (Or.inl q)
  have zh2 : v ≤ nI b := Decidable.not_not.mp (fun q => h (Or.inr q))
  obtain ⟨k, hk, rfl⟩ := nI_of2 (n := b) (M := nI b) (nI_toInt (by omega)) (fun q => zh1 (Int32.lt_of_lt_of_le q (nI_pos' (by omega)))) zh2
  exact ⟨k, rfl, nInlt zh1 (by omega) (by omega), hk⟩
section MSET
variable {E : XE} {d : Nat} {sh : XSh} {I : XI} {R : XRf} {L : XL} {n dd u : Nat} {c : CR}
def QMw (q : Int32 × CR × Nat) (n u : Nat) (sh : XSh) (I : XI) (R : XRf) (L : XL) : XQ := fun v sh' J R' L' => v = some (.int q.1) ∧ sh' = sh ∧ R' = R ∧ L' = L ∧ MKc J n q.2.1 q.2.2 u ∧ FMr I J 7
theorem QMw.same {ans : Int32} (h : MKc I n c dd u) : QMw (ans, c, dd) n u sh I R L (some (.int ans)) sh I R L := ⟨rfl, rfl, rfl, rfl, h, FMr.rf⟩
/-- row k of r has become v -/
theorem QMw.row {ans : Int32} {k r v : Nat} (h : MKc I n c dd u) (hk : k < 7) (hw : wfc (setr c k r v) n) : QMw (ans, setr c k r v, dd) n u sh I R L (some (.int ans)) sh (xi I (65 + k) r (nI v)) R L := by
  obtain ⟨hm, hn, hn5, hdd, hd2, hu, hwf⟩ := h
  refine ⟨rfl, rfl, rfl, rfl, ⟨MXset hm, ?_, hn5, ?_, hd2, ?_, hw⟩, fun a ha ha2 => xi_off _ _ _ _ (by omega), fun j _ => congrFun (xi_off _ _ _ _ (by omega)) j⟩
  · rw [xi_off _ _ _ _ (by omega)]; exact hn
  · rw [xi_off _ _ _ _ (by omega)]; exact hdd
  · rw [xi_off _ _ _ _ (by omega)]; exact hu
theorem told_nI {r w : Nat} (hr : r < n) (hn5 : n ≤ 5) (hw : w ≤ 6) : sp_told n c (nI r) (nI w) = nI (c (rwo w) r) := by
  rw [show sp_told n c (nI r) (nI w) = _ from if_pos ⟨isR_t hr (by omega), nI_pos (by omega), nI_le (by omega) (by decide)⟩, nI_clamp (n := w) (by omega), nI_clamp (n := r) (by omega)]
theorem m_puts3 (hg : XG sh R) {r : Nat} (hr : r < 5) (v : Int32) : XC E mX7_puts d 0 0 [.ref 61, .int (nI r), .int (nI 3), .int v] sh I R L (xq none sh (xi I 69 r v) R L) := by
  refine XC.of (by decide) rfl rfl ?_
  refine xv_iload_n (q := 1) rfl dX7_puts_0 rfl rfl ?_
  refine xv_iconst (v := nI 3) (q := 2) rfl dX7_puts_1 rfl ?_
  refine xv_icmp_ne (q := 5) (t := 15) rfl rfl dX7_puts_2 (fun zh2 => ?_) (fun zh2 => ?_)
  · exact absurd zh2 (by decide)
  · refine xv_aload_n (q := 6) rfl dX7_puts_5 rfl rfl ?_
    refine xv_geta (q := 9) rfl dX7_puts_6 f_X7_38 (hg.1 _ _ rfl) (hg.2 _ _ _ rfl) ?_
    refine xv_iload_n (q := 10) rfl dX7_puts_9 rfl rfl ?_
    refine xv_iload_n (q := 11) rfl dX7_puts_10 rfl rfl ?_
    refine xv_iast (q := 12) rfl dX7_puts_11 (hg.1 _ _ rfl) rfl (by omega) (by decide) ?_
    refine xv_goto (t := 22) rfl dX7_puts_12 ?_
    refine xv_vret dX7_puts_22 rfl ?_
    exact xq_rfl
theorem m_puts4 (hg : XG sh R) {r : Nat} (hr : r < 5) (v : Int32) : XC E mX7_puts d 0 0 [.ref 61, .int (nI r), .int (nI 4), .int v] sh I R L (xq none sh (xi I 70 r v) R L) := by
  refine XC.of (by decide) rfl rfl ?_
  refine xv_iload_n (q := 1) rfl dX7_puts_0 rfl rfl ?_
  refine xv_iconst (v := nI 3) (q := 2) rfl dX7_puts_1 rfl ?_
  refine xv_icmp_ne (q := 5) (t := 15) rfl rfl dX7_puts_2 (fun zh2 => ?_) (fun zh2 => ?_)
  · refine xv_aload_n (q := 16) rfl dX7_puts_15 rfl rfl ?_
    refine xv_geta (q := 19) rfl dX7_puts_16 f_X7_41 (hg.1 _ _ rfl) (hg.2 _ _ _ rfl) ?_
    refine xv_iload_n (q := 20) rfl dX7_puts_19 rfl rfl ?_
    refine xv_iload_n (q := 21) rfl dX7_puts_20 rfl rfl ?_
    refine xv_iast (q := 22) rfl dX7_puts_21 (hg.1 _ _ rfl) rfl (by omega) (by decide) ?_
    refine xv_vret dX7_puts_22 rfl ?_
    exact xq_rfl
  · exact absurd zh2 (by decide)
theorem m_set1 (hg : XG sh R) (hK : MKc I n c dd u) {r : Nat} (hr : r < n) (v : Int32) : XV E mX7_set (d + 3) 0 0 (QMw (sp_set n c dd (nI 1) (nI r) v) n u sh I R L) 0 0 27 [some (.ref 61), some (.int (nI 1)), some (.int (nI r)), some (.int v), none, none] [] sh I R L := by
  obtain ⟨hm, hn, hn5, hdd, hd2, hu, hwf⟩ := id hK
  have zhq := sp_set_w (n := n) (dd := dd) (w := 1) (c := c) (v := v) (by decide) (by decide) hr hn5
  have hc3 := (hwf.1 r hr).2.2.2.1
  refine xv_iload_n (q := 28) rfl dX7_set_27 rfl rfl ?_
  refine xv_if_ne (q := 31) (t := 35) rfl rfl dX7_set_28 (fun h28 => ?_) (fun h28 => ?_)
  · refine xv_iload_n (q := 36) rfl dX7_set_35 rfl rfl ?_
    refine xv_iconst (v := nI 3) (q := 37) rfl dX7_set_36 rfl ?_
    refine xv_icmp_ne (q := 40) (t := 51) rfl rfl dX7_set_37 (fun h37 => ?_) (fun h37 => ?_)
    · refine xv_iconst (v := nI 0) (q := 52) rfl dX7_set_51 rfl ?_
      refine xv_istore (q := 54) rfl dX7_set_52 rfl ?_
      refine xv_iload_n (q := 55) rfl dX7_set_54 rfl rfl ?_
      refine xv_i2l (q := 56) rfl dX7_set_55 ?_
      refine xv_iload (q := 58) rfl dX7_set_56 rfl ?_
      refine xv_i2l (q := 59) rfl dX7_set_58 ?_
      refine xv_iload_n (q := 60) rfl dX7_set_59 rfl rfl ?_
      refine xv_if_ne (q := 63) (t := 69) rfl rfl dX7_set_60 (fun h60 => ?_) (fun h60 => ?_)
      · refine xv_iload_n (q := 70) rfl dX7_set_69 rfl rfl ?_
        refine xv_iconst (v := nI 4) (q := 71) rfl dX7_set_70 rfl ?_
        refine xv_icmp_ne (q := 74) (t := 80) rfl rfl dX7_set_71 (fun h71 => ?_) (fun h71 => ?_)
        · refine xv_iload_n (q := 81) rfl dX7_set_80 rfl rfl ?_
          refine xv_iconst (v := nI 5) (q := 82) rfl dX7_set_81 rfl ?_
          refine xv_icmp_ne (q := 85) (t := 91) rfl rfl dX7_set_82 (fun h82 => ?_) (fun h82 => ?_)
          · refine xv_ldc2 (q := 94) rfl dX7_set_91 k_X7_112 ?_
            refine xv_cS3 (z := mX7_in) (q := 97) rfl dX7_set_94 l_X7_91 gX7_in rfl (m_in (d := d + 2) _ _ _) (by omega) ?_
            rw [lin_m (a := 0) (b := 9) rfl (by decide) (by decide)]
            refine xv_if_ne (q := 100) (t := 103) rfl rfl dX7_set_97 (fun h97 => ?_) (fun h97 => ?_)
            · have h97 : ¬ (v < nI (lst c 1 r) ∨ ¬ v ≤ nI (mst 1)) := by
                have := bIn h97
                rw [Bool.not_eq_true'] at this
                exact of_decide_eq_false this
              obtain ⟨x, rfl, hx1, hx2⟩ := v_of h97 (show mst 1 < 1000 by decide) (show lst c 1 r < 1000 by exact (by decide : 0 < 1000))
              have hx100 : x ≤ 100 := Nat.le_trans hx2 (by decide)
              have hq2 := zhq.trans (if_neg h97)
              rw [nI_clamp (n := x) (by omega)] at hq2
              refine xv_iload_n (q := 104) rfl dX7_set_103 rfl rfl ?_
              refine xv_if_ne (q := 107) (t := 114) rfl rfl dX7_set_104 (fun h104 => ?_) (fun h104 => ?_)
              · refine xv_aload_n (q := 115) rfl dX7_set_114 rfl rfl ?_
                refine xv_iload_n (q := 116) rfl dX7_set_115 rfl rfl ?_
                refine xv_iload_n (q := 117) rfl dX7_set_116 rfl rfl ?_
                refine xv_cV2 (z := mX7_told) (q := 120) rfl dX7_set_117 l_X7_114 gX7_told (hg.1 _ _ rfl) rfl rfl rfl (y_told (d := d) hg hK (nI r) (nI 1)) (by omega) ?_
                rw [told_nI hr hn5 (show 1 ≤ 6 by decide)]
                refine xv_istore (q := 122) rfl dX7_set_120 rfl ?_
                refine xv_iload_n (q := 123) rfl dX7_set_122 rfl rfl ?_
                refine xv_if_ne (q := 126) (t := 134) rfl rfl dX7_set_123 (fun h123 => ?_) (fun h123 => ?_)
                · refine xv_iload_n (q := 135) rfl dX7_set_134 rfl rfl ?_
                  refine xv_iconst (v := nI 1) (q := 136) rfl dX7_set_135 rfl ?_
                  refine xv_icmp_ne (q := 139) (t := 149) rfl rfl dX7_set_136 (fun h136 => ?_) (fun h136 => ?_)
                  · exact absurd h136 (by decide)
                  · refine xv_aload_n (q := 140) rfl dX7_set_139 rfl rfl ?_
                    refine xv_geta (q := 143) rfl dX7_set_140 f_X7_29 (hg.1 _ _ rfl) (hg.2 _ _ _ rfl) ?_
                    refine xv_iload_n (q := 144) rfl dX7_set_143 rfl rfl ?_
                    refine xv_iload_n (q := 145) rfl dX7_set_144 rfl rfl ?_
                    refine xv_iast (q := 146) rfl dX7_set_145 (hg.1 _ _ rfl) rfl (by omega) (by decide) ?_
                    refine xv_goto (t := 208) rfl dX7_set_146 ?_
                    refine xv_iload (q := 210) rfl dX7_set_208 rfl ?_
                    refine xv_iret dX7_set_210 rfl ?_
                    have ho : oks (ci (setr c (rwo 1) r x)) r n = true := (oks_345 (funext fun a => congrArg nI (setr_ne (show ¬ (3 = rwo 1 ∧ a = r) from fun z => absurd z.1 (by decide)))) (funext fun a => congrArg nI (setr_ne (show ¬ (4 = rwo 1 ∧ a = r) from fun z => absurd z.1 (by decide)))) (funext fun a => congrArg nI (setr_ne (show ¬ (5 = rwo 1 ∧ a = r) from fun z => absurd z.1 (by decide)))) n).trans (aks_o hwf.2 hr)
                    rw [hq2, if_pos ho]
                    exact QMw.row (k := 1) hK (by decide) (wfc_set (w := 1) hwf hr (by decide) (by decide) hx1 hx2 ho)
                · exact absurd h123 (by decide)
              · exact absurd h104 (by decide)
            · have h97 : v < nI (lst c 1 r) ∨ ¬ v ≤ nI (mst 1) := by
                have := bIz h97
                rw [Bool.not_eq_false'] at this
                exact of_decide_eq_true this
              refine xv_bipush (v := (-2)) (q := 102) rfl dX7_set_100 rfl ?_
              refine xv_iret dX7_set_102 rfl ?_
              rw [zhq, if_pos h97]
              exact QMw.same hK
          · exact absurd h82 (by decide)
        · exact absurd h71 (by decide)
      · exact absurd h60 (by decide)
    · exact absurd h37 (by decide)
  · exact absurd h28 (by decide)
theorem m_set2 (hg : XG sh R) (hK : MKc I n c dd u) {r : Nat} (hr : r < n) (v : Int32) : XV E mX7_set (d + 3) 0 0 (QMw (sp_set n c dd (nI 2) (nI r) v) n u sh I R L) 0 0 27 [some (.ref 61), some (.int (nI 2)), some (.int (nI r)), some (.int v), none, none] [] sh I R L := by
  obtain ⟨hm, hn, hn5, hdd, hd2, hu, hwf⟩ := id hK
  have zhq := sp_set_w (n := n) (dd := dd) (w := 2) (c := c) (v := v) (by decide) (by decide) hr hn5
  have hc3 := (hwf.1 r hr).2.2.2.1
  refine xv_iload_n (q := 28) rfl dX7_set_27 rfl rfl ?_
  refine xv_if_ne (q := 31) (t := 35) rfl rfl dX7_set_28 (fun h28 => ?_) (fun h28 => ?_)
  · refine xv_iload_n (q := 36) rfl dX7_set_35 rfl rfl ?_
    refine xv_iconst (v := nI 3) (q := 37) rfl dX7_set_36 rfl ?_
    refine xv_icmp_ne (q := 40) (t := 51) rfl rfl dX7_set_37 (fun h37 => ?_) (fun h37 => ?_)
    · refine xv_iconst (v := nI 0) (q := 52) rfl dX7_set_51 rfl ?_
      refine xv_istore (q := 54) rfl dX7_set_52 rfl ?_
      refine xv_iload_n (q := 55) rfl dX7_set_54 rfl rfl ?_
      refine xv_i2l (q := 56) rfl dX7_set_55 ?_
      refine xv_iload (q := 58) rfl dX7_set_56 rfl ?_
      refine xv_i2l (q := 59) rfl dX7_set_58 ?_
      refine xv_iload_n (q := 60) rfl dX7_set_59 rfl rfl ?_
      refine xv_if_ne (q := 63) (t := 69) rfl rfl dX7_set_60 (fun h60 => ?_) (fun h60 => ?_)
      · refine xv_iload_n (q := 70) rfl dX7_set_69 rfl rfl ?_
        refine xv_iconst (v := nI 4) (q := 71) rfl dX7_set_70 rfl ?_
        refine xv_icmp_ne (q := 74) (t := 80) rfl rfl dX7_set_71 (fun h71 => ?_) (fun h71 => ?_)
        · refine xv_iload_n (q := 81) rfl dX7_set_80 rfl rfl ?_
          refine xv_iconst (v := nI 5) (q := 82) rfl dX7_set_81 rfl ?_
          refine xv_icmp_ne (q := 85) (t := 91) rfl rfl dX7_set_82 (fun h82 => ?_) (fun h82 => ?_)
          · refine xv_ldc2 (q := 94) rfl dX7_set_91 k_X7_112 ?_
            refine xv_cS3 (z := mX7_in) (q := 97) rfl dX7_set_94 l_X7_91 gX7_in rfl (m_in (d := d + 2) _ _ _) (by omega) ?_
            rw [lin_m (a := 0) (b := 9) rfl (by decide) (by decide)]
            refine xv_if_ne (q := 100) (t := 103) rfl rfl dX7_set_97 (fun h97 => ?_) (fun h97 => ?_)
            · have h97 : ¬ (v < nI (lst c 2 r) ∨ ¬ v ≤ nI (mst 2)) := by
                have := bIn h97
                rw [Bool.not_eq_true'] at this
                exact of_decide_eq_false this
              obtain ⟨x, rfl, hx1, hx2⟩ := v_of h97 (show mst 2 < 1000 by decide) (show lst c 2 r < 1000 by exact (by decide : 0 < 1000))
              have hx100 : x ≤ 100 := Nat.le_trans hx2 (by decide)
              have hq2 := zhq.trans (if_neg h97)
              rw [nI_clamp (n := x) (by omega)] at hq2
              refine xv_iload_n (q := 104) rfl dX7_set_103 rfl rfl ?_
              refine xv_if_ne (q := 107) (t := 114) rfl rfl dX7_set_104 (fun h104 => ?_) (fun h104 => ?_)
              · refine xv_aload_n (q := 115) rfl dX7_set_114 rfl rfl ?_
                refine xv_iload_n (q := 116) rfl dX7_set_115 rfl rfl ?_
                refine xv_iload_n (q := 117) rfl dX7_set_116 rfl rfl ?_
                refine xv_cV2 (z := mX7_told) (q := 120) rfl dX7_set_117 l_X7_114 gX7_told (hg.1 _ _ rfl) rfl rfl rfl (y_told (d := d) hg hK (nI r) (nI 2)) (by omega) ?_
                rw [told_nI hr hn5 (show 2 ≤ 6 by decide)]
                refine xv_istore (q := 122) rfl dX7_set_120 rfl ?_
                refine xv_iload_n (q := 123) rfl dX7_set_122 rfl rfl ?_
                refine xv_if_ne (q := 126) (t := 134) rfl rfl dX7_set_123 (fun h123 => ?_) (fun h123 => ?_)
                · refine xv_iload_n (q := 135) rfl dX7_set_134 rfl rfl ?_
                  refine xv_iconst (v := nI 1) (q := 136) rfl dX7_set_135 rfl ?_
                  refine xv_icmp_ne (q := 139) (t := 149) rfl rfl dX7_set_136 (fun h136 => ?_) (fun h136 => ?_)
                  · refine xv_iload_n (q := 150) rfl dX7_set_149 rfl rfl ?_
                    refine xv_iconst (v := nI 2) (q := 151) rfl dX7_set_150 rfl ?_
                    refine xv_icmp_ne (q := 154) (t := 164) rfl rfl dX7_set_151 (fun h151 => ?_) (fun h151 => ?_)
                    · exact absurd h151 (by decide)
                    · refine xv_aload_n (q := 155) rfl dX7_set_154 rfl rfl ?_
                      refine xv_geta (q := 158) rfl dX7_set_155 f_X7_32 (hg.1 _ _ rfl) (hg.2 _ _ _ rfl) ?_
                      refine xv_iload_n (q := 159) rfl dX7_set_158 rfl rfl ?_
                      refine xv_iload_n (q := 160) rfl dX7_set_159 rfl rfl ?_
                      refine xv_iast (q := 161) rfl dX7_set_160 (hg.1 _ _ rfl) rfl (by omega) (by decide) ?_
                      refine xv_goto (t := 208) rfl dX7_set_161 ?_
                      refine xv_iload (q := 210) rfl dX7_set_208 rfl ?_
                      refine xv_iret dX7_set_210 rfl ?_
                      have ho : oks (ci (setr c (rwo 2) r x)) r n = true := (oks_345 (funext fun a => congrArg nI (setr_ne (show ¬ (3 = rwo 2 ∧ a = r) from fun z => absurd z.1 (by decide)))) (funext fun a => congrArg nI (setr_ne (show ¬ (4 = rwo 2 ∧ a = r) from fun z => absurd z.1 (by decide)))) (funext fun a => congrArg nI (setr_ne (show ¬ (5 = rwo 2 ∧ a = r) from fun z => absurd z.1 (by decide)))) n).trans (aks_o hwf.2 hr)
                      rw [hq2, if_pos ho]
                      exact QMw.row (k := 2) hK (by decide) (wfc_set (w := 2) hwf hr (by decide) (by decide) hx1 hx2 ho)
                  · exact absurd h136 (by decide)
                · exact absurd h123 (by decide)
              · exact absurd h104 (by decide)
            · have h97 : v < nI (lst c 2 r) ∨ ¬ v ≤ nI (mst 2) := by
                have := bIz h97
                rw [Bool.not_eq_false'] at this
                exact of_decide_eq_true this
              refine xv_bipush (v := (-2)) (q := 102) rfl dX7_set_100 rfl ?_
              refine xv_iret dX7_set_102 rfl ?_
              rw [zhq, if_pos h97]
              exact QMw.same hK
          · exact absurd h82 (by decide)
        · exact absurd h71 (by decide)
      · exact absurd h60 (by decide)
    · exact absurd h37 (by decide)
  · exact absurd h28 (by decide)
theorem m_set3 (hg : XG sh R) (hK : MKc I n c dd u) {r : Nat} (hr : r < n) (v : Int32) : XV E mX7_set (d + 3) 0 0 (QMw (sp_set n c dd (nI 3) (nI r) v) n u sh I R L) 0 0 27 [some (.ref 61), some (.int (nI 3)), some (.int (nI r)), some (.int v), none, none] [] sh I R L := by
  obtain ⟨hm, hn, hn5, hdd, hd2, hu, hwf⟩ := id hK
  have zhq := sp_set_w (n := n) (dd := dd) (w := 3) (c := c) (v := v) (by decide) (by decide) hr hn5
  have hc3 := (hwf.1 r hr).2.2.2.1
  refine xv_iload_n (q := 28) rfl dX7_set_27 rfl rfl ?_
  refine xv_if_ne (q := 31) (t := 35) rfl rfl dX7_set_28 (fun h28 => ?_) (fun h28 => ?_)
  · refine xv_iload_n (q := 36) rfl dX7_set_35 rfl rfl ?_
    refine xv_iconst (v := nI 3) (q := 37) rfl dX7_set_36 rfl ?_
    refine xv_icmp_ne (q := 40) (t := 51) rfl rfl dX7_set_37 (fun h37 => ?_) (fun h37 => ?_)
    · exact absurd h37 (by decide)
    · refine xv_aload_n (q := 41) rfl dX7_set_40 rfl rfl ?_
      refine xv_geta (q := 44) rfl dX7_set_41 f_X7_35 (hg.1 _ _ rfl) (hg.2 _ _ _ rfl) ?_
      refine xv_iload_n (q := 45) rfl dX7_set_44 rfl rfl ?_
      refine xv_iald (q := 46) rfl dX7_set_45 (hg.1 _ _ rfl) rfl (by omega) (by decide) ?_
      refine xv_as (w := nI (c 3 r)) (hm 3 r (by decide) hr) ?_
      refine xv_iconst (v := nI 1) (q := 47) rfl dX7_set_46 rfl ?_
      refine xv_iadd (q := 48) rfl dX7_set_47 ?_
      refine xv_as (w := nI (c 3 r + 1)) (nI_add _ _) ?_
      refine xv_goto (t := 52) rfl dX7_set_48 ?_
      refine xv_istore (q := 54) rfl dX7_set_52 rfl ?_
      refine xv_iload_n (q := 55) rfl dX7_set_54 rfl rfl ?_
      refine xv_i2l (q := 56) rfl dX7_set_55 ?_
      refine xv_iload (q := 58) rfl dX7_set_56 rfl ?_
      refine xv_i2l (q := 59) rfl dX7_set_58 ?_
      refine xv_iload_n (q := 60) rfl dX7_set_59 rfl rfl ?_
      refine xv_if_ne (q := 63) (t := 69) rfl rfl dX7_set_60 (fun h60 => ?_) (fun h60 => ?_)
      · refine xv_iload_n (q := 70) rfl dX7_set_69 rfl rfl ?_
        refine xv_iconst (v := nI 4) (q := 71) rfl dX7_set_70 rfl ?_
        refine xv_icmp_ne (q := 74) (t := 80) rfl rfl dX7_set_71 (fun h71 => ?_) (fun h71 => ?_)
        · refine xv_iload_n (q := 81) rfl dX7_set_80 rfl rfl ?_
          refine xv_iconst (v := nI 5) (q := 82) rfl dX7_set_81 rfl ?_
          refine xv_icmp_ne (q := 85) (t := 91) rfl rfl dX7_set_82 (fun h82 => ?_) (fun h82 => ?_)
          · refine xv_ldc2 (q := 94) rfl dX7_set_91 k_X7_112 ?_
            refine xv_cS3 (z := mX7_in) (q := 97) rfl dX7_set_94 l_X7_91 gX7_in rfl (m_in (d := d + 2) _ _ _) (by omega) ?_
            rw [lin_m (a := c 3 r + 1) (b := 9) rfl (by omega) (by decide)]
            refine xv_if_ne (q := 100) (t := 103) rfl rfl dX7_set_97 (fun h97 => ?_) (fun h97 => ?_)
            · have h97 : ¬ (v < nI (lst c 3 r) ∨ ¬ v ≤ nI (mst 3)) := by
                have := bIn h97
                rw [Bool.not_eq_true'] at this
                exact of_decide_eq_false this
              obtain ⟨x, rfl, hx1, hx2⟩ := v_of h97 (show mst 3 < 1000 by decide) (show lst c 3 r < 1000 by show c 3 r + 1 < 1000; omega)
              have hx100 : x ≤ 100 := Nat.le_trans hx2 (by decide)
              have hq2 := zhq.trans (if_neg h97)
              rw [nI_clamp (n := x) (by omega)] at hq2
              refine xv_iload_n (q := 104) rfl dX7_set_103 rfl rfl ?_
              refine xv_if_ne (q := 107) (t := 114) rfl rfl dX7_set_104 (fun h104 => ?_) (fun h104 => ?_)
              · refine xv_aload_n (q := 115) rfl dX7_set_114 rfl rfl ?_
                refine xv_iload_n (q := 116) rfl dX7_set_115 rfl rfl ?_
                refine xv_iload_n (q := 117) rfl dX7_set_116 rfl rfl ?_
                refine xv_cV2 (z := mX7_told) (q := 120) rfl dX7_set_117 l_X7_114 gX7_told (hg.1 _ _ rfl) rfl rfl rfl (y_told (d := d) hg hK (nI r) (nI 3)) (by omega) ?_
                rw [told_nI hr hn5 (show 3 ≤ 6 by decide)]
                refine xv_istore (q := 122) rfl dX7_set_120 rfl ?_
                refine xv_iload_n (q := 123) rfl dX7_set_122 rfl rfl ?_
                refine xv_if_ne (q := 126) (t := 134) rfl rfl dX7_set_123 (fun h123 => ?_) (fun h123 => ?_)
                · refine xv_iload_n (q := 135) rfl dX7_set_134 rfl rfl ?_
                  refine xv_iconst (v := nI 1) (q := 136) rfl dX7_set_135 rfl ?_
                  refine xv_icmp_ne (q := 139) (t := 149) rfl rfl dX7_set_136 (fun h136 => ?_) (fun h136 => ?_)
                  · refine xv_iload_n (q := 150) rfl dX7_set_149 rfl rfl ?_
                    refine xv_iconst (v := nI 2) (q := 151) rfl dX7_set_150 rfl ?_
                    refine xv_icmp_ne (q := 154) (t := 164) rfl rfl dX7_set_151 (fun h151 => ?_) (fun h151 => ?_)
                    · refine xv_iload_n (q := 165) rfl dX7_set_164 rfl rfl ?_
                      refine xv_iconst (v := nI 5) (q := 166) rfl dX7_set_165 rfl ?_
                      refine xv_icmp_ne (q := 169) (t := 179) rfl rfl dX7_set_166 (fun h166 => ?_) (fun h166 => ?_)
                      · refine xv_aload_n (q := 180) rfl dX7_set_179 rfl rfl ?_
                        refine xv_iload_n (q := 181) rfl dX7_set_180 rfl rfl ?_
                        refine xv_iload_n (q := 182) rfl dX7_set_181 rfl rfl ?_
                        refine xv_iload_n (q := 183) rfl dX7_set_182 rfl rfl ?_
                        refine xv_cV3 (z := mX7_puts) (q := 186) rfl dX7_set_183 l_X7_118 gX7_puts (hg.1 _ _ rfl) rfl rfl rfl (m_puts3 (d := d + 2) hg (show r < 5 by omega) (nI x)) (by omega) ?_
                        refine xv_aload_n (q := 187) rfl dX7_set_186 rfl rfl ?_
                        refine xv_aload_n (q := 188) rfl dX7_set_187 rfl rfl ?_
                        refine xv_geti (q := 191) rfl dX7_set_188 f_X7_88 (hg.1 _ _ rfl) ?_
                        rw [show xi I 69 r (nI x) 61 15 = nI n from (congrFun (xi_off _ _ _ _ (by decide)) 15).trans hn]
                        refine xv_cV1 (z := mX7_areTwo) (q := 194) rfl dX7_set_191 l_X7_101 gX7_areTwo (hg.1 _ _ rfl) rfl rfl rfl (m_two (d := d + 2) (q := setr c 4 r x) hg (MXset (k := 4) hm) hn5) (by omega) ?_
                        refine xv_if_eq (q := 197) (t := 208) rfl rfl dX7_set_194 (fun h194 => ?_) (fun h194 => ?_)
                        · have h194 : aks (ci (setr c 4 r x)) n = true := by have := bIz h194; simpa using this
                          have ho : oks (ci (setr c 4 r x)) r n = true := aks_o h194 hr
                          refine xv_iload (q := 210) rfl dX7_set_208 rfl ?_
                          refine xv_iret dX7_set_210 rfl ?_
                          rw [hq2, if_pos (show oks (ci (setr c (rwo 3) r x)) r n = true from ho)]
                          exact QMw.row (k := 4) hK (by decide) (wfc_set (w := 3) hwf hr (by decide) (by decide) hx1 hx2 ho)
                        · have h194 : aks (ci (setr c 4 r x)) n = false := by have := bIn h194; simpa using this
                          have ho : ¬ oks (ci (setr c 4 r x)) r n = true := fun q => by rw [aks_setr hwf.2 q] at h194; cases h194
                          refine xv_aload_n (q := 198) rfl dX7_set_197 rfl rfl ?_
                          refine xv_iload_n (q := 199) rfl dX7_set_198 rfl rfl ?_
                          refine xv_iload_n (q := 200) rfl dX7_set_199 rfl rfl ?_
                          refine xv_iload (q := 202) rfl dX7_set_200 rfl ?_
                          refine xv_cV3 (z := mX7_puts) (q := 205) rfl dX7_set_202 l_X7_118 gX7_puts (hg.1 _ _ rfl) rfl rfl rfl (m_puts3 (d := d + 2) hg (show r < 5 by omega) (nI (c (rwo 3) r))) (by omega) ?_
                          refine xv_bipush (v := (-3)) (q := 207) rfl dX7_set_205 rfl ?_
                          refine xv_iret dX7_set_207 rfl ?_
                          rw [hq2, if_neg (show ¬ oks (ci (setr c (rwo 3) r x)) r n = true from ho)]
                          have hm2 : XCm (xi (xi I 69 r (nI x)) 69 r (nI (c (rwo 3) r))) 64 (ci c) n := by
                            have := MXset (k := 4) (r := r) (v := c 4 r) (MXset (k := 4) (r := r) (v := x) hm)
                            rw [setr_setr, setr_self] at this
                            exact this
                          refine ⟨rfl, rfl, rfl, rfl, ⟨hm2, ?_, hn5, ?_, hd2, ?_, hwf⟩, fun a ha ha2 => (xi_off _ _ _ _ (by omega)).trans (xi_off _ _ _ _ (by omega)), fun j _ => by rw [xi_off _ _ _ _ (by decide), xi_off _ _ _ _ (by decide)]⟩
                          · rw [xi_off _ _ _ _ (by decide), xi_off _ _ _ _ (by decide)]; exact hn
                          · rw [xi_off _ _ _ _ (by decide), xi_off _ _ _ _ (by decide)]; exact hdd
                          · rw [xi_off _ _ _ _ (by decide), xi_off _ _ _ _ (by decide)]; exact hu
                      · exact absurd h166 (by decide)
                    · exact absurd h151 (by decide)
                  · exact absurd h136 (by decide)
                · exact absurd h123 (by decide)
              · exact absurd h104 (by decide)
            · have h97 : v < nI (lst c 3 r) ∨ ¬ v ≤ nI (mst 3) := by
                have := bIz h97
                rw [Bool.not_eq_false'] at this
                exact of_decide_eq_true this
              refine xv_bipush (v := (-2)) (q := 102) rfl dX7_set_100 rfl ?_
              refine xv_iret dX7_set_102 rfl ?_
              rw [zhq, if_pos h97]
              exact QMw.same hK
          · exact absurd h82 (by decide)
        · exact absurd h71 (by decide)
      · exact absurd h60 (by decide)
  · exact absurd h28 (by decide)
theorem m_set4 (hg : XG sh R) (hK : MKc I n c dd u) {r : Nat} (hr : r < n) (v : Int32) : XV E mX7_set (d + 3) 0 0 (QMw (sp_set n c dd (nI 4) (nI r) v) n u sh I R L) 0 0 27 [some (.ref 61), some (.int (nI 4)), some (.int (nI r)), some (.int v), none, none] [] sh I R L := by
  obtain ⟨hm, hn, hn5, hdd, hd2, hu, hwf⟩ := id hK
  have zhq := sp_set_w (n := n) (dd := dd) (w := 4) (c := c) (v := v) (by decide) (by decide) hr hn5
  have hc3 := (hwf.1 r hr).2.2.2.1
  refine xv_iload_n (q := 28) rfl dX7_set_27 rfl rfl ?_
  refine xv_if_ne (q := 31) (t := 35) rfl rfl dX7_set_28 (fun h28 => ?_) (fun h28 => ?_)
  · refine xv_iload_n (q := 36) rfl dX7_set_35 rfl rfl ?_
    refine xv_iconst (v := nI 3) (q := 37) rfl dX7_set_36 rfl ?_
    refine xv_icmp_ne (q := 40) (t := 51) rfl rfl dX7_set_37 (fun h37 => ?_) (fun h37 => ?_)
    · refine xv_iconst (v := nI 0) (q := 52) rfl dX7_set_51 rfl ?_
      refine xv_istore (q := 54) rfl dX7_set_52 rfl ?_
      refine xv_iload_n (q := 55) rfl dX7_set_54 rfl rfl ?_
      refine xv_i2l (q := 56) rfl dX7_set_55 ?_
      refine xv_iload (q := 58) rfl dX7_set_56 rfl ?_
      refine xv_i2l (q := 59) rfl dX7_set_58 ?_
      refine xv_iload_n (q := 60) rfl dX7_set_59 rfl rfl ?_
      refine xv_if_ne (q := 63) (t := 69) rfl rfl dX7_set_60 (fun h60 => ?_) (fun h60 => ?_)
      · refine xv_iload_n (q := 70) rfl dX7_set_69 rfl rfl ?_
        refine xv_iconst (v := nI 4) (q := 71) rfl dX7_set_70 rfl ?_
        refine xv_icmp_ne (q := 74) (t := 80) rfl rfl dX7_set_71 (fun h71 => ?_) (fun h71 => ?_)
        · exact absurd h71 (by decide)
        · refine xv_ldc2 (q := 77) rfl dX7_set_74 k_X7_95 ?_
          refine xv_goto (t := 94) rfl dX7_set_77 ?_
          refine xv_cS3 (z := mX7_in) (q := 97) rfl dX7_set_94 l_X7_91 gX7_in rfl (m_in (d := d + 2) _ _ _) (by omega) ?_
          rw [lin_m (a := 0) (b := 5) rfl (by decide) (by decide)]
          refine xv_if_ne (q := 100) (t := 103) rfl rfl dX7_set_97 (fun h97 => ?_) (fun h97 => ?_)
          · have h97 : ¬ (v < nI (lst c 4 r) ∨ ¬ v ≤ nI (mst 4)) := by
              have := bIn h97
              rw [Bool.not_eq_true'] at this
              exact of_decide_eq_false this
            obtain ⟨x, rfl, hx1, hx2⟩ := v_of h97 (show mst 4 < 1000 by decide) (show lst c 4 r < 1000 by exact (by decide : 0 < 1000))
            have hx100 : x ≤ 100 := Nat.le_trans hx2 (by decide)
            have hq2 := zhq.trans (if_neg h97)
            rw [nI_clamp (n := x) (by omega)] at hq2
            refine xv_iload_n (q := 104) rfl dX7_set_103 rfl rfl ?_
            refine xv_if_ne (q := 107) (t := 114) rfl rfl dX7_set_104 (fun h104 => ?_) (fun h104 => ?_)
            · refine xv_aload_n (q := 115) rfl dX7_set_114 rfl rfl ?_
              refine xv_iload_n (q := 116) rfl dX7_set_115 rfl rfl ?_
              refine xv_iload_n (q := 117) rfl dX7_set_116 rfl rfl ?_
              refine xv_cV2 (z := mX7_told) (q := 120) rfl dX7_set_117 l_X7_114 gX7_told (hg.1 _ _ rfl) rfl rfl rfl (y_told (d := d) hg hK (nI r) (nI 4)) (by omega) ?_
              rw [told_nI hr hn5 (show 4 ≤ 6 by decide)]
              refine xv_istore (q := 122) rfl dX7_set_120 rfl ?_
              refine xv_iload_n (q := 123) rfl dX7_set_122 rfl rfl ?_
              refine xv_if_ne (q := 126) (t := 134) rfl rfl dX7_set_123 (fun h123 => ?_) (fun h123 => ?_)
              · refine xv_iload_n (q := 135) rfl dX7_set_134 rfl rfl ?_
                refine xv_iconst (v := nI 1) (q := 136) rfl dX7_set_135 rfl ?_
                refine xv_icmp_ne (q := 139) (t := 149) rfl rfl dX7_set_136 (fun h136 => ?_) (fun h136 => ?_)
                · refine xv_iload_n (q := 150) rfl dX7_set_149 rfl rfl ?_
                  refine xv_iconst (v := nI 2) (q := 151) rfl dX7_set_150 rfl ?_
                  refine xv_icmp_ne (q := 154) (t := 164) rfl rfl dX7_set_151 (fun h151 => ?_) (fun h151 => ?_)
                  · refine xv_iload_n (q := 165) rfl dX7_set_164 rfl rfl ?_
                    refine xv_iconst (v := nI 5) (q := 166) rfl dX7_set_165 rfl ?_
                    refine xv_icmp_ne (q := 169) (t := 179) rfl rfl dX7_set_166 (fun h166 => ?_) (fun h166 => ?_)
                    · refine xv_aload_n (q := 180) rfl dX7_set_179 rfl rfl ?_
                      refine xv_iload_n (q := 181) rfl dX7_set_180 rfl rfl ?_
                      refine xv_iload_n (q := 182) rfl dX7_set_181 rfl rfl ?_
                      refine xv_iload_n (q := 183) rfl dX7_set_182 rfl rfl ?_
                      refine xv_cV3 (z := mX7_puts) (q := 186) rfl dX7_set_183 l_X7_118 gX7_puts (hg.1 _ _ rfl) rfl rfl rfl (m_puts4 (d := d + 2) hg (show r < 5 by omega) (nI x)) (by omega) ?_
                      refine xv_aload_n (q := 187) rfl dX7_set_186 rfl rfl ?_
                      refine xv_aload_n (q := 188) rfl dX7_set_187 rfl rfl ?_
                      refine xv_geti (q := 191) rfl dX7_set_188 f_X7_88 (hg.1 _ _ rfl) ?_
                      rw [show xi I 70 r (nI x) 61 15 = nI n from (congrFun (xi_off _ _ _ _ (by decide)) 15).trans hn]
                      refine xv_cV1 (z := mX7_areTwo) (q := 194) rfl dX7_set_191 l_X7_101 gX7_areTwo (hg.1 _ _ rfl) rfl rfl rfl (m_two (d := d + 2) (q := setr c 5 r x) hg (MXset (k := 5) hm) hn5) (by omega) ?_
                      refine xv_if_eq (q := 197) (t := 208) rfl rfl dX7_set_194 (fun h194 => ?_) (fun h194 => ?_)
                      · have h194 : aks (ci (setr c 5 r x)) n = true := by have := bIz h194; simpa using this
                        have ho : oks (ci (setr c 5 r x)) r n = true := aks_o h194 hr
                        refine xv_iload (q := 210) rfl dX7_set_208 rfl ?_
                        refine xv_iret dX7_set_210 rfl ?_
                        rw [hq2, if_pos (show oks (ci (setr c (rwo 4) r x)) r n = true from ho)]
                        exact QMw.row (k := 5) hK (by decide) (wfc_set (w := 4) hwf hr (by decide) (by decide) hx1 hx2 ho)
                      · have h194 : aks (ci (setr c 5 r x)) n = false := by have := bIn h194; simpa using this
                        have ho : ¬ oks (ci (setr c 5 r x)) r n = true := fun q => by rw [aks_setr hwf.2 q] at h194; cases h194
                        refine xv_aload_n (q := 198) rfl dX7_set_197 rfl rfl ?_
                        refine xv_iload_n (q := 199) rfl dX7_set_198 rfl rfl ?_
                        refine xv_iload_n (q := 200) rfl dX7_set_199 rfl rfl ?_
                        refine xv_iload (q := 202) rfl dX7_set_200 rfl ?_
                        refine xv_cV3 (z := mX7_puts) (q := 205) rfl dX7_set_202 l_X7_118 gX7_puts (hg.1 _ _ rfl) rfl rfl rfl (m_puts4 (d := d + 2) hg (show r < 5 by omega) (nI (c (rwo 4) r))) (by omega) ?_
                        refine xv_bipush (v := (-3)) (q := 207) rfl dX7_set_205 rfl ?_
                        refine xv_iret dX7_set_207 rfl ?_
                        rw [hq2, if_neg (show ¬ oks (ci (setr c (rwo 4) r x)) r n = true from ho)]
                        have hm2 : XCm (xi (xi I 70 r (nI x)) 70 r (nI (c (rwo 4) r))) 64 (ci c) n := by
                          have := MXset (k := 5) (r := r) (v := c 5 r) (MXset (k := 5) (r := r) (v := x) hm)
                          rw [setr_setr, setr_self] at this
                          exact this
                        refine ⟨rfl, rfl, rfl, rfl, ⟨hm2, ?_, hn5, ?_, hd2, ?_, hwf⟩, fun a ha ha2 => (xi_off _ _ _ _ (by omega)).trans (xi_off _ _ _ _ (by omega)), fun j _ => by rw [xi_off _ _ _ _ (by decide), xi_off _ _ _ _ (by decide)]⟩
                        · rw [xi_off _ _ _ _ (by decide), xi_off _ _ _ _ (by decide)]; exact hn
                        · rw [xi_off _ _ _ _ (by decide), xi_off _ _ _ _ (by decide)]; exact hdd
                        · rw [xi_off _ _ _ _ (by decide), xi_off _ _ _ _ (by decide)]; exact hu
                    · exact absurd h166 (by decide)
                  · exact absurd h151 (by decide)
                · exact absurd h136 (by decide)
              · exact absurd h123 (by decide)
            · exact absurd h104 (by decide)
          · have h97 : v < nI (lst c 4 r) ∨ ¬ v ≤ nI (mst 4) := by
              have := bIz h97
              rw [Bool.not_eq_false'] at this
              exact of_decide_eq_true this
            refine xv_bipush (v := (-2)) (q := 102) rfl dX7_set_100 rfl ?_
            refine xv_iret dX7_set_102 rfl ?_
            rw [zhq, if_pos h97]
            exact QMw.same hK
      · exact absurd h60 (by decide)
    · exact absurd h37 (by decide)
  · exact absurd h28 (by decide)
theorem m_set5 (hg : XG sh R) (hK : MKc I n c dd u) {r : Nat} (hr : r < n) (v : Int32) : XV E mX7_set (d + 3) 0 0 (QMw (sp_set n c dd (nI 5) (nI r) v) n u sh I R L) 0 0 27 [some (.ref 61), some (.int (nI 5)), some (.int (nI r)), some (.int v), none, none] [] sh I R L := by
  obtain ⟨hm, hn, hn5, hdd, hd2, hu, hwf⟩ := id hK
  have zhq := sp_set_w (n := n) (dd := dd) (w := 5) (c := c) (v := v) (by decide) (by decide) hr hn5
  have hc3 := (hwf.1 r hr).2.2.2.1
  refine xv_iload_n (q := 28) rfl dX7_set_27 rfl rfl ?_
  refine xv_if_ne (q := 31) (t := 35) rfl rfl dX7_set_28 (fun h28 => ?_) (fun h28 => ?_)
  · refine xv_iload_n (q := 36) rfl dX7_set_35 rfl rfl ?_
    refine xv_iconst (v := nI 3) (q := 37) rfl dX7_set_36 rfl ?_
    refine xv_icmp_ne (q := 40) (t := 51) rfl rfl dX7_set_37 (fun h37 => ?_) (fun h37 => ?_)
    · refine xv_iconst (v := nI 0) (q := 52) rfl dX7_set_51 rfl ?_
      refine xv_istore (q := 54) rfl dX7_set_52 rfl ?_
      refine xv_iload_n (q := 55) rfl dX7_set_54 rfl rfl ?_
      refine xv_i2l (q := 56) rfl dX7_set_55 ?_
      refine xv_iload (q := 58) rfl dX7_set_56 rfl ?_
      refine xv_i2l (q := 59) rfl dX7_set_58 ?_
      refine xv_iload_n (q := 60) rfl dX7_set_59 rfl rfl ?_
      refine xv_if_ne (q := 63) (t := 69) rfl rfl dX7_set_60 (fun h60 => ?_) (fun h60 => ?_)
      · refine xv_iload_n (q := 70) rfl dX7_set_69 rfl rfl ?_
        refine xv_iconst (v := nI 4) (q := 71) rfl dX7_set_70 rfl ?_
        refine xv_icmp_ne (q := 74) (t := 80) rfl rfl dX7_set_71 (fun h71 => ?_) (fun h71 => ?_)
        · refine xv_iload_n (q := 81) rfl dX7_set_80 rfl rfl ?_
          refine xv_iconst (v := nI 5) (q := 82) rfl dX7_set_81 rfl ?_
          refine xv_icmp_ne (q := 85) (t := 91) rfl rfl dX7_set_82 (fun h82 => ?_) (fun h82 => ?_)
          · exact absurd h82 (by decide)
          · refine xv_ldc2 (q := 88) rfl dX7_set_85 k_X7_110 ?_
            refine xv_goto (t := 94) rfl dX7_set_88 ?_
            refine xv_cS3 (z := mX7_in) (q := 97) rfl dX7_set_94 l_X7_91 gX7_in rfl (m_in (d := d + 2) _ _ _) (by omega) ?_
            rw [lin_m (a := 0) (b := 100) rfl (by decide) (by decide)]
            refine xv_if_ne (q := 100) (t := 103) rfl rfl dX7_set_97 (fun h97 => ?_) (fun h97 => ?_)
            · have h97 : ¬ (v < nI (lst c 5 r) ∨ ¬ v ≤ nI (mst 5)) := by
                have := bIn h97
                rw [Bool.not_eq_true'] at this
                exact of_decide_eq_false this
              obtain ⟨x, rfl, hx1, hx2⟩ := v_of h97 (show mst 5 < 1000 by decide) (show lst c 5 r < 1000 by exact (by decide : 0 < 1000))
              have hx100 : x ≤ 100 := Nat.le_trans hx2 (by decide)
              have hq2 := zhq.trans (if_neg h97)
              rw [nI_clamp (n := x) (by omega)] at hq2
              refine xv_iload_n (q := 104) rfl dX7_set_103 rfl rfl ?_
              refine xv_if_ne (q := 107) (t := 114) rfl rfl dX7_set_104 (fun h104 => ?_) (fun h104 => ?_)
              · refine xv_aload_n (q := 115) rfl dX7_set_114 rfl rfl ?_
                refine xv_iload_n (q := 116) rfl dX7_set_115 rfl rfl ?_
                refine xv_iload_n (q := 117) rfl dX7_set_116 rfl rfl ?_
                refine xv_cV2 (z := mX7_told) (q := 120) rfl dX7_set_117 l_X7_114 gX7_told (hg.1 _ _ rfl) rfl rfl rfl (y_told (d := d) hg hK (nI r) (nI 5)) (by omega) ?_
                rw [told_nI hr hn5 (show 5 ≤ 6 by decide)]
                refine xv_istore (q := 122) rfl dX7_set_120 rfl ?_
                refine xv_iload_n (q := 123) rfl dX7_set_122 rfl rfl ?_
                refine xv_if_ne (q := 126) (t := 134) rfl rfl dX7_set_123 (fun h123 => ?_) (fun h123 => ?_)
                · refine xv_iload_n (q := 135) rfl dX7_set_134 rfl rfl ?_
                  refine xv_iconst (v := nI 1) (q := 136) rfl dX7_set_135 rfl ?_
                  refine xv_icmp_ne (q := 139) (t := 149) rfl rfl dX7_set_136 (fun h136 => ?_) (fun h136 => ?_)
                  · refine xv_iload_n (q := 150) rfl dX7_set_149 rfl rfl ?_
                    refine xv_iconst (v := nI 2) (q := 151) rfl dX7_set_150 rfl ?_
                    refine xv_icmp_ne (q := 154) (t := 164) rfl rfl dX7_set_151 (fun h151 => ?_) (fun h151 => ?_)
                    · refine xv_iload_n (q := 165) rfl dX7_set_164 rfl rfl ?_
                      refine xv_iconst (v := nI 5) (q := 166) rfl dX7_set_165 rfl ?_
                      refine xv_icmp_ne (q := 169) (t := 179) rfl rfl dX7_set_166 (fun h166 => ?_) (fun h166 => ?_)
                      · exact absurd h166 (by decide)
                      · refine xv_aload_n (q := 170) rfl dX7_set_169 rfl rfl ?_
                        refine xv_geta (q := 173) rfl dX7_set_170 f_X7_44 (hg.1 _ _ rfl) (hg.2 _ _ _ rfl) ?_
                        refine xv_iload_n (q := 174) rfl dX7_set_173 rfl rfl ?_
                        refine xv_iload_n (q := 175) rfl dX7_set_174 rfl rfl ?_
                        refine xv_iast (q := 176) rfl dX7_set_175 (hg.1 _ _ rfl) rfl (by omega) (by decide) ?_
                        refine xv_goto (t := 208) rfl dX7_set_176 ?_
                        refine xv_iload (q := 210) rfl dX7_set_208 rfl ?_
                        refine xv_iret dX7_set_210 rfl ?_
                        have ho : oks (ci (setr c (rwo 5) r x)) r n = true := (oks_345 (funext fun a => congrArg nI (setr_ne (show ¬ (3 = rwo 5 ∧ a = r) from fun z => absurd z.1 (by decide)))) (funext fun a => congrArg nI (setr_ne (show ¬ (4 = rwo 5 ∧ a = r) from fun z => absurd z.1 (by decide)))) (funext fun a => congrArg nI (setr_ne (show ¬ (5 = rwo 5 ∧ a = r) from fun z => absurd z.1 (by decide)))) n).trans (aks_o hwf.2 hr)
                        rw [hq2, if_pos ho]
                        exact QMw.row (k := 6) hK (by decide) (wfc_set (w := 5) hwf hr (by decide) (by decide) hx1 hx2 ho)
                    · exact absurd h151 (by decide)
                  · exact absurd h136 (by decide)
                · exact absurd h123 (by decide)
              · exact absurd h104 (by decide)
            · have h97 : v < nI (lst c 5 r) ∨ ¬ v ≤ nI (mst 5) := by
                have := bIz h97
                rw [Bool.not_eq_false'] at this
                exact of_decide_eq_true this
              refine xv_bipush (v := (-2)) (q := 102) rfl dX7_set_100 rfl ?_
              refine xv_iret dX7_set_102 rfl ?_
              rw [zhq, if_pos h97]
              exact QMw.same hK
        · exact absurd h71 (by decide)
      · exact absurd h60 (by decide)
    · exact absurd h37 (by decide)
  · exact absurd h28 (by decide)
theorem m_set0 (hg : XG sh R) (hK : MKc I n c dd u) (of_ v : Int32) : XV E mX7_set (d + 3) 0 0 (QMw (sp_set n c dd (nI 0) of_ v) n u sh I R L) 0 0 27 [some (.ref 61), some (.int (nI 0)), some (.int of_), some (.int v), none, none] [] sh I R L := by
  obtain ⟨hm, hn, hn5, hdd, hd2, hu, hwf⟩ := id hK
  have zhq : sp_set n c dd (nI 0) of_ v = sp_doors c dd v := if_pos rfl
  rw [zhq]
  refine xv_iload_n (q := 28) rfl dX7_set_27 rfl rfl ?_
  refine xv_if_ne (q := 31) (t := 35) rfl rfl dX7_set_28 (fun h28 => ?_) (fun h28 => ?_)
  · exact absurd h28 (by decide)
  · refine xv_iconst (v := nI 1) (q := 32) rfl dX7_set_31 rfl ?_
    refine xv_goto (t := 52) rfl dX7_set_32 ?_
    refine xv_istore (q := 54) rfl dX7_set_52 rfl ?_
    refine xv_iload_n (q := 55) rfl dX7_set_54 rfl rfl ?_
    refine xv_i2l (q := 56) rfl dX7_set_55 ?_
    refine xv_iload (q := 58) rfl dX7_set_56 rfl ?_
    refine xv_i2l (q := 59) rfl dX7_set_58 ?_
    refine xv_iload_n (q := 60) rfl dX7_set_59 rfl rfl ?_
    refine xv_if_ne (q := 63) (t := 69) rfl rfl dX7_set_60 (fun h60 => ?_) (fun h60 => ?_)
    · exact absurd h60 (by decide)
    · refine xv_ldc2 (q := 66) rfl dX7_set_63 k_X7_108 ?_
      refine xv_goto (t := 94) rfl dX7_set_66 ?_
      refine xv_cS3 (z := mX7_in) (q := 97) rfl dX7_set_94 l_X7_91 gX7_in rfl (m_in (d := d + 2) _ _ _) (by omega) ?_
      rw [lin_m (a := 1) (b := 2) rfl (by decide) (by decide)]
      refine xv_if_ne (q := 100) (t := 103) rfl rfl dX7_set_97 (fun h97 => ?_) (fun h97 => ?_)
      · have h97 : ¬ (v < nI 1 ∨ ¬ v ≤ nI 2) := by
          have := bIn h97
          rw [Bool.not_eq_true'] at this
          exact of_decide_eq_false this
        obtain ⟨x, rfl, hx1, hx2⟩ := v_of h97 (by decide) (by decide)
        refine xv_iload_n (q := 104) rfl dX7_set_103 rfl rfl ?_
        refine xv_if_ne (q := 107) (t := 114) rfl rfl dX7_set_104 (fun h104 => ?_) (fun h104 => ?_)
        · exact absurd h104 (by decide)
        · refine xv_aload_n (q := 108) rfl dX7_set_107 rfl rfl ?_
          refine xv_geti (q := 111) rfl dX7_set_108 f_X7_23 (hg.1 _ _ rfl) ?_
          rw [hdd]
          refine xv_goto (t := 120) rfl dX7_set_111 ?_
          refine xv_istore (q := 122) rfl dX7_set_120 rfl ?_
          refine xv_iload_n (q := 123) rfl dX7_set_122 rfl rfl ?_
          refine xv_if_ne (q := 126) (t := 134) rfl rfl dX7_set_123 (fun h123 => ?_) (fun h123 => ?_)
          · exact absurd h123 (by decide)
          · refine xv_aload_n (q := 127) rfl dX7_set_126 rfl rfl ?_
            refine xv_iload_n (q := 128) rfl dX7_set_127 rfl rfl ?_
            refine xv_puti (q := 131) rfl dX7_set_128 f_X7_23 (fun h => by cases h) (hg.1 _ _ rfl) ?_
            refine xv_goto (t := 208) rfl dX7_set_131 ?_
            refine xv_iload (q := 210) rfl dX7_set_208 rfl ?_
            refine xv_iret dX7_set_210 rfl ?_
            rw [show sp_doors c dd (nI x) = (nI dd, c, x) from (if_neg h97).trans (by rw [nI_clamp (n := x) (by omega)])]
            refine ⟨rfl, rfl, rfl, rfl, ⟨fun w r hw hr => ?_, ?_, hn5, xi_eq _ _ _ _, by show x = 1 ∨ x = 2; omega, ?_, hwf⟩, fun k hk _ => xi_off _ _ _ _ hk, fun j zhj => xi_ne _ _ _ _ (by omega)⟩
            · rw [xi_off _ _ _ _ (by omega)]; exact hm w r hw hr
            · rw [xi_ne _ _ _ _ (by omega)]; exact hn
            · rw [xi_ne _ _ _ _ (by omega)]; exact hu
      · have h97 : v < nI 1 ∨ ¬ v ≤ nI 2 := by
          have := bIz h97
          rw [Bool.not_eq_false'] at this
          exact of_decide_eq_true this
        refine xv_bipush (v := (-2)) (q := 102) rfl dX7_set_100 rfl ?_
        refine xv_iret dX7_set_102 rfl ?_
        rw [show sp_doors c dd v = (-2, c, dd) from if_pos h97]
        exact QMw.same hK
theorem y_set (hg : XG sh R) (hK : MKc I n c dd u) (what of_ v : Int32) : XC E mX7_set (d + 3) 0 0 [.ref 61, .int what, .int of_, .int v] sh I R L (QMw (sp_set n c dd what of_ v) n u sh I R L) := by
  obtain ⟨hm, hn, hn5, hdd, hd2, hu, hwf⟩ := id hK
  refine XC.of (by decide) rfl rfl ?_
  refine xv_iload_n (q := 1) rfl dX7_set_0 rfl rfl ?_
  refine xv_i2l (q := 2) rfl dX7_set_1 ?_
  refine xv_lconst (v := lN 0) (q := 3) rfl dX7_set_2 rfl ?_
  refine xv_ldc2 (q := 6) rfl dX7_set_3 k_X7_95 ?_
  refine xv_cS3 (z := mX7_in) (q := 9) rfl dX7_set_6 l_X7_91 gX7_in rfl (m_in (d := d + 2) _ _ _) (by omega) ?_
  rw [lin_0 (b := 5) rfl (by decide)]
  refine xv_if_eq (q := 12) (t := 24) rfl rfl dX7_set_9 (fun zh9 => ?_) (fun zh9 => ?_)
  · have zh9 := bIz zh9
    refine xv_bipush (v := (-2)) (q := 26) rfl dX7_set_24 rfl ?_
    refine xv_iret dX7_set_26 rfl ?_
    rw [show sp_set n c dd what of_ v = (-2, c, dd) from (if_neg (show ¬ what = 0 from fun q => by rw [q] at zh9; exact absurd zh9 (by decide))).trans (if_pos (by
      by_cases zh1 : what < nI 1
      · exact Or.inl zh1
      · refine Or.inr (Or.inl (Int32.not_le.mp (fun zh2 => isR_f zh9 ⟨fun zh3 => zh1 (Int32.lt_trans zh3 (by decide)), fun zh3 => absurd (Int32.le_trans zh3 zh2) (by decide)⟩)))))]
    exact QMw.same hK
  · have zh9 := bIn zh9
    obtain ⟨w, hw, rfl⟩ := isR_nI (by decide) zh9
    refine xv_iload_n (q := 13) rfl dX7_set_12 rfl rfl ?_
    refine xv_if_le (q := 16) (t := 27) rfl rfl dX7_set_13 (fun h13 => ?_) (fun h13 => ?_)
    · have hw0 : w = 0 := Nat.le_zero.mp (nIle (b := 0) h13 (by omega) (by decide))
      subst hw0
      exact m_set0 hg hK of_ v
    · have hw0 : 0 < w := Nat.pos_of_ne_zero (fun q => h13 (by rw [q]; decide))
      refine xv_aload_n (q := 17) rfl dX7_set_16 rfl rfl ?_
      refine xv_iload_n (q := 18) rfl dX7_set_17 rfl rfl ?_
      refine xv_cV1 (z := mX7_isRider) (q := 21) rfl dX7_set_18 l_X7_105 gX7_isRider (hg.1 _ _ rfl) rfl rfl rfl (m_isR (d := d + 1) hg hn hn5 of_) (by omega) ?_
      refine xv_if_ne (q := 24) (t := 27) rfl rfl dX7_set_21 (fun h21 => ?_) (fun h21 => ?_)
      · have h21 := bIn h21
        obtain ⟨r, hr, rfl⟩ := isR_of hn5 h21
        rcases (show w = 1 ∨ w = 2 ∨ w = 3 ∨ w = 4 ∨ w = 5 by omega) with rfl | rfl | rfl | rfl | rfl
        · exact m_set1 hg hK hr v
        · exact m_set2 hg hK hr v
        · exact m_set3 hg hK hr v
        · exact m_set4 hg hK hr v
        · exact m_set5 hg hK hr v
      · have h21 := bIz h21
        refine xv_bipush (v := (-2)) (q := 26) rfl dX7_set_24 rfl ?_
        refine xv_iret dX7_set_26 rfl ?_
        rw [show sp_set n c dd (nI w) of_ v = (-2, c, dd) from (if_neg (show ¬ nI w = 0 from fun q => by have := nIe (b := 0) q (by omega) (by decide); omega)).trans (if_pos (Or.inr (Or.inr h21)))]
        exact QMw.same hK
end MSET

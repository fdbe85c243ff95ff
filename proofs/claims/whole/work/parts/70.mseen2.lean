/-! the model: lays, seen -/
/-- the row asked -/
def rw3 (w : Nat) : Nat := if w = 0 then 4 else if w = 1 then 5 else 0
theorem rw3_7 (w : Nat) : rw3 w < 7 := by unfold rw3; split; · omega
                                          split <;> omega
/-- but for one row, at one rider -/
def FSe (ρ r : Nat) (I J : XI) : Prop := (∀ k, k ≠ 61 → k ≠ 65 + ρ → J k = I k) ∧ (∀ j, j ≠ 34 → J 61 j = I 61 j) ∧ ∀ o, o ≠ r → J (65 + ρ) o = I (65 + ρ) o
theorem FSe.rf {ρ r : Nat} {I : XI} : FSe ρ r I I := ⟨fun _ _ _ => rfl, fun _ _ => rfl, fun _ _ => rfl⟩
theorem FSe.row {ρ r : Nat} {I J : XI} {x : Int32} (h : FSe ρ r I J) (hρ : ρ < 7) : FSe ρ r I (xi J (65 + ρ) r x) := ⟨fun k zh1 zh2 => (xi_off _ _ _ _ zh2).trans (h.1 k zh1 zh2), fun j zhj => by rw [xi_off _ _ _ _ (by omega)]; exact h.2.1 j zhj, fun o ho => (xi_ne _ _ _ _ (fun z => ho z.2)).trans (h.2.2 o ho)⟩
theorem FSe.p34 {ρ r : Nat} {I J : XI} {x : Int32} (h : FSe ρ r I J) (hρ : ρ < 7) : FSe ρ r I (xi J 61 34 x) := ⟨fun k zh1 zh2 => (xi_off _ _ _ _ zh1).trans (h.1 k zh1 zh2), fun j zhj => (xi_ne _ _ _ _ (fun z => zhj z.2)).trans (h.2.1 j zhj), fun o ho => by rw [xi_off _ _ _ _ (by omega)]; exact h.2.2 o ho⟩
section MSEEN2
variable {E : XE} {d : Nat} {sh : XSh} {I : XI} {R : XRf} {L : XL} {n dd : Nat} {c : CR} {u : Nat} {sg : SG}
theorem FSe.mcw {ρ r v : Nat} {J : XI} (h : FSe ρ r I J) (hρ : ρ < 7) (hr : r < n) (hC : MCw I n c dd) (hv : J (65 + ρ) r = nI v) (hw : wfn (setr c ρ r v) n) : MCw J n (setr c ρ r v) dd := by
  refine ⟨fun w a hw7 ha => ?_, (h.2.1 15 (by decide)).trans hC.2.1, hC.2.2.1, (h.2.1 7 (by decide)).trans hC.2.2.2.1, hC.2.2.2.2.1, hw⟩
  unfold ci
  by_cases e : w = ρ
  · subst e
    by_cases ze2 : a = r
    · subst ze2
      rw [setr_at]
      exact hv
    · rw [setr_ne (fun z => ze2 z.2)]
      exact (h.2.2 a ze2).trans (hC.1 w a hw7 ha)
  · rw [setr_ne (fun z => e z.1), show J (64 + 1 + w) a = I (64 + 1 + w) a from congrFun (h.1 _ (by omega) (by omega)) a]
    exact hC.1 w a hw7 ha
theorem wfn_row {w r v : Nat} (h : wfn c n) (hr : r < n) (hv : (w = 0 → c 3 r < v ∧ v < 10) ∧ (¬ w = 0 → v < 6)) : wfn (setr c (rw3 w) r v) n := fun a ha => by
  have zhx := h a ha
  by_cases e : a = r
  · subst e
    unfold wfr at zhx ⊢
    unfold rw3
    by_cases zw0 : w = 0
    · rw [if_pos zw0]
      have := hv.1 zw0
      rw [setr_at, setr_ne (by omega), setr_ne (by omega), setr_ne (by omega), setr_ne (by omega), setr_ne (by omega), setr_ne (by omega)]
      omega
    · have := hv.2 zw0
      rw [if_neg zw0]
      by_cases zw1 : w = 1
      · rw [if_pos zw1, setr_at, setr_ne (by omega), setr_ne (by omega), setr_ne (by omega), setr_ne (by omega), setr_ne (by omega), setr_ne (by omega)]
        omega
      · rw [if_neg zw1, setr_at, setr_ne (by omega), setr_ne (by omega), setr_ne (by omega), setr_ne (by omega), setr_ne (by omega), setr_ne (by omega)]
        omega
  · unfold wfr at zhx ⊢
    have ze0 : ∀ b, setr c (rw3 w) r v b a = c b a := fun b => setr_ne (fun z => e z.2)
    rw [ze0, ze0, ze0, ze0, ze0, ze0, ze0]
    exact zhx
theorem m_lays (hg : XG sh R) {r w : Nat} (hr : r < 5) (hw : w < 3) {v : Int32} : XC E mX7_lays d 0 0 [.ref 61, .int (nI r), .int (nI w), .int v] sh I R L (xq none sh (xi I (65 + rw3 w) r v) R L) := by
  refine XC.of (by decide) rfl rfl ?_
  refine xv_iload_n (q := 1) rfl dX7_lays_0 rfl rfl ?_
  refine xv_if_ne (q := 4) (t := 14) rfl rfl dX7_lays_1 (fun zh1 => ?_) (fun zh1 => ?_)
  · have zh1 : ¬ w = 0 := fun z => zh1 (by rw [z]; rfl)
    refine xv_iload_n (q := 15) rfl dX7_lays_14 rfl rfl ?_
    refine xv_iconst (v := nI 1) (q := 16) rfl dX7_lays_15 rfl ?_
    refine xv_icmp_ne (q := 19) (t := 29) rfl rfl dX7_lays_16 (fun h16 => ?_) (fun h16 => ?_)
    · have h16 : ¬ w = 1 := fun z => h16 (by rw [z])
      obtain rfl : w = 2 := by omega
      refine xv_aload_n (q := 30) rfl dX7_lays_29 rfl rfl ?_
      refine xv_geta (q := 33) rfl dX7_lays_30 f_X7_26 (hg.1 _ _ rfl) (hg.2 _ _ _ rfl) ?_
      refine xv_iload_n (q := 34) rfl dX7_lays_33 rfl rfl ?_
      refine xv_iload_n (q := 35) rfl dX7_lays_34 rfl rfl ?_
      refine xv_iast (q := 36) rfl dX7_lays_35 (hg.1 _ _ rfl) rfl (by omega) (by decide) ?_
      refine xv_vret dX7_lays_36 rfl ?_
      exact xq_rfl
    · have h16 : w = 1 := (nI_eq (b := 1) (by omega) (by decide)).mp h16
      subst h16
      refine xv_aload_n (q := 20) rfl dX7_lays_19 rfl rfl ?_
      refine xv_geta (q := 23) rfl dX7_lays_20 f_X7_41 (hg.1 _ _ rfl) (hg.2 _ _ _ rfl) ?_
      refine xv_iload_n (q := 24) rfl dX7_lays_23 rfl rfl ?_
      refine xv_iload_n (q := 25) rfl dX7_lays_24 rfl rfl ?_
      refine xv_iast (q := 26) rfl dX7_lays_25 (hg.1 _ _ rfl) rfl (by omega) (by decide) ?_
      refine xv_goto (t := 36) rfl dX7_lays_26 ?_
      refine xv_vret dX7_lays_36 rfl ?_
      exact xq_rfl
  · have zh1 : w = 0 := (nI_eq (b := 0) (by omega) (by decide)).mp zh1
    subst zh1
    refine xv_aload_n (q := 5) rfl dX7_lays_4 rfl rfl ?_
    refine xv_geta (q := 8) rfl dX7_lays_5 f_X7_38 (hg.1 _ _ rfl) (hg.2 _ _ _ rfl) ?_
    refine xv_iload_n (q := 9) rfl dX7_lays_8 rfl rfl ?_
    refine xv_iload_n (q := 10) rfl dX7_lays_9 rfl rfl ?_
    refine xv_iast (q := 11) rfl dX7_lays_10 (hg.1 _ _ rfl) rfl (by omega) (by decide) ?_
    refine xv_goto (t := 36) rfl dX7_lays_11 ?_
    refine xv_vret dX7_lays_36 rfl ?_
    exact xq_rfl
theorem aks_row {ρ r v : Nat} (ha : aks (ci c) n = true) (hr : r < n) : aks (ci (setr c ρ r v)) n = oks (ci (setr c ρ r v)) r n := by
  rw [Bool.eq_iff_iff]
  refine ⟨fun h => ?_, fun h => aks_setr ha h⟩
  rw [oks_iff]
  rw [aks_iff] at h
  exact fun o zh1 zh2 => h o r zh1 hr zh2
theorem m_seen_loop (hg : XG sh R) (hK : MKc I n c dd u) {s ln : Nat} {it : Nat → Int32} (zhs : s < 4) (hln : ln ≤ 10) (h72 : I 80 s = nI ln) (h73 : ∀ i, i < ln → I 81 (40 * s + i) = it i) {r w : Nat} (hr : r < n) (hw : w < 3) {l4 old : Int32} {Q : XQ} (KK : ∀ (J : XI), FSe (rw3 w) r I J → XV E mX7_seen (d + 5) 0 0 Q 0 0 160 [some (.ref 61), some (.int (nI s)), some (.int (nI r)), some (.int (nI w)), some (.int l4), some (.int old), some (.int (nI (wfb c n dd ln it (rw3 w) r (if w = 0 then c 3 r + 1 else 0) ((if w = 0 then 10 else 6) - (if w = 0 then c 3 r + 1 else 0))))), some (.int (nI (if w = 0 then 10 else 6)))] [] sh J R L) : ∀ (k j : Nat) (J : XI), (if w = 0 then c 3 r + 1 else 0) + j ≤ (if w = 0 then 10 else 6) → (if w = 0 then 10 else 6) < (if w = 0 then c 3 r + 1 else 0) + j + k → FSe (rw3 w) r I J → XV E mX7_seen (d + 5) 0 0 Q 0 0 101 [some (.ref 61), some (.int (nI s)), some (.int (nI r)), some (.int (nI w)), some (.int l4), some (.int old), some (.int (nI (wfb c n dd ln it (rw3 w) r (if w = 0 then c 3 r + 1 else 0) j))), some (.int (nI ((if w = 0 then c 3 r + 1 else 0) + j)))] [] sh J R L := by
  have hr7 := rw3_7 w
  have hn5 := hK.2.2.1
  have zh3 := (hK.cw.2.2.2.2.2 r hr).2.2.2.1
  have hB10 : (if w = 0 then 10 else 6) ≤ 10 := by split <;> omega
  generalize hA : (if w = 0 then c 3 r + 1 else 0) = za0 at KK ⊢
  intro k
  induction k with
  | zero => intro j J zh1 zh2; exact absurd zh2 (by omega)
  | succ k ih =>
    intro j J zh1 zh2 hF
    refine xv_iload (q := 103) rfl dX7_seen_101 rfl ?_
    have hcmp : ∀ (b : Nat), (if w = 0 then 10 else 6) = b → b ≤ 10 → XV E mX7_seen (d + 5) 0 0 Q 0 0 114 [some (.ref 61), some (.int (nI s)), some (.int (nI r)), some (.int (nI w)), some (.int l4), some (.int old), some (.int (nI (wfb c n dd ln it (rw3 w) r za0 j))), some (.int (nI (za0 + j)))] [.int (nI b), .int (nI (za0 + j))] sh J R L := by
      intro b zhb hb10
      refine xv_icmp_ge (q := 117) (t := 160) rfl rfl dX7_seen_114 (fun h114 => ?_) (fun h114 => ?_)
      · have h114 := nIle h114 (by omega) (by omega)
        have e : za0 + j = (if w = 0 then 10 else 6) := by omega
        have zhz := KK J hF
        rw [show (if w = 0 then 10 else 6) - za0 = j by omega, ← e] at zhz
        exact zhz
      · have h114 := nInle h114 (by omega) (by omega)
        have hjb : za0 + j < (if w = 0 then 10 else 6) := by omega
        refine xv_aload_n (q := 118) rfl dX7_seen_117 rfl rfl ?_
        refine xv_iload_n (q := 119) rfl dX7_seen_118 rfl rfl ?_
        refine xv_iload_n (q := 120) rfl dX7_seen_119 rfl rfl ?_
        refine xv_iload (q := 122) rfl dX7_seen_120 rfl ?_
        refine xv_cV3 (z := mX7_lays) (q := 125) rfl dX7_seen_122 l_X7_338 gX7_lays (hg.1 _ _ rfl) rfl rfl rfl (m_lays (d := d) (r := r) (w := w) hg (by omega) hw) (by omega) ?_
        have hF1 : FSe (rw3 w) r I (xi J (65 + rw3 w) r (nI (za0 + j))) := hF.row hr7
        have hC1 := hF1.mcw hr7 hr hK.cw (v := za0 + j) (xi_eq _ _ _ _) (wfn_row hK.cw.2.2.2.2.2 hr ⟨fun z => by rw [if_pos z] at hjb hA; omega, fun z => by rw [if_neg z] at hjb; omega⟩)
        have hakn := aks_row (ρ := rw3 w) (v := za0 + j) hK.2.2.2.2.2.2.2 hr
        refine xv_aload_n (q := 126) rfl dX7_seen_125 rfl rfl ?_
        refine xv_aload_n (q := 127) rfl dX7_seen_126 rfl rfl ?_
        refine xv_geti (q := 130) rfl dX7_seen_127 f_X7_88 (hg.1 _ _ rfl) ?_
        rw [hC1.2.1]
        refine xv_cV1 (z := mX7_areTwo) (q := 133) rfl dX7_seen_130 l_X7_101 gX7_areTwo (hg.1 _ _ rfl) rfl rfl rfl (m_two (d := d) hg hC1.1 hn5) (by omega) ?_
        rw [hakn]
        refine xv_if_ne (q := 136) (t := 154) rfl rfl dX7_seen_133 (fun h133 => ?_) (fun h133 => ?_)
        · have h133 : ¬ oks (ci (setr c (rw3 w) r (za0 + j))) r n = true := by have := bIn h133; rw [Bool.not_eq_true'] at this; rw [this]; decide
          refine xv_iinc (q := 157) (v := nI 1) rfl dX7_seen_154 rfl rfl ?_
          refine xv_goto (t := 101) rfl dX7_seen_157 ?_
          rw [nI_add]
          have zhz := ih (j + 1) _ (by omega) (by omega) hF1
          rw [show wfb c n dd ln it (rw3 w) r za0 (j + 1) = wfb c n dd ln it (rw3 w) r za0 j ||| (if oks (ci (setr c (rw3 w) r (za0 + j))) r n = true ∧ uln (setr c (rw3 w) r (za0 + j)) n dd (aln n) ln it = -1 then 2 ^ (za0 + j) else 0) from rfl, if_neg (fun z => h133 z.1), Nat.or_zero] at zhz
          exact zhz
        · have h133 : oks (ci (setr c (rw3 w) r (za0 + j))) r n = true := by have := bIz h133; rw [Bool.not_eq_false'] at this; exact this
          refine xv_aload_n (q := 137) rfl dX7_seen_136 rfl rfl ?_
          refine xv_iload_n (q := 138) rfl dX7_seen_137 rfl rfl ?_
          refine xv_cV1 (z := mX7_unlikeAt) (q := 141) rfl dX7_seen_138 l_X7_335 gX7_unlikeAt (hg.1 _ _ rfl) rfl rfl rfl (m_unl (d := d) (ln := ln) (it := it) hg hC1 zhs hln (by rw [hF1.1 80 (by decide) (by omega)]; exact h72) (fun i hi => by rw [hF1.1 81 (by decide) (by omega)]; exact h73 i hi)) (by omega) ?_
          refine xv_iconst (v := (-1)) (q := 142) rfl dX7_seen_141 rfl ?_
          refine xv_icmp_ne (q := 145) (t := 154) rfl rfl dX7_seen_142 (fun h142 => ?_) (fun h142 => ?_)
          · refine xv_iinc (q := 157) (v := nI 1) rfl dX7_seen_154 rfl rfl ?_
            refine xv_goto (t := 101) rfl dX7_seen_157 ?_
            rw [nI_add]
            have zhz := ih (j + 1) _ (by omega) (by omega) (hF1.p34 (x := nI (aln n)) hr7)
            rw [show wfb c n dd ln it (rw3 w) r za0 (j + 1) = wfb c n dd ln it (rw3 w) r za0 j ||| (if oks (ci (setr c (rw3 w) r (za0 + j))) r n = true ∧ uln (setr c (rw3 w) r (za0 + j)) n dd (aln n) ln it = -1 then 2 ^ (za0 + j) else 0) from rfl, if_neg (fun z => h142 z.2), Nat.or_zero] at zhz
            exact zhz
          · refine xv_iload (q := 147) rfl dX7_seen_145 rfl ?_
            refine xv_iconst (v := nI 1) (q := 148) rfl dX7_seen_147 rfl ?_
            refine xv_iload (q := 150) rfl dX7_seen_148 rfl ?_
            refine xv_ishl (q := 151) rfl dX7_seen_150 ?_
            refine xv_as (w := nI (2 ^ (za0 + j))) (sh1 _ (by omega)) ?_
            refine xv_ior (q := 152) rfl dX7_seen_151 ?_
            refine xv_as (w := nI (wfb c n dd ln it (rw3 w) r za0 j ||| 2 ^ (za0 + j))) (nI_or _ _) ?_
            refine xv_istore (q := 154) rfl dX7_seen_152 rfl ?_
            refine xv_iinc (q := 157) (v := nI 1) rfl dX7_seen_154 rfl rfl ?_
            refine xv_goto (t := 101) rfl dX7_seen_157 ?_
            rw [nI_add]
            have zhz := ih (j + 1) _ (by omega) (by omega) (hF1.p34 (x := nI (aln n)) hr7)
            rw [show wfb c n dd ln it (rw3 w) r za0 (j + 1) = wfb c n dd ln it (rw3 w) r za0 j ||| (if oks (ci (setr c (rw3 w) r (za0 + j))) r n = true ∧ uln (setr c (rw3 w) r (za0 + j)) n dd (aln n) ln it = -1 then 2 ^ (za0 + j) else 0) from rfl, if_pos ⟨h133, h142⟩] at zhz
            exact zhz
    refine xv_iload_n (q := 104) rfl dX7_seen_103 rfl rfl ?_
    refine xv_if_ne (q := 107) (t := 112) rfl rfl dX7_seen_104 (fun h104 => ?_) (fun h104 => ?_)
    · have h104 : ¬ w = 0 := fun z => h104 (by rw [z]; rfl)
      refine xv_bipush (v := nI 6) (q := 114) rfl dX7_seen_112 rfl ?_
      exact hcmp 6 (if_neg h104) (by decide)
    · have h104 : w = 0 := (nI_eq (b := 0) (by omega) (by decide)).mp h104
      refine xv_bipush (v := nI 10) (q := 109) rfl dX7_seen_107 rfl ?_
      refine xv_goto (t := 114) rfl dX7_seen_109 ?_
      exact hcmp 10 (if_pos h104) (by decide)
end MSEEN2

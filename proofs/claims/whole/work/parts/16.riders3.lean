section RIDERS3
variable {E : XE} {d : Nat} {sh : XSh} {I : XI} {R : XRf} {L : XL} {n dd u : Nat} {c : CR}
theorem wfr_set {c : CR} {n w r v : Nat} (h : wfr c r) (hw : 1 ≤ w) (hw2 : w ≤ 5) (h1 : lst c w r ≤ v) (h2 : v ≤ mst w) : wfr (setr c (rwo w) r v) r := by
  unfold wfr setr rwo lst mst at *
  rcases (show w = 1 ∨ w = 2 ∨ w = 3 ∨ w = 4 ∨ w = 5 by omega) with rfl | rfl | rfl | rfl | rfl <;> simp at h1 h2 ⊢ <;> omega
theorem x_set (hg : XG sh R) (hK : KXc I n c dd u) (what of_ v : Int32) : XC E mX6_set (d + 2) 0 0 [.ref 0, .int what, .int of_, .int v] sh I R L (QW (sp_set n c dd what of_ v) n c dd u sh I R L) := by
  obtain ⟨hm, hn, hn5, hdd, hd2, hu, hwf⟩ := id hK
  have hcr := xg_crew hg (a := 1) (Or.inl rfl)
  refine XC.of (by decide) rfl rfl ?_
  refine xv_iload_n (q := 1) rfl dX6_set_0 rfl rfl ?_
  refine xv_if_ne (q := 4) (t := 10) rfl rfl dX6_set_1 (fun h1 => ?_) (fun h1 => ?_)
  · refine xv_iload_n (q := 11) rfl dX6_set_10 rfl rfl ?_
    refine xv_iconst (v := nI 1) (q := 12) rfl dX6_set_11 rfl ?_
    refine xv_icmp_lt (q := 15) (t := 31) rfl rfl dX6_set_12 (fun h12 => ?_) (fun h12 => ?_)
    · refine xv_bipush (v := (-2)) (q := 33) rfl dX6_set_31 rfl ?_
      refine xv_iret dX6_set_33 rfl ?_
      rw [show sp_set n c dd what of_ v = (-2, c, dd) from (if_neg h1).trans (if_pos (Or.inl h12))]
      exact QW.same hK
    · refine xv_iload_n (q := 16) rfl dX6_set_15 rfl rfl ?_
      refine xv_iconst (v := nI 5) (q := 17) rfl dX6_set_16 rfl ?_
      refine xv_icmp_gt (q := 20) (t := 31) rfl rfl dX6_set_17 (fun h17 => ?_) (fun h17 => ?_)
      · refine xv_bipush (v := (-2)) (q := 33) rfl dX6_set_31 rfl ?_
        refine xv_iret dX6_set_33 rfl ?_
        rw [show sp_set n c dd what of_ v = (-2, c, dd) from (if_neg h1).trans (if_pos (Or.inr (Or.inl h17)))]
        exact QW.same hK
      · refine xv_aload_n (q := 21) rfl dX6_set_20 rfl rfl ?_
        refine xv_geto (q := 24) rfl dX6_set_21 f_X6_10 (hg.1 _ _ rfl) (hg.2 _ _ _ rfl) ?_
        refine xv_iload_n (q := 25) rfl dX6_set_24 rfl rfl ?_
        refine xv_cV1 (z := mX0_has) (q := 28) rfl dX6_set_25 l_X6_68 gX0_has (hg.1 _ _ rfl) rfl rfl rfl (c_has' (d := d + 1) hcr hn hn5 of_) (by omega) ?_
        refine xv_if_ne (q := 31) (t := 34) rfl rfl dX6_set_28 (fun h28 => ?_) (fun h28 => ?_)
        · have h28 := bIn h28
          have hq : ¬ (what < nI 1 ∨ nI 5 < what ∨ isR n of_ = false) := fun q => q.elim h12 (fun q => q.elim h17 (fun q => by rw [h28] at q; cases q))
          obtain ⟨r, hr, rfl⟩ := isR_of hn5 h28
          obtain ⟨w, hw, rfl⟩ := nI_of2 (n := 5) (M := nI 5) (by decide) (fun q => h12 (lt01 q)) (ilt h17)
          have hw1 := nInlt h12 (by omega) (by omega)
          refine xv_iload_n (q := 35) rfl dX6_set_34 rfl rfl ?_
          refine xv_aload_n (q := 36) rfl dX6_set_35 rfl rfl ?_
          refine xv_iload_n (q := 37) rfl dX6_set_36 rfl rfl ?_
          refine xv_iload_n (q := 38) rfl dX6_set_37 rfl rfl ?_
          refine xv_cV2 (z := mX6_leastOf) (q := 41) rfl dX6_set_38 l_X6_72 gX6_leastOf (hg.1 _ _ rfl) rfl rfl rfl (c_leastOf (d := d + 1) hg hK (by omega) hr) (by omega) ?_
          refine xv_icmp_lt (q := 44) (t := 52) rfl rfl dX6_set_41 (fun h41 => ?_) (fun h41 => ?_)
          · refine xv_bipush (v := (-2)) (q := 54) rfl dX6_set_52 rfl ?_
            refine xv_iret dX6_set_54 rfl ?_
            rw [show sp_set n c dd (nI w) (nI r) v = (-2, c, dd) from (if_neg h1).trans ((if_neg hq).trans (if_pos (Or.inl (by rw [nI_clamp (n := w) (by omega), nI_clamp (n := r) (by omega)]; exact h41))))]
            exact QW.same hK
          · refine xv_iload_n (q := 45) rfl dX6_set_44 rfl rfl ?_
            refine xv_iload_n (q := 46) rfl dX6_set_45 rfl rfl ?_
            refine xv_cS1 (z := mX6_mostOf) (q := 49) rfl dX6_set_46 l_X6_76 gX6_mostOf rfl (c_mostOf (d := d + 1) (w := w) (by omega)) (by omega) ?_
            refine xv_icmp_le (q := 52) (t := 55) rfl rfl dX6_set_49 (fun h49 => ?_) (fun h49 => ?_)
            · have hmst : mst w ≤ 100 := by unfold mst; split <;> (try split) <;> omega
              have hlst : lst c w r ≤ 10 := by have := hwf.1 r hr; unfold wfr at this; unfold lst; split <;> omega
              obtain ⟨v, hv, rfl⟩ := nI_of2 (n := mst w) (M := nI (mst w)) (nI_toInt (by omega)) (fun q => h41 (Int32.lt_of_lt_of_le q (nI_pos' (by omega)))) h49
              have hlv := nInlt h41 (by omega) (by omega)
              refine xv_aload_n (q := 56) rfl dX6_set_55 rfl rfl ?_
              refine xv_aload_n (q := 57) rfl dX6_set_56 rfl rfl ?_
              refine xv_geto (q := 60) rfl dX6_set_57 f_X6_10 (hg.1 _ _ rfl) (hg.2 _ _ _ rfl) ?_
              refine xv_iload_n (q := 61) rfl dX6_set_60 rfl rfl ?_
              refine xv_cV1 (z := mX0_rowOf) (q := 64) rfl dX6_set_61 l_X6_79 gX0_rowOf (hg.1 _ _ rfl) rfl rfl rfl (c_rowOf (d := d + 1) hcr (by omega)) (by omega) ?_
              refine xv_iload_n (q := 65) rfl dX6_set_64 rfl rfl ?_
              refine xv_iload_n (q := 66) rfl dX6_set_65 rfl rfl ?_
              refine xv_rV3 (z := mX6_put) (q := 69) rfl dX6_set_66 l_X6_83 gX6_put (hg.1 _ _ rfl) rfl rfl rfl (c_put (d := d) hg hK (ρ := rwo w) (rwo_lt (by omega)) hr (by omega) (wfr_set (n := n) (hwf.1 r hr) hw1 hw hlv hv)) (by omega) ?_
              rintro _ _ _ _ _ ⟨rfl, rfl, rfl, rfl, q5, q6⟩
              refine xv_iret dX6_set_69 rfl ?_
              rw [show sp_set n c dd (nI w) (nI r) (nI v) = (if oks (ci (setr c (rwo w) r v)) r n = true then (nI (c (rwo w) r), setr c (rwo w) r v, dd) else (-3, c, dd)) from (if_neg h1).trans ((if_neg hq).trans ((if_neg (by rw [nI_clamp (n := w) (by omega), nI_clamp (n := r) (by omega)]; exact fun q => q.elim h41 (fun q => q h49))).trans (by rw [nI_clamp (n := w) (by omega), nI_clamp (n := r) (by omega), nI_clamp (n := v) (by omega)])))]
              exact ⟨rfl, rfl, rfl, rfl, q5, q6⟩
            · refine xv_bipush (v := (-2)) (q := 54) rfl dX6_set_52 rfl ?_
              refine xv_iret dX6_set_54 rfl ?_
              rw [show sp_set n c dd (nI w) (nI r) v = (-2, c, dd) from (if_neg h1).trans ((if_neg hq).trans (if_pos (Or.inr (by rw [nI_clamp (n := w) (by omega)]; exact h49))))]
              exact QW.same hK
        · have h28 := bIz h28
          refine xv_bipush (v := (-2)) (q := 33) rfl dX6_set_31 rfl ?_
          refine xv_iret dX6_set_33 rfl ?_
          rw [show sp_set n c dd what of_ v = (-2, c, dd) from (if_neg h1).trans (if_pos (Or.inr (Or.inr h28)))]
          exact QW.same hK
  · refine xv_aload_n (q := 5) rfl dX6_set_4 rfl rfl ?_
    refine xv_iload_n (q := 6) rfl dX6_set_5 rfl rfl ?_
    refine xv_rV1 (z := mX6_putDoors) (q := 9) rfl dX6_set_6 l_X6_64 gX6_putDoors (hg.1 _ _ rfl) rfl rfl rfl (c_putDoors (d := d + 1) hg hK v) (by omega) ?_
    rintro _ _ _ _ _ ⟨rfl, rfl, rfl, rfl, q5, q6⟩
    refine xv_iret dX6_set_9 rfl ?_
    rw [show sp_set n c dd what of_ v = sp_doors c dd v from if_pos h1]
    exact ⟨rfl, rfl, rfl, rfl, q5, q6⟩
def sp_force (tc u : Nat) (t : Int32) : Int32 × Nat := if t < 0 ∨ ¬ t < nI tc then (-2, u) else (nI u, t.toNatClampNeg)
def QU (q : Int32 × Nat) (n : Nat) (c : CR) (dd u : Nat) (sh : XSh) (I : XI) (R : XRf) (L : XL) : XQ := fun v sh' I' R' L' => v = some (.int q.1) ∧ sh' = sh ∧ R' = R ∧ L' = L ∧ KXc I' n c dd q.2 ∧ FXc I I'
theorem QU.same {ans : Int32} (h : KXc I n c dd u) : QU (ans, u) n c dd u sh I R L (some (.int ans)) sh I R L := ⟨rfl, rfl, rfl, rfl, h, fun _ _ => rfl⟩
theorem x_force (hg : XG sh R) (hK : KXc I n c dd u) {tc : Nat} (htc : I 0 5 = nI tc) (ht6 : tc ≤ 6) (t : Int32) : XC E mX6_force d 0 0 [.ref 0, .int t] sh I R L (QU (sp_force tc u t) n c dd u sh I R L) := by
  obtain ⟨hm, hn, hn5, hdd, hd2, hu, hwf⟩ := id hK
  refine XC.of (by decide) rfl rfl ?_
  refine xv_iload_n (q := 1) rfl dX6_force_0 rfl rfl ?_
  refine xv_if_lt (q := 4) (t := 12) rfl rfl dX6_force_1 (fun h1 => ?_) (fun h1 => ?_)
  · refine xv_bipush (v := (-2)) (q := 14) rfl dX6_force_12 rfl ?_
    refine xv_iret dX6_force_14 rfl ?_
    rw [show sp_force tc u t = (-2, u) from if_pos (Or.inl h1)]
    exact QU.same hK
  · refine xv_iload_n (q := 5) rfl dX6_force_4 rfl rfl ?_
    refine xv_aload_n (q := 6) rfl dX6_force_5 rfl rfl ?_
    refine xv_geti (q := 9) rfl dX6_force_6 f_X6_55 (hg.1 _ _ rfl) ?_
    rw [htc]
    refine xv_icmp_lt (q := 12) (t := 15) rfl rfl dX6_force_9 (fun h9 => ?_) (fun h9 => ?_)
    · refine xv_aload_n (q := 16) rfl dX6_force_15 rfl rfl ?_
      refine xv_geto (q := 19) rfl dX6_force_16 f_X6_10 (hg.1 _ _ rfl) (hg.2 _ _ _ rfl) ?_
      refine xv_geti (q := 22) rfl dX6_force_19 f_X6_142 (hg.1 _ _ rfl) ?_
      rw [hu]
      refine xv_istore_n (q := 23) rfl dX6_force_22 rfl rfl ?_
      refine xv_aload_n (q := 24) rfl dX6_force_23 rfl rfl ?_
      refine xv_geto (q := 27) rfl dX6_force_24 f_X6_10 (hg.1 _ _ rfl) (hg.2 _ _ _ rfl) ?_
      refine xv_iload_n (q := 28) rfl dX6_force_27 rfl rfl ?_
      refine xv_puti (q := 31) rfl dX6_force_28 f_X6_142 (fun h => by cases h) (hg.1 _ _ rfl) ?_
      refine xv_iload_n (q := 32) rfl dX6_force_31 rfl rfl ?_
      refine xv_iret dX6_force_32 rfl ?_
      rw [show sp_force tc u t = (nI u, t.toNatClampNeg) from if_neg (fun q => q.elim h1 (fun q => q h9))]
      obtain ⟨t, ht, rfl⟩ := nI_of h1
      rw [nI_clamp (n := t) ht]
      dsimp only [QU]
      refine ⟨rfl, rfl, rfl, rfl, ⟨fun w r hw hr => ?_, ?_, hn5, ?_, hd2, ?_, hwf⟩, fun k hk => ?_⟩
      · rw [xi_off _ _ _ _ (by omega)]; exact hm w r hw hr
      · rw [xi_ne _ _ _ _ (by omega)]; exact hn
      · rw [xi_ne _ _ _ _ (by omega)]; exact hdd
      · rw [xi_eq]
      · rw [xi_off _ _ _ _ (by omega)]
    · refine xv_bipush (v := (-2)) (q := 14) rfl dX6_force_12 rfl ?_
      refine xv_iret dX6_force_14 rfl ?_
      rw [show sp_force tc u t = (-2, u) from if_pos (Or.inr h9)]
      exact QU.same hK
abbrev CG : Type := Nat × CR × Nat × Nat
def KXi (I : XI) : Option CG → Prop
  | none => I 0 2 = nI 0
  | some q => I 0 2 = nI 1 ∧ XCm I 9 (ci q.2.1) q.1 ∧ I 9 7 = nI q.1 ∧ q.1 ≤ 5 ∧ I 9 8 = nI q.2.2.1 ∧ (q.2.2.1 = 1 ∨ q.2.2.1 = 2) ∧ I 9 9 = nI q.2.2.2 ∧ wfc q.2.1 q.1
theorem x_image (hg : XG sh R) (hK : KXc I n c dd u) : XC E mX6_image (d + 2) 0 0 [.ref 0] sh I R L (fun v sh' I' R' L' => v = some (.int (nI n)) ∧ sh' = sh ∧ R' = R ∧ L' = L ∧ KXi I' (some (n, c, dd, u)) ∧ (∀ k, (k < 9 ∨ 17 ≤ k) → k ≠ 0 → I' k = I k) ∧ ∀ j, j ≠ 2 → I' 0 j = I 0 j) := by
  obtain ⟨hm, hn, hn5, hdd, hd2, hu, hwf⟩ := id hK
  refine XC.of (by decide) rfl rfl ?_
  refine xv_aload_n (q := 1) rfl dX6_image_0 rfl rfl ?_
  refine xv_geto (q := 4) rfl dX6_image_1 f_X6_16 (hg.1 _ _ rfl) (hg.2 _ _ _ rfl) ?_
  refine xv_aload_n (q := 5) rfl dX6_image_4 rfl rfl ?_
  refine xv_geto (q := 8) rfl dX6_image_5 f_X6_10 (hg.1 _ _ rfl) (hg.2 _ _ _ rfl) ?_
  refine xv_rV1 (z := mX0_become) (q := 11) rfl dX6_image_8 l_X6_238 gX0_become (hg.1 _ _ rfl) rfl rfl rfl (c_become (d := d) (I := I) (L := L) (xg_crew hg (a := 9) (by decide)) (xg_crew hg (a := 1) (by decide)) (by omega)) (by omega) ?_
  rintro _ _ J _ _ ⟨rfl, rfl, rfl, rfl, q1, q2, q3, q4, q5⟩
  refine xv_aload_n (q := 12) rfl dX6_image_11 rfl rfl ?_
  refine xv_iconst (v := nI 1) (q := 13) rfl dX6_image_12 rfl ?_
  refine xv_putz (q := 16) rfl dX6_image_13 f_X6_241 (fun h => by cases h) (hg.1 _ _ rfl) (Or.inr rfl) ?_
  refine xv_aload_n (q := 17) rfl dX6_image_16 rfl rfl ?_
  refine xv_geto (q := 20) rfl dX6_image_17 f_X6_16 (hg.1 _ _ rfl) (hg.2 _ _ _ rfl) ?_
  refine xv_geti (q := 23) rfl dX6_image_20 f_X6_98 (hg.1 _ _ rfl) ?_
  rw [xi_off _ _ _ _ (by omega), q2, hn]
  refine xv_iret dX6_image_23 rfl ?_
  refine ⟨rfl, rfl, rfl, rfl, ⟨xi_eq _ _ _ _, fun w r hw hr => ?_, ?_, hn5, ?_, hd2, ?_, hwf⟩, fun k hk hk0 => ?_, fun j hj => ?_⟩
  · rw [xi_off _ _ _ _ (by omega), q1 w r hw (by omega)]; exact hm w r hw hr
  · rw [xi_off _ _ _ _ (by omega), q2, hn]
  · rw [xi_off _ _ _ _ (by omega), q3, hdd]
  · rw [xi_off _ _ _ _ (by omega), q4, hu]
  · rw [xi_off _ _ _ _ hk0, q5 k (by omega)]
  · rw [xi_ne _ _ _ _ (by omega), q5 0 (by omega)]
def sp_back (g : CG) : Option CG → Int32 × CG
  | none => (-3, g)
  | some q => (nI q.1, q)
def QB (q : Int32 × CG) (g : CG) (sh : XSh) (I : XI) (R : XRf) (L : XL) : XQ := fun v sh' I' R' L' => v = some (.int q.1) ∧ sh' = sh ∧ R' = R ∧ L' = L ∧ KXc I' q.2.1 q.2.2.1 q.2.2.2.1 q.2.2.2.2 ∧ FXc I I'
theorem x_back (hg : XG sh R) (hK : KXc I n c dd u) (im : Option CG) (hI : KXi I im) : XC E mX6_back (d + 2) 0 0 [.ref 0] sh I R L (QB (sp_back (n, c, dd, u) im) (n, c, dd, u) sh I R L) := by
  cases im with
  | none =>
    refine XC.of (by decide) rfl rfl ?_
    refine xv_aload_n (q := 1) rfl dX6_back_0 rfl rfl ?_
    refine xv_getz (q := 4) rfl dX6_back_1 f_X6_241 (hg.1 _ _ rfl) ?_
    rw [show I 0 2 = nI 0 from hI]
    refine xv_if_ne (q := 7) (t := 10) rfl rfl dX6_back_4 (fun h4 => ?_) (fun h4 => ?_)
    · exact absurd rfl h4
    · refine xv_bipush (v := (-3)) (q := 9) rfl dX6_back_7 rfl ?_
      refine xv_iret dX6_back_9 rfl ?_
      exact ⟨rfl, rfl, rfl, rfl, hK, fun _ _ => rfl⟩
  | some q =>
    obtain ⟨n', c', dd', u'⟩ := q
    obtain ⟨i1, i2, i3, i4, i5, i6, i7, i8⟩ := hI
    refine XC.of (by decide) rfl rfl ?_
    refine xv_aload_n (q := 1) rfl dX6_back_0 rfl rfl ?_
    refine xv_getz (q := 4) rfl dX6_back_1 f_X6_241 (hg.1 _ _ rfl) ?_
    rw [i1]
    refine xv_if_ne (q := 7) (t := 10) rfl rfl dX6_back_4 (fun h4 => ?_) (fun h4 => ?_)
    · refine xv_aload_n (q := 11) rfl dX6_back_10 rfl rfl ?_
      refine xv_geto (q := 14) rfl dX6_back_11 f_X6_10 (hg.1 _ _ rfl) (hg.2 _ _ _ rfl) ?_
      refine xv_aload_n (q := 15) rfl dX6_back_14 rfl rfl ?_
      refine xv_geto (q := 18) rfl dX6_back_15 f_X6_16 (hg.1 _ _ rfl) (hg.2 _ _ _ rfl) ?_
      refine xv_rV1 (z := mX0_become) (q := 21) rfl dX6_back_18 l_X6_238 gX0_become (hg.1 _ _ rfl) rfl rfl rfl (c_become (d := d) (I := I) (L := L) (xg_crew hg (a := 1) (by decide)) (xg_crew hg (a := 9) (by decide)) (by omega)) (by omega) ?_
      rintro _ _ J _ _ ⟨rfl, rfl, rfl, rfl, q1, q2, q3, q4, q5⟩
      refine xv_aload_n (q := 22) rfl dX6_back_21 rfl rfl ?_
      refine xv_geto (q := 25) rfl dX6_back_22 f_X6_10 (hg.1 _ _ rfl) (hg.2 _ _ _ rfl) ?_
      refine xv_geti (q := 28) rfl dX6_back_25 f_X6_98 (hg.1 _ _ rfl) ?_
      rw [q2, i3]
      refine xv_iret dX6_back_28 rfl ?_
      refine ⟨rfl, rfl, rfl, rfl, ⟨fun w r hw hr => ?_, ?_, i4, ?_, i6, ?_, i8⟩, fun k hk => ?_⟩
      · have i4 : n' ≤ 5 := i4
        have hr : r < n' := hr
        rw [q1 w r hw (by omega)]; exact i2 w r hw hr
      · rw [q2, i3]; rfl
      · rw [q3, i5]; rfl
      · rw [q4, i7]; rfl
      · rw [q5 k (by omega)]
    · exact absurd h4 (by decide)
/-- the class's tape -/
def KXp (I : XI) (tl : Nat) (tp : Nat → Nat) : Prop := I 17 1 = nI tl ∧ tl ≤ 160 ∧ ∀ i, i < tl → I 18 i = nI (tp i) ∧ tp i < 256
def sp_feed (tl : Nat) (tp : Nat → Nat) (x : Int32) : Int32 × Nat × (Nat → Nat) := if x < 0 ∨ ¬ x ≤ nI 255 then (-2, tl, tp) else if ¬ tl < 160 then (-4, tl, tp) else (nI (tl + 1), tl + 1, va_up tp tl x.toNatClampNeg)
def QP (q : Int32 × Nat × (Nat → Nat)) (sh : XSh) (I : XI) (R : XRf) (L : XL) : XQ := fun v sh' I' R' L' => v = some (.int q.1) ∧ sh' = sh ∧ R' = R ∧ L' = L ∧ KXp I' q.2.1 q.2.2 ∧ ∀ k, k ≠ 17 → k ≠ 18 → I' k = I k
theorem x_feed (hg : XG sh R) {tl : Nat} {tp : Nat → Nat} (hK : KXp I tl tp) (x : Int32) : XC E mX6_feed d 0 0 [.ref 0, .int x] sh I R L (QP (sp_feed tl tp x) sh I R L) := by
  refine XC.of (by decide) rfl rfl ?_
  refine xv_iload_n (q := 1) rfl dX6_feed_0 rfl rfl ?_
  refine xv_if_lt (q := 4) (t := 11) rfl rfl dX6_feed_1 (fun h1 => ?_) (fun h1 => ?_)
  · refine xv_bipush (v := (-2)) (q := 13) rfl dX6_feed_11 rfl ?_
    refine xv_iret dX6_feed_13 rfl ?_
    rw [show sp_feed tl tp x = (-2, tl, tp) from if_pos (Or.inl h1)]
    exact ⟨rfl, rfl, rfl, rfl, hK, fun _ _ _ => rfl⟩
  · refine xv_iload_n (q := 5) rfl dX6_feed_4 rfl rfl ?_
    refine xv_sipush (v := nI 255) (q := 8) rfl dX6_feed_5 rfl ?_
    refine xv_icmp_le (q := 11) (t := 14) rfl rfl dX6_feed_8 (fun h8 => ?_) (fun h8 => ?_)
    · obtain ⟨x, hx, rfl⟩ := nI_of2 (n := 255) (M := nI 255) (by decide) h1 h8
      have hq : ¬ (nI x < 0 ∨ ¬ nI x ≤ nI 255) := fun q => q.elim h1 (fun q => q h8)
      obtain ⟨p1, p2, p3⟩ := id hK
      refine xv_aload_n (q := 15) rfl dX6_feed_14 rfl rfl ?_
      refine xv_geto (q := 18) rfl dX6_feed_15 f_X6_22 (hg.1 _ _ rfl) (hg.2 _ _ _ rfl) ?_
      refine xv_geti (q := 21) rfl dX6_feed_18 f_X6_125 (hg.1 _ _ rfl) ?_
      rw [p1]
      refine xv_sipush (v := nI 160) (q := 24) rfl dX6_feed_21 rfl ?_
      refine xv_icmp_lt (q := 27) (t := 30) rfl rfl dX6_feed_24 (fun h24 => ?_) (fun h24 => ?_)
      · have h24 := nIlt h24 (by omega) (by omega)
        refine xv_aload_n (q := 31) rfl dX6_feed_30 rfl rfl ?_
        refine xv_geto (q := 34) rfl dX6_feed_31 f_X6_22 (hg.1 _ _ rfl) (hg.2 _ _ _ rfl) ?_
        refine xv_geta (q := 37) rfl dX6_feed_34 f_X6_128 (hg.1 _ _ rfl) (hg.2 _ _ _ rfl) ?_
        refine xv_aload_n (q := 38) rfl dX6_feed_37 rfl rfl ?_
        refine xv_geto (q := 41) rfl dX6_feed_38 f_X6_22 (hg.1 _ _ rfl) (hg.2 _ _ _ rfl) ?_
        refine xv_geti (q := 44) rfl dX6_feed_41 f_X6_125 (hg.1 _ _ rfl) ?_
        rw [p1]
        refine xv_iload_n (q := 45) rfl dX6_feed_44 rfl rfl ?_
        refine xv_iast (q := 46) rfl dX6_feed_45 (hg.1 _ _ rfl) rfl (by omega) (by decide) ?_
        refine xv_aload_n (q := 47) rfl dX6_feed_46 rfl rfl ?_
        refine xv_geto (q := 50) rfl dX6_feed_47 f_X6_22 (hg.1 _ _ rfl) (hg.2 _ _ _ rfl) ?_
        refine xv_dup (q := 51) rfl dX6_feed_50 rfl ?_
        refine xv_geti (q := 54) rfl dX6_feed_51 f_X6_125 (hg.1 _ _ rfl) ?_
        rw [xi_off _ _ _ _ (by omega), p1]
        refine xv_iconst (v := nI 1) (q := 55) rfl dX6_feed_54 rfl ?_
        refine xv_iadd (q := 56) rfl dX6_feed_55 ?_
        refine xv_as (w := nI (tl + 1)) (nI_add _ _) ?_
        refine xv_puti (q := 59) rfl dX6_feed_56 f_X6_125 (fun h => by cases h) (hg.1 _ _ rfl) ?_
        refine xv_aload_n (q := 60) rfl dX6_feed_59 rfl rfl ?_
        refine xv_geto (q := 63) rfl dX6_feed_60 f_X6_22 (hg.1 _ _ rfl) (hg.2 _ _ _ rfl) ?_
        refine xv_geti (q := 66) rfl dX6_feed_63 f_X6_125 (hg.1 _ _ rfl) ?_
        rw [xi_eq]
        refine xv_iret dX6_feed_66 rfl ?_
        rw [show sp_feed tl tp (nI x) = (nI (tl + 1), tl + 1, va_up tp tl (nI x).toNatClampNeg) from (if_neg hq).trans (if_neg (by omega)), nI_clamp (n := x) (by omega)]
        dsimp only [QP]
        refine ⟨rfl, rfl, rfl, rfl, ⟨xi_eq _ _ _ _, by omega, fun i hi => ?_⟩, fun k h1 h2 => ?_⟩
        · rw [xi_off _ _ _ _ (by omega)]
          unfold va_up
          by_cases e : i = tl
          · subst e
            rw [if_pos rfl, xi_eq]
            exact ⟨rfl, by omega⟩
          · rw [if_neg e, xi_ne _ _ _ _ (by omega)]
            exact p3 i (by omega)
        · rw [xi_off _ _ _ _ h1, xi_off _ _ _ _ h2]
      · have h24 := nInlt h24 (by omega) (by omega)
        refine xv_bipush (v := (-4)) (q := 29) rfl dX6_feed_27 rfl ?_
        refine xv_iret dX6_feed_29 rfl ?_
        rw [show sp_feed tl tp (nI x) = (-4, tl, tp) from (if_neg hq).trans (if_pos (by omega))]
        exact ⟨rfl, rfl, rfl, rfl, hK, fun _ _ _ => rfl⟩
    · refine xv_bipush (v := (-2)) (q := 13) rfl dX6_feed_11 rfl ?_
      refine xv_iret dX6_feed_13 rfl ?_
      rw [show sp_feed tl tp x = (-2, tl, tp) from if_pos (Or.inr h8)]
      exact ⟨rfl, rfl, rfl, rfl, hK, fun _ _ _ => rfl⟩
end RIDERS3

theorem lt01 {a : Int32} (h : a < 0) : a < nI 1 := Int32.lt_trans h (by decide)
def isR (n : Nat) (x : Int32) : Bool := decide (¬ x < 0 ∧ ¬ nI n ≤ x)
theorem isR_of {n : Nat} {x : Int32} (hn : n ≤ 5) (h : isR n x = true) : ∃ r, r < n ∧ x = nI r := by
  have := of_decide_eq_true h
  rcases pk_ix x (n := n) (by omega) with z | z | z
  · exact absurd z this.1
  · exact absurd z this.2
  · exact z
theorem has_isR {n : Nat} (hn : n ≤ 5) (x : Int32) : (decide (x.toInt < 0 ∨ (n : Int) ≤ x.toInt) == false) = isR n x := by
  unfold isR
  have e : (x.toInt < 0 ∨ (n : Int) ≤ x.toInt) ↔ ¬ (¬ x < 0 ∧ ¬ nI n ≤ x) := by
    rw [Int32.lt_iff_toInt_lt, Int32.le_iff_toInt_le, nI_toInt (by omega)]
    simp only [Int32.toInt_zero]
    omega
  by_cases h : ¬ x < 0 ∧ ¬ nI n ≤ x
  · rw [decide_eq_true h, decide_eq_false (fun z => e.mp z h)]; rfl
  · rw [decide_eq_false h, decide_eq_true (e.mpr h)]; rfl
def sp_told (n : Nat) (c : CR) (x w : Int32) : Int32 := if isR n x = true ∧ ¬ w < 0 ∧ w ≤ nI 6 then nI (c (rwo w.toNatClampNeg) x.toNatClampNeg) else -2
def sp_lets (n : Nat) (c : CR) (x z : Int32) : Int32 := if isR n x = true ∧ isR n z = true ∧ ¬ x = z then bI (lts (ci c) x.toNatClampNeg (nI (c 2 z.toNatClampNeg))) else -2
section RIDERS2
variable {E : XE} {d : Nat} {sh : XSh} {I : XI} {R : XRf} {L : XL} {n dd u : Nat} {c : CR}
theorem c_has' {a : Nat} (hc : XCr sh R a) (hn : I a 7 = nI n) (hn5 : n ≤ 5) (x : Int32) : XC E mX0_has d 0 0 [.ref a, .int x] sh I R L (xq (some (.int (bI (isR n x)))) sh I R L) := by
  rw [← has_isR hn5]; exact c_has hc hn hn5 x
theorem x_told (hg : XG sh R) (hK : KXc I n c dd u) (x w : Int32) : XC E mX6_told (d + 1) 0 0 [.ref 0, .int x, .int w] sh I R L (xq (some (.int (sp_told n c x w))) sh I R L) := by
  obtain ⟨hm, hn, hn5, hdd, hd2, hu, hwf⟩ := id hK
  have hcr := xg_crew hg (a := 1) (Or.inl rfl)
  refine XC.of (by decide) rfl rfl ?_
  refine xv_aload_n (q := 1) rfl dX6_told_0 rfl rfl ?_
  refine xv_geto (q := 4) rfl dX6_told_1 f_X6_10 (hg.1 _ _ rfl) (hg.2 _ _ _ rfl) ?_
  refine xv_iload_n (q := 5) rfl dX6_told_4 rfl rfl ?_
  refine xv_cV1 (z := mX0_has) (q := 8) rfl dX6_told_5 l_X6_68 gX0_has (hg.1 _ _ rfl) rfl rfl rfl (c_has' (d := d) hcr hn hn5 x) (by omega) ?_
  refine xv_if_eq (q := 11) (t := 21) rfl rfl dX6_told_8 (fun h8 => ?_) (fun h8 => ?_)
  · have h8 := bIz h8
    refine xv_bipush (v := (-2)) (q := 23) rfl dX6_told_21 rfl ?_
    refine xv_iret dX6_told_23 rfl ?_
    exact ⟨by rw [show sp_told n c x w = -2 from if_neg (fun q => absurd q.1 (by rw [h8]; decide))], rfl, rfl, rfl, rfl⟩
  · have h8 := bIn h8
    refine xv_iload_n (q := 12) rfl dX6_told_11 rfl rfl ?_
    refine xv_if_lt (q := 15) (t := 21) rfl rfl dX6_told_12 (fun h12 => ?_) (fun h12 => ?_)
    · refine xv_bipush (v := (-2)) (q := 23) rfl dX6_told_21 rfl ?_
      refine xv_iret dX6_told_23 rfl ?_
      exact ⟨by rw [show sp_told n c x w = -2 from if_neg (fun q => q.2.1 h12)], rfl, rfl, rfl, rfl⟩
    · refine xv_iload_n (q := 16) rfl dX6_told_15 rfl rfl ?_
      refine xv_bipush (v := nI 6) (q := 18) rfl dX6_told_16 rfl ?_
      refine xv_icmp_le (q := 21) (t := 24) rfl rfl dX6_told_18 (fun h18 => ?_) (fun h18 => ?_)
      · obtain ⟨r, hr, rfl⟩ := isR_of hn5 h8
        obtain ⟨k, hk, rfl⟩ := nI_of2 (n := 6) (M := nI 6) (by decide) h12 h18
        have hk7 : k < 7 := by omega
        refine xv_aload_n (q := 25) rfl dX6_told_24 rfl rfl ?_
        refine xv_geto (q := 28) rfl dX6_told_25 f_X6_10 (hg.1 _ _ rfl) (hg.2 _ _ _ rfl) ?_
        refine xv_iload_n (q := 29) rfl dX6_told_28 rfl rfl ?_
        refine xv_cV1 (z := mX0_rowOf) (q := 32) rfl dX6_told_29 l_X6_79 gX0_rowOf (hg.1 _ _ rfl) rfl rfl rfl (c_rowOf (d := d) hcr hk7) (by omega) ?_
        refine xv_iload_n (q := 33) rfl dX6_told_32 rfl rfl ?_
        refine xv_iald (q := 34) rfl dX6_told_33 (hcr.2 _ (rwo_lt hk7)).2 rfl (by omega) (by decide) ?_
        rw [hm _ r (rwo_lt hk7) hr]
        refine xv_iret dX6_told_34 rfl ?_
        exact ⟨by rw [show sp_told n c (nI r) (nI k) = nI (c (rwo (nI k).toNatClampNeg) (nI r).toNatClampNeg) from if_pos ⟨h8, h12, h18⟩, nI_clamp (n := k) (by omega), nI_clamp (n := r) (by omega)]; rfl, rfl, rfl, rfl, rfl⟩
      · refine xv_bipush (v := (-2)) (q := 23) rfl dX6_told_21 rfl ?_
        refine xv_iret dX6_told_23 rfl ?_
        exact ⟨by rw [show sp_told n c x w = -2 from if_neg (fun q => h18 q.2.2)], rfl, rfl, rfl, rfl⟩
theorem x_lets (hg : XG sh R) (hK : KXc I n c dd u) (x z : Int32) : XC E mX6_lets (d + 1) 0 0 [.ref 0, .int x, .int z] sh I R L (xq (some (.int (sp_lets n c x z))) sh I R L) := by
  obtain ⟨hm, hn, hn5, hdd, hd2, hu, hwf⟩ := id hK
  have hcr := xg_crew hg (a := 1) (Or.inl rfl)
  refine XC.of (by decide) rfl rfl ?_
  refine xv_aload_n (q := 1) rfl dX6_lets_0 rfl rfl ?_
  refine xv_geto (q := 4) rfl dX6_lets_1 f_X6_10 (hg.1 _ _ rfl) (hg.2 _ _ _ rfl) ?_
  refine xv_iload_n (q := 5) rfl dX6_lets_4 rfl rfl ?_
  refine xv_cV1 (z := mX0_has) (q := 8) rfl dX6_lets_5 l_X6_68 gX0_has (hg.1 _ _ rfl) rfl rfl rfl (c_has' (d := d) hcr hn hn5 x) (by omega) ?_
  refine xv_if_eq (q := 11) (t := 27) rfl rfl dX6_lets_8 (fun h8 => ?_) (fun h8 => ?_)
  · have h8 := bIz h8
    refine xv_bipush (v := (-2)) (q := 29) rfl dX6_lets_27 rfl ?_
    refine xv_iret dX6_lets_29 rfl ?_
    exact ⟨by rw [show sp_lets n c x z = -2 from if_neg (fun q => absurd q.1 (by rw [h8]; decide))], rfl, rfl, rfl, rfl⟩
  · have h8 := bIn h8
    refine xv_aload_n (q := 12) rfl dX6_lets_11 rfl rfl ?_
    refine xv_geto (q := 15) rfl dX6_lets_12 f_X6_10 (hg.1 _ _ rfl) (hg.2 _ _ _ rfl) ?_
    refine xv_iload_n (q := 16) rfl dX6_lets_15 rfl rfl ?_
    refine xv_cV1 (z := mX0_has) (q := 19) rfl dX6_lets_16 l_X6_68 gX0_has (hg.1 _ _ rfl) rfl rfl rfl (c_has' (d := d) hcr hn hn5 z) (by omega) ?_
    refine xv_if_eq (q := 22) (t := 27) rfl rfl dX6_lets_19 (fun h19 => ?_) (fun h19 => ?_)
    · have h19 := bIz h19
      refine xv_bipush (v := (-2)) (q := 29) rfl dX6_lets_27 rfl ?_
      refine xv_iret dX6_lets_29 rfl ?_
      exact ⟨by rw [show sp_lets n c x z = -2 from if_neg (fun q => absurd q.2.1 (by rw [h19]; decide))], rfl, rfl, rfl, rfl⟩
    · have h19 := bIn h19
      refine xv_iload_n (q := 23) rfl dX6_lets_22 rfl rfl ?_
      refine xv_iload_n (q := 24) rfl dX6_lets_23 rfl rfl ?_
      refine xv_icmp_ne (q := 27) (t := 30) rfl rfl dX6_lets_24 (fun h24 => ?_) (fun h24 => ?_)
      · obtain ⟨r, hr, rfl⟩ := isR_of hn5 h8
        obtain ⟨s, hs, rfl⟩ := isR_of hn5 h19
        refine xv_aload_n (q := 31) rfl dX6_lets_30 rfl rfl ?_
        refine xv_geto (q := 34) rfl dX6_lets_31 f_X6_10 (hg.1 _ _ rfl) (hg.2 _ _ _ rfl) ?_
        refine xv_iload_n (q := 35) rfl dX6_lets_34 rfl rfl ?_
        refine xv_aload_n (q := 36) rfl dX6_lets_35 rfl rfl ?_
        refine xv_geto (q := 39) rfl dX6_lets_36 f_X6_10 (hg.1 _ _ rfl) (hg.2 _ _ _ rfl) ?_
        refine xv_geta (q := 42) rfl dX6_lets_39 f_X6_87 (hg.1 _ _ rfl) (hg.2 _ _ _ rfl) ?_
        refine xv_iload_n (q := 43) rfl dX6_lets_42 rfl rfl ?_
        refine xv_iald (q := 44) rfl dX6_lets_43 (hg.1 _ _ rfl) rfl (by omega) (by decide) ?_
        rw [show I 4 s = ci c 2 s from hm 2 s (by decide) hs]
        refine xv_cV2 (z := mX0_letsBy) (q := 47) rfl dX6_lets_44 l_X6_91 gX0_letsBy (hg.1 _ _ rfl) rfl rfl rfl (c_letsBy (d := d) (k := c 0 r) hcr hm hn5 hr rfl (hwf.1 r hr).1 (ci c 2 s)) (by omega) ?_
        refine xv_if_eq (q := 50) (t := 54) rfl rfl dX6_lets_47 (fun h47 => ?_) (fun h47 => ?_)
        · have h47 := bIz h47
          refine xv_iconst (v := nI 0) (q := 55) rfl dX6_lets_54 rfl ?_
          refine xv_iret dX6_lets_55 rfl ?_
          exact ⟨by rw [show sp_lets n c (nI r) (nI s) = bI (lts (ci c) (nI r).toNatClampNeg (nI (c 2 (nI s).toNatClampNeg))) from if_pos ⟨h8, h19, h24⟩, nI_clamp (n := r) (by omega), nI_clamp (n := s) (by omega), show lts (ci c) r (nI (c 2 s)) = false from h47]; rfl, rfl, rfl, rfl, rfl⟩
        · have h47 := bIn h47
          refine xv_iconst (v := nI 1) (q := 51) rfl dX6_lets_50 rfl ?_
          refine xv_goto (t := 55) rfl dX6_lets_51 ?_
          refine xv_iret dX6_lets_55 rfl ?_
          exact ⟨by rw [show sp_lets n c (nI r) (nI s) = bI (lts (ci c) (nI r).toNatClampNeg (nI (c 2 (nI s).toNatClampNeg))) from if_pos ⟨h8, h19, h24⟩, nI_clamp (n := r) (by omega), nI_clamp (n := s) (by omega), show lts (ci c) r (nI (c 2 s)) = true from h47]; rfl, rfl, rfl, rfl, rfl⟩
      · refine xv_bipush (v := (-2)) (q := 29) rfl dX6_lets_27 rfl ?_
        refine xv_iret dX6_lets_29 rfl ?_
        exact ⟨by rw [show sp_lets n c x z = -2 from if_neg (fun q => q.2.2 h24)], rfl, rfl, rfl, rfl⟩
def QW (q : Int32 × CR × Nat) (n : Nat) (c : CR) (dd u : Nat) (sh : XSh) (I : XI) (R : XRf) (L : XL) : XQ := fun v sh' I' R' L' => v = some (.int q.1) ∧ sh' = sh ∧ R' = R ∧ L' = L ∧ KXc I' n q.2.1 q.2.2 u ∧ FXc I I'
theorem QW.same {ans : Int32} (h : KXc I n c dd u) : QW (ans, c, dd) n c dd u sh I R L (some (.int ans)) sh I R L := ⟨rfl, rfl, rfl, rfl, h, fun _ _ => rfl⟩
def sp_doors (c : CR) (dd : Nat) (v : Int32) : Int32 × CR × Nat := if v < nI 1 ∨ ¬ v ≤ nI 2 then (-2, c, dd) else (nI dd, c, v.toNatClampNeg)
def lst (c : CR) (w r : Nat) : Nat := if w = 3 then c 3 r + 1 else 0
def mst (w : Nat) : Nat := if w = 4 then 5 else if w = 5 then 100 else 9
def setr (c : CR) (w r v : Nat) : CR := fun a b => if a = w ∧ b = r then v else c a b
def sp_set (n : Nat) (c : CR) (dd : Nat) (what of_ v : Int32) : Int32 × CR × Nat :=
  if what = 0 then sp_doors c dd v
  else if what < nI 1 ∨ nI 5 < what ∨ isR n of_ = false then (-2, c, dd)
  else if v < nI (lst c what.toNatClampNeg of_.toNatClampNeg) ∨ ¬ v ≤ nI (mst what.toNatClampNeg) then (-2, c, dd)
  else if oks (ci (setr c (rwo what.toNatClampNeg) of_.toNatClampNeg v.toNatClampNeg)) of_.toNatClampNeg n = true then (nI (c (rwo what.toNatClampNeg) of_.toNatClampNeg), setr c (rwo what.toNatClampNeg) of_.toNatClampNeg v.toNatClampNeg, dd)
  else (-3, c, dd)
theorem c_putDoors (hg : XG sh R) (hK : KXc I n c dd u) (v : Int32) : XC E mX6_putDoors d 0 0 [.ref 0, .int v] sh I R L (QW (sp_doors c dd v) n c dd u sh I R L) := by
  obtain ⟨hm, hn, hn5, hdd, hd2, hu, hwf⟩ := id hK
  refine XC.of (by decide) rfl rfl ?_
  refine xv_iload_n (q := 1) rfl dX6_putDoors_0 rfl rfl ?_
  refine xv_iconst (v := nI 1) (q := 2) rfl dX6_putDoors_1 rfl ?_
  refine xv_icmp_lt (q := 5) (t := 10) rfl rfl dX6_putDoors_2 (fun h2 => ?_) (fun h2 => ?_)
  · refine xv_bipush (v := (-2)) (q := 12) rfl dX6_putDoors_10 rfl ?_
    refine xv_iret dX6_putDoors_12 rfl ?_
    rw [show sp_doors c dd v = (-2, c, dd) from if_pos (Or.inl h2)]
    exact QW.same hK
  · refine xv_iload_n (q := 6) rfl dX6_putDoors_5 rfl rfl ?_
    refine xv_iconst (v := nI 2) (q := 7) rfl dX6_putDoors_6 rfl ?_
    refine xv_icmp_le (q := 10) (t := 13) rfl rfl dX6_putDoors_7 (fun h7 => ?_) (fun h7 => ?_)
    · refine xv_aload_n (q := 14) rfl dX6_putDoors_13 rfl rfl ?_
      refine xv_geto (q := 17) rfl dX6_putDoors_14 f_X6_10 (hg.1 _ _ rfl) (hg.2 _ _ _ rfl) ?_
      refine xv_geti (q := 20) rfl dX6_putDoors_17 f_X6_122 (hg.1 _ _ rfl) ?_
      rw [hdd]
      refine xv_istore_n (q := 21) rfl dX6_putDoors_20 rfl rfl ?_
      refine xv_aload_n (q := 22) rfl dX6_putDoors_21 rfl rfl ?_
      refine xv_geto (q := 25) rfl dX6_putDoors_22 f_X6_10 (hg.1 _ _ rfl) (hg.2 _ _ _ rfl) ?_
      refine xv_iload_n (q := 26) rfl dX6_putDoors_25 rfl rfl ?_
      refine xv_puti (q := 29) rfl dX6_putDoors_26 f_X6_122 (fun h => by cases h) (hg.1 _ _ rfl) ?_
      refine xv_iload_n (q := 30) rfl dX6_putDoors_29 rfl rfl ?_
      refine xv_iret dX6_putDoors_30 rfl ?_
      rw [show sp_doors c dd v = (nI dd, c, v.toNatClampNeg) from if_neg (fun q => q.elim h2 (fun q => q h7))]
      obtain ⟨v, hv, rfl⟩ := nI_of2 (n := 2) (M := nI 2) (by decide) (fun q => h2 (lt01 q)) h7
      have hv1 := nInlt h2 (by omega) (by omega)
      rw [nI_clamp (n := v) (by omega)]
      dsimp only [QW]
      refine ⟨rfl, rfl, rfl, rfl, ⟨fun w r hw hr => ?_, ?_, hn5, ?_, by omega, ?_, hwf⟩, fun k hk => ?_⟩
      · rw [xi_off _ _ _ _ (by omega)]; exact hm w r hw hr
      · rw [xi_ne _ _ _ _ (by omega)]; exact hn
      · rw [xi_eq]
      · rw [xi_ne _ _ _ _ (by omega)]; exact hu
      · rw [xi_off _ _ _ _ (by omega)]
    · refine xv_bipush (v := (-2)) (q := 12) rfl dX6_putDoors_10 rfl ?_
      refine xv_iret dX6_putDoors_12 rfl ?_
      rw [show sp_doors c dd v = (-2, c, dd) from if_pos (Or.inr h7)]
      exact QW.same hK
theorem c_leastOf (hg : XG sh R) (hK : KXc I n c dd u) {w r : Nat} (hw : w < 7) (hr : r < n) : XC E mX6_leastOf d 0 0 [.ref 0, .int (nI w), .int (nI r)] sh I R L (xq (some (.int (nI (lst c w r)))) sh I R L) := by
  obtain ⟨hm, hn, hn5, hdd, hd2, hu, hwf⟩ := id hK
  refine XC.of (by decide) rfl rfl ?_
  refine xv_iload_n (q := 1) rfl dX6_leastOf_0 rfl rfl ?_
  refine xv_iconst (v := nI 3) (q := 2) rfl dX6_leastOf_1 rfl ?_
  refine xv_icmp_ne (q := 5) (t := 19) rfl rfl dX6_leastOf_2 (fun h2 => ?_) (fun h2 => ?_)
  · have h2 : ¬ w = 3 := fun q => h2 (by rw [q])
    refine xv_iconst (v := nI 0) (q := 20) rfl dX6_leastOf_19 rfl ?_
    refine xv_iret dX6_leastOf_20 rfl ?_
    exact ⟨by unfold lst; rw [if_neg h2], rfl, rfl, rfl, rfl⟩
  · have h2 := nIe h2 (by omega) (by omega)
    refine xv_aload_n (q := 6) rfl dX6_leastOf_5 rfl rfl ?_
    refine xv_geto (q := 9) rfl dX6_leastOf_6 f_X6_10 (hg.1 _ _ rfl) (hg.2 _ _ _ rfl) ?_
    refine xv_geta (q := 12) rfl dX6_leastOf_9 f_X6_107 (hg.1 _ _ rfl) (hg.2 _ _ _ rfl) ?_
    refine xv_iload_n (q := 13) rfl dX6_leastOf_12 rfl rfl ?_
    refine xv_iald (q := 14) rfl dX6_leastOf_13 (hg.1 _ _ rfl) rfl (by omega) (by decide) ?_
    rw [show I 5 r = ci c 3 r from hm 3 r (by decide) hr]
    refine xv_iconst (v := nI 1) (q := 15) rfl dX6_leastOf_14 rfl ?_
    refine xv_iadd (q := 16) rfl dX6_leastOf_15 ?_
    refine xv_as (w := nI (c 3 r + 1)) (nI_add _ _) ?_
    refine xv_goto (t := 20) rfl dX6_leastOf_16 ?_
    refine xv_iret dX6_leastOf_20 rfl ?_
    exact ⟨by unfold lst; rw [if_pos h2], rfl, rfl, rfl, rfl⟩
theorem c_mostOf {w : Nat} (hw : w < 7) : XC E mX6_mostOf d 0 0 [.int (nI w)] sh I R L (xq (some (.int (nI (mst w)))) sh I R L) := by
  refine XC.of (by decide) rfl rfl ?_
  refine xv_iload_n (q := 1) rfl dX6_mostOf_0 rfl rfl ?_
  refine xv_iconst (v := nI 4) (q := 2) rfl dX6_mostOf_1 rfl ?_
  refine xv_icmp_ne (q := 5) (t := 7) rfl rfl dX6_mostOf_2 (fun h2 => ?_) (fun h2 => ?_)
  · have h2 : ¬ w = 4 := fun q => h2 (by rw [q])
    refine xv_iload_n (q := 8) rfl dX6_mostOf_7 rfl rfl ?_
    refine xv_iconst (v := nI 5) (q := 9) rfl dX6_mostOf_8 rfl ?_
    refine xv_icmp_ne (q := 12) (t := 17) rfl rfl dX6_mostOf_9 (fun h9 => ?_) (fun h9 => ?_)
    · have h9 : ¬ w = 5 := fun q => h9 (by rw [q])
      refine xv_bipush (v := nI 9) (q := 19) rfl dX6_mostOf_17 rfl ?_
      refine xv_iret dX6_mostOf_19 rfl ?_
      exact ⟨by unfold mst; rw [if_neg h2, if_neg h9], rfl, rfl, rfl, rfl⟩
    · have h9 := nIe h9 (by omega) (by omega)
      refine xv_bipush (v := nI 100) (q := 14) rfl dX6_mostOf_12 rfl ?_
      refine xv_goto (t := 19) rfl dX6_mostOf_14 ?_
      refine xv_iret dX6_mostOf_19 rfl ?_
      exact ⟨by unfold mst; rw [if_neg h2, if_pos h9], rfl, rfl, rfl, rfl⟩
  · have h2 := nIe h2 (by omega) (by omega)
    refine xv_iconst (v := nI 5) (q := 6) rfl dX6_mostOf_5 rfl ?_
    refine xv_iret dX6_mostOf_6 rfl ?_
    exact ⟨by unfold mst; rw [if_pos h2], rfl, rfl, rfl, rfl⟩
theorem setr_row {I : XI} {c : CR} {n ρ r v : Nat} (hm : XCm I 1 (ci c) n) : XCm (xi I (1 + 1 + ρ) r (nI v)) 1 (ci (setr c ρ r v)) n := by
  intro w b hw hb
  unfold ci setr
  by_cases e : w = ρ ∧ b = r
  · obtain ⟨rfl, rfl⟩ := e
    rw [if_pos ⟨rfl, rfl⟩, xi_eq]
  · rw [if_neg e, xi_ne _ _ _ _ (by omega)]
    exact hm w b hw hb
theorem wfr_setr {c : CR} {ρ r v n : Nat} (h : ∀ b, b < n → wfr c b) (hv : wfr (setr c ρ r v) r) : ∀ b, b < n → wfr (setr c ρ r v) b := by
  intro b hb
  by_cases e : b = r
  · subst e; exact hv
  · have := h b hb
    unfold wfr setr at *
    simp only [e, and_false, if_false]
    exact this
theorem cf_comm (c : XI) (a b : Nat) : cf c a b = cf c b a := by
  unfold cf
  rw [show decide (c 5 a = c 5 b) = decide (c 5 b = c 5 a) from by by_cases h : c 5 a = c 5 b <;> simp [h, eq_comm]]
  cases decide (c 5 b = c 5 a) <;> simp [Bool.and_comm]
theorem oks_iff {c : XI} {r : Nat} : ∀ {n : Nat}, oks c r n = true ↔ ∀ o, o < n → o ≠ r → cf c o r = false
  | 0 => ⟨fun _ o h => absurd h (Nat.not_lt_zero o), fun _ => rfl⟩
  | n + 1 => by
    show (oks c r n && (decide (n = r) || !cf c n r)) = true ↔ _
    rw [Bool.and_eq_true, oks_iff (n := n)]
    constructor
    · rintro ⟨h1, h2⟩ o ho hne
      by_cases e : o = n
      · subst e; simpa [hne] using h2
      · exact h1 o (by omega) hne
    · intro h
      refine ⟨fun o ho hne => h o (by omega) hne, ?_⟩
      by_cases e : n = r
      · simp [e]
      · simp [e, h n (by omega) e]
theorem aks_iff {c : XI} : ∀ {n : Nat}, aks c n = true ↔ ∀ a b, a < n → b < n → a ≠ b → cf c a b = false
  | 0 => ⟨fun _ a b h => absurd h (Nat.not_lt_zero a), fun _ => rfl⟩
  | n + 1 => by
    show (aks c n && oks c n n) = true ↔ _
    rw [Bool.and_eq_true, aks_iff (n := n), oks_iff]
    constructor
    · rintro ⟨h1, h2⟩ a b ha hb hne
      by_cases ea : a = n
      · subst ea; rw [cf_comm]; exact h2 b (by omega) (Ne.symm hne)
      · by_cases eb : b = n
        · subst eb; exact h2 a (by omega) hne
        · exact h1 a b (by omega) (by omega) hne
    · intro h
      exact ⟨fun a b ha hb hne => h a b (by omega) (by omega) hne, fun o ho hne => h o n (by omega) (by omega) hne⟩
theorem aks_setr {c : CR} {ρ r v n : Nat} (h : aks (ci c) n = true) (ho : oks (ci (setr c ρ r v)) r n = true) : aks (ci (setr c ρ r v)) n = true := by
  rw [aks_iff] at h ⊢
  rw [oks_iff] at ho
  intro a b ha hb hne
  by_cases ea : a = r
  · subst ea; rw [cf_comm]; exact ho b hb (Ne.symm hne)
  · by_cases eb : b = r
    · subst eb; exact ho a ha ea
    · rw [cf_cong (c := ci c) (fun w _ => by unfold ci setr; simp [ea]) (fun w _ => by unfold ci setr; simp [eb])]
      exact h a b ha hb hne
theorem c_put (hg : XG sh R) (hK : KXc I n c dd u) {ρ r v : Nat} (hρ : ρ < 7) (hr : r < n) (hv : v ≤ 100) (hw : wfr (setr c ρ r v) r) : XC E mX6_put (d + 1) 0 0 [.ref 0, .ref (1 + 1 + ρ), .int (nI r), .int (nI v)] sh I R L (QW (if oks (ci (setr c ρ r v)) r n = true then (nI (c ρ r), setr c ρ r v, dd) else (-3, c, dd)) n c dd u sh I R L) := by
  obtain ⟨hm, hn, hn5, hdd, hd2, hu, hwf⟩ := id hK
  have hcr := xg_crew hg (a := 1) (Or.inl rfl)
  refine XC.of (by decide) rfl rfl ?_
  refine xv_aload_n (q := 1) rfl dX6_put_0 rfl rfl ?_
  refine xv_iload_n (q := 2) rfl dX6_put_1 rfl rfl ?_
  refine xv_iald (q := 3) rfl dX6_put_2 (hcr.2 _ hρ).2 rfl (by omega) (by decide) ?_
  rw [hm ρ r hρ hr]
  refine xv_istore (q := 5) rfl dX6_put_3 rfl ?_
  refine xv_aload_n (q := 6) rfl dX6_put_5 rfl rfl ?_
  refine xv_iload_n (q := 7) rfl dX6_put_6 rfl rfl ?_
  refine xv_iload_n (q := 8) rfl dX6_put_7 rfl rfl ?_
  refine xv_iast (q := 9) rfl dX6_put_8 (hcr.2 _ hρ).2 rfl (by omega) (by decide) ?_
  refine xv_aload_n (q := 10) rfl dX6_put_9 rfl rfl ?_
  refine xv_geto (q := 13) rfl dX6_put_10 f_X6_10 (hg.1 _ _ rfl) (hg.2 _ _ _ rfl) ?_
  refine xv_iload_n (q := 14) rfl dX6_put_13 rfl rfl ?_
  refine xv_aload_n (q := 15) rfl dX6_put_14 rfl rfl ?_
  refine xv_geto (q := 18) rfl dX6_put_15 f_X6_10 (hg.1 _ _ rfl) (hg.2 _ _ _ rfl) ?_
  refine xv_geti (q := 21) rfl dX6_put_18 f_X6_98 (hg.1 _ _ rfl) ?_
  rw [xi_off _ _ _ _ (show 1 ≠ 1 + 1 + ρ by omega), hn]
  refine xv_cV2 (z := mX0_canStand) (q := 24) rfl dX6_put_21 l_X6_119 gX0_canStand (hg.1 _ _ rfl) rfl rfl rfl (c_canStand (d := d) hcr (setr_row (ρ := ρ) (r := r) (v := v) hm) hn5 (Nat.le_refl n) hr) (by omega) ?_
  refine xv_if_ne (q := 27) (t := 35) rfl rfl dX6_put_24 (fun h24 => ?_) (fun h24 => ?_)
  · have h24 := bIn h24
    rw [if_pos h24]
    refine xv_iload (q := 37) rfl dX6_put_35 rfl ?_
    refine xv_iret dX6_put_37 rfl ?_
    dsimp only [QW]
    refine ⟨rfl, rfl, rfl, rfl, ⟨fun w b hw hb => ?_, ?_, hn5, ?_, hd2, ?_, wfr_setr hwf.1 hw, aks_setr hwf.2 h24⟩, fun k hk => ?_⟩
    · exact setr_row hm w b hw hb
    · rw [xi_off _ _ _ _ (by omega)]; exact hn
    · rw [xi_off _ _ _ _ (by omega)]; exact hdd
    · rw [xi_off _ _ _ _ (by omega)]; exact hu
    · rw [xi_off _ _ _ _ (by omega)]
  · have h24 := bIz h24
    rw [if_neg (by rw [h24]; decide)]
    refine xv_aload_n (q := 28) rfl dX6_put_27 rfl rfl ?_
    refine xv_iload_n (q := 29) rfl dX6_put_28 rfl rfl ?_
    refine xv_iload (q := 31) rfl dX6_put_29 rfl ?_
    refine xv_iast (q := 32) rfl dX6_put_31 (hcr.2 _ hρ).2 rfl (by omega) (by decide) ?_
    refine xv_bipush (v := (-3)) (q := 34) rfl dX6_put_32 rfl ?_
    refine xv_iret dX6_put_34 rfl ?_
    have e : xi (xi I (1 + 1 + ρ) r (nI v)) (1 + 1 + ρ) r (ci c ρ r) = I := by
      funext a b
      by_cases q : a = 1 + 1 + ρ ∧ b = r
      · rw [q.1, q.2, xi_eq]; exact (hm ρ r hρ hr).symm
      · rw [xi_ne _ _ _ _ q, xi_ne _ _ _ _ q]
    rw [e]
    exact QW.same hK
end RIDERS2

/-! the model: places kept, laid back; what standing costs; the search -/
section MPUT
variable {E : XE} {d : Nat} {sh : XSh} {I : XI} {R : XRf} {L : XL} {n dd : Nat} {c : CR} {P : Nat} {tv : TV}
theorem m_keeps_loop (hg : XG sh R) : ∀ (k i : Nat) (J : XI), i ≤ 5 → 5 < i + k → (∀ a, a ≠ 75 → J a = I a) → (∀ a, a < i → J 75 a = I 70 a) → XV E mX7_keeps d 0 0 (fun v sh' J R' L' => v = none ∧ sh' = sh ∧ R' = R ∧ L' = L ∧ (∀ a, a ≠ 75 → J a = I a) ∧ ∀ a, a < 5 → J 75 a = I 70 a) 0 0 2 [some (.ref 61), some (.int (nI i))] [] sh J R L := by
  intro k
  induction k with
  | zero => intro i J zh1 zh2; exact absurd zh2 (by omega)
  | succ k ih =>
    intro i J zh1 zh2 hF hJ
    refine xv_iload_n (q := 3) rfl dX7_keeps_2 rfl rfl ?_
    refine xv_iconst (v := nI 5) (q := 4) rfl dX7_keeps_3 rfl ?_
    refine xv_icmp_ge (q := 7) (t := 25) rfl rfl dX7_keeps_4 (fun zh4 => ?_) (fun zh4 => ?_)
    · have zh4 : i = 5 := by have := nIle zh4 (by omega) (by omega); omega
      subst zh4
      refine xv_vret dX7_keeps_25 rfl ?_
      exact ⟨rfl, rfl, rfl, rfl, hF, hJ⟩
    · have zh4 : i < 5 := nInle zh4 (by omega) (by omega)
      refine xv_aload_n (q := 8) rfl dX7_keeps_7 rfl rfl ?_
      refine xv_geta (q := 11) rfl dX7_keeps_8 f_X7_56 (hg.1 _ _ rfl) (hg.2 _ _ _ rfl) ?_
      refine xv_iload_n (q := 12) rfl dX7_keeps_11 rfl rfl ?_
      refine xv_aload_n (q := 13) rfl dX7_keeps_12 rfl rfl ?_
      refine xv_geta (q := 16) rfl dX7_keeps_13 f_X7_41 (hg.1 _ _ rfl) (hg.2 _ _ _ rfl) ?_
      refine xv_iload_n (q := 17) rfl dX7_keeps_16 rfl rfl ?_
      refine xv_iald (q := 18) rfl dX7_keeps_17 (hg.1 _ _ rfl) rfl (by omega) (by decide) ?_
      rw [hF 70 (by decide)]
      refine xv_iast (q := 19) rfl dX7_keeps_18 (hg.1 _ _ rfl) rfl (by omega) (by decide) ?_
      refine xv_iinc (q := 22) (v := nI 1) rfl dX7_keeps_19 rfl rfl ?_
      refine xv_goto (t := 2) rfl dX7_keeps_22 ?_
      rw [nI_add]
      refine ih (i + 1) _ (by omega) (by omega) (fun a ha => (xi_off _ _ _ _ ha).trans (hF a ha)) (fun a ha => ?_)
      by_cases e : a = i
      · rw [e, xi_eq]
      · rw [xi_ne _ _ _ _ (fun z => e z.2)]; exact hJ a (by omega)
theorem m_keeps (hg : XG sh R) : XC E mX7_keeps d 0 0 [.ref 61] sh I R L (fun v sh' J R' L' => v = none ∧ sh' = sh ∧ R' = R ∧ L' = L ∧ (∀ a, a ≠ 75 → J a = I a) ∧ ∀ a, a < 5 → J 75 a = I 70 a) := by
  refine XC.of (by decide) rfl rfl ?_
  refine xv_iconst (v := nI 0) (q := 1) rfl dX7_keeps_0 rfl ?_
  refine xv_istore_n (q := 2) rfl dX7_keeps_1 rfl rfl ?_
  exact m_keeps_loop hg 6 0 I (by omega) (by omega) (fun _ _ => rfl) (fun a ha => absurd ha (by omega))
theorem m_laysBack_loop (hg : XG sh R) : ∀ (k i : Nat) (J : XI), i ≤ 5 → 5 < i + k → (∀ a, a ≠ 70 → J a = I a) → (∀ a, a < i → J 70 a = I 75 a) → XV E mX7_laysBack d 0 0 (fun v sh' J R' L' => v = none ∧ sh' = sh ∧ R' = R ∧ L' = L ∧ (∀ a, a ≠ 70 → J a = I a) ∧ ∀ a, a < 5 → J 70 a = I 75 a) 0 0 2 [some (.ref 61), some (.int (nI i))] [] sh J R L := by
  intro k
  induction k with
  | zero => intro i J zh1 zh2; exact absurd zh2 (by omega)
  | succ k ih =>
    intro i J zh1 zh2 hF hJ
    refine xv_iload_n (q := 3) rfl dX7_laysBack_2 rfl rfl ?_
    refine xv_iconst (v := nI 5) (q := 4) rfl dX7_laysBack_3 rfl ?_
    refine xv_icmp_ge (q := 7) (t := 25) rfl rfl dX7_laysBack_4 (fun zh4 => ?_) (fun zh4 => ?_)
    · have zh4 : i = 5 := by have := nIle zh4 (by omega) (by omega); omega
      subst zh4
      refine xv_vret dX7_laysBack_25 rfl ?_
      exact ⟨rfl, rfl, rfl, rfl, hF, hJ⟩
    · have zh4 : i < 5 := nInle zh4 (by omega) (by omega)
      refine xv_aload_n (q := 8) rfl dX7_laysBack_7 rfl rfl ?_
      refine xv_geta (q := 11) rfl dX7_laysBack_8 f_X7_41 (hg.1 _ _ rfl) (hg.2 _ _ _ rfl) ?_
      refine xv_iload_n (q := 12) rfl dX7_laysBack_11 rfl rfl ?_
      refine xv_aload_n (q := 13) rfl dX7_laysBack_12 rfl rfl ?_
      refine xv_geta (q := 16) rfl dX7_laysBack_13 f_X7_56 (hg.1 _ _ rfl) (hg.2 _ _ _ rfl) ?_
      refine xv_iload_n (q := 17) rfl dX7_laysBack_16 rfl rfl ?_
      refine xv_iald (q := 18) rfl dX7_laysBack_17 (hg.1 _ _ rfl) rfl (by omega) (by decide) ?_
      rw [hF 75 (by decide)]
      refine xv_iast (q := 19) rfl dX7_laysBack_18 (hg.1 _ _ rfl) rfl (by omega) (by decide) ?_
      refine xv_iinc (q := 22) (v := nI 1) rfl dX7_laysBack_19 rfl rfl ?_
      refine xv_goto (t := 2) rfl dX7_laysBack_22 ?_
      rw [nI_add]
      refine ih (i + 1) _ (by omega) (by omega) (fun a ha => (xi_off _ _ _ _ ha).trans (hF a ha)) (fun a ha => ?_)
      by_cases e : a = i
      · rw [e, xi_eq]
      · rw [xi_ne _ _ _ _ (fun z => e z.2)]; exact hJ a (by omega)
theorem m_laysBack (hg : XG sh R) : XC E mX7_laysBack d 0 0 [.ref 61] sh I R L (fun v sh' J R' L' => v = none ∧ sh' = sh ∧ R' = R ∧ L' = L ∧ (∀ a, a ≠ 70 → J a = I a) ∧ ∀ a, a < 5 → J 70 a = I 75 a) := by
  refine XC.of (by decide) rfl rfl ?_
  refine xv_iconst (v := nI 0) (q := 1) rfl dX7_laysBack_0 rfl ?_
  refine xv_istore_n (q := 2) rfl dX7_laysBack_1 rfl rfl ?_
  exact m_laysBack_loop hg 6 0 I (by omega) (by omega) (fun _ _ => rfl) (fun a ha => absurd ha (by omega))
/-- what moving costs is gathered -/
def GMo (J : XI) (n : Nat) (c : CR) (tv : TV) : Prop := ∀ o w, o < n → w < 3 → J 74 (3 * o + w) = nI (prc c tv 2 o (c 3 o) w 0)
theorem MGa.sx {J : XI} {q : CR} (h : MGa J n c tv P) (hX : SX c q) : MGa J n q tv P := fun o f w za1 za2 za3 za4 za5 => by
  rw [hX 3 (by decide)] at za4
  rw [hX 4 (by decide)] at za5
  have e : insd q n P f = insd c n P f := by unfold insd; rw [hX.esty, hX.egou]
  have ze2 : ∀ v, csn q o v = csn c o v := fun v => by unfold csn; rw [hX 0 (by decide), hX 2 (by decide)]
  rw [e, hX.eprc, hX.eprc, ze2]
  exact h o f w za1 za2 za3 za4 za5
/-- what costOfStanding leaves -/
def QCs (v0 : Nat) (sh : XSh) (I : XI) (R : XRf) (L : XL) : XQ := fun v sh' J R' L' => v = some (.int (nI v0)) ∧ sh' = sh ∧ R' = R ∧ L' = L ∧ FRi I J
theorem m_cos_loop (hg : XG sh R) {q : CR} {x0 : Nat} {I0 : XI} (h : MCw I n q dd) (hM : GMo I n c tv) (hk : ∀ r, r < n → I 75 r = nI (c 5 r)) (hc : ∀ r, r < n → c 5 r < 6) (hF : FRi I0 I) : ∀ (k r : Nat), r ≤ n → n < r + k → XV E mX7_costOfStanding d 0 0 (QCs (x0 + mvs c q tv n) sh I0 R L) 0 0 7 [some (.ref 61), some (.int (nI (x0 + mvs c q tv r))), some (.int (nI r))] [] sh I R L := by
  intro k
  induction k with
  | zero => intro r zh1 zh2; exact absurd zh2 (by omega)
  | succ k ih =>
    intro r zh1 zh2
    obtain ⟨hm, hn, hn5, hd, hdd, hw⟩ := id h
    refine xv_iload_n (q := 8) rfl dX7_costOfStanding_7 rfl rfl ?_
    refine xv_aload_n (q := 9) rfl dX7_costOfStanding_8 rfl rfl ?_
    refine xv_geti (q := 12) rfl dX7_costOfStanding_9 f_X7_88 (hg.1 _ _ rfl) ?_
    rw [hn]
    refine xv_icmp_ge (q := 15) (t := 60) rfl rfl dX7_costOfStanding_12 (fun h12 => ?_) (fun h12 => ?_)
    · have h12 := nIle h12 (by omega) (by omega)
      obtain rfl : r = n := by omega
      refine xv_iload_n (q := 61) rfl dX7_costOfStanding_60 rfl rfl ?_
      refine xv_iret dX7_costOfStanding_61 rfl ?_
      exact ⟨rfl, rfl, rfl, rfl, hF⟩
    · have h12 : r < n := nInle h12 (by omega) (by omega)
      obtain ⟨zw0, zw1, zw2, zw3, zw4, zw5, zw6, w7⟩ := hw r h12
      have hcr := hc r h12
      refine xv_iload_n (q := 16) rfl dX7_costOfStanding_15 rfl rfl ?_
      refine xv_aload_n (q := 17) rfl dX7_costOfStanding_16 rfl rfl ?_
      refine xv_geta (q := 20) rfl dX7_costOfStanding_17 f_X7_41 (hg.1 _ _ rfl) (hg.2 _ _ _ rfl) ?_
      refine xv_iload_n (q := 21) rfl dX7_costOfStanding_20 rfl rfl ?_
      refine xv_iald (q := 22) rfl dX7_costOfStanding_21 (hg.1 _ _ rfl) rfl (by omega) (by decide) ?_
      refine xv_as (w := nI (q 5 r)) (hm 5 r (by decide) h12) ?_
      refine xv_aload_n (q := 23) rfl dX7_costOfStanding_22 rfl rfl ?_
      refine xv_geta (q := 26) rfl dX7_costOfStanding_23 f_X7_56 (hg.1 _ _ rfl) (hg.2 _ _ _ rfl) ?_
      refine xv_iload_n (q := 27) rfl dX7_costOfStanding_26 rfl rfl ?_
      refine xv_iald (q := 28) rfl dX7_costOfStanding_27 (hg.1 _ _ rfl) rfl (by omega) (by decide) ?_
      refine xv_as (w := nI (c 5 r)) (hk r h12) ?_
      refine xv_icmp_eq (q := 31) (t := 51) rfl rfl dX7_costOfStanding_28 (fun h28 => ?_) (fun h28 => ?_)
      · have h28 : q 5 r = c 5 r := (nI_eq (by omega) (by omega)).mp h28
        refine xv_iconst (v := nI 0) (q := 52) rfl dX7_costOfStanding_51 rfl ?_
        refine xv_iadd (q := 53) rfl dX7_costOfStanding_52 ?_
        refine xv_istore_n (q := 54) rfl dX7_costOfStanding_53 rfl rfl ?_
        refine xv_iinc (q := 57) (v := nI 1) rfl dX7_costOfStanding_54 rfl rfl ?_
        refine xv_goto (t := 7) rfl dX7_costOfStanding_57 ?_
        have zhz := ih (r + 1) (by omega) (by omega)
        rw [show mvs c q tv (r + 1) = mvs c q tv r + (if q 5 r = c 5 r then 0 else prc c tv 2 r (c 3 r) (q 5 r / 2) 0) from rfl, if_pos h28, ← Nat.add_assoc] at zhz
        rw [nI_add, nI_add]
        exact zhz
      · have h28 : ¬ q 5 r = c 5 r := fun z => h28 (by rw [z])
        refine xv_aload_n (q := 32) rfl dX7_costOfStanding_31 rfl rfl ?_
        refine xv_geta (q := 35) rfl dX7_costOfStanding_32 f_X7_53 (hg.1 _ _ rfl) (hg.2 _ _ _ rfl) ?_
        refine xv_iconst (v := nI 3) (q := 36) rfl dX7_costOfStanding_35 rfl ?_
        refine xv_iload_n (q := 37) rfl dX7_costOfStanding_36 rfl rfl ?_
        refine xv_imul (q := 38) rfl dX7_costOfStanding_37 ?_
        refine xv_as (w := nI (3 * r)) (pk_mul _ _) ?_
        refine xv_aload_n (q := 39) rfl dX7_costOfStanding_38 rfl rfl ?_
        refine xv_geta (q := 42) rfl dX7_costOfStanding_39 f_X7_41 (hg.1 _ _ rfl) (hg.2 _ _ _ rfl) ?_
        refine xv_iload_n (q := 43) rfl dX7_costOfStanding_42 rfl rfl ?_
        refine xv_iald (q := 44) rfl dX7_costOfStanding_43 (hg.1 _ _ rfl) rfl (by omega) (by decide) ?_
        refine xv_as (w := nI (q 5 r)) (hm 5 r (by decide) h12) ?_
        refine xv_iconst (v := nI 2) (q := 45) rfl dX7_costOfStanding_44 rfl ?_
        refine xv_idiv (q := 46) rfl dX7_costOfStanding_45 (by decide) ?_
        refine xv_as (w := nI (q 5 r / 2)) (pk_div (by omega) (by decide) (by decide)) ?_
        refine xv_iadd (q := 47) rfl dX7_costOfStanding_46 ?_
        refine xv_as (w := nI (3 * r + q 5 r / 2)) (nI_add _ _) ?_
        refine xv_iald (q := 48) rfl dX7_costOfStanding_47 (hg.1 _ _ rfl) rfl (by omega) (by decide) ?_
        refine xv_as (w := nI (prc c tv 2 r (c 3 r) (q 5 r / 2) 0)) (hM r _ h12 (by omega)) ?_
        refine xv_goto (t := 52) rfl dX7_costOfStanding_48 ?_
        refine xv_iadd (q := 53) rfl dX7_costOfStanding_52 ?_
        refine xv_istore_n (q := 54) rfl dX7_costOfStanding_53 rfl rfl ?_
        refine xv_iinc (q := 57) (v := nI 1) rfl dX7_costOfStanding_54 rfl rfl ?_
        refine xv_goto (t := 7) rfl dX7_costOfStanding_57 ?_
        have zhz := ih (r + 1) (by omega) (by omega)
        rw [show mvs c q tv (r + 1) = mvs c q tv r + (if q 5 r = c 5 r then 0 else prc c tv 2 r (c 3 r) (q 5 r / 2) 0) from rfl, if_neg h28, ← Nat.add_assoc] at zhz
        rw [nI_add, nI_add]
        exact zhz
theorem m_cos (hg : XG sh R) {q : CR} (h : MCw I n q dd) (hP : I 61 34 = nI P) (hP32 : P < 32) (hG : MGa I n q tv P) (hM : GMo I n c tv) (hk : ∀ r, r < n → I 75 r = nI (c 5 r)) (hc : ∀ r, r < n → c 5 r < 6) : XC E mX7_costOfStanding (d + 5) 0 0 [.ref 61] sh I R L (QCs (rdc q n dd P tv + mvs c q tv n) sh I R L) := by
  refine XC.of (by decide) rfl rfl ?_
  refine xv_aload_n (q := 1) rfl dX7_costOfStanding_0 rfl rfl ?_
  refine xv_rV0 (z := mX7_rides) (q := 4) rfl dX7_costOfStanding_1 l_X7_298 gX7_rides (hg.1 _ _ rfl) rfl rfl rfl (m_rides (d := d) hg h hP hP32 hG) (by omega) ?_
  rintro _ _ J _ _ ⟨rfl, rfl, rfl, rfl, hF, -, -⟩
  refine xv_istore_n (q := 5) rfl dX7_costOfStanding_4 rfl rfl ?_
  refine xv_iconst (v := nI 0) (q := 6) rfl dX7_costOfStanding_5 rfl ?_
  refine xv_istore_n (q := 7) rfl dX7_costOfStanding_6 rfl rfl ?_
  exact m_cos_loop hg (hF.cw h) (fun o w za1 za2 => by rw [hF.1 74 (by decide)]; exact hM o w za1 za2) (fun r hr => by rw [hF.1 75 (by decide)]; exact hk r hr) hc hF (n + 1) 0 (by omega) (by omega)
/-- but for what a search changes -/
def FSt (I J : XI) : Prop := (∀ k, k ≠ 61 → k ≠ 70 → (k < 72 ∨ 77 ≤ k) → J k = I k) ∧ ∀ j, (j < 16 ∨ 42 ≤ j) → J 61 j = I 61 j
theorem FSt.rf {I : XI} : FSt I I := ⟨fun _ _ _ _ => rfl, fun _ _ => rfl⟩
theorem FSt.trans {I J K : XI} (h : FSt I J) (zh2 : FSt J K) : FSt I K := ⟨fun k a b e => (zh2.1 k a b e).trans (h.1 k a b e), fun j a => (zh2.2 j a).trans (h.2 j a)⟩
theorem FGt.st {I J : XI} (h : FGt I J) : FSt I J := ⟨fun k a b e => h.1 k a (by omega) (by omega) (by omega), fun j a => h.2 j (by omega) (by omega)⟩
theorem FRi.st {I J : XI} (h : FRi I J) : FSt I J := ⟨fun k a _ _ => h.1 k a, fun j a => h.2 j (by omega) (by omega)⟩
theorem fst_c {I : XI} {k j : Nat} {x : Int32} (h : k = 70 ∨ k = 75 ∨ k = 76) : FSt I (xi I k j x) := ⟨fun a zh1 zh2 zh3 => xi_off _ _ _ _ (by omega), fun a _ => by rw [xi_off _ _ _ _ (by omega)]⟩
theorem fst_f {I : XI} {j : Nat} {x : Int32} (h : 16 ≤ j) (zh2 : j < 42) : FSt I (xi I 61 j x) := ⟨fun a zh1 _ _ => xi_off _ _ _ _ zh1, fun a ha => xi_ne _ _ _ _ (by omega)⟩
/-- the crew tried is x, what the text says is gathered, where they stood is kept -/
def MSt (I J : XI) (n : Nat) (c x : CR) (dd P : Nat) (tv : TV) : Prop := FSt I J ∧ MCw J n x dd ∧ SX c x ∧ J 61 34 = nI P ∧ MGa J n c tv P ∧ GMo J n c tv ∧ ∀ r, r < n → J 75 r = nI (c 5 r)
theorem MSt.ri {I J K : XI} {x : CR} (h : MSt I J n c x dd P tv) (hF : FRi J K) : MSt I K n c x dd P tv := ⟨h.1.trans hF.st, hF.cw h.2.1, h.2.2.1, (hF.2 34 (by decide) (by decide)).trans h.2.2.2.1, hF.ga h.2.2.2.2.1, fun o w za1 za2 => by rw [hF.1 74 (by decide)]; exact h.2.2.2.2.2.1 o w za1 za2, fun r hr => by rw [hF.1 75 (by decide)]; exact h.2.2.2.2.2.2 r hr⟩
theorem MSt.f {I J : XI} {x : CR} {j : Nat} {v : Int32} (h : MSt I J n c x dd P tv) (zh1 : 37 ≤ j) (zh2 : j < 42) : MSt I (xi J 61 j v) n c x dd P tv := ⟨h.1.trans (fst_f (by omega) zh2), h.2.1.mv (fun k zh3 _ => xi_off _ _ _ _ (by omega)) (xi_ne _ _ _ _ (by omega)) (xi_ne _ _ _ _ (by omega)), h.2.2.1, (xi_ne _ _ _ _ (by omega)).trans h.2.2.2.1, fun o f w za1 za2 za3 za4 za5 => by rw [xi_off _ _ _ _ (by decide), xi_off _ _ _ _ (by decide)]; exact h.2.2.2.2.1 o f w za1 za2 za3 za4 za5, fun o w za1 za2 => by rw [xi_off _ _ _ _ (by decide)]; exact h.2.2.2.2.2.1 o w za1 za2, fun r hr => by rw [xi_off _ _ _ _ (by decide)]; exact h.2.2.2.2.2.2 r hr⟩
theorem MSt.b {I J : XI} {x : CR} {j : Nat} {v : Int32} (h : MSt I J n c x dd P tv) : MSt I (xi J 76 j v) n c x dd P tv := ⟨h.1.trans (fst_c (Or.inr (Or.inr rfl))), h.2.1.mv (fun k zh3 _ => xi_off _ _ _ _ (by omega)) (by rw [xi_off _ _ _ _ (by decide)]) (by rw [xi_off _ _ _ _ (by decide)]), h.2.2.1, by rw [xi_off _ _ _ _ (by decide)]; exact h.2.2.2.1, fun o f w za1 za2 za3 za4 za5 => by rw [xi_off _ _ _ _ (by decide), xi_off _ _ _ _ (by decide)]; exact h.2.2.2.2.1 o f w za1 za2 za3 za4 za5, fun o w za1 za2 => by rw [xi_off _ _ _ _ (by decide)]; exact h.2.2.2.2.2.1 o w za1 za2, fun r hr => by rw [xi_off _ _ _ _ (by decide)]; exact h.2.2.2.2.2.2 r hr⟩
theorem wfn_set {x : CR} {r p : Nat} (h : wfn x n) (zhp : p < 6) : wfn (setr x 5 r p) n := fun a ha => by
  have zhx := h a ha
  unfold wfr at zhx ⊢
  have ze0 : ∀ w, w ≠ 5 → setr x 5 r p w a = x w a := fun w hw => setr_ne (fun z => hw z.1)
  rw [ze0 0 (by decide), ze0 1 (by decide), ze0 2 (by decide), ze0 3 (by decide), ze0 4 (by decide), ze0 6 (by decide)]
  refine ⟨zhx.1, zhx.2.1, zhx.2.2.1, zhx.2.2.2.1, zhx.2.2.2.2.1, ?_, zhx.2.2.2.2.2.2⟩
  by_cases e : a = r
  · rw [e, setr_at]; exact zhp
  · rw [setr_ne (fun z => e z.2)]; exact zhx.2.2.2.2.2.1
theorem MCw.put {J : XI} {x : CR} {r p : Nat} (h : MCw J n x dd) (zhp : p < 6) : MCw (xi J 70 r (nI p)) n (setr x 5 r p) dd := by
  refine ⟨fun w a hw ha => ?_, by rw [xi_off _ _ _ _ (by decide)]; exact h.2.1, h.2.2.1, by rw [xi_off _ _ _ _ (by decide)]; exact h.2.2.2.1, h.2.2.2.2.1, wfn_set h.2.2.2.2.2 zhp⟩
  unfold ci
  by_cases e : w = 5 ∧ a = r
  · obtain ⟨rfl, rfl⟩ := e
    rw [setr_at]
    exact xi_eq _ _ _ _
  · rw [setr_ne e, xi_ne _ _ _ _ (fun z => e ⟨by omega, z.2⟩)]
    exact h.1 w a hw ha
theorem MSt.put {I J : XI} {x : CR} {r p : Nat} (h : MSt I J n c x dd P tv) (zhp : p < 6) : MSt I (xi J 70 r (nI p)) n c (setr x 5 r p) dd P tv := ⟨h.1.trans (fst_c (Or.inl rfl)), h.2.1.put zhp, h.2.2.1.set, by rw [xi_off _ _ _ _ (by decide)]; exact h.2.2.2.1, fun o f w za1 za2 za3 za4 za5 => by rw [xi_off _ _ _ _ (by decide), xi_off _ _ _ _ (by decide)]; exact h.2.2.2.2.1 o f w za1 za2 za3 za4 za5, fun o w za1 za2 => by rw [xi_off _ _ _ _ (by decide)]; exact h.2.2.2.2.2.1 o w za1 za2, fun r hr => by rw [xi_off _ _ _ _ (by decide)]; exact h.2.2.2.2.2.2 r hr⟩
theorem ag_e {q x : CR} {r : Nat} (h : AG q x r) {w a : Nat} (ha : a < r) : x w a = q w a := by
  by_cases zh5 : w = 5
  · subst zh5; exact h.2 a ha
  · exact congrFun (h.1 w zh5) a
theorem MCw.ag {J : XI} {q x : CR} (h : MCw J n x dd) (hA : AG q x n) : MCw J n q dd := by
  refine ⟨fun w a hw ha => (h.1 w a hw ha).trans (by unfold ci; rw [ag_e hA ha]), h.2.1, h.2.2.1, h.2.2.2.1, h.2.2.2.2.1, fun a ha => ?_⟩
  have zhx := h.2.2.2.2.2 a ha
  unfold wfr at zhx ⊢
  rw [ag_e hA ha, ag_e hA ha, ag_e hA ha, ag_e hA ha, ag_e hA ha, ag_e hA ha, ag_e hA ha] at zhx
  exact zhx
theorem MSt.ag {I J : XI} {q x : CR} (h : MSt I J n c x dd P tv) (hA : AG q x n) (hX : SX c q) : MSt I J n c q dd P tv := ⟨h.1, h.2.1.ag hA, hX, h.2.2.2⟩
theorem ag_aks {q x : CR} {r p : Nat} (h : AG q x r) (zhq : aks (ci q) r = true) : aks (ci (setr x 5 r p)) (r + 1) = oks (ci (setr q 5 r p)) r r := by
  show (aks (ci (setr x 5 r p)) r && oks (ci (setr x 5 r p)) r r) = _
  rw [h.oks, aks_cong (c := ci q) (fun w a _ ha => by unfold ci; rw [setr_ne (by omega), ag_e h ha]), zhq, Bool.true_and]
/-- the best found so far -/
def SRm (J : XI) (n : Nat) : ST → Prop
  | none => J 61 40 = nI 0
  | some z => J 61 40 = nI 1 ∧ J 61 39 = nI z.1 ∧ z.1 ≤ 20000 ∧ ∀ r, r < n → J 76 r = nI (z.2 r)
theorem SRm.mv {I J : XI} {S : ST} (h : SRm I n S) (zh1 : J 61 40 = I 61 40) (zh2 : J 61 39 = I 61 39) (zh3 : J 76 = I 76) : SRm J n S := by
  cases S with
  | none => exact zh1.trans h
  | some z => exact ⟨zh1.trans h.1, zh2.trans h.2.1, h.2.2.1, fun r hr => by rw [zh3]; exact h.2.2.2 r hr⟩
/-- what putsFrom leaves -/
def QPt (S : ST) (n r : Nat) (c q : CR) (dd P : Nat) (tv : TV) (I : XI) (sh : XSh) (R : XRf) (L : XL) : XQ := fun v sh' J R' L' => v = none ∧ sh' = sh ∧ R' = R ∧ L' = L ∧ SRm J n S ∧ ∃ x, MSt I J n c x dd P tv ∧ AG q x r
/-- the places are copied as the best -/
theorem m_best_loop (hg : XG sh R) {q x : CR} {S : ST} {t r0 : Nat} {l2 : Int32} (hA : AG q x r0) (hS : lef c n dd tv q S = some (t, q 5)) (ht : t ≤ 20000) (hP : P = aln n) : ∀ (k i : Nat) (J : XI), i ≤ n → n < i + k → MSt I J n c q dd P tv → MSt I J n c x dd P tv → J 61 40 = nI 1 → J 61 39 = nI t → (∀ a, a < i → J 76 a = nI (q 5 a)) → XV E mX7_putsFrom d 0 0 (QPt (lef c n dd tv q S) n r0 c q dd P tv I sh R L) 0 0 40 [some (.ref 61), some (.int (nI n)), some (.int l2), some (.int (nI i))] [] sh J R L := by
  intro k
  induction k with
  | zero => intro i J zh1 zh2; exact absurd zh2 (by omega)
  | succ k ih =>
    intro i J zh1 zh2 hQ hX h40 h39 hJ
    obtain ⟨hm, hn, hn5, hd, hdd, hw⟩ := hQ.2.1
    refine xv_iload_n (q := 41) rfl dX7_putsFrom_40 rfl rfl ?_
    refine xv_aload_n (q := 42) rfl dX7_putsFrom_41 rfl rfl ?_
    refine xv_geti (q := 45) rfl dX7_putsFrom_42 f_X7_88 (hg.1 _ _ rfl) ?_
    rw [hn]
    refine xv_icmp_ge (q := 48) (t := 66) rfl rfl dX7_putsFrom_45 (fun h45 => ?_) (fun h45 => ?_)
    · have h45 := nIle h45 (by omega) (by omega)
      obtain rfl : i = n := by omega
      refine xv_vret dX7_putsFrom_66 rfl ?_
      exact ⟨rfl, rfl, rfl, rfl, by rw [hS]; exact ⟨h40, h39, ht, hJ⟩, x, hX, hA⟩
    · have h45 : i < n := nInle h45 (by omega) (by omega)
      refine xv_aload_n (q := 49) rfl dX7_putsFrom_48 rfl rfl ?_
      refine xv_geta (q := 52) rfl dX7_putsFrom_49 f_X7_59 (hg.1 _ _ rfl) (hg.2 _ _ _ rfl) ?_
      refine xv_iload_n (q := 53) rfl dX7_putsFrom_52 rfl rfl ?_
      refine xv_aload_n (q := 54) rfl dX7_putsFrom_53 rfl rfl ?_
      refine xv_geta (q := 57) rfl dX7_putsFrom_54 f_X7_41 (hg.1 _ _ rfl) (hg.2 _ _ _ rfl) ?_
      refine xv_iload_n (q := 58) rfl dX7_putsFrom_57 rfl rfl ?_
      refine xv_iald (q := 59) rfl dX7_putsFrom_58 (hg.1 _ _ rfl) rfl (by omega) (by decide) ?_
      refine xv_as (w := nI (q 5 i)) (hm 5 i (by decide) h45) ?_
      refine xv_iast (q := 60) rfl dX7_putsFrom_59 (hg.1 _ _ rfl) rfl (by omega) (by decide) ?_
      refine xv_iinc (q := 63) (v := nI 1) rfl dX7_putsFrom_60 rfl rfl ?_
      refine xv_goto (t := 40) rfl dX7_putsFrom_63 ?_
      rw [nI_add]
      refine ih (i + 1) _ (by omega) (by omega) hQ.b hX.b (by rw [xi_off _ _ _ _ (by decide)]; exact h40) (by rw [xi_off _ _ _ _ (by decide)]; exact h39) (fun a ha => ?_)
      by_cases e : a = i
      · rw [e, xi_eq]
      · rw [xi_ne _ _ _ _ (fun z => e z.2)]; exact hJ a (by omega)
theorem m_best (hg : XG sh R) {q x : CR} {S : ST} {t : Nat} {J J2 : XI} (hA : AG q x n) (hX : SX c q) (hS : lef c n dd tv q S = some (t, q 5)) (ht : t ≤ 20000) (hM : MSt I J n c x dd (aln n) tv) (hF : FRi J J2) : XV E mX7_putsFrom d 0 0 (QPt (lef c n dd tv q S) n n c q dd (aln n) tv I sh R L) 0 0 28 [some (.ref 61), some (.int (nI n)), some (.int (nI t)), none] [] sh J2 R L := by
  have hX2 := (hM.ri hF).f (j := 40) (v := nI 1) (by decide) (by decide)
  have hX3 := hX2.f (j := 39) (v := nI t) (by decide) (by decide)
  refine xv_aload_n (q := 29) rfl dX7_putsFrom_28 rfl rfl ?_
  refine xv_iconst (v := nI 1) (q := 30) rfl dX7_putsFrom_29 rfl ?_
  refine xv_putz (q := 33) rfl dX7_putsFrom_30 f_X7_304 (fun h => by cases h) (hg.1 _ _ rfl) (by decide) ?_
  refine xv_aload_n (q := 34) rfl dX7_putsFrom_33 rfl rfl ?_
  refine xv_iload_n (q := 35) rfl dX7_putsFrom_34 rfl rfl ?_
  refine xv_puti (q := 38) rfl dX7_putsFrom_35 f_X7_307 (fun h => by cases h) (hg.1 _ _ rfl) ?_
  refine xv_iconst (v := nI 0) (q := 39) rfl dX7_putsFrom_38 rfl ?_
  refine xv_istore_n (q := 40) rfl dX7_putsFrom_39 rfl rfl ?_
  exact m_best_loop hg hA hS ht rfl (n + 1) 0 _ (by omega) (by omega) (hX3.ag hA hX) hX3 (by rw [xi_ne _ _ _ _ (by decide), xi_eq]) (xi_eq _ _ _ _) (fun a ha => absurd ha (by omega))
theorem m_put_loop (hg : XG sh R) (hc : ∀ r, r < n → c 5 r < 6) {m r : Nat} {q : CR} {S : ST} (hrn : r < n) (hn5 : n ≤ 5) (hXq : SX c q) (hqa : aks (ci q) r = true)
    (IH : ∀ (q : CR) (S : ST) (J : XI) (x : CR), SX c q → aks (ci q) (r + 1) = true → MSt I J n c x dd (aln n) tv → AG q x (r + 1) → SRm J n S → XC E mX7_putsFrom (d + 6 + m) 0 0 [.ref 61, .int (nI (r + 1))] sh J R L (QPt (srch c n dd tv m (r + 1) q S) n (r + 1) c q dd (aln n) tv I sh R L)) :
    ∀ (k p : Nat) (J : XI) (x : CR), p ≤ 6 → 6 < p + k → MSt I J n c x dd (aln n) tv → AG q x r → SRm J n (itn (fun p S => if oks (ci (setr q 5 r p)) r r = true then srch c n dd tv m (r + 1) (setr q 5 r p) S else S) p S) →
      XV E mX7_putsFrom (d + 6 + (m + 1)) 0 0 (QPt (srch c n dd tv (m + 1) r q S) n r c q dd (aln n) tv I sh R L) 0 0 69 [some (.ref 61), some (.int (nI r)), some (.int (nI p)), none] [] sh J R L := by
  intro k
  induction k with
  | zero => intro p J x zh1 zh2; exact absurd zh2 (by omega)
  | succ k ih =>
    intro p J x zh1 zh2 hX hA hS
    refine xv_iload_n (q := 70) rfl dX7_putsFrom_69 rfl rfl ?_
    refine xv_bipush (v := nI 6) (q := 72) rfl dX7_putsFrom_70 rfl ?_
    refine xv_icmp_ge (q := 75) (t := 105) rfl rfl dX7_putsFrom_72 (fun h72 => ?_) (fun h72 => ?_)
    · have h72 : p = 6 := by have := nIle h72 (by omega) (by omega); omega
      subst h72
      refine xv_vret dX7_putsFrom_105 rfl ?_
      exact ⟨rfl, rfl, rfl, rfl, hS, x, hX, hA⟩
    · have h72 : p < 6 := nInle h72 (by omega) (by omega)
      have hX1 := hX.put (r := r) h72
      have hak := ag_aks (p := p) hA hqa
      refine xv_aload_n (q := 76) rfl dX7_putsFrom_75 rfl rfl ?_
      refine xv_geta (q := 79) rfl dX7_putsFrom_76 f_X7_41 (hg.1 _ _ rfl) (hg.2 _ _ _ rfl) ?_
      refine xv_iload_n (q := 80) rfl dX7_putsFrom_79 rfl rfl ?_
      refine xv_iload_n (q := 81) rfl dX7_putsFrom_80 rfl rfl ?_
      refine xv_iast (q := 82) rfl dX7_putsFrom_81 (hg.1 _ _ rfl) rfl (by omega) (by decide) ?_
      refine xv_aload_n (q := 83) rfl dX7_putsFrom_82 rfl rfl ?_
      refine xv_iload_n (q := 84) rfl dX7_putsFrom_83 rfl rfl ?_
      refine xv_iconst (v := nI 1) (q := 85) rfl dX7_putsFrom_84 rfl ?_
      refine xv_iadd (q := 86) rfl dX7_putsFrom_85 ?_
      refine xv_as (w := nI (r + 1)) (nI_add _ _) ?_
      refine xv_cV1 (z := mX7_areTwo) (q := 89) rfl dX7_putsFrom_86 l_X7_101 gX7_areTwo (hg.1 _ _ rfl) rfl rfl rfl (m_two (d := d) hg (q := setr x 5 r p) (m := r + 1) (fun w a hw ha => hX1.2.1.1 w a hw (by omega)) (by omega)) (by omega) ?_
      rw [hak]
      refine xv_if_ne (q := 92) (t := 99) rfl rfl dX7_putsFrom_89 (fun h89 => ?_) (fun h89 => ?_)
      · have h89 : oks (ci (setr q 5 r p)) r r = false := by have := bIn h89; rw [Bool.not_eq_true'] at this; exact this
        refine xv_iinc (q := 102) (v := nI 1) rfl dX7_putsFrom_99 rfl rfl ?_
        refine xv_goto (t := 69) rfl dX7_putsFrom_102 ?_
        rw [nI_add]
        refine ih (p + 1) _ _ (by omega) (by omega) hX1 (hA.trans AG.set) ?_
        rw [show itn (fun p S => if oks (ci (setr q 5 r p)) r r = true then srch c n dd tv m (r + 1) (setr q 5 r p) S else S) (p + 1) S = itn (fun p S => if oks (ci (setr q 5 r p)) r r = true then srch c n dd tv m (r + 1) (setr q 5 r p) S else S) p S from if_neg (by rw [h89]; decide)]
        exact hS.mv (by rw [xi_off _ _ _ _ (by decide)]) (by rw [xi_off _ _ _ _ (by decide)]) (xi_off _ _ _ _ (by decide))
      · have h89 : oks (ci (setr q 5 r p)) r r = true := by have := bIz h89; rw [Bool.not_eq_false'] at this; exact this
        refine xv_aload_n (q := 93) rfl dX7_putsFrom_92 rfl rfl ?_
        refine xv_iload_n (q := 94) rfl dX7_putsFrom_93 rfl rfl ?_
        refine xv_iconst (v := nI 1) (q := 95) rfl dX7_putsFrom_94 rfl ?_
        refine xv_iadd (q := 96) rfl dX7_putsFrom_95 ?_
        refine xv_as (w := nI (r + 1)) (nI_add _ _) ?_
        refine xv_rV1 (z := mX7_putsFrom) (q := 99) rfl dX7_putsFrom_96 l_X7_310 gX7_putsFrom (hg.1 _ _ rfl) rfl rfl rfl (IH (setr q 5 r p) _ _ _ hXq.set (by show (aks (ci (setr q 5 r p)) r && oks (ci (setr q 5 r p)) r r) = true; rw [h89, aks_cong (c := ci q) (fun w a _ ha => by unfold ci; rw [setr_ne (by omega)]), hqa]; rfl) hX1 hA.nx (hS.mv (by rw [xi_off _ _ _ _ (by decide)]) (by rw [xi_off _ _ _ _ (by decide)]) (xi_off _ _ _ _ (by decide)))) (by omega) ?_
        rintro _ _ J2 _ _ ⟨rfl, rfl, rfl, rfl, hS2, x2, hX2, hA2⟩
        refine xv_iinc (q := 102) (v := nI 1) rfl dX7_putsFrom_99 rfl rfl ?_
        refine xv_goto (t := 69) rfl dX7_putsFrom_102 ?_
        rw [nI_add]
        refine ih (p + 1) _ _ (by omega) (by omega) hX2 (AG.trans AG.set (hA2.le (by omega))) ?_
        rw [show itn (fun p S => if oks (ci (setr q 5 r p)) r r = true then srch c n dd tv m (r + 1) (setr q 5 r p) S else S) (p + 1) S = srch c n dd tv m (r + 1) (setr q 5 r p) (itn (fun p S => if oks (ci (setr q 5 r p)) r r = true then srch c n dd tv m (r + 1) (setr q 5 r p) S else S) p S) from if_pos h89]
        exact hS2
theorem m_puts (hg : XG sh R) (hc : ∀ r, r < n → c 5 r < 6) (hn5 : n ≤ 5) : ∀ (m r : Nat) (q : CR) (S : ST) (J : XI) (x : CR), r + m = n → SX c q → aks (ci q) r = true → MSt I J n c x dd (aln n) tv → AG q x r → SRm J n S → XC E mX7_putsFrom (d + 6 + m) 0 0 [.ref 61, .int (nI r)] sh J R L (QPt (srch c n dd tv m r q S) n r c q dd (aln n) tv I sh R L) := by
  intro m
  induction m with
  | zero =>
    intro r q S J x hr hX hqa hM hA hS
    obtain rfl : r = n := hr
    have hMq := hM.ag hA hX
    obtain ⟨hm, hn, -, hd, hdd, hw⟩ := hMq.2.1
    have hrd := rdc_le (dd := dd) (P := aln r) (tv := tv) (c := q) (n := r) (fun a ha => (hw a ha).2.2.1) hn5
    have hmv := mvs_le (c := c) (tv := tv) (q := q) r
    show XC E mX7_putsFrom (d + 6 + 0) 0 0 [.ref 61, .int (nI r)] sh J R L (QPt (lef c r dd tv q S) r r c q dd (aln r) tv I sh R L)
    refine XC.of (by decide) rfl rfl ?_
    refine xv_iload_n (q := 1) rfl dX7_putsFrom_0 rfl rfl ?_
    refine xv_aload_n (q := 2) rfl dX7_putsFrom_1 rfl rfl ?_
    refine xv_geti (q := 5) rfl dX7_putsFrom_2 f_X7_88 (hg.1 _ _ rfl) ?_
    rw [hn]
    refine xv_icmp_ne (q := 8) (t := 67) rfl rfl dX7_putsFrom_5 (fun zh5 => ?_) (fun zh5 => ?_)
    · exact absurd rfl zh5
    · refine xv_aload_n (q := 9) rfl dX7_putsFrom_8 rfl rfl ?_
      refine xv_rV0 (z := mX7_costOfStanding) (q := 12) rfl dX7_putsFrom_9 l_X7_301 gX7_costOfStanding (hg.1 _ _ rfl) rfl rfl rfl (m_cos (d := d) hg hMq.2.1 hMq.2.2.2.1 (all_32 hn5) (hMq.2.2.2.2.1.sx hX) hMq.2.2.2.2.2.1 hMq.2.2.2.2.2.2 hc) (by omega) ?_
      rintro _ _ J2 _ _ ⟨rfl, rfl, rfl, rfl, hF2⟩
      have hS2 : SRm J2 r S := hS.mv (hF2.2 40 (by decide) (by decide)) (hF2.2 39 (by decide) (by decide)) (hF2.1 76 (by decide))
      refine xv_istore_n (q := 13) rfl dX7_putsFrom_12 rfl rfl ?_
      refine xv_aload_n (q := 14) rfl dX7_putsFrom_13 rfl rfl ?_
      refine xv_getz (q := 17) rfl dX7_putsFrom_14 f_X7_304 (hg.1 _ _ rfl) ?_
      cases S with
      | none =>
        rw [show J2 61 40 = nI 0 from hS2]
        refine xv_if_eq (q := 20) (t := 28) rfl rfl dX7_putsFrom_17 (fun _ => ?_) (fun z => absurd rfl z)
        refine m_best (d := d + 6) hg hA hX (show lef c r dd tv q none = some (_, q 5) from rfl) (by omega) hM hF2
      | some z =>
        rw [show J2 61 40 = nI 1 from hS2.1]
        refine xv_if_eq (q := 20) (t := 28) rfl rfl dX7_putsFrom_17 (fun z => absurd z (by decide)) (fun _ => ?_)
        refine xv_iload_n (q := 21) rfl dX7_putsFrom_20 rfl rfl ?_
        refine xv_aload_n (q := 22) rfl dX7_putsFrom_21 rfl rfl ?_
        refine xv_geti (q := 25) rfl dX7_putsFrom_22 f_X7_307 (hg.1 _ _ rfl) ?_
        rw [hS2.2.1]
        have hz2 := hS2.2.2.1
        refine xv_icmp_ge (q := 28) (t := 66) rfl rfl dX7_putsFrom_25 (fun h25 => ?_) (fun h25 => ?_)
        · have h25 := nIle h25 (by omega) (by omega)
          refine xv_vret dX7_putsFrom_66 rfl ?_
          refine ⟨rfl, rfl, rfl, rfl, ?_, x, hM.ri hF2, hA⟩
          rw [show lef c r dd tv q (some z) = some z from if_neg (by omega)]
          exact hS2
        · have h25 := nInle h25 (by omega) (by omega)
          exact m_best (d := d + 6) hg hA hX (show lef c r dd tv q (some z) = some (_, q 5) from if_pos h25) (by omega) hM hF2
  | succ m ih =>
    intro r q S J x hr hX hqa hM hA hS
    refine XC.of (by decide) rfl rfl ?_
    refine xv_iload_n (q := 1) rfl dX7_putsFrom_0 rfl rfl ?_
    refine xv_aload_n (q := 2) rfl dX7_putsFrom_1 rfl rfl ?_
    refine xv_geti (q := 5) rfl dX7_putsFrom_2 f_X7_88 (hg.1 _ _ rfl) ?_
    rw [hM.2.1.2.1]
    refine xv_icmp_ne (q := 8) (t := 67) rfl rfl dX7_putsFrom_5 (fun zh5 => ?_) (fun zh5 => ?_)
    · refine xv_iconst (v := nI 0) (q := 68) rfl dX7_putsFrom_67 rfl ?_
      refine xv_istore_n (q := 69) rfl dX7_putsFrom_68 rfl rfl ?_
      exact m_put_loop (d := d) hg hc (by omega) hn5 hX hqa (fun q S J x zh1 zh2 zh3 zh4 zh5 => ih (r + 1) q S J x (by omega) zh1 zh2 zh3 zh4 zh5) 7 0 J x (by omega) (by omega) hM hA hS
    · exact absurd ((nI_eq (by omega) (by omega)).mp zh5) (by omega)
end MPUT

/-! is it as was asked -/
section LIKE
variable {E : XE} {d a b n : Nat} {sh : XSh} {I : XI} {R : XRf} {L : XL}
/-- the rows below w (by the numbers of told()) are alike -/
def LKr (I : XI) (a b n w : Nat) : Prop := ∀ v r, v < w → r < n → I (a + 1 + rwo v) r = I (b + 1 + rwo v) r
def LKi (I : XI) (a b n w m : Nat) : Prop := LKr I a b n w ∧ ∀ r, r < m → I (a + 1 + rwo w) r = I (b + 1 + rwo w) r
theorem LKi.up {w : Nat} (h : LKi I a b n w n) : LKr I a b n (w + 1) := fun v r hv hr => by
  by_cases e : v = w
  · subst e; exact h.2 r hr
  · exact h.1 v r (by omega) hr
/-- what isLike leaves: nothing has changed; if it says so, all is alike -/
def QLk (I0 : XI) (a b n : Nat) (sh : XSh) (R : XRf) (L : XL) : XQ := fun v sh' J R' L' => sh' = sh ∧ J = I0 ∧ R' = R ∧ L' = L ∧ ∃ q : Bool, v = some (.int (bI q)) ∧ (q = true → I0 a 7 = I0 b 7 ∧ I0 a 8 = I0 b 8 ∧ I0 a 9 = I0 b 9 ∧ ∀ w r, w < 7 → r < n → I0 (a + 1 + w) r = I0 (b + 1 + w) r)
theorem QLk.no : QLk I a b n sh R L (some (.int (nI 0))) sh I R L := ⟨rfl, rfl, rfl, rfl, false, rfl, fun h => by cases h⟩
theorem c_like_in (ha : XCr sh R a) (zhb : XCr sh R b) (hn : I a 7 = nI n) (hn5 : n ≤ 5) {w : Nat} (hw : w < 7) (KK : LKr I a b n (w + 1) → ∀ l3, XV E mX0_isLike (d + 1) 0 0 (QLk I a b n sh R L) 0 0 83 [some (.ref a), some (.ref b), some (.int (nI w)), l3] [] sh I R L) :
    ∀ (k r : Nat), r ≤ n → n < r + k → LKi I a b n w r → XV E mX0_isLike (d + 1) 0 0 (QLk I a b n sh R L) 0 0 45 [some (.ref a), some (.ref b), some (.int (nI w)), some (.int (nI r))] [] sh I R L := by
  intro k
  induction k with
  | zero => intro r zh1 zh2; exact absurd zh2 (by omega)
  | succ k ih =>
    intro r zh1 zh2 hL
    refine xv_iload_n (q := 46) rfl dX0_isLike_45 rfl rfl ?_
    refine xv_aload_n (q := 47) rfl dX0_isLike_46 rfl rfl ?_
    refine xv_geti (q := 50) rfl dX0_isLike_47 f_X0_47 ha.1 ?_
    rw [hn]
    refine xv_icmp_ge (q := 53) (t := 83) rfl rfl dX0_isLike_50 (fun h50 => ?_) (fun h50 => ?_)
    · have hrn : r = n := by have := nIle h50 (by omega) (by omega); omega
      rw [hrn] at hL
      exact KK hL.up _
    · have hrn : r < n := nInle h50 (by omega) (by omega)
      refine xv_iload_n (q := 54) rfl dX0_isLike_53 rfl rfl ?_
      refine xv_iconst (v := nI 5) (q := 55) rfl dX0_isLike_54 rfl ?_
      refine xv_icmp_ge (q := 58) (t := 83) rfl rfl dX0_isLike_55 (fun h55 => ?_) (fun h55 => ?_)
      · exact absurd (nIle h55 (by omega) (by omega)) (by omega)
      · refine xv_aload_n (q := 59) rfl dX0_isLike_58 rfl rfl ?_
        refine xv_iload_n (q := 60) rfl dX0_isLike_59 rfl rfl ?_
        refine xv_cV1 (z := mX0_rowOf) (q := 63) rfl dX0_isLike_60 l_X0_37 gX0_rowOf ha.1 rfl rfl rfl (c_rowOf (d := d) ha hw) (by omega) ?_
        refine xv_iload_n (q := 64) rfl dX0_isLike_63 rfl rfl ?_
        refine xv_iald (q := 65) rfl dX0_isLike_64 (ha.2 _ (rwo_lt hw)).2 rfl (by omega) (by decide) ?_
        refine xv_aload_n (q := 66) rfl dX0_isLike_65 rfl rfl ?_
        refine xv_iload_n (q := 67) rfl dX0_isLike_66 rfl rfl ?_
        refine xv_cV1 (z := mX0_rowOf) (q := 70) rfl dX0_isLike_67 l_X0_37 gX0_rowOf zhb.1 rfl rfl rfl (c_rowOf (d := d) zhb hw) (by omega) ?_
        refine xv_iload_n (q := 71) rfl dX0_isLike_70 rfl rfl ?_
        refine xv_iald (q := 72) rfl dX0_isLike_71 (zhb.2 _ (rwo_lt hw)).2 rfl (by omega) (by decide) ?_
        refine xv_icmp_eq (q := 75) (t := 77) rfl rfl dX0_isLike_72 (fun h72 => ?_) (fun h72 => ?_)
        · refine xv_iinc (q := 80) (v := nI 1) rfl dX0_isLike_77 rfl rfl ?_
          refine xv_goto (t := 45) rfl dX0_isLike_80 ?_
          rw [nI_add]
          exact ih (r + 1) (by omega) (by omega) ⟨hL.1, fun s zhs => by
            by_cases e : s = r
            · subst e; exact h72
            · exact hL.2 s (by omega)⟩
        · refine xv_iconst (v := nI 0) (q := 76) rfl dX0_isLike_75 rfl ?_
          refine xv_zret (ty := .boolean) dX0_isLike_76 rfl rfl ?_
          exact QLk.no
theorem c_like_out (ha : XCr sh R a) (zhb : XCr sh R b) (hn : I a 7 = nI n) (hn5 : n ≤ 5) (ze7 : I a 7 = I b 7) (ze8 : I a 8 = I b 8) (ze9 : I a 9 = I b 9) :
    ∀ (k w : Nat) (l3 : Option Value), w ≤ 7 → 7 < w + k → LKr I a b n w → XV E mX0_isLike (d + 1) 0 0 (QLk I a b n sh R L) 0 0 37 [some (.ref a), some (.ref b), some (.int (nI w)), l3] [] sh I R L := by
  intro k
  induction k with
  | zero => intro w l3 zh1 zh2; exact absurd zh2 (by omega)
  | succ k ih =>
    intro w l3 zh1 zh2 hL
    refine xv_iload_n (q := 38) rfl dX0_isLike_37 rfl rfl ?_
    refine xv_bipush (v := nI 6) (q := 40) rfl dX0_isLike_38 rfl ?_
    refine xv_icmp_gt (q := 43) (t := 89) rfl rfl dX0_isLike_40 (fun h40 => ?_) (fun h40 => ?_)
    · have hw7 : w = 7 := by have := nIlt h40 (by omega) (by omega); omega
      refine xv_iconst (v := nI 1) (q := 90) rfl dX0_isLike_89 rfl ?_
      refine xv_zret (ty := .boolean) dX0_isLike_90 rfl rfl ?_
      subst hw7
      refine ⟨rfl, rfl, rfl, rfl, true, rfl, fun _ => ⟨ze7, ze8, ze9, fun w r hw hr => ?_⟩⟩
      obtain ⟨v, hv, rfl⟩ := rwo_sur hw
      exact hL v r hv hr
    · have hw7 : w < 7 := by have := nInlt h40 (by omega) (by omega); omega
      refine xv_iconst (v := nI 0) (q := 44) rfl dX0_isLike_43 rfl ?_
      refine xv_istore_n (q := 45) rfl dX0_isLike_44 rfl rfl ?_
      refine c_like_in (d := d) ha zhb hn hn5 hw7 (fun hL2 zm3 => ?_) (n + 1) 0 (by omega) (by omega) ⟨hL, fun r hr => absurd hr (Nat.not_lt_zero r)⟩
      refine xv_iinc (q := 86) (v := nI 1) rfl dX0_isLike_83 rfl rfl ?_
      refine xv_goto (t := 37) rfl dX0_isLike_86 ?_
      rw [nI_add]
      exact ih (w + 1) zm3 (by omega) (by omega) hL2
/-- isLike(other) -/
theorem c_isLike (ha : XCr sh R a) (zhb : XCr sh R b) (hn : I a 7 = nI n) (hn5 : n ≤ 5) : XC E mX0_isLike (d + 1) 0 0 [.ref a, .ref b] sh I R L (QLk I a b n sh R L) := by
  refine XC.of (by decide) rfl rfl ?_
  refine xv_aload_n (q := 1) rfl dX0_isLike_0 rfl rfl ?_
  refine xv_geti (q := 4) rfl dX0_isLike_1 f_X0_47 ha.1 ?_
  refine xv_aload_n (q := 5) rfl dX0_isLike_4 rfl rfl ?_
  refine xv_geti (q := 8) rfl dX0_isLike_5 f_X0_47 zhb.1 ?_
  refine xv_icmp_ne (q := 11) (t := 33) rfl rfl dX0_isLike_8 (fun zh8 => ?_) (fun zh8 => ?_)
  · refine xv_iconst (v := nI 0) (q := 34) rfl dX0_isLike_33 rfl ?_
    refine xv_zret (ty := .boolean) dX0_isLike_34 rfl rfl ?_
    exact QLk.no
  · refine xv_aload_n (q := 12) rfl dX0_isLike_11 rfl rfl ?_
    refine xv_geti (q := 15) rfl dX0_isLike_12 f_X0_33 ha.1 ?_
    refine xv_aload_n (q := 16) rfl dX0_isLike_15 rfl rfl ?_
    refine xv_geti (q := 19) rfl dX0_isLike_16 f_X0_33 zhb.1 ?_
    refine xv_icmp_ne (q := 22) (t := 33) rfl rfl dX0_isLike_19 (fun h19 => ?_) (fun h19 => ?_)
    · refine xv_iconst (v := nI 0) (q := 34) rfl dX0_isLike_33 rfl ?_
      refine xv_zret (ty := .boolean) dX0_isLike_34 rfl rfl ?_
      exact QLk.no
    · refine xv_aload_n (q := 23) rfl dX0_isLike_22 rfl rfl ?_
      refine xv_geti (q := 26) rfl dX0_isLike_23 f_X0_50 ha.1 ?_
      refine xv_aload_n (q := 27) rfl dX0_isLike_26 rfl rfl ?_
      refine xv_geti (q := 30) rfl dX0_isLike_27 f_X0_50 zhb.1 ?_
      refine xv_icmp_eq (q := 33) (t := 35) rfl rfl dX0_isLike_30 (fun h30 => ?_) (fun h30 => ?_)
      · refine xv_iconst (v := nI 0) (q := 36) rfl dX0_isLike_35 rfl ?_
        refine xv_istore_n (q := 37) rfl dX0_isLike_36 rfl rfl ?_
        exact c_like_out ha zhb hn hn5 zh8 h19 h30 8 0 none (by omega) (by omega) (fun v r hv _ => absurd hv (Nat.not_lt_zero v))
      · refine xv_iconst (v := nI 0) (q := 34) rfl dX0_isLike_33 rfl ?_
        refine xv_zret (ty := .boolean) dX0_isLike_34 rfl rfl ?_
        exact QLk.no
end LIKE
/-! find, stand, stands -/
/-- what the seeker keeps is right, if it keeps anything -/
def KFd (I : XI) (n : Nat) (c : CR) (dd : Nat) (tv : TV) : Prop := I 40 1 = nI 1 ∧ I 40 2 = nI (sct c n dd tv) ∧ ∀ r, r < n → I 49 r = nI (spl c n dd tv r)
/-- no rider, no number -/
def nrm (n : Nat) (c : CR) : Prop := ∀ w r, ¬ (w < 7 ∧ r < n) → c w r = 0
def KF (I : XI) (tc : Nat) (tx : TXS) : Prop := I 40 1 = nI 0 ∨ ∃ n c dd u, u < tc ∧ KXa I n c dd u ∧ nrm n c ∧ KFd I n c dd (tvx tx u)
theorem wfr_100 {c : CR} {r w : Nat} (h : wfr c r) (hw : w < 7) : c w r ≤ 100 := by
  obtain ⟨zh0, zh1, zh2, zh3, zh4, zh5, zh6, zh7⟩ := h
  rcases w7 hw with rfl | rfl | rfl | rfl | rfl | rfl | rfl <;> omega
theorem KXa.mv {I J : XI} {n : Nat} {c : CR} {dd u : Nat} (h : KXa I n c dd u) (hJ : ∀ k, 41 ≤ k → k < 49 → J k = I k) : KXa J n c dd u :=
  ⟨fun w r hw hr => by rw [hJ _ (by omega) (by omega)]; exact h.1 w r hw hr, by rw [hJ 41 (by decide) (by decide)]; exact h.2.1, h.2.2.1, by rw [hJ 41 (by decide) (by decide)]; exact h.2.2.2.1, h.2.2.2.2.1, by rw [hJ 41 (by decide) (by decide)]; exact h.2.2.2.2.2.1, h.2.2.2.2.2.2⟩
theorem KFd.mv {I J : XI} {n : Nat} {c : CR} {dd : Nat} {tv : TV} (h : KFd I n c dd tv) (h40 : J 40 = I 40) (h49 : J 49 = I 49) : KFd J n c dd tv := ⟨by rw [h40]; exact h.1, by rw [h40]; exact h.2.1, fun r hr => by rw [h49]; exact h.2.2 r hr⟩
theorem KF.mv {I J : XI} {tc : Nat} {tx : TXS} (h : KF I tc tx) (hJ : ∀ k, 40 ≤ k → k < 50 → J k = I k) : KF J tc tx := by
  have e40 := hJ 40 (by decide) (by decide)
  rcases h with h | ⟨n, c, dd, u, hu, zh1, zh2, zh3⟩
  · exact Or.inl (by rw [e40]; exact h)
  · exact Or.inr ⟨n, c, dd, u, hu, zh1.mv (fun k zk1 zk2 => hJ k (by omega) (by omega)), zh2, zh3.mv e40 (hJ 49 (by decide) (by decide))⟩
section FIND
variable {E : XE} {d : Nat} {sh : XSh} {I : XI} {R : XRf} {L : XL} {n dd u tc : Nat} {c : CR} {tx : TXS} {tv : TV} {t : Nat}
def F42 (I J : XI) : Prop := (∀ k, (k < 24 ∨ 50 ≤ k) → J k = I k)
def QFd (n : Nat) (c : CR) (dd u : Nat) (tv : TV) (sh : XSh) (I : XI) (R : XRf) (L : XL) : XQ := fun v sh' J R' L' => v = none ∧ sh' = sh ∧ R' = R ∧ L' = L ∧ KFd J n c dd tv ∧ KXa J n c dd u ∧ F42 I J
/-- what is asked is found anew -/
theorem c_find_new (hg : XG sh R) (hT : TR I n c dd (aln n)) (hP : TP I n c (aln n) tv) (hK : KT sh I R t tv) (hr3 : R 23 1 = some t) (hu9 : I 24 9 = nI u) (hwf : wfc c n) : XV E mX2_find (d + 10) 0 0 (QFd n c dd u tv sh I R L) 0 0 22 [some (.ref 40), some (.ref 23)] [] sh I R L := by
  obtain ⟨⟨hm, hn, hn5, hwn⟩, hd8, hd2, hTB, hTS, hT32⟩ := id hT
  refine xv_aload_n (q := 23) rfl dX2_find_22 rfl rfl ?_
  refine xv_geto (q := 26) rfl dX2_find_23 f_X2_12 (hg.1 _ _ rfl) (hg.2 _ _ _ rfl) ?_
  refine xv_aload_n (q := 27) rfl dX2_find_26 rfl rfl ?_
  refine xv_geto (q := 30) rfl dX2_find_27 f_X2_26 (hg.1 _ _ rfl) (hg.2 _ _ _ rfl) ?_
  refine xv_rV1 (z := mX0_become) (q := 33) rfl dX2_find_30 l_X2_35 gX0_become (hg.1 _ _ rfl) rfl rfl rfl (c_become (d := d + 8) (xg_asked hg) (xg_crew hg (a := 24) (Or.inr (Or.inr rfl))) (Or.inr (by decide))) (by omega) ?_
  rintro _ sh J R L ⟨rfl, rfl, rfl, rfl, zg1, zg2, zg3, zg4, zg5⟩
  have hA : KXa J n c dd u := ⟨fun w r hw hr => by rw [zg1 w r hw (by omega)]; exact hm w r hw hr, by rw [zg2]; exact hn, hn5, by rw [zg3]; exact hd8, hd2, by rw [zg4]; exact hu9, hwf⟩
  have hTJ : TR J n c dd (aln n) := ⟨hT.1.mv (fun k zh1 zh2 => zg5 k (by omega)), by rw [zg5 24 (by decide)]; exact hd8, hd2, hTB.mv (zg5 _ (by decide)) (zg5 _ (by decide)), hTS.mv (zg5 _ (by decide)) (zg5 _ (by decide)) (zg5 _ (by decide)), hT32⟩
  have hPJ : TP J n c (aln n) tv := hP.mv (zg5 _ (by decide))
  have hKT : KT sh J R t tv := hK.mv (fun k hk => zg5 k (by unfold txc at hk; omega)) (fun _ _ => rfl)
  refine xv_aload_n (q := 34) rfl dX2_find_33 rfl rfl ?_
  refine xv_aload_n (q := 35) rfl dX2_find_34 rfl rfl ?_
  refine xv_rV0 (z := mX5_cost) (q := 38) rfl dX2_find_35 l_X2_39 gX5_cost (hg.1 _ _ rfl) rfl rfl rfl (c_cost (d := d + 5) hg hTJ hKT hr3 hPJ) (by omega) ?_
  rintro _ sh K R L ⟨rfl, rfl, rfl, rfl, zb1, zb2⟩
  refine xv_iconst (v := nI 1) (q := 39) rfl dX2_find_38 rfl ?_
  refine xv_iadd (q := 40) rfl dX2_find_39 ?_
  refine xv_as (w := nI (rdc c n dd (aln n) tv + 1)) (nI_add _ _) ?_
  refine xv_puti (q := 43) rfl dX2_find_40 f_X2_43 (fun h => by cases h) (hg.1 _ _ rfl) ?_
  have hrl := rdc_le (dd := dd) (P := aln n) (tv := tv) (c := c) (n := n) (fun r hr => (hwf.1 r hr).2.2.1) hn5
  have hTK := hTJ.mv zb1
  have hAK : KXa (xi K 40 2 (nI (rdc c n dd (aln n) tv + 1))) n c dd u := hA.mv (fun k zk1 zk2 => (xi_off _ _ _ _ (by omega)).trans (zb1 k (by omega) (by omega) (by omega)))
  have hG : SGk (xi K 40 2 (nI (rdc c n dd (aln n) tv + 1))) (xi K 40 2 (nI (rdc c n dd (aln n) tv + 1))) n c c dd (aln n) tv :=
    ⟨fun _ _ => rfl, fun _ _ => rfl, hTK.tw.mv (fun k zh1 zh2 => xi_off _ _ _ _ (by omega)), SX.rf, hTK.2.2.2.2.1.mv (xi_off _ _ _ _ (by decide)) (xi_off _ _ _ _ (by decide)) (xi_off _ _ _ _ (by decide)), hTK.2.2.2.2.2, zb2.mv (xi_off _ _ _ _ (by decide))⟩
  have hKTK : KT sh (xi K 40 2 (nI (rdc c n dd (aln n) tv + 1))) R t tv := hKT.mv (fun k hk => (xi_off _ _ _ _ (by unfold txc at hk; omega)).trans (zb1 k (by unfold txc at hk; omega) (by unfold txc at hk; omega) (by unfold txc at hk; omega))) (fun _ _ => rfl)
  have hput := c_putFrom (E := E) (d := d + (5 - n)) (L := L) hg hAK hKTK hr3 (T0 := rdc c n dd (aln n) tv + 1) (by omega) n 0 c none _ c (by omega) SX.rf hG ⟨SX.rf, fun _ _ => rfl⟩ (fun a ha => absurd ha (Nat.not_lt_zero a)) ⟨xi_eq _ _ _ _, fun z zhz => by cases zhz⟩
  refine xv_aload_n (q := 44) rfl dX2_find_43 rfl rfl ?_
  refine xv_aload_n (q := 45) rfl dX2_find_44 rfl rfl ?_
  refine xv_iconst (v := nI 0) (q := 46) rfl dX2_find_45 rfl ?_
  refine xv_iconst (v := nI 0) (q := 47) rfl dX2_find_46 rfl ?_
  refine xv_rV3 (z := mX2_putFrom) (q := 50) rfl dX2_find_47 l_X2_47 gX2_putFrom (hg.1 _ _ rfl) rfl rfl rfl (hput) (by omega) ?_
  rintro _ sh M R L ⟨rfl, rfl, rfl, rfl, zm1, x, zm2, zm3, zm4⟩
  refine xv_aload_n (q := 51) rfl dX2_find_50 rfl rfl ?_
  refine xv_iconst (v := nI 1) (q := 52) rfl dX2_find_51 rfl ?_
  refine xv_putz (q := 55) rfl dX2_find_52 f_X2_22 (fun h => by cases h) (hg.1 _ _ rfl) (by decide) ?_
  refine xv_vret dX2_find_55 rfl ?_
  obtain ⟨z, zs1, zs2, zs3, s4⟩ := sres_some (dd := dd) (tv := tv) hwf.1 hwf.2
  have hz0 : z.1 < rdc c n dd (aln n) tv + 1 := by omega
  refine ⟨rfl, rfl, rfl, rfl, ⟨xi_eq _ _ _ _, ?_, fun r hr => ?_⟩, hAK.mv (fun k zk1 zk2 => (xi_off _ _ _ _ (by omega)).trans (zm2.1 k (by omega))), fun k hk => ?_⟩
  · rw [xi_ne _ _ _ _ (by omega), zm1.1, show srch c n dd tv n 0 c none = some z from zs1, zs3]
    show nI (if _ then _ else _) = _
    rw [if_pos hz0]
  · rw [xi_off _ _ _ _ (by decide), s4]
    exact zm1.2 z zs1 hz0 r hr
  · rw [xi_off _ _ _ _ (by omega), zm2.1 k (by omega), xi_off _ _ _ _ (by omega), zb1 k (by omega) (by omega) (by omega)]
    exact zg5 k (by omega)
theorem c_find (hg : XG sh R) (hT : TR I n c dd (aln n)) (hP : TP I n c (aln n) (tvx tx u)) (hK : KT sh I R t (tvx tx u)) (hr3 : R 23 1 = some t) (hu9 : I 24 9 = nI u) (hwf : wfc c n) (hN : nrm n c) (hu : u < tc) (htc : tc ≤ 6) (hF : KF I tc tx) : XC E mX2_find (d + 10) 0 0 [.ref 40, .ref 23] sh I R L (QFd n c dd u (tvx tx u) sh I R L) := by
  refine XC.of (by decide) rfl rfl ?_
  refine xv_aload_n (q := 1) rfl dX2_find_0 rfl rfl ?_
  refine xv_getz (q := 4) rfl dX2_find_1 f_X2_22 (hg.1 _ _ rfl) ?_
  refine xv_if_eq (q := 7) (t := 22) rfl rfl dX2_find_4 (fun zh4 => ?_) (fun zh4 => ?_)
  · exact c_find_new hg hT hP hK hr3 hu9 hwf
  · obtain ⟨n2, zc2, dd2, u2, hu2, hA2, hN2, hD2⟩ := hF.resolve_left zh4
    refine xv_aload_n (q := 8) rfl dX2_find_7 rfl rfl ?_
    refine xv_geto (q := 11) rfl dX2_find_8 f_X2_12 (hg.1 _ _ rfl) (hg.2 _ _ _ rfl) ?_
    refine xv_aload_n (q := 12) rfl dX2_find_11 rfl rfl ?_
    refine xv_geto (q := 15) rfl dX2_find_12 f_X2_26 (hg.1 _ _ rfl) (hg.2 _ _ _ rfl) ?_
    refine xv_rV1 (z := mX0_isLike) (q := 18) rfl dX2_find_15 l_X2_31 gX0_isLike (hg.1 _ _ rfl) rfl rfl rfl (c_isLike (d := d + 8) (n := n2) (xg_asked hg) (xg_crew hg (a := 24) (Or.inr (Or.inr rfl))) hA2.2.1 hA2.2.2.1) (by omega) ?_
    rintro _ sh I R L ⟨rfl, rfl, rfl, rfl, q, rfl, zhq⟩
    refine xv_if_eq (q := 21) (t := 22) rfl rfl dX2_find_18 (fun h18 => ?_) (fun h18 => ?_)
    · exact c_find_new hg hT hP hK hr3 hu9 hwf
    · have zhq := zhq (bIn h18)
      refine xv_vret dX2_find_21 rfl ?_
      obtain ⟨⟨hm, hn, hn5, hwn⟩, hd8, hd2, -⟩ := id hT
      obtain ⟨am, an, an5, ad, ad2, au, awf⟩ := id hA2
      obtain ⟨zq7, zq8, zq9, qr⟩ := zhq
      have en : n2 = n := nIe (an.symm.trans (zq7.trans hn)) (by omega) (by omega)
      have ed : dd2 = dd := nIe (ad.symm.trans (zq8.trans hd8)) (by omega) (by omega)
      have eu : u2 = u := nIe (au.symm.trans (zq9.trans hu9)) (by omega) (by omega)
      subst en; subst ed; subst eu
      have ec : zc2 = c := by
        funext w r
        by_cases h : w < 7 ∧ r < n2
        · have ze1 := (am w r h.1 h.2).symm.trans ((qr w r h.1 h.2).trans (hm w r h.1 h.2))
          have zb1 := wfr_100 (awf.1 r h.2) h.1
          have zb2 := wfr_100 (hwf.1 r h.2) h.1
          exact nIe ze1 (by omega) (by omega)
        · rw [hN w r h, hN2 w r h]
      subst ec
      exact ⟨rfl, rfl, rfl, rfl, hD2, hA2, fun _ _ => rfl⟩
/-- the seeker's frame: what was found is kept -/
def QSd (v0 : Int32) (tc : Nat) (tx : TXS) (sh : XSh) (I : XI) (R : XRf) (L : XL) : XQ := fun v sh' J R' L' => v = some (.int v0) ∧ sh' = sh ∧ RT R R' ∧ L' = L ∧ KF J tc tx ∧ F42 I J
theorem x_stand (hg : XG sh R) (hK : KXc I n c dd u) (hT : KTs sh I R tc tx) (hu : u < tc) (hN : nrm n c) (hF : KF I tc tx) (w : Int32) : XC E mX6_stand (d + 11) 0 0 [.ref 0, .int w] sh I R L (QSd (sp_stand n c dd (tvx tx u) w) tc tx sh I R L) := by
  obtain ⟨hm, hn, hn5, hdd, hd2, hu2, hwf⟩ := id hK
  obtain ⟨t, hst⟩ := c_start3 (E := E) (d := d + 5) (L := L) hg hK hT hu
  refine XC.of (by decide) rfl rfl ?_
  refine xv_iload_n (q := 1) rfl dX6_stand_0 rfl rfl ?_
  refine xv_iconst (v := (-1)) (q := 2) rfl dX6_stand_1 rfl ?_
  refine xv_icmp_eq (q := 5) (t := 19) rfl rfl dX6_stand_2 (fun zh2 => ?_) (fun zh2 => ?_)
  · refine xv_aload_n (q := 20) rfl dX6_stand_19 rfl rfl ?_
    refine xv_rV0 (z := mX6_setOut) (q := 23) rfl dX6_stand_20 l_X6_145 gX6_setOut (hg.1 _ _ rfl) rfl rfl rfl (hst) (by omega) ?_
    rintro _ sh J0 R0 L ⟨⟨rfl, rfl, rfl, za1, za2, za3, za4, za5, za6, za7⟩, za8⟩
    have hF0 : KF J0 tc tx := hF.mv (fun k zk1 zk2 => za2 k (by omega))
    refine xv_aload_n (q := 24) rfl dX6_stand_23 rfl rfl ?_
    refine xv_geto (q := 27) rfl dX6_stand_24 f_X6_48 (za6.1 _ _ rfl) (za6.2 _ _ _ rfl) ?_
    refine xv_aload_n (q := 28) rfl dX6_stand_27 rfl rfl ?_
    refine xv_geto (q := 31) rfl dX6_stand_28 f_X6_41 (za6.1 _ _ rfl) (za6.2 _ _ _ rfl) ?_
    refine xv_rV1 (z := mX2_find) (q := 34) rfl dX6_stand_31 l_X6_171 gX2_find (za6.1 _ _ rfl) rfl rfl rfl (c_find (d := d) (tc := tc) za6 za3 za4 za5 za7 za8 hwf hN hu hT.2.1 hF0) (by omega) ?_
    rintro _ sh J R' L ⟨rfl, rfl, rfl, rfl, zb2, zb3, zb4⟩
    refine xv_iload_n (q := 35) rfl dX6_stand_34 rfl rfl ?_
    refine xv_iconst (v := (-1)) (q := 36) rfl dX6_stand_35 rfl ?_
    refine xv_icmp_ne (q := 39) (t := 49) rfl rfl dX6_stand_36 (fun h36 => ?_) (fun h36 => ?_)
    · exact absurd zh2 h36
    · refine xv_aload_n (q := 40) rfl dX6_stand_39 rfl rfl ?_
      refine xv_geto (q := 43) rfl dX6_stand_40 f_X6_48 (za6.1 _ _ rfl) (za6.2 _ _ _ rfl) ?_
      refine xv_geti (q := 46) rfl dX6_stand_43 f_X6_175 (za6.1 _ _ rfl) ?_
      rw [zb2.2.1]
      refine xv_goto (t := 58) rfl dX6_stand_46 ?_
      refine xv_iret dX6_stand_58 rfl ?_
      rw [show sp_stand n c dd (tvx tx u) w = nI (sct c n dd (tvx tx u)) from (if_neg (fun z => z.1 zh2)).trans (if_pos zh2)]
      exact ⟨rfl, rfl, za1, rfl, Or.inr ⟨n, c, dd, u, hu, zb3, hN, zb2⟩, fun k hk => (zb4 k hk).trans (za2 k (by omega))⟩
  · refine xv_aload_n (q := 6) rfl dX6_stand_5 rfl rfl ?_
    refine xv_geto (q := 9) rfl dX6_stand_6 f_X6_10 (hg.1 _ _ rfl) (hg.2 _ _ _ rfl) ?_
    refine xv_iload_n (q := 10) rfl dX6_stand_9 rfl rfl ?_
    refine xv_cV1 (z := mX0_has) (q := 13) rfl dX6_stand_10 l_X6_68 gX0_has (hg.1 _ _ rfl) rfl rfl rfl (c_has' (d := d + 10) (xg_crew hg (a := 1) (Or.inl rfl)) hn hn5 w) (by omega) ?_
    refine xv_if_ne (q := 16) (t := 19) rfl rfl dX6_stand_13 (fun h13 => ?_) (fun h13 => ?_)
    · have h13 := bIn h13
      refine xv_aload_n (q := 20) rfl dX6_stand_19 rfl rfl ?_
      refine xv_rV0 (z := mX6_setOut) (q := 23) rfl dX6_stand_20 l_X6_145 gX6_setOut (hg.1 _ _ rfl) rfl rfl rfl (hst) (by omega) ?_
      rintro _ sh J0 R0 L ⟨⟨rfl, rfl, rfl, za1, za2, za3, za4, za5, za6, za7⟩, za8⟩
      have hF0 : KF J0 tc tx := hF.mv (fun k zk1 zk2 => za2 k (by omega))
      refine xv_aload_n (q := 24) rfl dX6_stand_23 rfl rfl ?_
      refine xv_geto (q := 27) rfl dX6_stand_24 f_X6_48 (za6.1 _ _ rfl) (za6.2 _ _ _ rfl) ?_
      refine xv_aload_n (q := 28) rfl dX6_stand_27 rfl rfl ?_
      refine xv_geto (q := 31) rfl dX6_stand_28 f_X6_41 (za6.1 _ _ rfl) (za6.2 _ _ _ rfl) ?_
      refine xv_rV1 (z := mX2_find) (q := 34) rfl dX6_stand_31 l_X6_171 gX2_find (za6.1 _ _ rfl) rfl rfl rfl (c_find (d := d) (tc := tc) za6 za3 za4 za5 za7 za8 hwf hN hu hT.2.1 hF0) (by omega) ?_
      rintro _ sh J R' L ⟨rfl, rfl, rfl, rfl, zb2, zb3, zb4⟩
      refine xv_iload_n (q := 35) rfl dX6_stand_34 rfl rfl ?_
      refine xv_iconst (v := (-1)) (q := 36) rfl dX6_stand_35 rfl ?_
      refine xv_icmp_ne (q := 39) (t := 49) rfl rfl dX6_stand_36 (fun h36 => ?_) (fun h36 => ?_)
      · refine xv_aload_n (q := 50) rfl dX6_stand_49 rfl rfl ?_
        refine xv_geto (q := 53) rfl dX6_stand_50 f_X6_48 (za6.1 _ _ rfl) (za6.2 _ _ _ rfl) ?_
        refine xv_geta (q := 56) rfl dX6_stand_53 f_X6_178 (za6.1 _ _ rfl) (za6.2 _ _ _ rfl) ?_
        obtain ⟨r, hr, hrw⟩ := isR_of hn5 h13
        refine xv_iload_n (q := 57) rfl dX6_stand_56 rfl rfl ?_
        refine xv_iald (q := 58) rfl dX6_stand_57 (za6.1 49 _ rfl) hrw (show r < 5 by omega) (by decide) ?_
        rw [zb2.2.2 r hr]
        refine xv_iret dX6_stand_58 rfl ?_
        rw [show sp_stand n c dd (tvx tx u) w = nI (spl c n dd (tvx tx u) r) from (if_neg (fun z => by rw [h13] at z; cases z.2)).trans ((if_neg zh2).trans (by rw [hrw, nI_clamp (n := r) (by omega)]))]
        exact ⟨rfl, rfl, za1, rfl, Or.inr ⟨n, c, dd, u, hu, zb3, hN, zb2⟩, fun k hk => (zb4 k hk).trans (za2 k (by omega))⟩
      · exact absurd h36 zh2
    · have h13 := bIz h13
      refine xv_bipush (v := (-100)) (q := 18) rfl dX6_stand_16 rfl ?_
      refine xv_iret dX6_stand_18 rfl ?_
      rw [show sp_stand n c dd (tvx tx u) w = -100 from if_pos ⟨zh2, h13⟩]
      exact ⟨rfl, rfl, RT.rf, rfl, hF, fun _ _ => rfl⟩
/-- all stand as was found -/
def QSs (n : Nat) (c : CR) (dd u : Nat) (tv : TV) (sh : XSh) (I : XI) (R : XRf) (L : XL) : XQ := fun v sh' J R' L' => v = some (.int (nI (mvd c (spl c n dd tv) n))) ∧ sh' = sh ∧ RT R R' ∧ L' = L ∧ KXc J n (stc c n (spl c n dd tv)) dd u ∧ ∀ k, k ≠ 7 → J k = I k
theorem c_stn_loop (hg : XG sh R) (hK : KXc I n c dd u) (hF : KFd I n c dd tv) {R0 : XRf} (hR0 : RT R0 R) : ∀ (k r : Nat) (J : XI), r ≤ n → n < r + k → (∀ a, a ≠ 7 → J a = I a) → (∀ a, a < n → J 7 a = nI (if a < r then spl c n dd tv a else c 5 a)) →
    XV E mX6_stands (d + 11) 0 0 (QSs n c dd u tv sh I R0 L) 0 0 19 [some (.ref 0), some (.int (nI (mvd c (spl c n dd tv) r))), some (.int (nI r))] [] sh J R L := by
  obtain ⟨hm, hn, hn5, hdd, hd2, hu, hwf⟩ := id hK
  have hsw := stc_wf (dd := dd) (tv := tv) hwf
  intro k
  induction k with
  | zero => intro r J zh1 zh2; exact absurd zh2 (by omega)
  | succ k ih =>
    intro r J zh1 zh2 hJ zh7
    refine xv_iload_n (q := 20) rfl dX6_stands_19 rfl rfl ?_
    refine xv_aload_n (q := 21) rfl dX6_stands_20 rfl rfl ?_
    refine xv_geto (q := 24) rfl dX6_stands_21 f_X6_10 (hg.1 _ _ rfl) (hg.2 _ _ _ rfl) ?_
    refine xv_geti (q := 27) rfl dX6_stands_24 f_X6_98 (hg.1 _ _ rfl) ?_
    rw [show J 1 7 = nI n from (congrFun (hJ 1 (by decide)) 7).trans hn]
    refine xv_icmp_ge (q := 30) (t := 78) rfl rfl dX6_stands_27 (fun h27 => ?_) (fun h27 => ?_)
    · have hrn : r = n := by have := nIle h27 (by omega) (by omega); omega
      subst hrn
      refine xv_iload_n (q := 79) rfl dX6_stands_78 rfl rfl ?_
      refine xv_iret dX6_stands_79 rfl ?_
      refine ⟨rfl, rfl, hR0, rfl, ⟨fun w a hw ha => ?_, ?_, hn5, ?_, hd2, ?_, hsw⟩, fun k hk7 => hJ k hk7⟩
      · unfold ci stc
        by_cases zh5 : w = 5
        · subst zh5
          rw [if_pos ⟨rfl, ha⟩]
          have := zh7 a ha
          rw [if_pos ha] at this
          exact this
        · rw [if_neg (fun z => zh5 z.1), hJ _ (by omega)]
          exact hm w a hw ha
      · rw [hJ 1 (by decide)]; exact hn
      · rw [hJ 1 (by decide)]; exact hdd
      · rw [hJ 1 (by decide)]; exact hu
    · have hrn : r < n := nInle h27 (by omega) (by omega)
      have hp6 := (hwf.1 r hrn).2.2.2.2.2.1
      have hs6 : spl c n dd tv r < 6 := by
        have := (hsw.1 r hrn).2.2.2.2.2.1
        unfold stc at this
        rwa [if_pos ⟨rfl, hrn⟩] at this
      have hspl : J 49 r = nI (spl c n dd tv r) := by rw [hJ 49 (by decide)]; exact hF.2.2 r hrn
      refine xv_aload_n (q := 31) rfl dX6_stands_30 rfl rfl ?_
      refine xv_geto (q := 34) rfl dX6_stands_31 f_X6_10 (hg.1 _ _ rfl) (hg.2 _ _ _ rfl) ?_
      refine xv_geta (q := 37) rfl dX6_stands_34 f_X6_113 (hg.1 _ _ rfl) (hg.2 _ _ _ rfl) ?_
      refine xv_iload_n (q := 38) rfl dX6_stands_37 rfl rfl ?_
      refine xv_iald (q := 39) rfl dX6_stands_38 (hg.1 _ _ rfl) rfl (by omega) (by decide) ?_
      refine xv_as (w := nI (c 5 r)) ((zh7 r hrn).trans (by rw [if_neg (Nat.lt_irrefl r)])) ?_
      refine xv_aload_n (q := 40) rfl dX6_stands_39 rfl rfl ?_
      refine xv_geto (q := 43) rfl dX6_stands_40 f_X6_48 (hg.1 _ _ rfl) (hg.2 _ _ _ rfl) ?_
      refine xv_geta (q := 46) rfl dX6_stands_43 f_X6_178 (hg.1 _ _ rfl) (hg.2 _ _ _ rfl) ?_
      refine xv_iload_n (q := 47) rfl dX6_stands_46 rfl rfl ?_
      refine xv_iald (q := 48) rfl dX6_stands_47 (hg.1 _ _ rfl) rfl (by omega) (by decide) ?_
      refine xv_as (w := nI (spl c n dd tv r)) hspl ?_
      refine xv_icmp_eq (q := 51) (t := 72) rfl rfl dX6_stands_48 (fun h48 => ?_) (fun h48 => ?_)
      · have h48 : c 5 r = spl c n dd tv r := nIe h48 (by omega) (by omega)
        refine xv_iinc (q := 75) (v := nI 1) rfl dX6_stands_72 rfl rfl ?_
        refine xv_goto (t := 19) rfl dX6_stands_75 ?_
        rw [nI_add]
        have zhz := ih (r + 1) J (by omega) (by omega) hJ (fun a ha => by
          rw [zh7 a ha]
          congr 1
          by_cases e : a = r
          · subst e; rw [if_neg (Nat.lt_irrefl a), if_pos (Nat.lt_succ_self a), h48]
          · by_cases ze2 : a < r
            · rw [if_pos ze2, if_pos (by omega)]
            · rw [if_neg ze2, if_neg (by omega)])
        rw [show mvd c (spl c n dd tv) (r + 1) = mvd c (spl c n dd tv) r from by show _ + (if _ then _ else _) = _; rw [if_pos h48, Nat.add_zero]] at zhz
        exact zhz
      · have h48 : ¬ c 5 r = spl c n dd tv r := fun q => h48 (by rw [q])
        refine xv_iinc (q := 54) (v := nI 1) rfl dX6_stands_51 rfl rfl ?_
        rw [nI_add]
        refine xv_aload_n (q := 55) rfl dX6_stands_54 rfl rfl ?_
        refine xv_geto (q := 58) rfl dX6_stands_55 f_X6_10 (hg.1 _ _ rfl) (hg.2 _ _ _ rfl) ?_
        refine xv_geta (q := 61) rfl dX6_stands_58 f_X6_113 (hg.1 _ _ rfl) (hg.2 _ _ _ rfl) ?_
        refine xv_iload_n (q := 62) rfl dX6_stands_61 rfl rfl ?_
        refine xv_aload_n (q := 63) rfl dX6_stands_62 rfl rfl ?_
        refine xv_geto (q := 66) rfl dX6_stands_63 f_X6_48 (hg.1 _ _ rfl) (hg.2 _ _ _ rfl) ?_
        refine xv_geta (q := 69) rfl dX6_stands_66 f_X6_178 (hg.1 _ _ rfl) (hg.2 _ _ _ rfl) ?_
        refine xv_iload_n (q := 70) rfl dX6_stands_69 rfl rfl ?_
        refine xv_iald (q := 71) rfl dX6_stands_70 (hg.1 _ _ rfl) rfl (by omega) (by decide) ?_
        refine xv_as (w := nI (spl c n dd tv r)) hspl ?_
        refine xv_iast (q := 72) rfl dX6_stands_71 (hg.1 _ _ rfl) rfl (by omega) (by decide) ?_
        refine xv_iinc (q := 75) (v := nI 1) rfl dX6_stands_72 rfl rfl ?_
        refine xv_goto (t := 19) rfl dX6_stands_75 ?_
        rw [nI_add]
        have zhz := ih (r + 1) (xi J 7 r (nI (spl c n dd tv r))) (by omega) (by omega) (fun a ha => (xi_off _ _ _ _ ha).trans (hJ a ha)) (fun a ha => by
          by_cases e : a = r
          · subst e; rw [xi_eq, if_pos (Nat.lt_succ_self a)]
          · rw [xi_ne _ _ _ _ (by omega), zh7 a ha]
            congr 1
            by_cases ze2 : a < r
            · rw [if_pos ze2, if_pos (by omega)]
            · rw [if_neg ze2, if_neg (by omega)])
        rw [show mvd c (spl c n dd tv) (r + 1) = mvd c (spl c n dd tv) r + 1 from by show _ + (if _ then _ else _) = _; rw [if_neg h48]] at zhz
        exact zhz
theorem x_stands (hg : XG sh R) (hK : KXc I n c dd u) (hT : KTs sh I R tc tx) (hu : u < tc) (hN : nrm n c) (hF : KF I tc tx) : XC E mX6_stands (d + 11) 0 0 [.ref 0] sh I R L (fun v sh' J R' L' => v = some (.int (nI (mvd c (spl c n dd (tvx tx u)) n))) ∧ sh' = sh ∧ RT R R' ∧ L' = L ∧ KXc J n (stc c n (spl c n dd (tvx tx u))) dd u ∧ KF J tc tx ∧ ∀ k, (k < 24 ∨ 50 ≤ k) → k ≠ 7 → J k = I k) := by
  obtain ⟨hm, hn, hn5, hdd, hd2, hu2, hwf⟩ := id hK
  obtain ⟨t, hst⟩ := c_start3 (E := E) (d := d + 5) (L := L) hg hK hT hu
  refine XC.of (by decide) rfl rfl ?_
  refine xv_aload_n (q := 1) rfl dX6_stands_0 rfl rfl ?_
  refine xv_rV0 (z := mX6_setOut) (q := 4) rfl dX6_stands_1 l_X6_145 gX6_setOut (hg.1 _ _ rfl) rfl rfl rfl (hst) (by omega) ?_
  rintro _ sh J0 R0 L ⟨⟨rfl, rfl, rfl, za1, za2, za3, za4, za5, za6, za7⟩, za8⟩
  have hF0 : KF J0 tc tx := hF.mv (fun k zk1 zk2 => za2 k (by omega))
  refine xv_aload_n (q := 5) rfl dX6_stands_4 rfl rfl ?_
  refine xv_geto (q := 8) rfl dX6_stands_5 f_X6_48 (za6.1 _ _ rfl) (za6.2 _ _ _ rfl) ?_
  refine xv_aload_n (q := 9) rfl dX6_stands_8 rfl rfl ?_
  refine xv_geto (q := 12) rfl dX6_stands_9 f_X6_41 (za6.1 _ _ rfl) (za6.2 _ _ _ rfl) ?_
  refine xv_rV1 (z := mX2_find) (q := 15) rfl dX6_stands_12 l_X6_171 gX2_find (za6.1 _ _ rfl) rfl rfl rfl (c_find (d := d) (tc := tc) za6 za3 za4 za5 za7 za8 hwf hN hu hT.2.1 hF0) (by omega) ?_
  rintro _ sh J R' L ⟨rfl, rfl, rfl, rfl, zb2, zb3, zb4⟩
  refine xv_iconst (v := nI 0) (q := 16) rfl dX6_stands_15 rfl ?_
  refine xv_istore_n (q := 17) rfl dX6_stands_16 rfl rfl ?_
  refine xv_iconst (v := nI 0) (q := 18) rfl dX6_stands_17 rfl ?_
  refine xv_istore_n (q := 19) rfl dX6_stands_18 rfl rfl ?_
  have za3 : ∀ k, (k < 24 ∨ 50 ≤ k) → J k = I k := fun k hk => (zb4 k hk).trans (za2 k (by omega))
  have hK2 : KXc J n c dd u := ⟨fun w r hw hr => by rw [za3 _ (by omega)]; exact hm w r hw hr, by rw [za3 1 (by decide)]; exact hn, hn5, by rw [za3 1 (by decide)]; exact hdd, hd2, by rw [za3 1 (by decide)]; exact hu2, hwf⟩
  have hFJ : KF J tc tx := Or.inr ⟨n, c, dd, u, hu, zb3, hN, zb2⟩
  have zhz := c_stn_loop (E := E) (d := d) (L := L) (I := J) za6 hK2 zb2 za1 (n + 1) 0 J (by omega) (by omega) (fun _ _ => rfl) (fun a ha => by rw [if_neg (Nat.not_lt_zero a)]; exact hK2.1 5 a (by decide) ha)
  exact zhz.imp (fun v sh' K R'' L' q => ⟨q.1, q.2.1, q.2.2.1, q.2.2.2.1, q.2.2.2.2.1, hFJ.mv (fun k zk1 zk2 => q.2.2.2.2.2 k (by omega)), fun k hk hk7 => (q.2.2.2.2.2 k hk7).trans (za3 k hk)⟩)
end FIND

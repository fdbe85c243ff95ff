/-! find, stand, stands -/
/-- what the seeker keeps is right, if it keeps anything -/
def KFd (I : XI) (n : Nat) (c : CR) (dd : Nat) (tv : TV) : Prop := I 40 2 = nI 1 ∧ I 40 3 = nI (sct c n dd tv) ∧ ∀ r, r < n → I 41 r = nI (spl c n dd tv r)
def KF (I : XI) (n : Nat) (c : CR) (dd : Nat) (tv : TV) : Prop := I 40 2 = nI 0 ∨ KFd I n c dd tv
section FIND
variable {E : XE} {d : Nat} {sh : XSh} {I : XI} {R : XRf} {L : XL} {n dd u tc : Nat} {c : CR} {tx : TXS} {tv : TV} {t : Nat}
def F42 (I J : XI) : Prop := (∀ k, (k < 24 ∨ 42 ≤ k) → J k = I k)
def QFd (n : Nat) (c : CR) (dd : Nat) (tv : TV) (sh : XSh) (I : XI) (R : XRf) (L : XL) : XQ := fun v sh' J R' L' => v = none ∧ sh' = sh ∧ RT R R' ∧ L' = L ∧ KFd J n c dd tv ∧ F42 I J
theorem c_find (hg : XG sh R) (hK : KXc I n c dd u) (hT : KTs sh I R tc tx) (hu : u < tc) (hF : KF I n c dd (tvx tx u)) : XC E mX2_find (d + 10) 0 0 [.ref 40] sh I R L (QFd n c dd (tvx tx u) sh I R L) := by
  obtain ⟨t, hst⟩ := c_start2 (E := E) (d := d + 5) (L := L) hg hK hT hu
  obtain ⟨hm, hn, hn5, hdd, hd2, hu2, hwf⟩ := id hK
  refine XC.of (by decide) rfl rfl ?_
  refine xv_aload_n (q := 1) rfl dX2_find_0 rfl rfl ?_
  refine xv_getz (q := 4) rfl dX2_find_1 f_X2_23 (hg.1 _ _ rfl) ?_
  refine xv_if_eq (q := 7) (t := 8) rfl rfl dX2_find_4 (fun zh4 => ?_) (fun zh4 => ?_)
  · refine xv_aload_n (q := 9) rfl dX2_find_8 rfl rfl ?_
    refine xv_geto (q := 12) rfl dX2_find_9 f_X2_19 (hg.1 _ _ rfl) (hg.2 _ _ _ rfl) ?_
    refine xv_rV0 (z := mX5_start) (q := 15) rfl dX2_find_12 l_X2_27 gX5_start (hg.1 _ _ rfl) rfl rfl rfl (hst) (by omega) ?_
    rintro _ sh J R' L ⟨rfl, rfl, rfl, za1, za2, za3, za4, za5, za6, za7⟩
    have hKT : KT sh I R' t (tvx tx u) := za5.mv (fun k hk => (za2 k (by unfold txc at hk; omega)).symm) (fun _ _ => rfl)
    refine xv_aload_n (q := 16) rfl dX2_find_15 rfl rfl ?_
    refine xv_aload_n (q := 17) rfl dX2_find_16 rfl rfl ?_
    refine xv_geto (q := 20) rfl dX2_find_17 f_X2_19 (za6.1 _ _ rfl) (za6.2 _ _ _ rfl) ?_
    refine xv_rV0 (z := mX5_cost) (q := 23) rfl dX2_find_20 l_X2_32 gX5_cost (za6.1 _ _ rfl) rfl rfl rfl (c_cost (d := d + 5) za6 za3 za5 za7 za4) (by omega) ?_
    rintro _ sh K R' L ⟨rfl, rfl, rfl, rfl, zb1, zb2⟩
    refine xv_iconst (v := nI 1) (q := 24) rfl dX2_find_23 rfl ?_
    refine xv_iadd (q := 25) rfl dX2_find_24 ?_
    refine xv_as (w := nI (rdc c n dd (aln n) (tvx tx u) + 1)) (nI_add _ _) ?_
    refine xv_puti (q := 28) rfl dX2_find_25 f_X2_36 (fun h => by cases h) (za6.1 _ _ rfl) ?_
    have hF9 := za2.trans zb1.ft
    have hrl := rdc_le (dd := dd) (P := aln n) (tv := tvx tx u) (c := c) (n := n) (fun r hr => (hwf.1 r hr).2.2.1) hn5
    have hTK := za3.mv zb1
    have hG : SGk I (xi K 40 3 (nI (rdc c n dd (aln n) (tvx tx u) + 1))) n c c dd (aln n) (tvx tx u) :=
      ⟨fun k hk => (xi_off _ _ _ _ (by omega)).trans (hF9 k (by omega)), fun j zhj => by rw [xi_ne _ _ _ _ (by omega), hF9 40 (by decide)], hTK.tw.mv (fun k zh1 zh2 => xi_off _ _ _ _ (by omega)), SX.rf, hTK.2.2.2.2.1.mv (xi_off _ _ _ _ (by decide)) (xi_off _ _ _ _ (by decide)) (xi_off _ _ _ _ (by decide)), hTK.2.2.2.2.2, zb2.mv (xi_off _ _ _ _ (by decide))⟩
    have hput := c_putFrom (E := E) (d := d + (5 - n)) (L := L) za6 hK hKT za7 (T0 := rdc c n dd (aln n) (tvx tx u) + 1) (by omega) n 0 c none _ c (by omega) SX.rf hG ⟨SX.rf, fun _ _ => rfl⟩ (fun a ha => absurd ha (Nat.not_lt_zero a)) ⟨xi_eq _ _ _ _, fun z zhz => by cases zhz⟩
    refine xv_aload_n (q := 29) rfl dX2_find_28 rfl rfl ?_
    refine xv_iconst (v := nI 0) (q := 30) rfl dX2_find_29 rfl ?_
    refine xv_iconst (v := nI 0) (q := 31) rfl dX2_find_30 rfl ?_
    refine xv_rV2 (z := mX2_putFrom) (q := 34) rfl dX2_find_31 l_X2_40 gX2_putFrom (za6.1 _ _ rfl) rfl rfl rfl (hput) (by omega) ?_
    rintro _ sh M R' L ⟨rfl, rfl, rfl, rfl, zm1, x, zm2, zm3, zm4⟩
    refine xv_aload_n (q := 35) rfl dX2_find_34 rfl rfl ?_
    refine xv_iconst (v := nI 1) (q := 36) rfl dX2_find_35 rfl ?_
    refine xv_putz (q := 39) rfl dX2_find_36 f_X2_23 (fun h => by cases h) (za6.1 _ _ rfl) (by decide) ?_
    refine xv_vret dX2_find_39 rfl ?_
    obtain ⟨z, zs1, zs2, zs3, s4⟩ := sres_some (dd := dd) (tv := tvx tx u) hwf.1 hwf.2
    have hz0 : z.1 < rdc c n dd (aln n) (tvx tx u) + 1 := by omega
    refine ⟨rfl, rfl, za1, rfl, ⟨xi_eq _ _ _ _, ?_, fun r hr => ?_⟩, fun k hk => ?_⟩
    · rw [xi_ne _ _ _ _ (by omega), zm1.1, show srch c n dd (tvx tx u) n 0 c none = some z from zs1, zs3]
      show nI (if _ then _ else _) = _
      rw [if_pos hz0]
    · rw [xi_off _ _ _ _ (by decide), s4]
      exact zm1.2 z zs1 hz0 r hr
    · rw [xi_off _ _ _ _ (by omega)]; exact zm2.1 k hk
  · refine xv_vret dX2_find_7 rfl ?_
    exact ⟨rfl, rfl, RT.rf, rfl, hF.resolve_left zh4, fun _ _ => rfl⟩
/-- the seeker's frame: what was found is kept -/
def QSd (v0 : Int32) (n : Nat) (c : CR) (dd : Nat) (tv : TV) (sh : XSh) (I : XI) (R : XRf) (L : XL) : XQ := fun v sh' J R' L' => v = some (.int v0) ∧ sh' = sh ∧ RT R R' ∧ L' = L ∧ KF J n c dd tv ∧ F42 I J
theorem x_stand (hg : XG sh R) (hK : KXc I n c dd u) (hT : KTs sh I R tc tx) (hu : u < tc) (hF : KF I n c dd (tvx tx u)) (w : Int32) : XC E mX6_stand (d + 11) 0 0 [.ref 0, .int w] sh I R L (QSd (sp_stand n c dd (tvx tx u) w) n c dd (tvx tx u) sh I R L) := by
  obtain ⟨hm, hn, hn5, hdd, hd2, hu2, hwf⟩ := id hK
  refine XC.of (by decide) rfl rfl ?_
  refine xv_iload_n (q := 1) rfl dX6_stand_0 rfl rfl ?_
  refine xv_iconst (v := (-1)) (q := 2) rfl dX6_stand_1 rfl ?_
  refine xv_icmp_eq (q := 5) (t := 19) rfl rfl dX6_stand_2 (fun zh2 => ?_) (fun zh2 => ?_)
  · refine xv_aload_n (q := 20) rfl dX6_stand_19 rfl rfl ?_
    refine xv_geto (q := 23) rfl dX6_stand_20 f_X6_52 (hg.1 _ _ rfl) (hg.2 _ _ _ rfl) ?_
    refine xv_rV0 (z := mX2_find) (q := 26) rfl dX6_stand_23 l_X6_175 gX2_find (hg.1 _ _ rfl) rfl rfl rfl (c_find (d := d) hg hK hT hu hF) (by omega) ?_
    rintro _ sh J R' L ⟨rfl, rfl, za1, rfl, za2, za3⟩
    have za6 := xg_rt hg za1
    refine xv_iload_n (q := 27) rfl dX6_stand_26 rfl rfl ?_
    refine xv_iconst (v := (-1)) (q := 28) rfl dX6_stand_27 rfl ?_
    refine xv_icmp_ne (q := 31) (t := 41) rfl rfl dX6_stand_28 (fun h28 => ?_) (fun h28 => ?_)
    · exact absurd zh2 h28
    · refine xv_aload_n (q := 32) rfl dX6_stand_31 rfl rfl ?_
      refine xv_geto (q := 35) rfl dX6_stand_32 f_X6_52 (za6.1 _ _ rfl) (za6.2 _ _ _ rfl) ?_
      refine xv_geti (q := 38) rfl dX6_stand_35 f_X6_178 (za6.1 _ _ rfl) ?_
      rw [za2.2.1]
      refine xv_goto (t := 50) rfl dX6_stand_38 ?_
      refine xv_iret dX6_stand_50 rfl ?_
      rw [show sp_stand n c dd (tvx tx u) w = nI (sct c n dd (tvx tx u)) from (if_neg (fun z => z.1 zh2)).trans (if_pos zh2)]
      exact ⟨rfl, rfl, za1, rfl, Or.inr za2, za3⟩
  · refine xv_aload_n (q := 6) rfl dX6_stand_5 rfl rfl ?_
    refine xv_geto (q := 9) rfl dX6_stand_6 f_X6_10 (hg.1 _ _ rfl) (hg.2 _ _ _ rfl) ?_
    refine xv_iload_n (q := 10) rfl dX6_stand_9 rfl rfl ?_
    refine xv_cV1 (z := mX0_has) (q := 13) rfl dX6_stand_10 l_X6_72 gX0_has (hg.1 _ _ rfl) rfl rfl rfl (c_has' (d := d + 10) (xg_crew hg (a := 1) (Or.inl rfl)) hn hn5 w) (by omega) ?_
    refine xv_if_ne (q := 16) (t := 19) rfl rfl dX6_stand_13 (fun h13 => ?_) (fun h13 => ?_)
    · have h13 := bIn h13
      refine xv_aload_n (q := 20) rfl dX6_stand_19 rfl rfl ?_
      refine xv_geto (q := 23) rfl dX6_stand_20 f_X6_52 (hg.1 _ _ rfl) (hg.2 _ _ _ rfl) ?_
      refine xv_rV0 (z := mX2_find) (q := 26) rfl dX6_stand_23 l_X6_175 gX2_find (hg.1 _ _ rfl) rfl rfl rfl (c_find (d := d) hg hK hT hu hF) (by omega) ?_
      rintro _ sh J R' L ⟨rfl, rfl, za1, rfl, za2, za3⟩
      have za6 := xg_rt hg za1
      refine xv_iload_n (q := 27) rfl dX6_stand_26 rfl rfl ?_
      refine xv_iconst (v := (-1)) (q := 28) rfl dX6_stand_27 rfl ?_
      refine xv_icmp_ne (q := 31) (t := 41) rfl rfl dX6_stand_28 (fun h28 => ?_) (fun h28 => ?_)
      · refine xv_aload_n (q := 42) rfl dX6_stand_41 rfl rfl ?_
        refine xv_geto (q := 45) rfl dX6_stand_42 f_X6_52 (za6.1 _ _ rfl) (za6.2 _ _ _ rfl) ?_
        refine xv_geta (q := 48) rfl dX6_stand_45 f_X6_181 (za6.1 _ _ rfl) (za6.2 _ _ _ rfl) ?_
        obtain ⟨r, hr, hrw⟩ := isR_of hn5 h13
        refine xv_iload_n (q := 49) rfl dX6_stand_48 rfl rfl ?_
        refine xv_iald (q := 50) rfl dX6_stand_49 (za6.1 41 _ rfl) hrw (show r < 5 by omega) (by decide) ?_
        rw [za2.2.2 r hr]
        refine xv_iret dX6_stand_50 rfl ?_
        rw [show sp_stand n c dd (tvx tx u) w = nI (spl c n dd (tvx tx u) r) from (if_neg (fun z => by rw [h13] at z; cases z.2)).trans ((if_neg zh2).trans (by rw [hrw, nI_clamp (n := r) (by omega)]))]
        exact ⟨rfl, rfl, za1, rfl, Or.inr za2, za3⟩
      · exact absurd h28 zh2
    · have h13 := bIz h13
      refine xv_bipush (v := (-100)) (q := 18) rfl dX6_stand_16 rfl ?_
      refine xv_iret dX6_stand_18 rfl ?_
      rw [show sp_stand n c dd (tvx tx u) w = -100 from if_pos ⟨zh2, h13⟩]
      exact ⟨rfl, rfl, RT.rf, rfl, hF, fun _ _ => rfl⟩
/-- all stand as was found; what was found is forgotten -/
def QSs (n : Nat) (c : CR) (dd u : Nat) (tv : TV) (sh : XSh) (I : XI) (R : XRf) (L : XL) : XQ := fun v sh' J R' L' => v = some (.int (nI (mvd c (spl c n dd tv) n))) ∧ sh' = sh ∧ RT R R' ∧ L' = L ∧ KXc J n (stc c n (spl c n dd tv)) dd u ∧ J 40 2 = nI 0 ∧ ∀ k, (k < 24 ∨ 42 ≤ k) → k ≠ 7 → J k = I k
theorem c_stn_loop (hg : XG sh R) (hK : KXc I n c dd u) (hF : KFd I n c dd tv) {R0 : XRf} (hR0 : RT R0 R) : ∀ (k r : Nat) (J : XI), r ≤ n → n < r + k → (∀ a, a ≠ 7 → J a = I a) → (∀ a, a < n → J 7 a = nI (if a < r then spl c n dd tv a else c 5 a)) →
    XV E mX6_stands (d + 11) 0 0 (QSs n c dd u tv sh I R0 L) 0 0 11 [some (.ref 0), some (.int (nI (mvd c (spl c n dd tv) r))), some (.int (nI r))] [] sh J R L := by
  obtain ⟨hm, hn, hn5, hdd, hd2, hu, hwf⟩ := id hK
  have hsw := stc_wf (dd := dd) (tv := tv) hwf
  intro k
  induction k with
  | zero => intro r J zh1 zh2; exact absurd zh2 (by omega)
  | succ k ih =>
    intro r J zh1 zh2 hJ zh7
    refine xv_iload_n (q := 12) rfl dX6_stands_11 rfl rfl ?_
    refine xv_aload_n (q := 13) rfl dX6_stands_12 rfl rfl ?_
    refine xv_geto (q := 16) rfl dX6_stands_13 f_X6_10 (hg.1 _ _ rfl) (hg.2 _ _ _ rfl) ?_
    refine xv_geti (q := 19) rfl dX6_stands_16 f_X6_102 (hg.1 _ _ rfl) ?_
    rw [show J 1 7 = nI n from (congrFun (hJ 1 (by decide)) 7).trans hn]
    refine xv_icmp_ge (q := 22) (t := 70) rfl rfl dX6_stands_19 (fun h19 => ?_) (fun h19 => ?_)
    · have hrn : r = n := by have := nIle h19 (by omega) (by omega); omega
      subst hrn
      refine xv_aload_n (q := 71) rfl dX6_stands_70 rfl rfl ?_
      refine xv_geto (q := 74) rfl dX6_stands_71 f_X6_52 (hg.1 _ _ rfl) (hg.2 _ _ _ rfl) ?_
      refine xv_iconst (v := nI 0) (q := 75) rfl dX6_stands_74 rfl ?_
      refine xv_putz (q := 78) rfl dX6_stands_75 f_X6_126 (fun h => by cases h) (hg.1 _ _ rfl) (by decide) ?_
      refine xv_iload_n (q := 79) rfl dX6_stands_78 rfl rfl ?_
      refine xv_iret dX6_stands_79 rfl ?_
      refine ⟨rfl, rfl, hR0, rfl, ⟨fun w a hw ha => ?_, ?_, hn5, ?_, hd2, ?_, hsw⟩, xi_eq _ _ _ _, fun k hk hk7 => (xi_off _ _ _ _ (by omega)).trans (hJ k hk7)⟩
      · rw [xi_off _ _ _ _ (by omega)]
        unfold ci stc
        by_cases zh5 : w = 5
        · subst zh5
          rw [if_pos ⟨rfl, ha⟩]
          have := zh7 a ha
          rw [if_pos ha] at this
          exact this
        · rw [if_neg (fun z => zh5 z.1), hJ _ (by omega)]
          exact hm w a hw ha
      · rw [xi_off _ _ _ _ (by decide), hJ 1 (by decide)]; exact hn
      · rw [xi_off _ _ _ _ (by decide), hJ 1 (by decide)]; exact hdd
      · rw [xi_off _ _ _ _ (by decide), hJ 1 (by decide)]; exact hu
    · have hrn : r < n := nInle h19 (by omega) (by omega)
      have hp6 := (hwf.1 r hrn).2.2.2.2.2.1
      have hs6 : spl c n dd tv r < 6 := by
        have := (hsw.1 r hrn).2.2.2.2.2.1
        unfold stc at this
        rwa [if_pos ⟨rfl, hrn⟩] at this
      have hspl : J 41 r = nI (spl c n dd tv r) := by rw [hJ 41 (by decide)]; exact hF.2.2 r hrn
      refine xv_aload_n (q := 23) rfl dX6_stands_22 rfl rfl ?_
      refine xv_geto (q := 26) rfl dX6_stands_23 f_X6_10 (hg.1 _ _ rfl) (hg.2 _ _ _ rfl) ?_
      refine xv_geta (q := 29) rfl dX6_stands_26 f_X6_117 (hg.1 _ _ rfl) (hg.2 _ _ _ rfl) ?_
      refine xv_iload_n (q := 30) rfl dX6_stands_29 rfl rfl ?_
      refine xv_iald (q := 31) rfl dX6_stands_30 (hg.1 _ _ rfl) rfl (by omega) (by decide) ?_
      refine xv_as (w := nI (c 5 r)) ((zh7 r hrn).trans (by rw [if_neg (Nat.lt_irrefl r)])) ?_
      refine xv_aload_n (q := 32) rfl dX6_stands_31 rfl rfl ?_
      refine xv_geto (q := 35) rfl dX6_stands_32 f_X6_52 (hg.1 _ _ rfl) (hg.2 _ _ _ rfl) ?_
      refine xv_geta (q := 38) rfl dX6_stands_35 f_X6_181 (hg.1 _ _ rfl) (hg.2 _ _ _ rfl) ?_
      refine xv_iload_n (q := 39) rfl dX6_stands_38 rfl rfl ?_
      refine xv_iald (q := 40) rfl dX6_stands_39 (hg.1 _ _ rfl) rfl (by omega) (by decide) ?_
      refine xv_as (w := nI (spl c n dd tv r)) hspl ?_
      refine xv_icmp_eq (q := 43) (t := 64) rfl rfl dX6_stands_40 (fun h40 => ?_) (fun h40 => ?_)
      · have h40 : c 5 r = spl c n dd tv r := nIe h40 (by omega) (by omega)
        refine xv_iinc (q := 67) (v := nI 1) rfl dX6_stands_64 rfl rfl ?_
        refine xv_goto (t := 11) rfl dX6_stands_67 ?_
        rw [nI_add]
        have zhz := ih (r + 1) J (by omega) (by omega) hJ (fun a ha => by
          rw [zh7 a ha]
          congr 1
          by_cases e : a = r
          · subst e; rw [if_neg (Nat.lt_irrefl a), if_pos (Nat.lt_succ_self a), h40]
          · by_cases ze2 : a < r
            · rw [if_pos ze2, if_pos (by omega)]
            · rw [if_neg ze2, if_neg (by omega)])
        rw [show mvd c (spl c n dd tv) (r + 1) = mvd c (spl c n dd tv) r from by show _ + (if _ then _ else _) = _; rw [if_pos h40, Nat.add_zero]] at zhz
        exact zhz
      · have h40 : ¬ c 5 r = spl c n dd tv r := fun q => h40 (by rw [q])
        refine xv_iinc (q := 46) (v := nI 1) rfl dX6_stands_43 rfl rfl ?_
        rw [nI_add]
        refine xv_aload_n (q := 47) rfl dX6_stands_46 rfl rfl ?_
        refine xv_geto (q := 50) rfl dX6_stands_47 f_X6_10 (hg.1 _ _ rfl) (hg.2 _ _ _ rfl) ?_
        refine xv_geta (q := 53) rfl dX6_stands_50 f_X6_117 (hg.1 _ _ rfl) (hg.2 _ _ _ rfl) ?_
        refine xv_iload_n (q := 54) rfl dX6_stands_53 rfl rfl ?_
        refine xv_aload_n (q := 55) rfl dX6_stands_54 rfl rfl ?_
        refine xv_geto (q := 58) rfl dX6_stands_55 f_X6_52 (hg.1 _ _ rfl) (hg.2 _ _ _ rfl) ?_
        refine xv_geta (q := 61) rfl dX6_stands_58 f_X6_181 (hg.1 _ _ rfl) (hg.2 _ _ _ rfl) ?_
        refine xv_iload_n (q := 62) rfl dX6_stands_61 rfl rfl ?_
        refine xv_iald (q := 63) rfl dX6_stands_62 (hg.1 _ _ rfl) rfl (by omega) (by decide) ?_
        refine xv_as (w := nI (spl c n dd tv r)) hspl ?_
        refine xv_iast (q := 64) rfl dX6_stands_63 (hg.1 _ _ rfl) rfl (by omega) (by decide) ?_
        refine xv_iinc (q := 67) (v := nI 1) rfl dX6_stands_64 rfl rfl ?_
        refine xv_goto (t := 11) rfl dX6_stands_67 ?_
        rw [nI_add]
        have zhz := ih (r + 1) (xi J 7 r (nI (spl c n dd tv r))) (by omega) (by omega) (fun a ha => (xi_off _ _ _ _ ha).trans (hJ a ha)) (fun a ha => by
          by_cases e : a = r
          · subst e; rw [xi_eq, if_pos (Nat.lt_succ_self a)]
          · rw [xi_ne _ _ _ _ (by omega), zh7 a ha]
            congr 1
            by_cases ze2 : a < r
            · rw [if_pos ze2, if_pos (by omega)]
            · rw [if_neg ze2, if_neg (by omega)])
        rw [show mvd c (spl c n dd tv) (r + 1) = mvd c (spl c n dd tv) r + 1 from by show _ + (if _ then _ else _) = _; rw [if_neg h40]] at zhz
        exact zhz
theorem x_stands (hg : XG sh R) (hK : KXc I n c dd u) (hT : KTs sh I R tc tx) (hu : u < tc) (hF : KF I n c dd (tvx tx u)) : XC E mX6_stands (d + 11) 0 0 [.ref 0] sh I R L (QSs n c dd u (tvx tx u) sh I R L) := by
  obtain ⟨hm, hn, hn5, hdd, hd2, hu2, hwf⟩ := id hK
  refine XC.of (by decide) rfl rfl ?_
  refine xv_aload_n (q := 1) rfl dX6_stands_0 rfl rfl ?_
  refine xv_geto (q := 4) rfl dX6_stands_1 f_X6_52 (hg.1 _ _ rfl) (hg.2 _ _ _ rfl) ?_
  refine xv_rV0 (z := mX2_find) (q := 7) rfl dX6_stands_4 l_X6_175 gX2_find (hg.1 _ _ rfl) rfl rfl rfl (c_find (d := d) hg hK hT hu hF) (by omega) ?_
  rintro _ sh J R' L ⟨rfl, rfl, za1, rfl, za2, za3⟩
  have za6 := xg_rt hg za1
  refine xv_iconst (v := nI 0) (q := 8) rfl dX6_stands_7 rfl ?_
  refine xv_istore_n (q := 9) rfl dX6_stands_8 rfl rfl ?_
  refine xv_iconst (v := nI 0) (q := 10) rfl dX6_stands_9 rfl ?_
  refine xv_istore_n (q := 11) rfl dX6_stands_10 rfl rfl ?_
  have hK2 : KXc J n c dd u := ⟨fun w r hw hr => by rw [za3 _ (by omega)]; exact hm w r hw hr, by rw [za3 1 (by decide)]; exact hn, hn5, by rw [za3 1 (by decide)]; exact hdd, hd2, by rw [za3 1 (by decide)]; exact hu2, hwf⟩
  have zhz := c_stn_loop (E := E) (d := d) (L := L) (I := J) za6 hK2 za2 za1 (n + 1) 0 J (by omega) (by omega) (fun _ _ => rfl) (fun a ha => by rw [if_neg (Nat.not_lt_zero a)]; exact hK2.1 5 a (by decide) ha)
  exact zhz.imp (fun v sh' K R'' L' q => ⟨q.1, q.2.1, q.2.2.1, q.2.2.2.1, q.2.2.2.2.1, q.2.2.2.2.2.1, fun k hk hk7 => (q.2.2.2.2.2.2 k hk hk7).trans (za3 k hk)⟩)
end FIND

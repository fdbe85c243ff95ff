/-! one, change -/
/-- COST and moves, were r on p -/
def ont (c : CR) (n dd : Nat) (tv : TV) (r p : Nat) : Nat := rdc (setr c 5 r p) n dd (aln n) tv + (if p = c 5 r then 0 else prc c tv 2 r (c 3 r) (p / 2) 0)
def ons (o : Option (Nat × Nat)) (p t : Nat) : Option (Nat × Nat) := match o with
  | none => some (p, t)
  | some q => if t < q.2 then some (p, t) else some q
def onf (c : CR) (n dd : Nat) (tv : TV) (r : Nat) : Nat → Option (Nat × Nat)
  | 0 => none
  | p + 1 => if oks (ci (setr c 5 r p)) r n = true then ons (onf c n dd tv r p) p (ont c n dd tv r p) else onf c n dd tv r p
def onP : Option (Nat × Nat) → Int32
  | none => -1
  | some q => nI q.1
def onL : Option (Nat × Nat) → Nat
  | none => 0
  | some q => q.2
def sp_one (n : Nat) (c : CR) (dd : Nat) (tv : TV) (x what : Int32) : Int32 := if isR n x = false ∨ what < 0 ∨ ¬ what ≤ nI 1 then -2 else if what = 0 then onP (onf c n dd tv x.toNatClampNeg 6) else nI (onL (onf c n dd tv x.toNatClampNeg 6))
theorem ont_le {c : CR} {n dd r p : Nat} {tv : TV} (hw : wfn c n) (hn : n ≤ 5) : ont c n dd tv r p ≤ 10449 := by
  unfold ont
  have zh1 := rdc_le (dd := dd) (P := aln n) (tv := tv) (c := setr c 5 r p) (n := n) (fun a ha => by rw [setr_ne (by omega)]; exact (hw a ha).2.2.1) hn
  have zh2 := prc_99 c tv 2 r (c 3 r) (p / 2) 0
  split <;> omega
theorem onf_b {c : CR} {n dd r : Nat} {tv : TV} (hw : wfn c n) (hn : n ≤ 5) : ∀ p, onL (onf c n dd tv r p) ≤ 10449 ∧ ∀ q, onf c n dd tv r p = some q → q.1 < p
  | 0 => ⟨Nat.zero_le _, fun q h => by cases h⟩
  | p + 1 => by
    obtain ⟨zh1, zh2⟩ := onf_b (dd := dd) (r := r) (tv := tv) hw hn p
    have zh3 := ont_le (dd := dd) (r := r) (p := p) (tv := tv) hw hn
    by_cases hst : oks (ci (setr c 5 r p)) r n = true
    · rw [show onf c n dd tv r (p + 1) = _ from if_pos hst]
      cases zhq : onf c n dd tv r p with
      | none => exact ⟨zh3, fun q h => by cases h; exact Nat.lt_succ_self p⟩
      | some zq0 =>
        rw [zhq] at zh1
        have zh4 := zh2 zq0 zhq
        unfold ons
        dsimp only
        split
        · exact ⟨zh3, fun q h => by cases h; exact Nat.lt_succ_self p⟩
        · exact ⟨zh1, fun q h => by cases h; omega⟩
    · rw [show onf c n dd tv r (p + 1) = _ from if_neg hst]
      exact ⟨zh1, fun q h => Nat.lt_succ_of_lt (zh2 q h)⟩
theorem n_m1 {p : Nat} (h : p < 6) : ¬ nI p = -1 := by
  intro q
  have := nI_pos (n := p) (by omega)
  rw [q] at this
  exact this (by decide)
section ONE
variable {E : XE} {d : Nat} {sh : XSh} {I : XI} {R : XRf} {L : XL} {n dd u tc : Nat} {c : CR} {tx : TXS} {tv : TV} {t : Nat}
/-- the tried crew may be anywhere, all else of the trip is gathered -/
def TG (I J : XI) (n : Nat) (c q : CR) (dd P : Nat) (tv : TV) : Prop := FT I J ∧ TW J n q dd ∧ SX c q ∧ TS J n c P ∧ P < 32 ∧ TP J n c P tv
theorem TG.of {I J : XI} {P : Nat} (zh0 : FT I J) (h : TR J n c dd P) (hP : TP J n c P tv) : TG I J n c c dd P tv := ⟨zh0, h.tw, SX.rf, h.2.2.2.2.1, h.2.2.2.2.2, hP⟩
theorem TG.put {I J : XI} {P r p : Nat} {q : CR} (h : TG I J n c q dd P tv) (zhp : p < 6) : TG I (xi J 30 r (nI p)) n c (setr q 5 r p) dd P tv :=
  ⟨h.1.trans (FT.xi (by decide) (by decide)), h.2.1.put zhp, h.2.2.1.set, h.2.2.2.1.f30 (fun k zk1 _ _ _ _ _ => xi_off _ _ _ _ zk1), h.2.2.2.2.1, h.2.2.2.2.2.mv (xi_off _ _ _ _ (by decide))⟩
theorem KT.ft {I J : XI} (h : KT sh I R t tv) (hF : FT I J) : KT sh J R t tv := h.mv (fun k hk => hF k (by unfold txc at hk; omega)) (fun _ _ => rfl)
/-- settled and asked what it costs -/
theorem c_costG {J : XI} {P : Nat} {q : CR} (hg : XG sh R) (hK : KT sh I R t tv) (hr3 : R 23 1 = some t) (h : TG I J n c q dd P tv) : XC E mX5_settle (d + 2) 0 0 [.ref 23] sh J R L (fun v sh' K R' L' => v = none ∧ sh' = sh ∧ R' = R ∧ L' = L ∧ TG I K n c q dd P tv ∧ TR K n q dd P ∧ TP K n q P tv) := by
  refine (c_settle2 (d := d) hg h.2.1 h.2.2.1 h.2.2.2.1 h.2.2.2.2.1 h.2.2.2.2.2).imp ?_
  rintro _ sh' K R' L' ⟨rfl, rfl, rfl, rfl, za1, za2, za3, za4⟩
  exact ⟨rfl, rfl, rfl, rfl, ⟨h.1.trans (fun k hk => za1 k (by omega) (by omega)), za2.tw, h.2.2.1, za3, h.2.2.2.2.1, za4⟩, za2, h.2.2.1.tp za4⟩
theorem TG.f9 {J K : XI} {P : Nat} {q : CR} (h : TG I J n c q dd P tv) (hF : F9 J K) (hP : TP K n q P tv) : TG I K n c q dd P tv :=
  ⟨h.1.trans hF.ft, h.2.1.mv (fun k zh1 zh2 => hF k (by omega) (by omega) (by omega)), h.2.2.1, h.2.2.2.1.f30 (fun k _ _ _ zk1 zk2 zk3 => hF k zk1 zk2 zk3), h.2.2.2.2.1, h.2.2.1.symm.tp hP⟩
theorem c_one_loop (hg : XG sh R) (hK : KXc I n c dd u) (hKT : KT sh I R t tv) (hr3 : R 23 1 = some t) {r : Nat} (hr : r < n) (w : Int32) {R0 : XRf} (hR0 : RT R0 R) : ∀ (k p : Nat) (J : XI) (v : Nat) (l6 : Option Value), p ≤ 6 → 6 < p + k → TG I J n c (setr c 5 r v) dd (aln n) tv →
    XV E mX6_one (d + 6) 0 0 (QTr (.int (if w = 0 then onP (onf c n dd tv r 6) else nI (onL (onf c n dd tv r 6)))) sh I R0 L) 0 0 35 [some (.ref 0), some (.int (nI r)), some (.int w), some (.int (onP (onf c n dd tv r p))), some (.int (nI (onL (onf c n dd tv r p)))), some (.int (nI p)), l6] [] sh J R L := by
  obtain ⟨hm, hn, hn5, hdd, hd2, hu, hwf⟩ := id hK
  intro k
  induction k with
  | zero => intro p J v l6 zh1 zh2; exact absurd zh2 (by omega)
  | succ k ih =>
    intro p J v l6 zh1 zh2 hG
    have zhb := onf_b (dd := dd) (r := r) (tv := tv) hwf.1 hn5 p
    refine xv_iload (q := 37) rfl dX6_one_35 rfl ?_
    refine xv_bipush (v := nI 6) (q := 39) rfl dX6_one_37 rfl ?_
    refine xv_icmp_ge (q := 42) (t := 148) rfl rfl dX6_one_39 (fun h42 => ?_) (fun h42 => ?_)
    · have zhp : p = 6 := by have := nIle h42 (by omega) (by omega); omega
      subst zhp
      refine xv_iload_n (q := 149) rfl dX6_one_148 rfl rfl ?_
      refine xv_if_ne (q := 152) (t := 156) rfl rfl dX6_one_149 (fun h152 => ?_) (fun h152 => ?_)
      · refine xv_iload (q := 158) rfl dX6_one_156 rfl ?_
        refine xv_iret dX6_one_158 rfl ?_
        exact ⟨by rw [if_neg h152], rfl, hR0, rfl, hG.1⟩
      · refine xv_iload_n (q := 153) rfl dX6_one_152 rfl rfl ?_
        refine xv_goto (t := 158) rfl dX6_one_153 ?_
        refine xv_iret dX6_one_158 rfl ?_
        exact ⟨by rw [if_pos h152], rfl, hR0, rfl, hG.1⟩
    · have zhp : p < 6 := nInle h42 (by omega) (by omega)
      have hG1 := hG.put (r := r) zhp
      rw [setr_setr] at hG1
      refine xv_aload_n (q := 43) rfl dX6_one_42 rfl rfl ?_
      refine xv_geto (q := 46) rfl dX6_one_43 f_X6_41 (hg.1 _ _ rfl) (hg.2 _ _ _ rfl) ?_
      refine xv_geto (q := 49) rfl dX6_one_46 f_X6_181 (hg.1 _ _ rfl) (hg.2 _ _ _ rfl) ?_
      refine xv_geta (q := 52) rfl dX6_one_49 f_X6_113 (hg.1 _ _ rfl) (hg.2 _ _ _ rfl) ?_
      refine xv_iload_n (q := 53) rfl dX6_one_52 rfl rfl ?_
      refine xv_iload (q := 55) rfl dX6_one_53 rfl ?_
      refine xv_iast (q := 56) rfl dX6_one_55 (hg.1 _ _ rfl) rfl (by omega) (by decide) ?_
      refine xv_aload_n (q := 57) rfl dX6_one_56 rfl rfl ?_
      refine xv_geto (q := 60) rfl dX6_one_57 f_X6_41 (hg.1 _ _ rfl) (hg.2 _ _ _ rfl) ?_
      refine xv_geto (q := 63) rfl dX6_one_60 f_X6_181 (hg.1 _ _ rfl) (hg.2 _ _ _ rfl) ?_
      refine xv_iload_n (q := 64) rfl dX6_one_63 rfl rfl ?_
      refine xv_aload_n (q := 65) rfl dX6_one_64 rfl rfl ?_
      refine xv_geto (q := 68) rfl dX6_one_65 f_X6_10 (hg.1 _ _ rfl) (hg.2 _ _ _ rfl) ?_
      refine xv_geti (q := 71) rfl dX6_one_68 f_X6_98 (hg.1 _ _ rfl) ?_
      rw [show xi J 30 r (nI p) 1 7 = nI n from (congrFun (hG1.1 1 (by decide)) 7).trans hn]
      refine xv_cV2 (z := mX0_canStand) (q := 74) rfl dX6_one_71 l_X6_119 gX0_canStand (hg.1 _ _ rfl) rfl rfl rfl (c_canStand (d := d + 4) (xg_crew hg (a := 24) (Or.inr (Or.inr rfl))) hG1.2.1.1.1 hn5 (Nat.le_refl n) hr) (by omega) ?_
      refine xv_if_ne (q := 77) (t := 80) rfl rfl dX6_one_74 (fun h77 => ?_) (fun h77 => ?_)
      · have hst := bIn h77
        refine xv_aload_n (q := 81) rfl dX6_one_80 rfl rfl ?_
        refine xv_geto (q := 84) rfl dX6_one_81 f_X6_41 (hg.1 _ _ rfl) (hg.2 _ _ _ rfl) ?_
        refine xv_rV0 (z := mX5_settle) (q := 87) rfl dX6_one_84 l_X6_182 gX5_settle (hg.1 _ _ rfl) rfl rfl rfl (c_costG (d := d + 2) hg hKT hr3 hG1) (by omega) ?_
        rintro _ sh K R L ⟨rfl, rfl, rfl, rfl, za1, za2, za3⟩
        refine xv_aload_n (q := 88) rfl dX6_one_87 rfl rfl ?_
        refine xv_geto (q := 91) rfl dX6_one_88 f_X6_41 (hg.1 _ _ rfl) (hg.2 _ _ _ rfl) ?_
        refine xv_rV0 (z := mX5_cost) (q := 94) rfl dX6_one_91 l_X6_148 gX5_cost (hg.1 _ _ rfl) rfl rfl rfl (c_cost (d := d) hg za2 (hKT.ft za1.1) hr3 za3) (by omega) ?_
        rintro _ sh M R L ⟨rfl, rfl, rfl, rfl, zb1, zb2⟩
        have za1 := za1.f9 zb1 zb2
        have za2 := za2.mv zb1
        refine xv_iload (q := 96) rfl dX6_one_94 rfl ?_
        refine xv_aload_n (q := 97) rfl dX6_one_96 rfl rfl ?_
        refine xv_geto (q := 100) rfl dX6_one_97 f_X6_10 (hg.1 _ _ rfl) (hg.2 _ _ _ rfl) ?_
        refine xv_geta (q := 103) rfl dX6_one_100 f_X6_113 (hg.1 _ _ rfl) (hg.2 _ _ _ rfl) ?_
        refine xv_iload_n (q := 104) rfl dX6_one_103 rfl rfl ?_
        refine xv_iald (q := 105) rfl dX6_one_104 (hg.1 _ _ rfl) rfl (by omega) (by decide) ?_
        refine xv_as (w := nI (c 5 r)) ((congrFun (za1.1 7 (by decide)) r).trans (hm 5 r (by decide) hr)) ?_
        refine xv_icmp_ne (q := 108) (t := 112) rfl rfl dX6_one_105 (fun h108 => ?_) (fun h108 => ?_)
        · have h108 : ¬ p = c 5 r := fun q => h108 (by rw [← q])
          refine xv_aload_n (q := 113) rfl dX6_one_112 rfl rfl ?_
          refine xv_geto (q := 116) rfl dX6_one_113 f_X6_41 (hg.1 _ _ rfl) (hg.2 _ _ _ rfl) ?_
          refine xv_iload_n (q := 117) rfl dX6_one_116 rfl rfl ?_
          refine xv_rV1 (z := mX5_costToMove) (q := 120) rfl dX6_one_117 l_X6_185 gX5_costToMove (hg.1 _ _ rfl) rfl rfl rfl (c_move (d := d + 2) hg za2 (hKT.ft za1.1) hr3 zb2 hr) (by omega) ?_
          rintro _ sh M2 R L ⟨rfl, rfl, rfl, rfl, ze1, ze2⟩
          have za1 := za1.f9 ze1 ze2
          refine xv_iadd (q := 121) rfl dX6_one_120 ?_
          refine xv_as (w := nI (ont c n dd tv r p)) (by rw [nI_add]; congr 1; unfold ont; rw [if_neg h108, setr_at, setr_ne (by omega), SX.rf.set.eprc]) ?_
          refine xv_istore (q := 123) rfl dX6_one_121 rfl ?_
          refine xv_iload_n (q := 124) rfl dX6_one_123 rfl rfl ?_
          refine xv_iconst (v := (-1)) (q := 125) rfl dX6_one_124 rfl ?_
          refine xv_icmp_eq (q := 128) (t := 135) rfl rfl dX6_one_125 (fun h128 => ?_) (fun h128 => ?_)
          · refine xv_iload (q := 137) rfl dX6_one_135 rfl ?_
            refine xv_istore_n (q := 138) rfl dX6_one_137 rfl rfl ?_
            refine xv_iload (q := 140) rfl dX6_one_138 rfl ?_
            refine xv_istore (q := 142) rfl dX6_one_140 rfl ?_
            refine xv_iinc (q := 145) (v := nI 1) rfl dX6_one_142 rfl rfl ?_
            refine xv_goto (t := 35) rfl dX6_one_145 ?_
            rw [nI_add]
            have zhz := ih (p + 1) _ p (some (.int (nI (ont c n dd tv r p)))) (by omega) (by omega) za1
            rw [show onf c n dd tv r (p + 1) = some (p, ont c n dd tv r p) from (if_pos hst).trans (by
              have zhq : onf c n dd tv r p = none := by
                cases zhq : onf c n dd tv r p with
                | none => rfl
                | some q => exact absurd (by rw [zhq] at h128; exact h128) (n_m1 (by have := zhb.2 q zhq; omega))
              rw [zhq]; rfl)] at zhz
            exact zhz
          · obtain ⟨q, zhq⟩ : ∃ q, onf c n dd tv r p = some q := by
              cases zhq : onf c n dd tv r p with
              | none => rw [zhq] at h128; exact absurd rfl h128
              | some q => exact ⟨q, rfl⟩
            have hb1 := zhb.1
            refine xv_iload (q := 130) rfl dX6_one_128 rfl ?_
            refine xv_iload (q := 132) rfl dX6_one_130 rfl ?_
            refine xv_icmp_ge (q := 135) (t := 142) rfl rfl dX6_one_132 (fun h135 => ?_) (fun h135 => ?_)
            · have h135 := nIle h135 (by omega) (by have := ont_le (dd := dd) (r := r) (p := p) (tv := tv) hwf.1 hn5; omega)
              refine xv_iinc (q := 145) (v := nI 1) rfl dX6_one_142 rfl rfl ?_
              refine xv_goto (t := 35) rfl dX6_one_145 ?_
              rw [nI_add]
              have zhz := ih (p + 1) _ p (some (.int (nI (ont c n dd tv r p)))) (by omega) (by omega) za1
              rw [show onf c n dd tv r (p + 1) = onf c n dd tv r p from (if_pos hst).trans (by rw [zhq]; unfold ons; dsimp only; rw [if_neg (by rw [zhq] at h135; exact Nat.not_lt.mpr h135)])] at zhz
              exact zhz
            · have h135 := nInle h135 (by omega) (by have := ont_le (dd := dd) (r := r) (p := p) (tv := tv) hwf.1 hn5; omega)
              refine xv_iload (q := 137) rfl dX6_one_135 rfl ?_
              refine xv_istore_n (q := 138) rfl dX6_one_137 rfl rfl ?_
              refine xv_iload (q := 140) rfl dX6_one_138 rfl ?_
              refine xv_istore (q := 142) rfl dX6_one_140 rfl ?_
              refine xv_iinc (q := 145) (v := nI 1) rfl dX6_one_142 rfl rfl ?_
              refine xv_goto (t := 35) rfl dX6_one_145 ?_
              rw [nI_add]
              have zhz := ih (p + 1) _ p (some (.int (nI (ont c n dd tv r p)))) (by omega) (by omega) za1
              rw [show onf c n dd tv r (p + 1) = some (p, ont c n dd tv r p) from (if_pos hst).trans (by rw [zhq]; unfold ons; dsimp only; rw [if_pos (by rw [zhq] at h135; exact h135)])] at zhz
              exact zhz
        · have h108 : p = c 5 r := nIe h108 (by omega) (by have := (hwf.1 r hr).2.2.2.2.2.1; omega)
          refine xv_iconst (v := nI 0) (q := 109) rfl dX6_one_108 rfl ?_
          refine xv_goto (t := 120) rfl dX6_one_109 ?_
          refine xv_iadd (q := 121) rfl dX6_one_120 ?_
          refine xv_as (w := nI (ont c n dd tv r p)) (by rw [nI_add]; congr 1; unfold ont; rw [if_pos h108]) ?_
          refine xv_istore (q := 123) rfl dX6_one_121 rfl ?_
          refine xv_iload_n (q := 124) rfl dX6_one_123 rfl rfl ?_
          refine xv_iconst (v := (-1)) (q := 125) rfl dX6_one_124 rfl ?_
          refine xv_icmp_eq (q := 128) (t := 135) rfl rfl dX6_one_125 (fun h128 => ?_) (fun h128 => ?_)
          · refine xv_iload (q := 137) rfl dX6_one_135 rfl ?_
            refine xv_istore_n (q := 138) rfl dX6_one_137 rfl rfl ?_
            refine xv_iload (q := 140) rfl dX6_one_138 rfl ?_
            refine xv_istore (q := 142) rfl dX6_one_140 rfl ?_
            refine xv_iinc (q := 145) (v := nI 1) rfl dX6_one_142 rfl rfl ?_
            refine xv_goto (t := 35) rfl dX6_one_145 ?_
            rw [nI_add]
            have zhz := ih (p + 1) _ p (some (.int (nI (ont c n dd tv r p)))) (by omega) (by omega) za1
            rw [show onf c n dd tv r (p + 1) = some (p, ont c n dd tv r p) from (if_pos hst).trans (by
              have zhq : onf c n dd tv r p = none := by
                cases zhq : onf c n dd tv r p with
                | none => rfl
                | some q => exact absurd (by rw [zhq] at h128; exact h128) (n_m1 (by have := zhb.2 q zhq; omega))
              rw [zhq]; rfl)] at zhz
            exact zhz
          · obtain ⟨q, zhq⟩ : ∃ q, onf c n dd tv r p = some q := by
              cases zhq : onf c n dd tv r p with
              | none => rw [zhq] at h128; exact absurd rfl h128
              | some q => exact ⟨q, rfl⟩
            have hb1 := zhb.1
            refine xv_iload (q := 130) rfl dX6_one_128 rfl ?_
            refine xv_iload (q := 132) rfl dX6_one_130 rfl ?_
            refine xv_icmp_ge (q := 135) (t := 142) rfl rfl dX6_one_132 (fun h135 => ?_) (fun h135 => ?_)
            · have h135 := nIle h135 (by omega) (by have := ont_le (dd := dd) (r := r) (p := p) (tv := tv) hwf.1 hn5; omega)
              refine xv_iinc (q := 145) (v := nI 1) rfl dX6_one_142 rfl rfl ?_
              refine xv_goto (t := 35) rfl dX6_one_145 ?_
              rw [nI_add]
              have zhz := ih (p + 1) _ p (some (.int (nI (ont c n dd tv r p)))) (by omega) (by omega) za1
              rw [show onf c n dd tv r (p + 1) = onf c n dd tv r p from (if_pos hst).trans (by rw [zhq]; unfold ons; dsimp only; rw [if_neg (by rw [zhq] at h135; exact Nat.not_lt.mpr h135)])] at zhz
              exact zhz
            · have h135 := nInle h135 (by omega) (by have := ont_le (dd := dd) (r := r) (p := p) (tv := tv) hwf.1 hn5; omega)
              refine xv_iload (q := 137) rfl dX6_one_135 rfl ?_
              refine xv_istore_n (q := 138) rfl dX6_one_137 rfl rfl ?_
              refine xv_iload (q := 140) rfl dX6_one_138 rfl ?_
              refine xv_istore (q := 142) rfl dX6_one_140 rfl ?_
              refine xv_iinc (q := 145) (v := nI 1) rfl dX6_one_142 rfl rfl ?_
              refine xv_goto (t := 35) rfl dX6_one_145 ?_
              rw [nI_add]
              have zhz := ih (p + 1) _ p (some (.int (nI (ont c n dd tv r p)))) (by omega) (by omega) za1
              rw [show onf c n dd tv r (p + 1) = some (p, ont c n dd tv r p) from (if_pos hst).trans (by rw [zhq]; unfold ons; dsimp only; rw [if_pos (by rw [zhq] at h135; exact h135)])] at zhz
              exact zhz
      · have hst := bIz h77
        refine xv_goto (t := 142) rfl dX6_one_77 ?_
        refine xv_iinc (q := 145) (v := nI 1) rfl dX6_one_142 rfl rfl ?_
        refine xv_goto (t := 35) rfl dX6_one_145 ?_
        rw [nI_add]
        have zhz := ih (p + 1) _ p l6 (by omega) (by omega) hG1
        rw [show onf c n dd tv r (p + 1) = onf c n dd tv r p from if_neg (by rw [hst]; decide)] at zhz
        exact zhz
theorem x_one (hg : XG sh R) (hK : KXc I n c dd u) (hT : KTs sh I R tc tx) (hu : u < tc) (x w : Int32) : XC E mX6_one (d + 6) 0 0 [.ref 0, .int x, .int w] sh I R L (QTr (.int (sp_one n c dd (tvx tx u) x w)) sh I R L) := by
  obtain ⟨t, hst⟩ := c_start2 (E := E) (d := d) (L := L) hg hK hT hu
  obtain ⟨hm, hn, hn5, hdd, hd2, hu2, hwf⟩ := id hK
  refine XC.of (by decide) rfl rfl ?_
  refine xv_aload_n (q := 1) rfl dX6_one_0 rfl rfl ?_
  refine xv_geto (q := 4) rfl dX6_one_1 f_X6_10 (hg.1 _ _ rfl) (hg.2 _ _ _ rfl) ?_
  refine xv_iload_n (q := 5) rfl dX6_one_4 rfl rfl ?_
  refine xv_cV1 (z := mX0_has) (q := 8) rfl dX6_one_5 l_X6_68 gX0_has (hg.1 _ _ rfl) rfl rfl rfl (c_has' (d := d + 4) (xg_crew hg (a := 1) (Or.inl rfl)) hn hn5 x) (by omega) ?_
  refine xv_if_eq (q := 11) (t := 20) rfl rfl dX6_one_8 (fun zh8 => ?_) (fun zh8 => ?_)
  · have zh8 := bIz zh8
    refine xv_bipush (v := (-2)) (q := 22) rfl dX6_one_20 rfl ?_
    refine xv_iret dX6_one_22 rfl ?_
    rw [show sp_one n c dd (tvx tx u) x w = -2 from if_pos (Or.inl zh8)]
    exact QTr.rf
  · have zh8 := bIn zh8
    refine xv_iload_n (q := 12) rfl dX6_one_11 rfl rfl ?_
    refine xv_if_lt (q := 15) (t := 20) rfl rfl dX6_one_12 (fun h12 => ?_) (fun h12 => ?_)
    · refine xv_bipush (v := (-2)) (q := 22) rfl dX6_one_20 rfl ?_
      refine xv_iret dX6_one_22 rfl ?_
      rw [show sp_one n c dd (tvx tx u) x w = -2 from if_pos (Or.inr (Or.inl h12))]
      exact QTr.rf
    · refine xv_iload_n (q := 16) rfl dX6_one_15 rfl rfl ?_
      refine xv_iconst (v := nI 1) (q := 17) rfl dX6_one_16 rfl ?_
      refine xv_icmp_le (q := 20) (t := 23) rfl rfl dX6_one_17 (fun h17 => ?_) (fun h17 => ?_)
      · have zhq : sp_one n c dd (tvx tx u) x w = _ := if_neg (fun z => z.elim (fun z => by rw [zh8] at z; cases z) (fun z => z.elim h12 (fun z => z h17)))
        rw [zhq]
        obtain ⟨r, hr, rfl⟩ := isR_of hn5 zh8
        rw [nI_clamp (n := r) (by omega)]
        refine xv_aload_n (q := 24) rfl dX6_one_23 rfl rfl ?_
        refine xv_rV0 (z := mX6_setOut) (q := 27) rfl dX6_one_24 l_X6_145 gX6_setOut (hg.1 _ _ rfl) rfl rfl rfl (hst) (by omega) ?_
        rintro _ sh J R' L ⟨rfl, rfl, rfl, za1, za2, za3, za4, za5, za6, za7⟩
        refine xv_iconst (v := (-1)) (q := 28) rfl dX6_one_27 rfl ?_
        refine xv_istore_n (q := 29) rfl dX6_one_28 rfl rfl ?_
        refine xv_iconst (v := nI 0) (q := 30) rfl dX6_one_29 rfl ?_
        refine xv_istore (q := 32) rfl dX6_one_30 rfl ?_
        refine xv_iconst (v := nI 0) (q := 33) rfl dX6_one_32 rfl ?_
        refine xv_istore (q := 35) rfl dX6_one_33 rfl ?_
        have hm' : KXc J n c dd u := ⟨fun w r hw hr => by rw [za2 _ (by omega)]; exact hm w r hw hr, by rw [za2 1 (by decide)]; exact hn, hn5, by rw [za2 1 (by decide)]; exact hdd, hd2, by rw [za2 1 (by decide)]; exact hu2, hwf⟩
        have zhz := c_one_loop (E := E) (d := d) (L := L) (I := J) (n := n) (c := c) (dd := dd) (R0 := R) za6 hm' za5 za7 hr w za1 7 0 J (c 5 r) none (by omega) (by omega) (by rw [setr_self]; exact TG.of FT.rf za3 za4)
        exact zhz.imp (fun v sh' K R'' L' q => ⟨q.1, q.2.1, q.2.2.1, q.2.2.2.1, za2.trans q.2.2.2.2⟩)
      · refine xv_bipush (v := (-2)) (q := 22) rfl dX6_one_20 rfl ?_
        refine xv_iret dX6_one_22 rfl ?_
        rw [show sp_one n c dd (tvx tx u) x w = -2 from if_pos (Or.inr (Or.inr h17))]
        exact QTr.rf
end ONE

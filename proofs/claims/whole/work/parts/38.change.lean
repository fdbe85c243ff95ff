/-! change, second -/
/-- a and b have changed places -/
def swp (c : CR) (a b : Nat) : CR := setr (setr c 5 a (c 5 b)) 5 b (c 5 a)
def chs (c : CR) (n dd : Nat) (tv : TV) (s : Int32 × Nat) (a b : Nat) : Int32 × Nat := if aks (ci (swp c a b)) n = true ∧ rdc (swp c a b) n dd (aln n) tv < s.2 then (nI (10 * a + b), rdc (swp c a b) n dd (aln n) tv) else s
/-- b from a + 1 on, k of them -/
def chb (c : CR) (n dd : Nat) (tv : TV) (a : Nat) (s : Int32 × Nat) : Nat → Int32 × Nat
  | 0 => s
  | k + 1 => chs c n dd tv (chb c n dd tv a s k) a (a + 1 + k)
def cha (c : CR) (n dd : Nat) (tv : TV) : Nat → Int32 × Nat
  | 0 => (-1, rdc c n dd (aln n) tv)
  | a + 1 => chb c n dd tv a (cha c n dd tv a) (n - (a + 1))
def sp_change (n : Nat) (c : CR) (dd : Nat) (tv : TV) (what : Int32) : Int32 := if what < 0 ∨ ¬ what ≤ nI 1 then -2 else if what = 0 then (cha c n dd tv n).1 else nI (cha c n dd tv n).2
theorem chs_le {c : CR} {n dd : Nat} {tv : TV} {s : Int32 × Nat} {a b m : Nat} (h : s.2 ≤ m) : (chs c n dd tv s a b).2 ≤ m := by
  unfold chs
  split
  next q => exact Nat.le_trans (Nat.le_of_lt q.2) h
  · exact h
theorem chb_le {c : CR} {n dd : Nat} {tv : TV} {s : Int32 × Nat} {a m : Nat} (h : s.2 ≤ m) : ∀ k, (chb c n dd tv a s k).2 ≤ m
  | 0 => h
  | k + 1 => chs_le (chb_le h k)
theorem cha_le {c : CR} {n dd : Nat} {tv : TV} : ∀ a, (cha c n dd tv a).2 ≤ rdc c n dd (aln n) tv
  | 0 => Nat.le_refl _
  | a + 1 => chb_le (cha_le a) _
theorem swp_at {c : CR} {a b : Nat} (h : a ≠ b) : setr (setr (swp c a b) 5 a (c 5 a)) 5 b (c 5 b) = c := by
  funext w r
  unfold swp setr
  by_cases zh5 : w = 5
  · subst zh5
    by_cases zhb : r = b
    · subst zhb; simp
    · by_cases ha : r = a
      · subst ha; simp [zhb]
      · simp [zhb, ha]
  · simp [zh5]
/-- the costs without r -/
def wlk (c : CR) (n dd : Nat) (tv : TV) : Nat → Option (Nat × Nat)
  | 0 => none
  | r + 1 => ons (wlk c n dd tv r) r (rdc c n dd (bcl (aln n) r) tv)
def sp_second (n : Nat) (c : CR) (tv : TV) (dd : Nat) (what : Int32) : Int32 := if what < 0 ∨ ¬ what ≤ nI 1 then -100000 else if what = nI 1 then onP (wlk c n dd tv n) else nI (rdc c n 1 (aln n) tv) - nI (rdc c n 2 (aln n) tv)
theorem ons_b {o : Option (Nat × Nat)} {p t m : Nat} (h : onL o ≤ m) (ht : t ≤ m) (zh2 : ∀ q, o = some q → q.1 < p) : onL (ons o p t) ≤ m ∧ ∀ q, ons o p t = some q → q.1 < p + 1 := by
  cases o with
  | none => exact ⟨ht, fun q zhq => by cases zhq; exact Nat.lt_succ_self p⟩
  | some zq0 =>
    have zh4 := zh2 zq0 rfl
    unfold ons
    dsimp only
    split
    · exact ⟨ht, fun q zhq => by cases zhq; exact Nat.lt_succ_self p⟩
    · exact ⟨h, fun q zhq => by cases zhq; omega⟩
theorem wlk_b {c : CR} {n dd : Nat} {tv : TV} (hw : wfn c n) (hn : n ≤ 5) : ∀ r, onL (wlk c n dd tv r) ≤ 10350 ∧ ∀ q, wlk c n dd tv r = some q → q.1 < r
  | 0 => ⟨Nat.zero_le _, fun q h => by cases h⟩
  | r + 1 => ons_b (wlk_b hw hn r).1 (rdc_le (fun a ha => (hw a ha).2.2.1) hn) (wlk_b hw hn r).2
section CHANGE
variable {E : XE} {d : Nat} {sh : XSh} {I : XI} {R : XRf} {L : XL} {n dd u tc : Nat} {c : CR} {tx : TXS} {tv : TV} {t : Nat}
def QCC (v0 : Value) (n : Nat) (c : CR) (dd P : Nat) (tv : TV) (I0 : XI) (sh : XSh) (R : XRf) (L : XL) : XQ := fun v sh' J R' L' => v = some v0 ∧ sh' = sh ∧ R' = R ∧ L' = L ∧ TG I0 J n c c dd P tv
theorem c_swp (hg : XG sh R) (hK : KXc I n c dd u) (hKT : KT sh I R t tv) (hr3 : R 23 1 = some t) {J : XI} {P : Nat} (hG : TG I J n c c dd P tv) {a b : Nat} (ha : a < n) (zhb : b < n) (hab : a ≠ b) (x : Int32) : XC E mX6_costOfChanging (d + 5) 0 0 [.ref 0, .int (nI a), .int (nI b), .int x] sh J R L (QCC (.int (if aks (ci (swp c a b)) n = true then nI (rdc (swp c a b) n dd P tv) else x)) n c dd P tv I sh R L) := by
  obtain ⟨hm, hn, hn5, hdd, hd2, hu, hwf⟩ := id hK
  refine XC.of (by decide) rfl rfl ?_
  refine xv_aload_n (q := 1) rfl dX6_costOfChanging_0 rfl rfl ?_
  refine xv_geto (q := 4) rfl dX6_costOfChanging_1 f_X6_41 (hg.1 _ _ rfl) (hg.2 _ _ _ rfl) ?_
  refine xv_geto (q := 7) rfl dX6_costOfChanging_4 f_X6_181 (hg.1 _ _ rfl) (hg.2 _ _ _ rfl) ?_
  refine xv_geta (q := 10) rfl dX6_costOfChanging_7 f_X6_113 (hg.1 _ _ rfl) (hg.2 _ _ _ rfl) ?_
  refine xv_astore (q := 12) rfl dX6_costOfChanging_10 rfl ?_
  refine xv_aload (q := 14) rfl dX6_costOfChanging_12 rfl ?_
  refine xv_iload_n (q := 15) rfl dX6_costOfChanging_14 rfl rfl ?_
  refine xv_aload_n (q := 16) rfl dX6_costOfChanging_15 rfl rfl ?_
  refine xv_geto (q := 19) rfl dX6_costOfChanging_16 f_X6_10 (hg.1 _ _ rfl) (hg.2 _ _ _ rfl) ?_
  refine xv_geta (q := 22) rfl dX6_costOfChanging_19 f_X6_113 (hg.1 _ _ rfl) (hg.2 _ _ _ rfl) ?_
  refine xv_iload_n (q := 23) rfl dX6_costOfChanging_22 rfl rfl ?_
  refine xv_iald (q := 24) rfl dX6_costOfChanging_23 (hg.1 _ _ rfl) rfl (by omega) (by decide) ?_
  refine xv_as (w := nI (c 5 b)) ((congrFun (hG.1 7 (by decide)) b).trans (hm 5 b (by decide) zhb)) ?_
  refine xv_iast (q := 25) rfl dX6_costOfChanging_24 (hg.1 _ _ rfl) rfl (by omega) (by decide) ?_
  have hG1 := hG.put (r := a) (p := c 5 b) (hwf.1 b zhb).2.2.2.2.2.1
  refine xv_aload (q := 27) rfl dX6_costOfChanging_25 rfl ?_
  refine xv_iload_n (q := 28) rfl dX6_costOfChanging_27 rfl rfl ?_
  refine xv_aload_n (q := 29) rfl dX6_costOfChanging_28 rfl rfl ?_
  refine xv_geto (q := 32) rfl dX6_costOfChanging_29 f_X6_10 (hg.1 _ _ rfl) (hg.2 _ _ _ rfl) ?_
  refine xv_geta (q := 35) rfl dX6_costOfChanging_32 f_X6_113 (hg.1 _ _ rfl) (hg.2 _ _ _ rfl) ?_
  refine xv_iload_n (q := 36) rfl dX6_costOfChanging_35 rfl rfl ?_
  refine xv_iald (q := 37) rfl dX6_costOfChanging_36 (hg.1 _ _ rfl) rfl (by omega) (by decide) ?_
  refine xv_as (w := nI (c 5 a)) ((congrFun (hG1.1 7 (by decide)) a).trans (hm 5 a (by decide) ha)) ?_
  refine xv_iast (q := 38) rfl dX6_costOfChanging_37 (hg.1 _ _ rfl) rfl (by omega) (by decide) ?_
  have hG2 : TG I _ n c (swp c a b) dd P tv := hG1.put (r := b) (p := c 5 a) (hwf.1 a ha).2.2.2.2.2.1
  refine xv_iload_n (q := 39) rfl dX6_costOfChanging_38 rfl rfl ?_
  refine xv_istore (q := 41) rfl dX6_costOfChanging_39 rfl ?_
  refine xv_aload_n (q := 42) rfl dX6_costOfChanging_41 rfl rfl ?_
  refine xv_geto (q := 45) rfl dX6_costOfChanging_42 f_X6_41 (hg.1 _ _ rfl) (hg.2 _ _ _ rfl) ?_
  refine xv_geto (q := 48) rfl dX6_costOfChanging_45 f_X6_181 (hg.1 _ _ rfl) (hg.2 _ _ _ rfl) ?_
  refine xv_cV0 (z := mX0_allCanStand) (q := 51) rfl dX6_costOfChanging_48 l_X6_211 gX0_allCanStand (hg.1 _ _ rfl) rfl rfl rfl (c_allCanStand (d := d + 3) (xg_crew hg (a := 24) (Or.inr (Or.inr rfl))) hG2.2.1.1.1 hG2.2.1.1.2.1 hn5) (by omega) ?_
  refine xv_if_eq (q := 54) (t := 70) rfl rfl dX6_costOfChanging_51 (fun h51 => ?_) (fun h51 => ?_)
  · have hst := bIz h51
    refine xv_aload (q := 72) rfl dX6_costOfChanging_70 rfl ?_
    refine xv_iload_n (q := 73) rfl dX6_costOfChanging_72 rfl rfl ?_
    refine xv_aload_n (q := 74) rfl dX6_costOfChanging_73 rfl rfl ?_
    refine xv_geto (q := 77) rfl dX6_costOfChanging_74 f_X6_10 (hg.1 _ _ rfl) (hg.2 _ _ _ rfl) ?_
    refine xv_geta (q := 80) rfl dX6_costOfChanging_77 f_X6_113 (hg.1 _ _ rfl) (hg.2 _ _ _ rfl) ?_
    refine xv_iload_n (q := 81) rfl dX6_costOfChanging_80 rfl rfl ?_
    refine xv_iald (q := 82) rfl dX6_costOfChanging_81 (hg.1 _ _ rfl) rfl (by omega) (by decide) ?_
    refine xv_as (w := nI (c 5 a)) ((congrFun (hG2.1 7 (by decide)) a).trans (hm 5 a (by decide) ha)) ?_
    refine xv_iast (q := 83) rfl dX6_costOfChanging_82 (hg.1 _ _ rfl) rfl (by omega) (by decide) ?_
    refine xv_aload (q := 85) rfl dX6_costOfChanging_83 rfl ?_
    refine xv_iload_n (q := 86) rfl dX6_costOfChanging_85 rfl rfl ?_
    refine xv_aload_n (q := 87) rfl dX6_costOfChanging_86 rfl rfl ?_
    refine xv_geto (q := 90) rfl dX6_costOfChanging_87 f_X6_10 (hg.1 _ _ rfl) (hg.2 _ _ _ rfl) ?_
    refine xv_geta (q := 93) rfl dX6_costOfChanging_90 f_X6_113 (hg.1 _ _ rfl) (hg.2 _ _ _ rfl) ?_
    refine xv_iload_n (q := 94) rfl dX6_costOfChanging_93 rfl rfl ?_
    refine xv_iald (q := 95) rfl dX6_costOfChanging_94 (hg.1 _ _ rfl) rfl (by omega) (by decide) ?_
    refine xv_as (w := nI (c 5 b)) ((congrFun ((hG2.put (r := a) (p := c 5 a) (hwf.1 a ha).2.2.2.2.2.1).1 7 (by decide)) b).trans (hm 5 b (by decide) zhb)) ?_
    refine xv_iast (q := 96) rfl dX6_costOfChanging_95 (hg.1 _ _ rfl) rfl (by omega) (by decide) ?_
    refine xv_iload (q := 98) rfl dX6_costOfChanging_96 rfl ?_
    refine xv_iret dX6_costOfChanging_98 rfl ?_
    have hG5 := (hG2.put (r := a) (p := c 5 a) (hwf.1 a ha).2.2.2.2.2.1).put (r := b) (p := c 5 b) (hwf.1 b zhb).2.2.2.2.2.1
    rw [swp_at hab] at hG5
    exact ⟨by rw [if_neg (by rw [hst]; decide)], rfl, rfl, rfl, hG5⟩
  · have hst := bIn h51
    refine xv_aload_n (q := 55) rfl dX6_costOfChanging_54 rfl rfl ?_
    refine xv_geto (q := 58) rfl dX6_costOfChanging_55 f_X6_41 (hg.1 _ _ rfl) (hg.2 _ _ _ rfl) ?_
    refine xv_rV0 (z := mX5_settle) (q := 61) rfl dX6_costOfChanging_58 l_X6_182 gX5_settle (hg.1 _ _ rfl) rfl rfl rfl (c_costG (d := d + 2) hg hKT hr3 hG2) (by omega) ?_
    rintro _ sh K R L ⟨rfl, rfl, rfl, rfl, za1, za2, za3⟩
    refine xv_aload_n (q := 62) rfl dX6_costOfChanging_61 rfl rfl ?_
    refine xv_geto (q := 65) rfl dX6_costOfChanging_62 f_X6_41 (hg.1 _ _ rfl) (hg.2 _ _ _ rfl) ?_
    refine xv_rV0 (z := mX5_cost) (q := 68) rfl dX6_costOfChanging_65 l_X6_148 gX5_cost (hg.1 _ _ rfl) rfl rfl rfl (c_cost (d := d) hg za2 (hKT.ft za1.1) hr3 za3) (by omega) ?_
    rintro _ sh M R L ⟨rfl, rfl, rfl, rfl, zb1, zb2⟩
    have za1 := za1.f9 zb1 zb2
    refine xv_istore (q := 70) rfl dX6_costOfChanging_68 rfl ?_
    refine xv_aload (q := 72) rfl dX6_costOfChanging_70 rfl ?_
    refine xv_iload_n (q := 73) rfl dX6_costOfChanging_72 rfl rfl ?_
    refine xv_aload_n (q := 74) rfl dX6_costOfChanging_73 rfl rfl ?_
    refine xv_geto (q := 77) rfl dX6_costOfChanging_74 f_X6_10 (hg.1 _ _ rfl) (hg.2 _ _ _ rfl) ?_
    refine xv_geta (q := 80) rfl dX6_costOfChanging_77 f_X6_113 (hg.1 _ _ rfl) (hg.2 _ _ _ rfl) ?_
    refine xv_iload_n (q := 81) rfl dX6_costOfChanging_80 rfl rfl ?_
    refine xv_iald (q := 82) rfl dX6_costOfChanging_81 (hg.1 _ _ rfl) rfl (by omega) (by decide) ?_
    refine xv_as (w := nI (c 5 a)) ((congrFun (za1.1 7 (by decide)) a).trans (hm 5 a (by decide) ha)) ?_
    refine xv_iast (q := 83) rfl dX6_costOfChanging_82 (hg.1 _ _ rfl) rfl (by omega) (by decide) ?_
    refine xv_aload (q := 85) rfl dX6_costOfChanging_83 rfl ?_
    refine xv_iload_n (q := 86) rfl dX6_costOfChanging_85 rfl rfl ?_
    refine xv_aload_n (q := 87) rfl dX6_costOfChanging_86 rfl rfl ?_
    refine xv_geto (q := 90) rfl dX6_costOfChanging_87 f_X6_10 (hg.1 _ _ rfl) (hg.2 _ _ _ rfl) ?_
    refine xv_geta (q := 93) rfl dX6_costOfChanging_90 f_X6_113 (hg.1 _ _ rfl) (hg.2 _ _ _ rfl) ?_
    refine xv_iload_n (q := 94) rfl dX6_costOfChanging_93 rfl rfl ?_
    refine xv_iald (q := 95) rfl dX6_costOfChanging_94 (hg.1 _ _ rfl) rfl (by omega) (by decide) ?_
    refine xv_as (w := nI (c 5 b)) ((congrFun ((za1.put (r := a) (p := c 5 a) (hwf.1 a ha).2.2.2.2.2.1).1 7 (by decide)) b).trans (hm 5 b (by decide) zhb)) ?_
    refine xv_iast (q := 96) rfl dX6_costOfChanging_95 (hg.1 _ _ rfl) rfl (by omega) (by decide) ?_
    refine xv_iload (q := 98) rfl dX6_costOfChanging_96 rfl ?_
    refine xv_iret dX6_costOfChanging_98 rfl ?_
    have hG5 := (za1.put (r := a) (p := c 5 a) (hwf.1 a ha).2.2.2.2.2.1).put (r := b) (p := c 5 b) (hwf.1 b zhb).2.2.2.2.2.1
    rw [swp_at hab] at hG5
    exact ⟨by rw [if_pos hst], rfl, rfl, rfl, hG5⟩
theorem c_chg_in (hg : XG sh R) (hK : KXc I n c dd u) (hKT : KT sh I R t tv) (hr3 : R 23 1 = some t) {a : Nat} (ha : a < n) (w : Int32) {s : Int32 × Nat} (zhs : s.2 ≤ 10350) {Q : XQ} (KK : ∀ (J : XI) (l5 l6 : Option Value), TG I J n c c dd (aln n) tv → XV E mX6_change (d + 7) 0 0 Q 0 0 94 [some (.ref 0), some (.int w), some (.int (chb c n dd tv a s (n - (a + 1))).1), some (.int (nI (chb c n dd tv a s (n - (a + 1))).2)), some (.int (nI a)), l5, l6] [] sh J R L) :
    ∀ (k j : Nat) (J : XI) (l6 : Option Value), a + 1 + j ≤ n → n < a + 1 + j + k → TG I J n c c dd (aln n) tv → XV E mX6_change (d + 7) 0 0 Q 0 0 47 [some (.ref 0), some (.int w), some (.int (chb c n dd tv a s j).1), some (.int (nI (chb c n dd tv a s j).2)), some (.int (nI a)), some (.int (nI (a + 1 + j))), l6] [] sh J R L := by
  obtain ⟨hm, hn, hn5, hdd, hd2, hu, hwf⟩ := id hK
  intro k
  induction k with
  | zero => intro j J l6 zh1 zh2; exact absurd zh2 (by omega)
  | succ k ih =>
    intro j J l6 zh1 zh2 hG
    have hsl := chb_le (c := c) (n := n) (dd := dd) (tv := tv) (a := a) zhs j
    have hrl := rdc_le (dd := dd) (P := aln n) (tv := tv) (c := swp c a (a + 1 + j)) (n := n) (fun r hr => by unfold swp; rw [setr_ne (by omega), setr_ne (by omega)]; exact (hwf.1 r hr).2.2.1) hn5
    refine xv_iload (q := 49) rfl dX6_change_47 rfl ?_
    refine xv_aload_n (q := 50) rfl dX6_change_49 rfl rfl ?_
    refine xv_geto (q := 53) rfl dX6_change_50 f_X6_10 (hg.1 _ _ rfl) (hg.2 _ _ _ rfl) ?_
    refine xv_geti (q := 56) rfl dX6_change_53 f_X6_98 (hg.1 _ _ rfl) ?_
    rw [show J 1 7 = nI n from (congrFun (hG.1 1 (by decide)) 7).trans hn]
    refine xv_icmp_ge (q := 59) (t := 94) rfl rfl dX6_change_56 (fun h59 => ?_) (fun h59 => ?_)
    · have zhj : j = n - (a + 1) := by have := nIle h59 (by omega) (by omega); omega
      rw [zhj]
      exact KK J _ _ hG
    · have zhj : a + 1 + j < n := nInle h59 (by omega) (by omega)
      refine xv_aload_n (q := 60) rfl dX6_change_59 rfl rfl ?_
      refine xv_iload (q := 62) rfl dX6_change_60 rfl ?_
      refine xv_iload (q := 64) rfl dX6_change_62 rfl ?_
      refine xv_iload_n (q := 65) rfl dX6_change_64 rfl rfl ?_
      refine xv_rV3 (z := mX6_costOfChanging) (q := 68) rfl dX6_change_65 l_X6_188 gX6_costOfChanging (hg.1 _ _ rfl) rfl rfl rfl (c_swp (d := d) hg hK hKT hr3 hG ha zhj (by omega) _) (by omega) ?_
      rintro _ sh K R L ⟨rfl, rfl, rfl, rfl, za1⟩
      by_cases hst : aks (ci (swp c a (a + 1 + j))) n = true
      · rw [if_pos hst]
        refine xv_istore (q := 70) rfl dX6_change_68 rfl ?_
        refine xv_iload (q := 72) rfl dX6_change_70 rfl ?_
        refine xv_iload_n (q := 73) rfl dX6_change_72 rfl rfl ?_
        refine xv_icmp_ge (q := 76) (t := 88) rfl rfl dX6_change_73 (fun h76 => ?_) (fun h76 => ?_)
        · have h76 := nIle h76 (by omega) (by omega)
          refine xv_iinc (q := 91) (v := nI 1) rfl dX6_change_88 rfl rfl ?_
          refine xv_goto (t := 47) rfl dX6_change_91 ?_
          rw [nI_add]
          have zhz := ih (j + 1) K (some (.int (nI (rdc (swp c a (a + 1 + j)) n dd (aln n) tv)))) (by omega) (by omega) za1
          rw [show chb c n dd tv a s (j + 1) = chb c n dd tv a s j from (if_neg (fun z => by have := z.2; omega))] at zhz
          exact zhz
        · have h76 := nInle h76 (by omega) (by omega)
          refine xv_iload (q := 78) rfl dX6_change_76 rfl ?_
          refine xv_istore_n (q := 79) rfl dX6_change_78 rfl rfl ?_
          refine xv_bipush (v := nI 10) (q := 81) rfl dX6_change_79 rfl ?_
          refine xv_iload (q := 83) rfl dX6_change_81 rfl ?_
          refine xv_imul (q := 84) rfl dX6_change_83 ?_
          refine xv_as (w := nI (10 * a)) (pk_mul _ _) ?_
          refine xv_iload (q := 86) rfl dX6_change_84 rfl ?_
          refine xv_iadd (q := 87) rfl dX6_change_86 ?_
          refine xv_as (w := nI (10 * a + (a + 1 + j))) (nI_add _ _) ?_
          refine xv_istore_n (q := 88) rfl dX6_change_87 rfl rfl ?_
          refine xv_iinc (q := 91) (v := nI 1) rfl dX6_change_88 rfl rfl ?_
          refine xv_goto (t := 47) rfl dX6_change_91 ?_
          rw [nI_add]
          have zhz := ih (j + 1) K (some (.int (nI (rdc (swp c a (a + 1 + j)) n dd (aln n) tv)))) (by omega) (by omega) za1
          rw [show chb c n dd tv a s (j + 1) = (nI (10 * a + (a + 1 + j)), rdc (swp c a (a + 1 + j)) n dd (aln n) tv) from (if_pos ⟨hst, h76⟩)] at zhz
          exact zhz
      rw [if_neg hst]
      refine xv_istore (q := 70) rfl dX6_change_68 rfl ?_
      refine xv_iload (q := 72) rfl dX6_change_70 rfl ?_
      refine xv_iload_n (q := 73) rfl dX6_change_72 rfl rfl ?_
      refine xv_icmp_ge (q := 76) (t := 88) rfl rfl dX6_change_73 (fun h76 => ?_) (fun h76 => ?_)
      · refine xv_iinc (q := 91) (v := nI 1) rfl dX6_change_88 rfl rfl ?_
        refine xv_goto (t := 47) rfl dX6_change_91 ?_
        rw [nI_add]
        have zhz := ih (j + 1) K (some (.int (nI (chb c n dd tv a s j).2))) (by omega) (by omega) za1
        rw [show chb c n dd tv a s (j + 1) = chb c n dd tv a s j from (if_neg (fun z => hst z.1))] at zhz
        exact zhz
      · exact absurd (Int32.le_iff_toInt_le.mpr (Int.le_refl _)) h76
theorem c_chg_out (hg : XG sh R) (hK : KXc I n c dd u) (hKT : KT sh I R t tv) (hr3 : R 23 1 = some t) (w : Int32) {R0 : XRf} (hR0 : RT R0 R) : ∀ (k a : Nat) (J : XI) (l5 l6 : Option Value), a ≤ n → n < a + k → TG I J n c c dd (aln n) tv → XV E mX6_change (d + 7) 0 0 (QTr (.int (if w = 0 then (cha c n dd tv n).1 else nI (cha c n dd tv n).2)) sh I R0 L) 0 0 29 [some (.ref 0), some (.int w), some (.int (cha c n dd tv a).1), some (.int (nI (cha c n dd tv a).2)), some (.int (nI a)), l5, l6] [] sh J R L := by
  obtain ⟨hm, hn, hn5, hdd, hd2, hu, hwf⟩ := id hK
  have hrl := rdc_le (dd := dd) (P := aln n) (tv := tv) (c := c) (n := n) (fun r hr => (hwf.1 r hr).2.2.1) hn5
  intro k
  induction k with
  | zero => intro a J l5 l6 zh1 zh2; exact absurd zh2 (by omega)
  | succ k ih =>
    intro a J l5 l6 zh1 zh2 hG
    have hsl := cha_le (c := c) (n := n) (dd := dd) (tv := tv) a
    refine xv_iload (q := 31) rfl dX6_change_29 rfl ?_
    refine xv_aload_n (q := 32) rfl dX6_change_31 rfl rfl ?_
    refine xv_geto (q := 35) rfl dX6_change_32 f_X6_10 (hg.1 _ _ rfl) (hg.2 _ _ _ rfl) ?_
    refine xv_geti (q := 38) rfl dX6_change_35 f_X6_98 (hg.1 _ _ rfl) ?_
    rw [show J 1 7 = nI n from (congrFun (hG.1 1 (by decide)) 7).trans hn]
    refine xv_icmp_ge (q := 41) (t := 100) rfl rfl dX6_change_38 (fun h41 => ?_) (fun h41 => ?_)
    · have han : a = n := by have := nIle h41 (by omega) (by omega); omega
      subst han
      refine xv_iload_n (q := 101) rfl dX6_change_100 rfl rfl ?_
      refine xv_if_ne (q := 104) (t := 108) rfl rfl dX6_change_101 (fun h104 => ?_) (fun h104 => ?_)
      · refine xv_iload_n (q := 109) rfl dX6_change_108 rfl rfl ?_
        refine xv_iret dX6_change_109 rfl ?_
        exact ⟨by rw [if_neg h104], rfl, hR0, rfl, hG.1⟩
      · refine xv_iload_n (q := 105) rfl dX6_change_104 rfl rfl ?_
        refine xv_goto (t := 109) rfl dX6_change_105 ?_
        refine xv_iret dX6_change_109 rfl ?_
        exact ⟨by rw [if_pos h104], rfl, hR0, rfl, hG.1⟩
    · have han : a < n := nInle h41 (by omega) (by omega)
      refine xv_iload (q := 43) rfl dX6_change_41 rfl ?_
      refine xv_iconst (v := nI 1) (q := 44) rfl dX6_change_43 rfl ?_
      refine xv_iadd (q := 45) rfl dX6_change_44 ?_
      refine xv_as (w := nI (a + 1)) (nI_add _ _) ?_
      refine xv_istore (q := 47) rfl dX6_change_45 rfl ?_
      refine c_chg_in (k := n + 1) hg hK hKT hr3 han w (s := cha c n dd tv a) (by omega) (fun K zm5 zm6 hG2 => ?_) 0 J l6 (by omega) (by omega) hG
      refine xv_iinc (q := 97) (v := nI 1) rfl dX6_change_94 rfl rfl ?_
      refine xv_goto (t := 29) rfl dX6_change_97 ?_
      rw [nI_add]
      exact ih (a + 1) K zm5 zm6 (by omega) (by omega) hG2
theorem x_change (hg : XG sh R) (hK : KXc I n c dd u) (hT : KTs sh I R tc tx) (hu : u < tc) (w : Int32) : XC E mX6_change (d + 7) 0 0 [.ref 0, .int w] sh I R L (QTr (.int (sp_change n c dd (tvx tx u) w)) sh I R L) := by
  obtain ⟨t, hst⟩ := c_start2 (E := E) (d := d + 1) (L := L) hg hK hT hu
  obtain ⟨hm, hn, hn5, hdd, hd2, hu2, hwf⟩ := id hK
  refine XC.of (by decide) rfl rfl ?_
  refine xv_iload_n (q := 1) rfl dX6_change_0 rfl rfl ?_
  refine xv_if_lt (q := 4) (t := 9) rfl rfl dX6_change_1 (fun zh1 => ?_) (fun zh1 => ?_)
  · refine xv_bipush (v := (-2)) (q := 11) rfl dX6_change_9 rfl ?_
    refine xv_iret dX6_change_11 rfl ?_
    rw [show sp_change n c dd (tvx tx u) w = -2 from if_pos (Or.inl zh1)]
    exact QTr.rf
  · refine xv_iload_n (q := 5) rfl dX6_change_4 rfl rfl ?_
    refine xv_iconst (v := nI 1) (q := 6) rfl dX6_change_5 rfl ?_
    refine xv_icmp_le (q := 9) (t := 12) rfl rfl dX6_change_6 (fun zh6 => ?_) (fun zh6 => ?_)
    · have zhq : sp_change n c dd (tvx tx u) w = _ := if_neg (fun z => z.elim zh1 (fun z => z zh6))
      rw [zhq]
      refine xv_aload_n (q := 13) rfl dX6_change_12 rfl rfl ?_
      refine xv_rV0 (z := mX6_setOut) (q := 16) rfl dX6_change_13 l_X6_145 gX6_setOut (hg.1 _ _ rfl) rfl rfl rfl (hst) (by omega) ?_
      rintro _ sh J R' L ⟨rfl, rfl, rfl, za1, za2, za3, za4, za5, za6, za7⟩
      refine xv_iconst (v := (-1)) (q := 17) rfl dX6_change_16 rfl ?_
      refine xv_istore_n (q := 18) rfl dX6_change_17 rfl rfl ?_
      refine xv_aload_n (q := 19) rfl dX6_change_18 rfl rfl ?_
      refine xv_geto (q := 22) rfl dX6_change_19 f_X6_41 (za6.1 _ _ rfl) (za6.2 _ _ _ rfl) ?_
      refine xv_rV0 (z := mX5_cost) (q := 25) rfl dX6_change_22 l_X6_148 gX5_cost (hg.1 _ _ rfl) rfl rfl rfl (c_cost (d := d + 1) za6 za3 za5 za7 za4) (by omega) ?_
      rintro _ sh K R' L ⟨rfl, rfl, rfl, rfl, zb1, zb2⟩
      refine xv_istore_n (q := 26) rfl dX6_change_25 rfl rfl ?_
      refine xv_iconst (v := nI 0) (q := 27) rfl dX6_change_26 rfl ?_
      refine xv_istore (q := 29) rfl dX6_change_27 rfl ?_
      have hG := (TG.of za2 za3 za4).f9 zb1 zb2
      have zhz := c_chg_out (E := E) (d := d) (L := L) (I := I) (n := n) (c := c) (dd := dd) (tv := tvx tx u) (R0 := R) za6 hK (za5.mv (fun k hk => (za2 k (by unfold txc at hk; omega)).symm) (fun _ _ => rfl)) za7 w za1 (n + 1) 0 K none none (by omega) (by omega) hG
      exact zhz
    · refine xv_bipush (v := (-2)) (q := 11) rfl dX6_change_9 rfl ?_
      refine xv_iret dX6_change_11 rfl ?_
      rw [show sp_change n c dd (tvx tx u) w = -2 from if_pos (Or.inr zh6)]
      exact QTr.rf
theorem bcl_and : ∀ m, m < 32 → ∀ r, r < 5 → nI m &&& (nI (2 ^ r) ^^^ -1) = nI (bcl m r) := bcl_I
theorem c_walk_loop (hg : XG sh R) (hK : KXc I n c dd u) (hKT : KT sh I R t tv) (hr3 : R 23 1 = some t) : ∀ (k r : Nat) (J : XI) (l5 : Option Value), r ≤ n → n < r + k → FT I J → TW J n c dd →
    XV E mX6_whoShouldWalk (d + 5) 0 0 (fun v sh' K R' L' => v = some (.int (onP (wlk c n dd tv n))) ∧ sh' = sh ∧ R' = R ∧ L' = L ∧ FT I K) 0 0 19 [some (.ref 0), some (.int (onP (wlk c n dd tv r))), some (.int (nI (onL (wlk c n dd tv r)))), some (.int (nI (aln n))), some (.int (nI r)), l5] [] sh J R L := by
  obtain ⟨hm, hn, hn5, hdd, hd2, hu, hwf⟩ := id hK
  intro k
  induction k with
  | zero => intro r J l5 zh1 zh2; exact absurd zh2 (by omega)
  | succ k ih =>
    intro r J l5 zh1 zh2 hF hW
    have zhb := wlk_b (dd := dd) (tv := tv) hwf.1 hn5 r
    have hrl := rdc_le (dd := dd) (P := bcl (aln n) r) (tv := tv) (c := c) (n := n) (fun r hr => (hwf.1 r hr).2.2.1) hn5
    refine xv_iload (q := 21) rfl dX6_whoShouldWalk_19 rfl ?_
    refine xv_aload_n (q := 22) rfl dX6_whoShouldWalk_21 rfl rfl ?_
    refine xv_geto (q := 25) rfl dX6_whoShouldWalk_22 f_X6_10 (hg.1 _ _ rfl) (hg.2 _ _ _ rfl) ?_
    refine xv_geti (q := 28) rfl dX6_whoShouldWalk_25 f_X6_98 (hg.1 _ _ rfl) ?_
    rw [show J 1 7 = nI n from (congrFun (hF 1 (by decide)) 7).trans hn]
    refine xv_icmp_ge (q := 31) (t := 78) rfl rfl dX6_whoShouldWalk_28 (fun h28 => ?_) (fun h28 => ?_)
    · have hrn : r = n := by have := nIle h28 (by omega) (by omega); omega
      subst hrn
      refine xv_iload_n (q := 79) rfl dX6_whoShouldWalk_78 rfl rfl ?_
      refine xv_iret dX6_whoShouldWalk_79 rfl ?_
      exact ⟨rfl, rfl, rfl, rfl, hF⟩
    · have hrn : r < n := nInle h28 (by omega) (by omega)
      refine xv_aload_n (q := 32) rfl dX6_whoShouldWalk_31 rfl rfl ?_
      refine xv_geto (q := 35) rfl dX6_whoShouldWalk_32 f_X6_41 (hg.1 _ _ rfl) (hg.2 _ _ _ rfl) ?_
      refine xv_iload_n (q := 36) rfl dX6_whoShouldWalk_35 rfl rfl ?_
      refine xv_iconst (v := nI 1) (q := 37) rfl dX6_whoShouldWalk_36 rfl ?_
      refine xv_iload (q := 39) rfl dX6_whoShouldWalk_37 rfl ?_
      refine xv_ishl (q := 40) rfl dX6_whoShouldWalk_39 ?_
      refine xv_as (w := nI (2 ^ r)) (sh1 r (by omega)) ?_
      refine xv_iconst (v := (-1)) (q := 41) rfl dX6_whoShouldWalk_40 rfl ?_
      refine xv_ixor (q := 42) rfl dX6_whoShouldWalk_41 ?_
      refine xv_iand (q := 43) rfl dX6_whoShouldWalk_42 ?_
      refine xv_as (w := nI (bcl (aln n) r)) (bcl_I _ (all_32 hn5) r (by omega)) ?_
      refine xv_rV1 (z := mX5_gather) (q := 46) rfl dX6_whoShouldWalk_43 l_X6_203 gX5_gather (hg.1 _ _ rfl) rfl rfl rfl (c_gather (d := d + 1) hg hW.1 (Nat.lt_of_le_of_lt (bcl_le _ _) (all_32 hn5))) (by omega) ?_
      rintro _ sh K R L ⟨rfl, rfl, rfl, rfl, za1, za2, za3, za4⟩
      have hF2 : FT I K := hF.trans (fun k hk => za1 k (by omega))
      have hW2 : TW K n c dd := hW.mv (fun k zh1 zh2 => za1 k (by omega))
      have hTR : TR K n c dd (bcl (aln n) r) := TR.of hW2 za3 SX.rf za2 (Nat.lt_of_le_of_lt (bcl_le _ _) (all_32 hn5))
      refine xv_aload_n (q := 47) rfl dX6_whoShouldWalk_46 rfl rfl ?_
      refine xv_geto (q := 50) rfl dX6_whoShouldWalk_47 f_X6_41 (hg.1 _ _ rfl) (hg.2 _ _ _ rfl) ?_
      refine xv_rV0 (z := mX5_cost) (q := 53) rfl dX6_whoShouldWalk_50 l_X6_148 gX5_cost (hg.1 _ _ rfl) rfl rfl rfl (c_cost (d := d) (tv := tv) hg hTR (hKT.ft hF2) hr3 (fun part r f row zh1 zh2 zh3 zh4 => Or.inl (za4 _ (by omega)))) (by omega) ?_
      rintro _ sh M R L ⟨rfl, rfl, rfl, rfl, zb1, zb2⟩
      have za9 : FT I M := hF2.trans zb1.ft
      have zw9 : TW M n c dd := (hTR.mv zb1).tw
      refine xv_istore (q := 55) rfl dX6_whoShouldWalk_53 rfl ?_
      refine xv_iload_n (q := 56) rfl dX6_whoShouldWalk_55 rfl rfl ?_
      refine xv_iconst (v := (-1)) (q := 57) rfl dX6_whoShouldWalk_56 rfl ?_
      refine xv_icmp_eq (q := 60) (t := 66) rfl rfl dX6_whoShouldWalk_57 (fun h57 => ?_) (fun h57 => ?_)
      · refine xv_iload (q := 68) rfl dX6_whoShouldWalk_66 rfl ?_
        refine xv_istore_n (q := 69) rfl dX6_whoShouldWalk_68 rfl rfl ?_
        refine xv_iload (q := 71) rfl dX6_whoShouldWalk_69 rfl ?_
        refine xv_istore_n (q := 72) rfl dX6_whoShouldWalk_71 rfl rfl ?_
        refine xv_iinc (q := 75) (v := nI 1) rfl dX6_whoShouldWalk_72 rfl rfl ?_
        refine xv_goto (t := 19) rfl dX6_whoShouldWalk_75 ?_
        rw [nI_add]
        have zhz := ih (r + 1) M (some (.int (nI (rdc c n dd (bcl (aln n) r) tv)))) (by omega) (by omega) za9 zw9
        rw [show wlk c n dd tv (r + 1) = some (r, rdc c n dd (bcl (aln n) r) tv) from (by
          have zhq : wlk c n dd tv r = none := by
            cases zhq : wlk c n dd tv r with
            | none => rfl
            | some q => exact absurd (by rw [zhq] at h57; exact h57) (n_m1 (by have := zhb.2 q zhq; omega))
          show ons _ _ _ = _
          rw [zhq]; rfl)] at zhz
        exact zhz
      · obtain ⟨q, zhq⟩ : ∃ q, wlk c n dd tv r = some q := by
          cases zhq : wlk c n dd tv r with
          | none => rw [zhq] at h57; exact absurd rfl h57
          | some q => exact ⟨q, rfl⟩
        have hb1 := zhb.1
        refine xv_iload (q := 62) rfl dX6_whoShouldWalk_60 rfl ?_
        refine xv_iload_n (q := 63) rfl dX6_whoShouldWalk_62 rfl rfl ?_
        refine xv_icmp_ge (q := 66) (t := 72) rfl rfl dX6_whoShouldWalk_63 (fun h63 => ?_) (fun h63 => ?_)
        · have h63 := nIle h63 (by omega) (by omega)
          refine xv_iinc (q := 75) (v := nI 1) rfl dX6_whoShouldWalk_72 rfl rfl ?_
          refine xv_goto (t := 19) rfl dX6_whoShouldWalk_75 ?_
          rw [nI_add]
          have zhz := ih (r + 1) M (some (.int (nI (rdc c n dd (bcl (aln n) r) tv)))) (by omega) (by omega) za9 zw9
          rw [show wlk c n dd tv (r + 1) = wlk c n dd tv r from (by show ons _ _ _ = _; rw [zhq] at h63 ⊢; unfold ons; dsimp only; rw [if_neg (show ¬ _ < q.2 from Nat.not_lt.mpr h63)])] at zhz
          exact zhz
        · have h63 := nInle h63 (by omega) (by omega)
          refine xv_iload (q := 68) rfl dX6_whoShouldWalk_66 rfl ?_
          refine xv_istore_n (q := 69) rfl dX6_whoShouldWalk_68 rfl rfl ?_
          refine xv_iload (q := 71) rfl dX6_whoShouldWalk_69 rfl ?_
          refine xv_istore_n (q := 72) rfl dX6_whoShouldWalk_71 rfl rfl ?_
          refine xv_iinc (q := 75) (v := nI 1) rfl dX6_whoShouldWalk_72 rfl rfl ?_
          refine xv_goto (t := 19) rfl dX6_whoShouldWalk_75 ?_
          rw [nI_add]
          have zhz := ih (r + 1) M (some (.int (nI (rdc c n dd (bcl (aln n) r) tv)))) (by omega) (by omega) za9 zw9
          rw [show wlk c n dd tv (r + 1) = some (r, rdc c n dd (bcl (aln n) r) tv) from (by show ons _ _ _ = _; rw [zhq] at h63 ⊢; unfold ons; dsimp only; rw [if_pos (show _ < q.2 from h63)])] at zhz
          exact zhz
theorem c_walk (hg : XG sh R) (hK : KXc I n c dd u) (hKT : KT sh I R t tv) (hr3 : R 23 1 = some t) {J : XI} (hF : FT I J) (hW : TW J n c dd) : XC E mX6_whoShouldWalk (d + 5) 0 0 [.ref 0] sh J R L (fun v sh' K R' L' => v = some (.int (onP (wlk c n dd tv n))) ∧ sh' = sh ∧ R' = R ∧ L' = L ∧ FT I K) := by
  obtain ⟨hm, hn, hn5, hdd, hd2, hu, hwf⟩ := id hK
  refine XC.of (by decide) rfl rfl ?_
  refine xv_iconst (v := (-1)) (q := 1) rfl dX6_whoShouldWalk_0 rfl ?_
  refine xv_istore_n (q := 2) rfl dX6_whoShouldWalk_1 rfl rfl ?_
  refine xv_iconst (v := nI 0) (q := 3) rfl dX6_whoShouldWalk_2 rfl ?_
  refine xv_istore_n (q := 4) rfl dX6_whoShouldWalk_3 rfl rfl ?_
  refine xv_iconst (v := nI 1) (q := 5) rfl dX6_whoShouldWalk_4 rfl ?_
  refine xv_aload_n (q := 6) rfl dX6_whoShouldWalk_5 rfl rfl ?_
  refine xv_geto (q := 9) rfl dX6_whoShouldWalk_6 f_X6_10 (hg.1 _ _ rfl) (hg.2 _ _ _ rfl) ?_
  refine xv_geti (q := 12) rfl dX6_whoShouldWalk_9 f_X6_98 (hg.1 _ _ rfl) ?_
  rw [show J 1 7 = nI n from (congrFun (hF 1 (by decide)) 7).trans hn]
  refine xv_ishl (q := 13) rfl dX6_whoShouldWalk_12 ?_
  refine xv_iconst (v := nI 1) (q := 14) rfl dX6_whoShouldWalk_13 rfl ?_
  refine xv_isub (q := 15) rfl dX6_whoShouldWalk_14 ?_
  refine xv_as (w := nI (aln n)) (all_sh n hn5) ?_
  refine xv_istore_n (q := 16) rfl dX6_whoShouldWalk_15 rfl rfl ?_
  refine xv_iconst (v := nI 0) (q := 17) rfl dX6_whoShouldWalk_16 rfl ?_
  refine xv_istore (q := 19) rfl dX6_whoShouldWalk_17 rfl ?_
  exact c_walk_loop hg hK hKT hr3 (n + 1) 0 J none (by omega) (by omega) hF hW
theorem x_second (hg : XG sh R) (hK : KXc I n c dd u) (hT : KTs sh I R tc tx) (hu : u < tc) (w : Int32) : XC E mX6_second (d + 7) 0 0 [.ref 0, .int w] sh I R L (QTr (.int (sp_second n c (tvx tx u) dd w)) sh I R L) := by
  obtain ⟨t, hst⟩ := c_start2 (E := E) (d := d + 1) (L := L) hg hK hT hu
  obtain ⟨hm, hn, hn5, hdd, hd2, hu2, hwf⟩ := id hK
  refine XC.of (by decide) rfl rfl ?_
  refine xv_iload_n (q := 1) rfl dX6_second_0 rfl rfl ?_
  refine xv_if_lt (q := 4) (t := 9) rfl rfl dX6_second_1 (fun zh1 => ?_) (fun zh1 => ?_)
  · refine xv_ldc (q := 11) rfl dX6_second_9 k_X6_191 ?_
    refine xv_iret dX6_second_11 rfl ?_
    rw [show sp_second n c (tvx tx u) dd w = -100000 from if_pos (Or.inl zh1)]
    exact QTr.rf
  · refine xv_iload_n (q := 5) rfl dX6_second_4 rfl rfl ?_
    refine xv_iconst (v := nI 1) (q := 6) rfl dX6_second_5 rfl ?_
    refine xv_icmp_le (q := 9) (t := 12) rfl rfl dX6_second_6 (fun zh6 => ?_) (fun zh6 => ?_)
    · have zhq : sp_second n c (tvx tx u) dd w = _ := if_neg (fun z => z.elim zh1 (fun z => z zh6))
      rw [zhq]
      refine xv_aload_n (q := 13) rfl dX6_second_12 rfl rfl ?_
      refine xv_rV0 (z := mX6_setOut) (q := 16) rfl dX6_second_13 l_X6_145 gX6_setOut (hg.1 _ _ rfl) rfl rfl rfl (hst) (by omega) ?_
      rintro _ sh J R' L ⟨rfl, rfl, rfl, za1, za2, za3, za4, za5, za6, za7⟩
      have hKT : KT sh I R' t (tvx tx u) := za5.mv (fun k hk => (za2 k (by unfold txc at hk; omega)).symm) (fun _ _ => rfl)
      refine xv_iload_n (q := 17) rfl dX6_second_16 rfl rfl ?_
      refine xv_iconst (v := nI 1) (q := 18) rfl dX6_second_17 rfl ?_
      refine xv_icmp_ne (q := 21) (t := 26) rfl rfl dX6_second_18 (fun h21 => ?_) (fun h21 => ?_)
      · refine xv_aload_n (q := 27) rfl dX6_second_26 rfl rfl ?_
        refine xv_geto (q := 30) rfl dX6_second_27 f_X6_41 (za6.1 _ _ rfl) (za6.2 _ _ _ rfl) ?_
        refine xv_geto (q := 33) rfl dX6_second_30 f_X6_181 (za6.1 _ _ rfl) (za6.2 _ _ _ rfl) ?_
        refine xv_iconst (v := nI 1) (q := 34) rfl dX6_second_33 rfl ?_
        refine xv_puti (q := 37) rfl dX6_second_34 f_X6_122 (fun h => by cases h) (za6.1 _ _ rfl) ?_
        have zt1 : TR (xi J 24 8 (nI 1)) n c 1 (aln n) := ⟨⟨fun w r hw hr => by rw [xi_off _ _ _ _ (by omega)]; exact za3.1.1 w r hw hr, by rw [xi_ne _ _ _ _ (by decide)]; exact za3.1.2.1, hn5, hwf.1⟩, xi_eq _ _ _ _, Or.inl rfl, za3.2.2.2.1.mv (xi_off _ _ _ _ (by decide)) (xi_off _ _ _ _ (by decide)), za3.2.2.2.2.1.mv (xi_off _ _ _ _ (by decide)) (xi_off _ _ _ _ (by decide)) (xi_off _ _ _ _ (by decide)), all_32 hn5⟩
        have f1 : FT I (xi J 24 8 (nI 1)) := za2.trans (FT.xi (by decide) (by decide))
        refine xv_aload_n (q := 38) rfl dX6_second_37 rfl rfl ?_
        refine xv_geto (q := 41) rfl dX6_second_38 f_X6_41 (za6.1 _ _ rfl) (za6.2 _ _ _ rfl) ?_
        refine xv_rV0 (z := mX5_cost) (q := 44) rfl dX6_second_41 l_X6_148 gX5_cost (hg.1 _ _ rfl) rfl rfl rfl (c_cost (d := d + 1) za6 zt1 (hKT.ft f1) za7 (za4.mv (xi_off _ _ _ _ (by decide)))) (by omega) ?_
        rintro _ sh K R' L ⟨rfl, rfl, rfl, rfl, zb1, zb2⟩
        have zt2 := zt1.mv zb1
        have f2 := f1.trans zb1.ft
        refine xv_istore_n (q := 45) rfl dX6_second_44 rfl rfl ?_
        refine xv_aload_n (q := 46) rfl dX6_second_45 rfl rfl ?_
        refine xv_geto (q := 49) rfl dX6_second_46 f_X6_41 (za6.1 _ _ rfl) (za6.2 _ _ _ rfl) ?_
        refine xv_geto (q := 52) rfl dX6_second_49 f_X6_181 (za6.1 _ _ rfl) (za6.2 _ _ _ rfl) ?_
        refine xv_iconst (v := nI 2) (q := 53) rfl dX6_second_52 rfl ?_
        refine xv_puti (q := 56) rfl dX6_second_53 f_X6_122 (fun h => by cases h) (za6.1 _ _ rfl) ?_
        have zt3 : TR (xi K 24 8 (nI 2)) n c 2 (aln n) := ⟨⟨fun w r hw hr => by rw [xi_off _ _ _ _ (by omega)]; exact zt2.1.1 w r hw hr, by rw [xi_ne _ _ _ _ (by decide)]; exact zt2.1.2.1, hn5, hwf.1⟩, xi_eq _ _ _ _, Or.inr rfl, zt2.2.2.2.1.mv (xi_off _ _ _ _ (by decide)) (xi_off _ _ _ _ (by decide)), zt2.2.2.2.2.1.mv (xi_off _ _ _ _ (by decide)) (xi_off _ _ _ _ (by decide)) (xi_off _ _ _ _ (by decide)), all_32 hn5⟩
        have f3 : FT I (xi K 24 8 (nI 2)) := f2.trans (FT.xi (by decide) (by decide))
        refine xv_iload_n (q := 57) rfl dX6_second_56 rfl rfl ?_
        refine xv_aload_n (q := 58) rfl dX6_second_57 rfl rfl ?_
        refine xv_geto (q := 61) rfl dX6_second_58 f_X6_41 (za6.1 _ _ rfl) (za6.2 _ _ _ rfl) ?_
        refine xv_rV0 (z := mX5_cost) (q := 64) rfl dX6_second_61 l_X6_148 gX5_cost (hg.1 _ _ rfl) rfl rfl rfl (c_cost (d := d + 1) za6 zt3 (hKT.ft f3) za7 (zb2.mv (xi_off _ _ _ _ (by decide)))) (by omega) ?_
        rintro _ sh M R' L ⟨rfl, rfl, rfl, rfl, ze1, ze2⟩
        refine xv_isub (q := 65) rfl dX6_second_64 ?_
        refine xv_iret dX6_second_65 rfl ?_
        exact ⟨by rw [if_neg h21], rfl, za1, rfl, f3.trans ze1.ft⟩
      · refine xv_aload_n (q := 22) rfl dX6_second_21 rfl rfl ?_
        refine xv_rV0 (z := mX6_whoShouldWalk) (q := 25) rfl dX6_second_22 l_X6_192 gX6_whoShouldWalk (hg.1 _ _ rfl) rfl rfl rfl (c_walk (d := d) (n := n) (c := c) (dd := dd) (u := u) za6 hK hKT za7 za2 za3.tw) (by omega) ?_
        rintro _ sh K R' L ⟨rfl, rfl, rfl, rfl, zb1⟩
        refine xv_iret dX6_second_25 rfl ?_
        exact ⟨by rw [if_pos h21], rfl, za1, rfl, zb1⟩
    · refine xv_ldc (q := 11) rfl dX6_second_9 k_X6_191 ?_
      refine xv_iret dX6_second_11 rfl ?_
      rw [show sp_second n c (tvx tx u) dd w = -100000 from if_pos (Or.inr zh6)]
      exact QTr.rf
end CHANGE

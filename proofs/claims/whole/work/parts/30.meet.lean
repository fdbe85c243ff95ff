/-! Trip: meet, settle, gather -/
def wfn (c : CR) (n : Nat) : Prop := ∀ r, r < n → wfr c r
/-- the tried crew is c -/
def TC (I : XI) (N : Nat) (c : CR) : Prop := XCm I 24 (ci c) N ∧ I 24 7 = nI N ∧ N ≤ 5 ∧ wfn c N
theorem TC.mv {I J : XI} {N : Nat} {c : CR} (h : TC I N c) (hJ : ∀ k, 24 ≤ k → k < 32 → J k = I k) : TC J N c := ⟨fun w r hw hr => by rw [hJ _ (by omega) (by omega)]; exact h.1 w r hw hr, by rw [hJ 24 (by omega) (by omega)]; exact h.2.1, h.2.2.1, h.2.2.2⟩
def MB (c : CR) (N : Nat) (b : Bool) (k a : Nat) (v : Int32) : Prop := ∃ x, v = nI x ∧ x < 2 ^ N ∧ ∀ i, i < k → x.testBit i = bar c b i a
/-- those below j know of those below k -/
def MK (I : XI) (c : CR) (N k j : Nat) : Prop := ∀ a, a < j → MB c N false k a (I 35 a) ∧ MB c N true k a (I 36 a)
def MI (I J : XI) (c : CR) (N r o : Nat) : Prop := (∀ k, k ≠ 35 → k ≠ 36 → J k = I k) ∧ MK J c N (r + 1) o ∧ (∀ a, o ≤ a → a < r → MB c N false r a (J 35 a) ∧ MB c N true r a (J 36 a)) ∧ J 35 r = nI (brs c false r o) ∧ J 36 r = nI (brs c true r o)
theorem MB.up {c : CR} {N : Nat} {b : Bool} {r a : Nat} {x : Nat} {v : Int32} {t : Bool} (hx : x < 2 ^ N) (hN : N ≤ 5) (hr : r < N) (hb : ∀ i, i < r → x.testBit i = bar c b i a) (ht : t = bar c b r a) (hv : v = nI (bcl x r ||| (if t = true then 2 ^ r else 0))) : MB c N b (r + 1) a v := by
  refine ⟨_, hv, Nat.or_lt_two_pow (Nat.lt_of_le_of_lt (bcl_le x r) hx) ?_, fun i hi => ?_⟩
  · split
    · exact Nat.pow_lt_pow_right (by decide) hr
    · exact Nat.two_pow_pos N
  · rw [Nat.testBit_or, bcl_bit x (p5 hx hN) r (by omega) i (by omega), bit01]
    by_cases e : i = r
    · subst e; rw [ht]; simp
    · rw [hb i (by omega)]; simp [e]
theorem brs_s {c : CR} {b : Bool} {r o : Nat} {v : Int32} {t : Bool} (ht : t = bar c b o r) (hv : v = nI (brs c b r o ||| (if t = true then 2 ^ o else 0))) : v = nI (brs c b r (o + 1)) := by
  rw [hv, ht]; rfl
theorem MI.nx {I J J' : XI} {c : CR} {N r o x1 x2 : Nat} {t1 t2 t3 t4 : Bool} (h : MI I J c N r o) (hN : N ≤ 5) (hr : r < N) (ho : o < r)
    (a1 : J 35 o = nI x1) (a2 : x1 < 2 ^ N) (a3 : ∀ i, i < r → x1.testBit i = bar c false i o) (b1 : J 36 o = nI x2) (b2 : x2 < 2 ^ N) (b3 : ∀ i, i < r → x2.testBit i = bar c true i o)
    (h1 : t1 = bar c false o r) (h2 : t2 = bar c true o r) (h3 : t3 = bar c false r o) (h4 : t4 = bar c true r o)
    (e1 : J' 35 r = nI (brs c false r o ||| (if t1 = true then 2 ^ o else 0))) (e2 : J' 36 r = nI (brs c true r o ||| (if t2 = true then 2 ^ o else 0)))
    (e3 : J' 35 o = nI (bcl x1 r ||| (if t3 = true then 2 ^ r else 0))) (e4 : J' 36 o = nI (bcl x2 r ||| (if t4 = true then 2 ^ r else 0)))
    (e5 : ∀ a, a ≠ o → a ≠ r → J' 35 a = J 35 a ∧ J' 36 a = J 36 a) (e6 : ∀ k, k ≠ 35 → k ≠ 36 → J' k = J k) : MI I J' c N r (o + 1) := by
  refine ⟨fun k k1 k2 => (e6 k k1 k2).trans (h.1 k k1 k2), fun a ha => ?_, fun a ha ha2 => ?_, brs_s h1 e1, brs_s h2 e2⟩
  · by_cases e : a = o
    · subst e
      exact ⟨MB.up a2 hN hr a3 h3 e3, MB.up b2 hN hr b3 h4 e4⟩
    · rw [(e5 a e (by omega)).1, (e5 a e (by omega)).2]
      exact h.2.1 a (by omega)
  · rw [(e5 a (by omega) (by omega)).1, (e5 a (by omega) (by omega)).2]
    exact h.2.2.1 a (by omega) ha2
theorem bar_p {c : CR} {b : Bool} {o r : Nat} (h : ¬ c 5 o % 2 = c 5 r % 2) : bar c b o r = false := by unfold bar; rw [decide_eq_false h]; rfl
theorem bar_q {c : CR} {b : Bool} {o r : Nat} (h : c 5 o = c 5 r) : bar c b o r = false := by unfold bar; cases b <;> simp [h]
theorem bar_l {c : CR} {o r : Nat} (h : c 5 o % 2 = c 5 r % 2) (h2 : c 5 o < c 5 r) : bar c false o r = !lts (ci c) o (nI (c 2 r)) ∧ bar c true o r = false := by
  unfold bar
  rw [decide_eq_true h, decide_eq_true h2, decide_eq_false (show ¬ c 5 r < c 5 o by omega)]
  exact ⟨by simp, by simp⟩
theorem bar_g {c : CR} {o r : Nat} (h : c 5 o % 2 = c 5 r % 2) (h2 : c 5 r < c 5 o) : bar c true o r = (!lts (ci c) o (nI (c 2 r))) ∧ bar c false o r = false := by
  unfold bar
  rw [decide_eq_true h, decide_eq_true h2, decide_eq_false (show ¬ c 5 o < c 5 r by omega)]
  exact ⟨by simp, by simp⟩
section TRIP
variable {E : XE} {d : Nat} {sh : XSh} {I : XI} {R : XRf} {L : XL} {N : Nat} {c : CR}
def QM (c : CR) (N r : Nat) (sh : XSh) (I : XI) (R : XRf) (L : XL) : XQ := fun v sh' J R' L' => v = none ∧ sh' = sh ∧ R' = R ∧ L' = L ∧ (∀ k, k ≠ 35 → k ≠ 36 → J k = I k) ∧ MK J c N (r + 1) (r + 1)
theorem c_meet_loop (hg : XG sh R) (hT : TC I N c) {r : Nat} (hr : r < N) : ∀ (k o : Nat) (J : XI) (l3 : Option Value), o ≤ r → r < o + k → MI I J c N r o → XV E mX5_meet (d + 1) 0 0 (QM c N r sh I R L) 0 0 16 [some (.ref 23), some (.int (nI r)), some (.int (nI o)), l3] [] sh J R L := by
  have hcr := xg_crew hg (a := 24) (Or.inr (Or.inr rfl))
  intro k
  induction k with
  | zero => intro o J l3 h1 h2; exact absurd h2 (by omega)
  | succ k ih =>
    intro o J l3 h1 h2 hJ
    have hTJ : TC J N c := hT.mv (fun k h1 h2 => hJ.1 k (by omega) (by omega))
    obtain ⟨hm, hn, hN, hw⟩ := id hTJ
    refine xv_iload_n (q := 17) rfl dX5_meet_16 rfl rfl ?_
    refine xv_iload_n (q := 18) rfl dX5_meet_17 rfl rfl ?_
    refine xv_icmp_ge (q := 21) (t := 217) rfl rfl dX5_meet_18 (fun h18 => ?_) (fun h18 => ?_)
    · have hor : o = r := by have := nIle h18 (by omega) (by omega); omega
      subst hor
      refine xv_vret dX5_meet_217 rfl ?_
      refine ⟨rfl, rfl, rfl, rfl, hJ.1, fun a ha => ?_⟩
      by_cases e : a = o
      · subst e
        refine ⟨⟨_, hJ.2.2.2.1, Nat.lt_of_lt_of_le (bm_lt _ _) (Nat.pow_le_pow_right (by decide) (by omega)), fun i hi => ?_⟩, ⟨_, hJ.2.2.2.2, Nat.lt_of_lt_of_le (bm_lt _ _) (Nat.pow_le_pow_right (by decide) (by omega)), fun i hi => ?_⟩⟩
        · unfold brs; rw [bm_bit]
          by_cases e : i = a
          · subst e; rw [bar_self]; simp
          · rw [decide_eq_true (show i < a by omega)]; rfl
        · unfold brs; rw [bm_bit]
          by_cases e : i = a
          · subst e; rw [bar_self]; simp
          · rw [decide_eq_true (show i < a by omega)]; rfl
      · exact hJ.2.1 a (by omega)
    · have hor : o < r := nInle h18 (by omega) (by omega)
      have hor' : ¬ o = r := by omega
      have hro : ¬ r = o := by omega
      obtain ⟨⟨x1, x1e, x1l, x1b⟩, ⟨x2, x2e, x2l, x2b⟩⟩ := hJ.2.2.1 o (Nat.le_refl o) hor
      refine xv_aload_n (q := 22) rfl dX5_meet_21 rfl rfl ?_
      refine xv_geta (q := 25) rfl dX5_meet_22 f_X5_28 (hg.1 _ _ rfl) (hg.2 _ _ _ rfl) ?_
      refine xv_iload_n (q := 26) rfl dX5_meet_25 rfl rfl ?_
      refine xv_dup2 (q := 27) rfl dX5_meet_26 rfl rfl ?_
      refine xv_iald (q := 28) rfl dX5_meet_27 (hg.1 _ _ rfl) rfl (by omega) (by decide) ?_
      refine xv_as (w := nI x1) x1e ?_
      refine xv_iconst (v := nI 1) (q := 29) rfl dX5_meet_28 rfl ?_
      refine xv_iload_n (q := 30) rfl dX5_meet_29 rfl rfl ?_
      refine xv_ishl (q := 31) rfl dX5_meet_30 ?_
      refine xv_as (w := nI (2 ^ r)) (sh1 r (by omega)) ?_
      refine xv_iconst (v := (-1)) (q := 32) rfl dX5_meet_31 rfl ?_
      refine xv_ixor (q := 33) rfl dX5_meet_32 ?_
      refine xv_iand (q := 34) rfl dX5_meet_33 ?_
      refine xv_as (w := nI (bcl x1 r)) (bcl_I x1 (p5 x1l hN) r (by omega)) ?_
      refine xv_iast (q := 35) rfl dX5_meet_34 (hg.1 _ _ rfl) rfl (by omega) (by decide) ?_
      refine xv_aload_n (q := 36) rfl dX5_meet_35 rfl rfl ?_
      refine xv_geta (q := 39) rfl dX5_meet_36 f_X5_31 (hg.1 _ _ rfl) (hg.2 _ _ _ rfl) ?_
      refine xv_iload_n (q := 40) rfl dX5_meet_39 rfl rfl ?_
      refine xv_dup2 (q := 41) rfl dX5_meet_40 rfl rfl ?_
      refine xv_iald (q := 42) rfl dX5_meet_41 (hg.1 _ _ rfl) rfl (by omega) (by decide) ?_
      refine xv_as (w := nI x2) ((congrFun (xi_off _ _ _ _ (by decide)) o).trans x2e) ?_
      refine xv_iconst (v := nI 1) (q := 43) rfl dX5_meet_42 rfl ?_
      refine xv_iload_n (q := 44) rfl dX5_meet_43 rfl rfl ?_
      refine xv_ishl (q := 45) rfl dX5_meet_44 ?_
      refine xv_as (w := nI (2 ^ r)) (sh1 r (by omega)) ?_
      refine xv_iconst (v := (-1)) (q := 46) rfl dX5_meet_45 rfl ?_
      refine xv_ixor (q := 47) rfl dX5_meet_46 ?_
      refine xv_iand (q := 48) rfl dX5_meet_47 ?_
      refine xv_as (w := nI (bcl x2 r)) (bcl_I x2 (p5 x2l hN) r (by omega)) ?_
      refine xv_iast (q := 49) rfl dX5_meet_48 (hg.1 _ _ rfl) rfl (by omega) (by decide) ?_
      refine xv_aload_n (q := 50) rfl dX5_meet_49 rfl rfl ?_
      refine xv_geto (q := 53) rfl dX5_meet_50 f_X5_12 (hg.1 _ _ rfl) (hg.2 _ _ _ rfl) ?_
      refine xv_geta (q := 56) rfl dX5_meet_53 f_X5_79 (hg.1 _ _ rfl) (hg.2 _ _ _ rfl) ?_
      refine xv_iload_n (q := 57) rfl dX5_meet_56 rfl rfl ?_
      refine xv_iald (q := 58) rfl dX5_meet_57 (hg.1 _ _ rfl) rfl (by omega) (by decide) ?_
      refine xv_as (w := nI (c 5 o)) (hm 5 o (by decide) (by omega)) ?_
      refine xv_iconst (v := nI 1) (q := 59) rfl dX5_meet_58 rfl ?_
      refine xv_iand (q := 60) rfl dX5_meet_59 ?_
      refine xv_as (w := nI (c 5 o % 2)) (par2 _ (hw o (by omega)).2.2.2.2.2.1) ?_
      refine xv_aload_n (q := 61) rfl dX5_meet_60 rfl rfl ?_
      refine xv_geto (q := 64) rfl dX5_meet_61 f_X5_12 (hg.1 _ _ rfl) (hg.2 _ _ _ rfl) ?_
      refine xv_geta (q := 67) rfl dX5_meet_64 f_X5_79 (hg.1 _ _ rfl) (hg.2 _ _ _ rfl) ?_
      refine xv_iload_n (q := 68) rfl dX5_meet_67 rfl rfl ?_
      refine xv_iald (q := 69) rfl dX5_meet_68 (hg.1 _ _ rfl) rfl (by omega) (by decide) ?_
      refine xv_as (w := nI (c 5 r)) (hm 5 r (by decide) hr) ?_
      refine xv_iconst (v := nI 1) (q := 70) rfl dX5_meet_69 rfl ?_
      refine xv_iand (q := 71) rfl dX5_meet_70 ?_
      refine xv_as (w := nI (c 5 r % 2)) (par2 _ (hw r hr).2.2.2.2.2.1) ?_
      refine xv_icmp_ne (q := 74) (t := 211) rfl rfl dX5_meet_71 (fun h71 => ?_) (fun h71 => ?_)
      · have hpar : ¬ c 5 o % 2 = c 5 r % 2 := fun q => h71 (by rw [q])
        refine xv_iinc (q := 214) (v := nI 1) rfl dX5_meet_211 rfl rfl ?_
        refine xv_goto (t := 16) rfl dX5_meet_214 ?_
        rw [nI_add]
        refine ih (o + 1) _ _ (by omega) (by omega) (hJ.nx (t1 := false) (t2 := false) (t3 := false) (t4 := false) hN hr hor x1e x1l x1b x2e x2l x2b (bar_p hpar).symm (bar_p hpar).symm (bar_p (fun q => hpar q.symm)).symm (bar_p (fun q => hpar q.symm)).symm ?_ ?_ ?_ ?_ (fun a q1 q2 => ⟨by simp [xi, upd, q1, q2], by simp [xi, upd, q1, q2]⟩) (fun k q1 q2 => by simp [xi, q1, q2]))
        · simp [xi, upd, hro, hJ.2.2.2.1]
        · simp [xi, upd, hro, hJ.2.2.2.2]
        · simp [xi, upd, hor']
        · simp [xi, upd, hor']
      · have hpar : c 5 o % 2 = c 5 r % 2 := nIe h71 (by omega) (by omega)
        have ho5 := (hw o (by omega)).2.2.2.2.2.1
        have hr5 := (hw r hr).2.2.2.2.2.1
        refine xv_aload_n (q := 75) rfl dX5_meet_74 rfl rfl ?_
        refine xv_geto (q := 78) rfl dX5_meet_75 f_X5_12 (hg.1 _ _ rfl) (hg.2 _ _ _ rfl) ?_
        refine xv_geta (q := 81) rfl dX5_meet_78 f_X5_79 (hg.1 _ _ rfl) (hg.2 _ _ _ rfl) ?_
        refine xv_iload_n (q := 82) rfl dX5_meet_81 rfl rfl ?_
        refine xv_iald (q := 83) rfl dX5_meet_82 (hg.1 _ _ rfl) rfl (by omega) (by decide) ?_
        refine xv_as (w := nI (c 5 o)) (hm 5 o (by decide) (by omega)) ?_
        refine xv_aload_n (q := 84) rfl dX5_meet_83 rfl rfl ?_
        refine xv_geto (q := 87) rfl dX5_meet_84 f_X5_12 (hg.1 _ _ rfl) (hg.2 _ _ _ rfl) ?_
        refine xv_geta (q := 90) rfl dX5_meet_87 f_X5_79 (hg.1 _ _ rfl) (hg.2 _ _ _ rfl) ?_
        refine xv_iload_n (q := 91) rfl dX5_meet_90 rfl rfl ?_
        refine xv_iald (q := 92) rfl dX5_meet_91 (hg.1 _ _ rfl) rfl (by omega) (by decide) ?_
        refine xv_as (w := nI (c 5 r)) (hm 5 r (by decide) hr) ?_
        refine xv_icmp_ne (q := 95) (t := 98) rfl rfl dX5_meet_92 (fun h92 => ?_) (fun h92 => ?_)
        · have hne : ¬ c 5 o = c 5 r := fun q => h92 (by rw [q])
          refine xv_aload_n (q := 99) rfl dX5_meet_98 rfl rfl ?_
          refine xv_geto (q := 102) rfl dX5_meet_99 f_X5_12 (hg.1 _ _ rfl) (hg.2 _ _ _ rfl) ?_
          refine xv_geta (q := 105) rfl dX5_meet_102 f_X5_79 (hg.1 _ _ rfl) (hg.2 _ _ _ rfl) ?_
          refine xv_iload_n (q := 106) rfl dX5_meet_105 rfl rfl ?_
          refine xv_iald (q := 107) rfl dX5_meet_106 (hg.1 _ _ rfl) rfl (by omega) (by decide) ?_
          refine xv_as (w := nI (c 5 o)) (hm 5 o (by decide) (by omega)) ?_
          refine xv_aload_n (q := 108) rfl dX5_meet_107 rfl rfl ?_
          refine xv_geto (q := 111) rfl dX5_meet_108 f_X5_12 (hg.1 _ _ rfl) (hg.2 _ _ _ rfl) ?_
          refine xv_geta (q := 114) rfl dX5_meet_111 f_X5_79 (hg.1 _ _ rfl) (hg.2 _ _ _ rfl) ?_
          refine xv_iload_n (q := 115) rfl dX5_meet_114 rfl rfl ?_
          refine xv_iald (q := 116) rfl dX5_meet_115 (hg.1 _ _ rfl) rfl (by omega) (by decide) ?_
          refine xv_as (w := nI (c 5 r)) (hm 5 r (by decide) hr) ?_
          refine xv_icmp_ge (q := 119) (t := 123) rfl rfl dX5_meet_116 (fun h116 => ?_) (fun h116 => ?_)
          · have hgt : c 5 r < c 5 o := by have := nIle h116 (by omega) (by omega); omega
            refine xv_iconst (v := nI 0) (q := 124) rfl dX5_meet_123 rfl ?_
            refine xv_istore_n (q := 125) rfl dX5_meet_124 rfl rfl ?_
            refine xv_aload_n (q := 126) rfl dX5_meet_125 rfl rfl ?_
            refine xv_geto (q := 129) rfl dX5_meet_126 f_X5_12 (hg.1 _ _ rfl) (hg.2 _ _ _ rfl) ?_
            refine xv_iload_n (q := 130) rfl dX5_meet_129 rfl rfl ?_
            refine xv_aload_n (q := 131) rfl dX5_meet_130 rfl rfl ?_
            refine xv_geto (q := 134) rfl dX5_meet_131 f_X5_12 (hg.1 _ _ rfl) (hg.2 _ _ _ rfl) ?_
            refine xv_geta (q := 137) rfl dX5_meet_134 f_X5_82 (hg.1 _ _ rfl) (hg.2 _ _ _ rfl) ?_
            refine xv_iload_n (q := 138) rfl dX5_meet_137 rfl rfl ?_
            refine xv_iald (q := 139) rfl dX5_meet_138 (hg.1 _ _ rfl) rfl (by omega) (by decide) ?_
            refine xv_as (w := nI (c 2 r)) (hm 2 r (by decide) hr) ?_
            refine xv_cV2 (z := mX0_letsBy) (q := 142) rfl dX5_meet_139 l_X5_85 gX0_letsBy (hg.1 _ _ rfl) rfl rfl rfl (c_letsBy (d := d) (k := c 0 o) hcr (hTJ.mv (fun k q1 q2 => by simp [xi, show ¬ k = 35 by omega, show ¬ k = 36 by omega])).1 hN (show o < N by omega) rfl (hw o (by omega)).1 (nI (c 2 r))) (by omega) ?_
            refine xv_if_ne (q := 145) (t := 168) rfl rfl dX5_meet_142 (fun h142 => ?_) (fun h142 => ?_)
            · have e1 := bIn h142
              refine xv_aload_n (q := 169) rfl dX5_meet_168 rfl rfl ?_
              refine xv_geto (q := 172) rfl dX5_meet_169 f_X5_12 (hg.1 _ _ rfl) (hg.2 _ _ _ rfl) ?_
              refine xv_iload_n (q := 173) rfl dX5_meet_172 rfl rfl ?_
              refine xv_aload_n (q := 174) rfl dX5_meet_173 rfl rfl ?_
              refine xv_geto (q := 177) rfl dX5_meet_174 f_X5_12 (hg.1 _ _ rfl) (hg.2 _ _ _ rfl) ?_
              refine xv_geta (q := 180) rfl dX5_meet_177 f_X5_82 (hg.1 _ _ rfl) (hg.2 _ _ _ rfl) ?_
              refine xv_iload_n (q := 181) rfl dX5_meet_180 rfl rfl ?_
              refine xv_iald (q := 182) rfl dX5_meet_181 (hg.1 _ _ rfl) rfl (by omega) (by decide) ?_
              refine xv_as (w := nI (c 2 o)) (hm 2 o (by decide) (by omega)) ?_
              refine xv_cV2 (z := mX0_letsBy) (q := 185) rfl dX5_meet_182 l_X5_85 gX0_letsBy (hg.1 _ _ rfl) rfl rfl rfl (c_letsBy (d := d) (k := c 0 r) hcr (hTJ.mv (fun k q1 q2 => by simp [xi, show ¬ k = 35 by omega, show ¬ k = 36 by omega])).1 hN hr rfl (hw r hr).1 (nI (c 2 o))) (by omega) ?_
              refine xv_if_ne (q := 188) (t := 211) rfl rfl dX5_meet_185 (fun h185 => ?_) (fun h185 => ?_)
              · have e2 := bIn h185
                refine xv_iinc (q := 214) (v := nI 1) rfl dX5_meet_211 rfl rfl ?_
                refine xv_goto (t := 16) rfl dX5_meet_214 ?_
                rw [nI_add]
                refine ih (o + 1) _ _ (by omega) (by omega) (hJ.nx (t1 := false) (t2 := false) (t3 := false) (t4 := false) hN hr hor x1e x1l x1b x2e x2l x2b (bar_g hpar hgt).2.symm (by rw [(bar_g hpar hgt).1, e1]; rfl) (by rw [(bar_l hpar.symm hgt).1, e2]; rfl) (bar_l hpar.symm hgt).2.symm ?_ ?_ ?_ ?_ (fun a q1 q2 => ⟨by simp [xi, upd, q1, q2], by simp [xi, upd, q1, q2]⟩) (fun k q1 q2 => by simp [xi, q1, q2]))
                · simp [xi, upd, hro, hJ.2.2.2.1]
                · simp [xi, upd, hro, hJ.2.2.2.2]
                · simp [xi, upd, hor']
                · simp [xi, upd, hor']
              · have e2 := bIz h185
                refine xv_iload_n (q := 189) rfl dX5_meet_188 rfl rfl ?_
                refine xv_if_eq (q := 192) (t := 199) rfl rfl dX5_meet_189 (fun h189 => ?_) (fun h189 => ?_)
                · refine xv_aload_n (q := 200) rfl dX5_meet_199 rfl rfl ?_
                  refine xv_geta (q := 203) rfl dX5_meet_200 f_X5_28 (hg.1 _ _ rfl) (hg.2 _ _ _ rfl) ?_
                  refine xv_iload_n (q := 204) rfl dX5_meet_203 rfl rfl ?_
                  refine xv_dup2 (q := 205) rfl dX5_meet_204 rfl rfl ?_
                  refine xv_iald (q := 206) rfl dX5_meet_205 (hg.1 _ _ rfl) rfl (by omega) (by decide) ?_
                  refine xv_as (w := nI (bcl x1 r)) (by simp [xi, upd, hor']) ?_
                  refine xv_iconst (v := nI 1) (q := 207) rfl dX5_meet_206 rfl ?_
                  refine xv_iload_n (q := 208) rfl dX5_meet_207 rfl rfl ?_
                  refine xv_ishl (q := 209) rfl dX5_meet_208 ?_
                  refine xv_as (w := nI (2 ^ r)) (sh1 r (by omega)) ?_
                  refine xv_ior (q := 210) rfl dX5_meet_209 ?_
                  refine xv_as (w := nI (bcl x1 r ||| 2 ^ r)) (nI_or _ _) ?_
                  refine xv_iast (q := 211) rfl dX5_meet_210 (hg.1 _ _ rfl) rfl (by omega) (by decide) ?_
                  refine xv_iinc (q := 214) (v := nI 1) rfl dX5_meet_211 rfl rfl ?_
                  refine xv_goto (t := 16) rfl dX5_meet_214 ?_
                  rw [nI_add]
                  refine ih (o + 1) _ _ (by omega) (by omega) (hJ.nx (t1 := false) (t2 := false) (t3 := true) (t4 := false) hN hr hor x1e x1l x1b x2e x2l x2b (bar_g hpar hgt).2.symm (by rw [(bar_g hpar hgt).1, e1]; rfl) (by rw [(bar_l hpar.symm hgt).1, e2]; rfl) (bar_l hpar.symm hgt).2.symm ?_ ?_ ?_ ?_ (fun a q1 q2 => ⟨by simp [xi, upd, q1, q2], by simp [xi, upd, q1, q2]⟩) (fun k q1 q2 => by simp [xi, q1, q2]))
                  · simp [xi, upd, hro, hJ.2.2.2.1]
                  · simp [xi, upd, hro, hJ.2.2.2.2]
                  · simp [xi, upd, hor']
                  · simp [xi, upd, hor']
                · exact absurd rfl h189
            · have e1 := bIz h142
              refine xv_iload_n (q := 146) rfl dX5_meet_145 rfl rfl ?_
              refine xv_if_eq (q := 149) (t := 156) rfl rfl dX5_meet_146 (fun h146 => ?_) (fun h146 => ?_)
              · refine xv_aload_n (q := 157) rfl dX5_meet_156 rfl rfl ?_
                refine xv_geta (q := 160) rfl dX5_meet_157 f_X5_31 (hg.1 _ _ rfl) (hg.2 _ _ _ rfl) ?_
                refine xv_iload_n (q := 161) rfl dX5_meet_160 rfl rfl ?_
                refine xv_dup2 (q := 162) rfl dX5_meet_161 rfl rfl ?_
                refine xv_iald (q := 163) rfl dX5_meet_162 (hg.1 _ _ rfl) rfl (by omega) (by decide) ?_
                refine xv_as (w := nI (brs c true r o)) (by simp [xi, upd, hro, hJ.2.2.2.2]) ?_
                refine xv_iconst (v := nI 1) (q := 164) rfl dX5_meet_163 rfl ?_
                refine xv_iload_n (q := 165) rfl dX5_meet_164 rfl rfl ?_
                refine xv_ishl (q := 166) rfl dX5_meet_165 ?_
                refine xv_as (w := nI (2 ^ o)) (sh1 o (by omega)) ?_
                refine xv_ior (q := 167) rfl dX5_meet_166 ?_
                refine xv_as (w := nI (brs c true r o ||| 2 ^ o)) (nI_or _ _) ?_
                refine xv_iast (q := 168) rfl dX5_meet_167 (hg.1 _ _ rfl) rfl (by omega) (by decide) ?_
                refine xv_aload_n (q := 169) rfl dX5_meet_168 rfl rfl ?_
                refine xv_geto (q := 172) rfl dX5_meet_169 f_X5_12 (hg.1 _ _ rfl) (hg.2 _ _ _ rfl) ?_
                refine xv_iload_n (q := 173) rfl dX5_meet_172 rfl rfl ?_
                refine xv_aload_n (q := 174) rfl dX5_meet_173 rfl rfl ?_
                refine xv_geto (q := 177) rfl dX5_meet_174 f_X5_12 (hg.1 _ _ rfl) (hg.2 _ _ _ rfl) ?_
                refine xv_geta (q := 180) rfl dX5_meet_177 f_X5_82 (hg.1 _ _ rfl) (hg.2 _ _ _ rfl) ?_
                refine xv_iload_n (q := 181) rfl dX5_meet_180 rfl rfl ?_
                refine xv_iald (q := 182) rfl dX5_meet_181 (hg.1 _ _ rfl) rfl (by omega) (by decide) ?_
                refine xv_as (w := nI (c 2 o)) (hm 2 o (by decide) (by omega)) ?_
                refine xv_cV2 (z := mX0_letsBy) (q := 185) rfl dX5_meet_182 l_X5_85 gX0_letsBy (hg.1 _ _ rfl) rfl rfl rfl (c_letsBy (d := d) (k := c 0 r) hcr (hTJ.mv (fun k q1 q2 => by simp [xi, show ¬ k = 35 by omega, show ¬ k = 36 by omega])).1 hN hr rfl (hw r hr).1 (nI (c 2 o))) (by omega) ?_
                refine xv_if_ne (q := 188) (t := 211) rfl rfl dX5_meet_185 (fun h185 => ?_) (fun h185 => ?_)
                · have e2 := bIn h185
                  refine xv_iinc (q := 214) (v := nI 1) rfl dX5_meet_211 rfl rfl ?_
                  refine xv_goto (t := 16) rfl dX5_meet_214 ?_
                  rw [nI_add]
                  refine ih (o + 1) _ _ (by omega) (by omega) (hJ.nx (t1 := false) (t2 := true) (t3 := false) (t4 := false) hN hr hor x1e x1l x1b x2e x2l x2b (bar_g hpar hgt).2.symm (by rw [(bar_g hpar hgt).1, e1]; rfl) (by rw [(bar_l hpar.symm hgt).1, e2]; rfl) (bar_l hpar.symm hgt).2.symm ?_ ?_ ?_ ?_ (fun a q1 q2 => ⟨by simp [xi, upd, q1, q2], by simp [xi, upd, q1, q2]⟩) (fun k q1 q2 => by simp [xi, q1, q2]))
                  · simp [xi, upd, hro, hJ.2.2.2.1]
                  · simp [xi, upd, hro, hJ.2.2.2.2]
                  · simp [xi, upd, hor']
                  · simp [xi, upd, hor']
                · have e2 := bIz h185
                  refine xv_iload_n (q := 189) rfl dX5_meet_188 rfl rfl ?_
                  refine xv_if_eq (q := 192) (t := 199) rfl rfl dX5_meet_189 (fun h189 => ?_) (fun h189 => ?_)
                  · refine xv_aload_n (q := 200) rfl dX5_meet_199 rfl rfl ?_
                    refine xv_geta (q := 203) rfl dX5_meet_200 f_X5_28 (hg.1 _ _ rfl) (hg.2 _ _ _ rfl) ?_
                    refine xv_iload_n (q := 204) rfl dX5_meet_203 rfl rfl ?_
                    refine xv_dup2 (q := 205) rfl dX5_meet_204 rfl rfl ?_
                    refine xv_iald (q := 206) rfl dX5_meet_205 (hg.1 _ _ rfl) rfl (by omega) (by decide) ?_
                    refine xv_as (w := nI (bcl x1 r)) (by simp [xi, upd, hor']) ?_
                    refine xv_iconst (v := nI 1) (q := 207) rfl dX5_meet_206 rfl ?_
                    refine xv_iload_n (q := 208) rfl dX5_meet_207 rfl rfl ?_
                    refine xv_ishl (q := 209) rfl dX5_meet_208 ?_
                    refine xv_as (w := nI (2 ^ r)) (sh1 r (by omega)) ?_
                    refine xv_ior (q := 210) rfl dX5_meet_209 ?_
                    refine xv_as (w := nI (bcl x1 r ||| 2 ^ r)) (nI_or _ _) ?_
                    refine xv_iast (q := 211) rfl dX5_meet_210 (hg.1 _ _ rfl) rfl (by omega) (by decide) ?_
                    refine xv_iinc (q := 214) (v := nI 1) rfl dX5_meet_211 rfl rfl ?_
                    refine xv_goto (t := 16) rfl dX5_meet_214 ?_
                    rw [nI_add]
                    refine ih (o + 1) _ _ (by omega) (by omega) (hJ.nx (t1 := false) (t2 := true) (t3 := true) (t4 := false) hN hr hor x1e x1l x1b x2e x2l x2b (bar_g hpar hgt).2.symm (by rw [(bar_g hpar hgt).1, e1]; rfl) (by rw [(bar_l hpar.symm hgt).1, e2]; rfl) (bar_l hpar.symm hgt).2.symm ?_ ?_ ?_ ?_ (fun a q1 q2 => ⟨by simp [xi, upd, q1, q2], by simp [xi, upd, q1, q2]⟩) (fun k q1 q2 => by simp [xi, q1, q2]))
                    · simp [xi, upd, hro, hJ.2.2.2.1]
                    · simp [xi, upd, hro, hJ.2.2.2.2]
                    · simp [xi, upd, hor']
                    · simp [xi, upd, hor']
                  · exact absurd rfl h189
              · exact absurd rfl h146
          · have hlt : c 5 o < c 5 r := nInle h116 (by omega) (by omega)
            refine xv_iconst (v := nI 1) (q := 120) rfl dX5_meet_119 rfl ?_
            refine xv_goto (t := 124) rfl dX5_meet_120 ?_
            refine xv_istore_n (q := 125) rfl dX5_meet_124 rfl rfl ?_
            refine xv_aload_n (q := 126) rfl dX5_meet_125 rfl rfl ?_
            refine xv_geto (q := 129) rfl dX5_meet_126 f_X5_12 (hg.1 _ _ rfl) (hg.2 _ _ _ rfl) ?_
            refine xv_iload_n (q := 130) rfl dX5_meet_129 rfl rfl ?_
            refine xv_aload_n (q := 131) rfl dX5_meet_130 rfl rfl ?_
            refine xv_geto (q := 134) rfl dX5_meet_131 f_X5_12 (hg.1 _ _ rfl) (hg.2 _ _ _ rfl) ?_
            refine xv_geta (q := 137) rfl dX5_meet_134 f_X5_82 (hg.1 _ _ rfl) (hg.2 _ _ _ rfl) ?_
            refine xv_iload_n (q := 138) rfl dX5_meet_137 rfl rfl ?_
            refine xv_iald (q := 139) rfl dX5_meet_138 (hg.1 _ _ rfl) rfl (by omega) (by decide) ?_
            refine xv_as (w := nI (c 2 r)) (hm 2 r (by decide) hr) ?_
            refine xv_cV2 (z := mX0_letsBy) (q := 142) rfl dX5_meet_139 l_X5_85 gX0_letsBy (hg.1 _ _ rfl) rfl rfl rfl (c_letsBy (d := d) (k := c 0 o) hcr (hTJ.mv (fun k q1 q2 => by simp [xi, show ¬ k = 35 by omega, show ¬ k = 36 by omega])).1 hN (show o < N by omega) rfl (hw o (by omega)).1 (nI (c 2 r))) (by omega) ?_
            refine xv_if_ne (q := 145) (t := 168) rfl rfl dX5_meet_142 (fun h142 => ?_) (fun h142 => ?_)
            · have e1 := bIn h142
              refine xv_aload_n (q := 169) rfl dX5_meet_168 rfl rfl ?_
              refine xv_geto (q := 172) rfl dX5_meet_169 f_X5_12 (hg.1 _ _ rfl) (hg.2 _ _ _ rfl) ?_
              refine xv_iload_n (q := 173) rfl dX5_meet_172 rfl rfl ?_
              refine xv_aload_n (q := 174) rfl dX5_meet_173 rfl rfl ?_
              refine xv_geto (q := 177) rfl dX5_meet_174 f_X5_12 (hg.1 _ _ rfl) (hg.2 _ _ _ rfl) ?_
              refine xv_geta (q := 180) rfl dX5_meet_177 f_X5_82 (hg.1 _ _ rfl) (hg.2 _ _ _ rfl) ?_
              refine xv_iload_n (q := 181) rfl dX5_meet_180 rfl rfl ?_
              refine xv_iald (q := 182) rfl dX5_meet_181 (hg.1 _ _ rfl) rfl (by omega) (by decide) ?_
              refine xv_as (w := nI (c 2 o)) (hm 2 o (by decide) (by omega)) ?_
              refine xv_cV2 (z := mX0_letsBy) (q := 185) rfl dX5_meet_182 l_X5_85 gX0_letsBy (hg.1 _ _ rfl) rfl rfl rfl (c_letsBy (d := d) (k := c 0 r) hcr (hTJ.mv (fun k q1 q2 => by simp [xi, show ¬ k = 35 by omega, show ¬ k = 36 by omega])).1 hN hr rfl (hw r hr).1 (nI (c 2 o))) (by omega) ?_
              refine xv_if_ne (q := 188) (t := 211) rfl rfl dX5_meet_185 (fun h185 => ?_) (fun h185 => ?_)
              · have e2 := bIn h185
                refine xv_iinc (q := 214) (v := nI 1) rfl dX5_meet_211 rfl rfl ?_
                refine xv_goto (t := 16) rfl dX5_meet_214 ?_
                rw [nI_add]
                refine ih (o + 1) _ _ (by omega) (by omega) (hJ.nx (t1 := false) (t2 := false) (t3 := false) (t4 := false) hN hr hor x1e x1l x1b x2e x2l x2b (by rw [(bar_l hpar hlt).1, e1]; rfl) (bar_l hpar hlt).2.symm (bar_g hpar.symm hlt).2.symm (by rw [(bar_g hpar.symm hlt).1, e2]; rfl) ?_ ?_ ?_ ?_ (fun a q1 q2 => ⟨by simp [xi, upd, q1, q2], by simp [xi, upd, q1, q2]⟩) (fun k q1 q2 => by simp [xi, q1, q2]))
                · simp [xi, upd, hro, hJ.2.2.2.1]
                · simp [xi, upd, hro, hJ.2.2.2.2]
                · simp [xi, upd, hor']
                · simp [xi, upd, hor']
              · have e2 := bIz h185
                refine xv_iload_n (q := 189) rfl dX5_meet_188 rfl rfl ?_
                refine xv_if_eq (q := 192) (t := 199) rfl rfl dX5_meet_189 (fun h189 => ?_) (fun h189 => ?_)
                · exact absurd h189 (by decide)
                · refine xv_aload_n (q := 193) rfl dX5_meet_192 rfl rfl ?_
                  refine xv_geta (q := 196) rfl dX5_meet_193 f_X5_31 (hg.1 _ _ rfl) (hg.2 _ _ _ rfl) ?_
                  refine xv_goto (t := 203) rfl dX5_meet_196 ?_
                  refine xv_iload_n (q := 204) rfl dX5_meet_203 rfl rfl ?_
                  refine xv_dup2 (q := 205) rfl dX5_meet_204 rfl rfl ?_
                  refine xv_iald (q := 206) rfl dX5_meet_205 (hg.1 _ _ rfl) rfl (by omega) (by decide) ?_
                  refine xv_as (w := nI (bcl x2 r)) (by simp [xi, upd, hor']) ?_
                  refine xv_iconst (v := nI 1) (q := 207) rfl dX5_meet_206 rfl ?_
                  refine xv_iload_n (q := 208) rfl dX5_meet_207 rfl rfl ?_
                  refine xv_ishl (q := 209) rfl dX5_meet_208 ?_
                  refine xv_as (w := nI (2 ^ r)) (sh1 r (by omega)) ?_
                  refine xv_ior (q := 210) rfl dX5_meet_209 ?_
                  refine xv_as (w := nI (bcl x2 r ||| 2 ^ r)) (nI_or _ _) ?_
                  refine xv_iast (q := 211) rfl dX5_meet_210 (hg.1 _ _ rfl) rfl (by omega) (by decide) ?_
                  refine xv_iinc (q := 214) (v := nI 1) rfl dX5_meet_211 rfl rfl ?_
                  refine xv_goto (t := 16) rfl dX5_meet_214 ?_
                  rw [nI_add]
                  refine ih (o + 1) _ _ (by omega) (by omega) (hJ.nx (t1 := false) (t2 := false) (t3 := false) (t4 := true) hN hr hor x1e x1l x1b x2e x2l x2b (by rw [(bar_l hpar hlt).1, e1]; rfl) (bar_l hpar hlt).2.symm (bar_g hpar.symm hlt).2.symm (by rw [(bar_g hpar.symm hlt).1, e2]; rfl) ?_ ?_ ?_ ?_ (fun a q1 q2 => ⟨by simp [xi, upd, q1, q2], by simp [xi, upd, q1, q2]⟩) (fun k q1 q2 => by simp [xi, q1, q2]))
                  · simp [xi, upd, hro, hJ.2.2.2.1]
                  · simp [xi, upd, hro, hJ.2.2.2.2]
                  · simp [xi, upd, hor']
                  · simp [xi, upd, hor']
            · have e1 := bIz h142
              refine xv_iload_n (q := 146) rfl dX5_meet_145 rfl rfl ?_
              refine xv_if_eq (q := 149) (t := 156) rfl rfl dX5_meet_146 (fun h146 => ?_) (fun h146 => ?_)
              · exact absurd h146 (by decide)
              · refine xv_aload_n (q := 150) rfl dX5_meet_149 rfl rfl ?_
                refine xv_geta (q := 153) rfl dX5_meet_150 f_X5_28 (hg.1 _ _ rfl) (hg.2 _ _ _ rfl) ?_
                refine xv_goto (t := 160) rfl dX5_meet_153 ?_
                refine xv_iload_n (q := 161) rfl dX5_meet_160 rfl rfl ?_
                refine xv_dup2 (q := 162) rfl dX5_meet_161 rfl rfl ?_
                refine xv_iald (q := 163) rfl dX5_meet_162 (hg.1 _ _ rfl) rfl (by omega) (by decide) ?_
                refine xv_as (w := nI (brs c false r o)) (by simp [xi, upd, hro, hJ.2.2.2.1]) ?_
                refine xv_iconst (v := nI 1) (q := 164) rfl dX5_meet_163 rfl ?_
                refine xv_iload_n (q := 165) rfl dX5_meet_164 rfl rfl ?_
                refine xv_ishl (q := 166) rfl dX5_meet_165 ?_
                refine xv_as (w := nI (2 ^ o)) (sh1 o (by omega)) ?_
                refine xv_ior (q := 167) rfl dX5_meet_166 ?_
                refine xv_as (w := nI (brs c false r o ||| 2 ^ o)) (nI_or _ _) ?_
                refine xv_iast (q := 168) rfl dX5_meet_167 (hg.1 _ _ rfl) rfl (by omega) (by decide) ?_
                refine xv_aload_n (q := 169) rfl dX5_meet_168 rfl rfl ?_
                refine xv_geto (q := 172) rfl dX5_meet_169 f_X5_12 (hg.1 _ _ rfl) (hg.2 _ _ _ rfl) ?_
                refine xv_iload_n (q := 173) rfl dX5_meet_172 rfl rfl ?_
                refine xv_aload_n (q := 174) rfl dX5_meet_173 rfl rfl ?_
                refine xv_geto (q := 177) rfl dX5_meet_174 f_X5_12 (hg.1 _ _ rfl) (hg.2 _ _ _ rfl) ?_
                refine xv_geta (q := 180) rfl dX5_meet_177 f_X5_82 (hg.1 _ _ rfl) (hg.2 _ _ _ rfl) ?_
                refine xv_iload_n (q := 181) rfl dX5_meet_180 rfl rfl ?_
                refine xv_iald (q := 182) rfl dX5_meet_181 (hg.1 _ _ rfl) rfl (by omega) (by decide) ?_
                refine xv_as (w := nI (c 2 o)) (hm 2 o (by decide) (by omega)) ?_
                refine xv_cV2 (z := mX0_letsBy) (q := 185) rfl dX5_meet_182 l_X5_85 gX0_letsBy (hg.1 _ _ rfl) rfl rfl rfl (c_letsBy (d := d) (k := c 0 r) hcr (hTJ.mv (fun k q1 q2 => by simp [xi, show ¬ k = 35 by omega, show ¬ k = 36 by omega])).1 hN hr rfl (hw r hr).1 (nI (c 2 o))) (by omega) ?_
                refine xv_if_ne (q := 188) (t := 211) rfl rfl dX5_meet_185 (fun h185 => ?_) (fun h185 => ?_)
                · have e2 := bIn h185
                  refine xv_iinc (q := 214) (v := nI 1) rfl dX5_meet_211 rfl rfl ?_
                  refine xv_goto (t := 16) rfl dX5_meet_214 ?_
                  rw [nI_add]
                  refine ih (o + 1) _ _ (by omega) (by omega) (hJ.nx (t1 := true) (t2 := false) (t3 := false) (t4 := false) hN hr hor x1e x1l x1b x2e x2l x2b (by rw [(bar_l hpar hlt).1, e1]; rfl) (bar_l hpar hlt).2.symm (bar_g hpar.symm hlt).2.symm (by rw [(bar_g hpar.symm hlt).1, e2]; rfl) ?_ ?_ ?_ ?_ (fun a q1 q2 => ⟨by simp [xi, upd, q1, q2], by simp [xi, upd, q1, q2]⟩) (fun k q1 q2 => by simp [xi, q1, q2]))
                  · simp [xi, upd, hro, hJ.2.2.2.1]
                  · simp [xi, upd, hro, hJ.2.2.2.2]
                  · simp [xi, upd, hor']
                  · simp [xi, upd, hor']
                · have e2 := bIz h185
                  refine xv_iload_n (q := 189) rfl dX5_meet_188 rfl rfl ?_
                  refine xv_if_eq (q := 192) (t := 199) rfl rfl dX5_meet_189 (fun h189 => ?_) (fun h189 => ?_)
                  · exact absurd h189 (by decide)
                  · refine xv_aload_n (q := 193) rfl dX5_meet_192 rfl rfl ?_
                    refine xv_geta (q := 196) rfl dX5_meet_193 f_X5_31 (hg.1 _ _ rfl) (hg.2 _ _ _ rfl) ?_
                    refine xv_goto (t := 203) rfl dX5_meet_196 ?_
                    refine xv_iload_n (q := 204) rfl dX5_meet_203 rfl rfl ?_
                    refine xv_dup2 (q := 205) rfl dX5_meet_204 rfl rfl ?_
                    refine xv_iald (q := 206) rfl dX5_meet_205 (hg.1 _ _ rfl) rfl (by omega) (by decide) ?_
                    refine xv_as (w := nI (bcl x2 r)) (by simp [xi, upd, hor']) ?_
                    refine xv_iconst (v := nI 1) (q := 207) rfl dX5_meet_206 rfl ?_
                    refine xv_iload_n (q := 208) rfl dX5_meet_207 rfl rfl ?_
                    refine xv_ishl (q := 209) rfl dX5_meet_208 ?_
                    refine xv_as (w := nI (2 ^ r)) (sh1 r (by omega)) ?_
                    refine xv_ior (q := 210) rfl dX5_meet_209 ?_
                    refine xv_as (w := nI (bcl x2 r ||| 2 ^ r)) (nI_or _ _) ?_
                    refine xv_iast (q := 211) rfl dX5_meet_210 (hg.1 _ _ rfl) rfl (by omega) (by decide) ?_
                    refine xv_iinc (q := 214) (v := nI 1) rfl dX5_meet_211 rfl rfl ?_
                    refine xv_goto (t := 16) rfl dX5_meet_214 ?_
                    rw [nI_add]
                    refine ih (o + 1) _ _ (by omega) (by omega) (hJ.nx (t1 := true) (t2 := false) (t3 := false) (t4 := true) hN hr hor x1e x1l x1b x2e x2l x2b (by rw [(bar_l hpar hlt).1, e1]; rfl) (bar_l hpar hlt).2.symm (bar_g hpar.symm hlt).2.symm (by rw [(bar_g hpar.symm hlt).1, e2]; rfl) ?_ ?_ ?_ ?_ (fun a q1 q2 => ⟨by simp [xi, upd, q1, q2], by simp [xi, upd, q1, q2]⟩) (fun k q1 q2 => by simp [xi, q1, q2]))
                    · simp [xi, upd, hro, hJ.2.2.2.1]
                    · simp [xi, upd, hro, hJ.2.2.2.2]
                    · simp [xi, upd, hor']
                    · simp [xi, upd, hor']
        · have heq : c 5 o = c 5 r := nIe h92 (by omega) (by omega)
          refine xv_goto (t := 211) rfl dX5_meet_95 ?_
          refine xv_iinc (q := 214) (v := nI 1) rfl dX5_meet_211 rfl rfl ?_
          refine xv_goto (t := 16) rfl dX5_meet_214 ?_
          rw [nI_add]
          refine ih (o + 1) _ _ (by omega) (by omega) (hJ.nx (t1 := false) (t2 := false) (t3 := false) (t4 := false) hN hr hor x1e x1l x1b x2e x2l x2b (bar_q heq).symm (bar_q heq).symm (bar_q heq.symm).symm (bar_q heq.symm).symm ?_ ?_ ?_ ?_ (fun a q1 q2 => ⟨by simp [xi, upd, q1, q2], by simp [xi, upd, q1, q2]⟩) (fun k q1 q2 => by simp [xi, q1, q2]))
          · simp [xi, upd, hro, hJ.2.2.2.1]
          · simp [xi, upd, hro, hJ.2.2.2.2]
          · simp [xi, upd, hor']
          · simp [xi, upd, hor']
/-- meet(r): those below r + 1 know of those below r + 1 -/
theorem c_meet (hg : XG sh R) (hT : TC I N c) {r : Nat} (hr : r < N) (hM : MK I c N r r) : XC E mX5_meet (d + 1) 0 0 [.ref 23, .int (nI r)] sh I R L (QM c N r sh I R L) := by
  obtain ⟨hm, hn, hN, hw⟩ := id hT
  refine XC.of (by decide) rfl rfl ?_
  refine xv_aload_n (q := 1) rfl dX5_meet_0 rfl rfl ?_
  refine xv_geta (q := 4) rfl dX5_meet_1 f_X5_28 (hg.1 _ _ rfl) (hg.2 _ _ _ rfl) ?_
  refine xv_iload_n (q := 5) rfl dX5_meet_4 rfl rfl ?_
  refine xv_iconst (v := nI 0) (q := 6) rfl dX5_meet_5 rfl ?_
  refine xv_iast (q := 7) rfl dX5_meet_6 (hg.1 _ _ rfl) rfl (by omega) (by decide) ?_
  refine xv_aload_n (q := 8) rfl dX5_meet_7 rfl rfl ?_
  refine xv_geta (q := 11) rfl dX5_meet_8 f_X5_31 (hg.1 _ _ rfl) (hg.2 _ _ _ rfl) ?_
  refine xv_iload_n (q := 12) rfl dX5_meet_11 rfl rfl ?_
  refine xv_iconst (v := nI 0) (q := 13) rfl dX5_meet_12 rfl ?_
  refine xv_iast (q := 14) rfl dX5_meet_13 (hg.1 _ _ rfl) rfl (by omega) (by decide) ?_
  refine xv_iconst (v := nI 0) (q := 15) rfl dX5_meet_14 rfl ?_
  refine xv_istore_n (q := 16) rfl dX5_meet_15 rfl rfl ?_
  refine c_meet_loop hg hT hr (r + 1) 0 _ _ (by omega) (by omega) ⟨fun k k1 k2 => by rw [xi_off _ _ _ _ k2, xi_off _ _ _ _ k1], fun a ha => absurd ha (Nat.not_lt_zero a), fun a _ ha => ?_, ?_, ?_⟩
  · have e : ¬ a = r := by omega
    have := hM a ha
    simp [xi, upd, e]
    exact this
  · simp [xi, upd, brs, bm]
  · simp [xi, upd, brs, bm]
/-- ahead and behind are right -/
def TB (I : XI) (N : Nat) (c : CR) : Prop := ∀ a, a < N → I 35 a = nI (brs c false a N) ∧ I 36 a = nI (brs c true a N)
theorem MK.tb {I : XI} (h : MK I c N N N) : TB I N c := by
  intro a ha
  obtain ⟨⟨x, e, hx, hb⟩, ⟨y, e2, hy, hb2⟩⟩ := h a ha
  exact ⟨by rw [e, bm_of hx hb]; rfl, by rw [e2, bm_of hy hb2]; rfl⟩
theorem TB.mk {I : XI} (h : TB I N c) (k : Nat) (hk : k ≤ N) : MK I c N k k := by
  intro a ha
  have := h a (by omega)
  exact ⟨⟨_, this.1, bm_lt _ _, fun i hi => by unfold brs; rw [bm_bit, decide_eq_true (show i < N by omega)]; rfl⟩, ⟨_, this.2, bm_lt _ _, fun i hi => by unfold brs; rw [bm_bit, decide_eq_true (show i < N by omega)]; rfl⟩⟩
theorem TB.mv {I J : XI} (h : TB I N c) (h35 : J 35 = I 35) (h36 : J 36 = I 36) : TB J N c := fun a ha => by rw [h35, h36]; exact h a ha
def QSe (c : CR) (N : Nat) (sh : XSh) (I : XI) (R : XRf) (L : XL) : XQ := fun v sh' J R' L' => v = none ∧ sh' = sh ∧ R' = R ∧ L' = L ∧ (∀ k, k ≠ 35 → k ≠ 36 → J k = I k) ∧ TB J N c
theorem c_settle_loop (hg : XG sh R) (hT : TC I N c) : ∀ (k r : Nat) (J : XI), r ≤ N → N < r + k → (∀ k, k ≠ 35 → k ≠ 36 → J k = I k) → MK J c N r r → XV E mX5_settle (d + 2) 0 0 (QSe c N sh I R L) 0 0 2 [some (.ref 23), some (.int (nI r))] [] sh J R L := by
  intro k
  induction k with
  | zero => intro r J h1 h2; exact absurd h2 (by omega)
  | succ k ih =>
    intro r J h1 h2 hJ hM
    have hTJ : TC J N c := hT.mv (fun k h1 h2 => hJ k (by omega) (by omega))
    obtain ⟨hm, hn, hN, hw⟩ := id hTJ
    refine xv_iload_n (q := 3) rfl dX5_settle_2 rfl rfl ?_
    refine xv_aload_n (q := 4) rfl dX5_settle_3 rfl rfl ?_
    refine xv_geto (q := 7) rfl dX5_settle_4 f_X5_12 (hg.1 _ _ rfl) (hg.2 _ _ _ rfl) ?_
    refine xv_geti (q := 10) rfl dX5_settle_7 f_X5_53 (hg.1 _ _ rfl) ?_
    rw [hn]
    refine xv_icmp_ge (q := 13) (t := 24) rfl rfl dX5_settle_10 (fun h10 => ?_) (fun h10 => ?_)
    · have hrN : r = N := by have := nIle h10 (by omega) (by omega); omega
      refine xv_vret dX5_settle_24 rfl ?_
      rw [hrN] at hM
      exact ⟨rfl, rfl, rfl, rfl, hJ, hM.tb⟩
    · have hrN : r < N := nInle h10 (by omega) (by omega)
      refine xv_aload_n (q := 14) rfl dX5_settle_13 rfl rfl ?_
      refine xv_iload_n (q := 15) rfl dX5_settle_14 rfl rfl ?_
      refine xv_rV1 (z := mX5_meet) (q := 18) rfl dX5_settle_15 l_X5_76 gX5_meet (hg.1 _ _ rfl) rfl rfl rfl (c_meet (d := d) hg hTJ hrN hM) (by omega) ?_
      rintro _ _ K _ _ ⟨rfl, rfl, rfl, rfl, g1, g2⟩
      refine xv_iinc (q := 21) (v := nI 1) rfl dX5_settle_18 rfl rfl ?_
      refine xv_goto (t := 2) rfl dX5_settle_21 ?_
      rw [nI_add]
      exact ih (r + 1) K (by omega) (by omega) (fun k k1 k2 => (g1 k k1 k2).trans (hJ k k1 k2)) g2
theorem c_settle (hg : XG sh R) (hT : TC I N c) : XC E mX5_settle (d + 2) 0 0 [.ref 23] sh I R L (QSe c N sh I R L) := by
  refine XC.of (by decide) rfl rfl ?_
  refine xv_iconst (v := nI 0) (q := 1) rfl dX5_settle_0 rfl ?_
  refine xv_istore_n (q := 2) rfl dX5_settle_1 rfl rfl ?_
  exact c_settle_loop hg hT (N + 1) 0 I (by omega) (by omega) (fun _ _ _ => rfl) (fun a ha => absurd ha (Nat.not_lt_zero a))
end TRIP

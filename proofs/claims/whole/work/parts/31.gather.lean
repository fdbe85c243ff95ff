/-! Trip: gather, start -/
/-- by floors: who stays, gets out, gets in -/
def TS1 (I : XI) (N : Nat) (c : CR) (P f : Nat) : Prop := I 32 f = nI (sty c N P f) ∧ I 33 f = nI (gou c N P f) ∧ I 34 f = nI (gin c N P f)
def TS (I : XI) (N : Nat) (c : CR) (P : Nat) : Prop := ∀ f, f < 10 → TS1 I N c P f
theorem TS.mv {I J : XI} {N : Nat} {c : CR} {P : Nat} (h : TS I N c P) (h1 : J 32 = I 32) (h2 : J 33 = I 33) (h3 : J 34 = I 34) : TS J N c P := fun f hf => by unfold TS1; rw [h1, h2, h3]; exact h f hf
/-- unchanged but for 32, 33, 34 -/
def F3 (I J : XI) : Prop := ∀ k, k ≠ 32 → k ≠ 33 → k ≠ 34 → J k = I k
theorem F3.tc {I J : XI} {N : Nat} {c : CR} (h : F3 I J) (hT : TC I N c) : TC J N c := hT.mv (fun k h1 h2 => h k (by omega) (by omega) (by omega))
theorem stp_in {c : CR} {P f r : Nat} (h : f = c 3 r) (h2 : c 3 r < c 4 r) : stp c P f r = false ∧ gop c P f r = false ∧ gip c P f r = P.testBit r := by
  unfold stp gop gip
  rw [decide_eq_false (show ¬ c 3 r < f by omega), decide_eq_false (show ¬ c 4 r = f by omega), decide_eq_true h.symm]
  simp
theorem stp_out {c : CR} {P f r : Nat} (h0 : ¬ f = c 3 r) (h : f = c 4 r) : stp c P f r = false ∧ gop c P f r = P.testBit r ∧ gip c P f r = false := by
  unfold stp gop gip
  rw [decide_eq_false (show ¬ f < c 4 r by omega), decide_eq_true h.symm, decide_eq_false (show ¬ c 3 r = f by omega)]
  simp
theorem stp_st {c : CR} {P f r : Nat} (h1 : c 3 r < f) (h2 : f < c 4 r) : stp c P f r = P.testBit r ∧ gop c P f r = false ∧ gip c P f r = false := by
  unfold stp gop gip
  rw [decide_eq_true h1, decide_eq_true h2, decide_eq_false (show ¬ c 4 r = f by omega), decide_eq_false (show ¬ c 3 r = f by omega)]
  simp
theorem stp_no {c : CR} {P f r : Nat} (h0 : ¬ f = c 3 r) (h1 : ¬ f = c 4 r) (h : f ≤ c 3 r ∨ c 4 r ≤ f) : stp c P f r = false ∧ gop c P f r = false ∧ gip c P f r = false := by
  unfold stp gop gip
  rw [decide_eq_false (show ¬ c 4 r = f by omega), decide_eq_false (show ¬ c 3 r = f by omega)]
  rcases h with h | h
  · rw [decide_eq_false (show ¬ c 3 r < f by omega)]; simp
  · rw [decide_eq_false (show ¬ f < c 4 r by omega)]; simp
theorem bm_f {q : Nat → Bool} {r : Nat} (h : q r = false) : bm q (r + 1) = bm q r := by
  show bm q r ||| (if q r = true then 2 ^ r else 0) = _
  rw [h]; simp
theorem bm_p {q : Nat → Bool} {r P : Nat} (h : q r = P.testBit r) : bm q (r + 1) = bm q r ||| bof P r := by
  show bm q r ||| (if q r = true then 2 ^ r else 0) = _
  rw [h]; rfl
/-- at floor f the first r riders are sorted -/
def GI (I J : XI) (c : CR) (P f r : Nat) : Prop := F3 I J ∧ (∀ g, g ≠ f → J 32 g = I 32 g ∧ J 33 g = I 33 g ∧ J 34 g = I 34 g) ∧ J 32 f = nI (bm (stp c P f) r) ∧ J 33 f = nI (bm (gop c P f) r) ∧ J 34 f = nI (bm (gip c P f) r)
section GATHER
variable {E : XE} {d : Nat} {sh : XSh} {I : XI} {R : XRf} {L : XL} {N : Nat} {c : CR} {P : Nat}
def QGa (c : CR) (N P : Nat) (sh : XSh) (I : XI) (R : XRf) (L : XL) : XQ := fun v sh' J R' L' => v = none ∧ sh' = sh ∧ R' = R ∧ L' = L ∧ (∀ k, (k < 32 ∨ 38 ≤ k) → J k = I k) ∧ TS J N c P ∧ TB J N c ∧ ∀ i, i < 450 → J 37 i = -1
theorem c_gather_in (hg : XG sh R) (hT : TC I N c) (hP : P < 32) {f : Nat} (hf : f < 10) {Q : XQ} (KK : ∀ (J : XI) (l3 l4 : Option Value), GI I J c P f N → XV E mX5_gather (d + 3) 0 0 Q 0 0 154 [some (.ref 23), some (.int (nI P)), some (.int (nI f)), l3, l4] [] sh J R L) :
    ∀ (k r : Nat) (J : XI) (l4 : Option Value), r ≤ N → N < r + k → GI I J c P f r → XV E mX5_gather (d + 3) 0 0 Q 0 0 39 [some (.ref 23), some (.int (nI P)), some (.int (nI f)), some (.int (nI r)), l4] [] sh J R L := by
  intro k
  induction k with
  | zero => intro r J l4 h1 h2; exact absurd h2 (by omega)
  | succ k ih =>
    intro r J l4 h1 h2 hJ
    obtain ⟨hm, hn, hN, hw⟩ := hJ.1.tc hT
    refine xv_iload_n (q := 40) rfl dX5_gather_39 rfl rfl ?_
    refine xv_aload_n (q := 41) rfl dX5_gather_40 rfl rfl ?_
    refine xv_geto (q := 44) rfl dX5_gather_41 f_X5_12 (hg.1 _ _ rfl) (hg.2 _ _ _ rfl) ?_
    refine xv_geti (q := 47) rfl dX5_gather_44 f_X5_53 (hg.1 _ _ rfl) ?_
    rw [hn]
    refine xv_icmp_ge (q := 50) (t := 154) rfl rfl dX5_gather_47 (fun h47 => ?_) (fun h47 => ?_)
    · have hrN : r = N := by have := nIle h47 (by omega) (by omega); omega
      rw [hrN] at hJ
      exact KK J _ _ hJ
    · have hr : r < N := nInle h47 (by omega) (by omega)
      refine xv_iload_n (q := 51) rfl dX5_gather_50 rfl rfl ?_
      refine xv_iconst (v := nI 1) (q := 52) rfl dX5_gather_51 rfl ?_
      refine xv_iload_n (q := 53) rfl dX5_gather_52 rfl rfl ?_
      refine xv_ishl (q := 54) rfl dX5_gather_53 ?_
      refine xv_as (w := nI (2 ^ r)) (sh1 r (by omega)) ?_
      refine xv_iand (q := 55) rfl dX5_gather_54 ?_
      refine xv_as (w := nI (bof P r)) (bof_I P hP r (by omega)) ?_
      refine xv_istore (q := 57) rfl dX5_gather_55 rfl ?_
      refine xv_iload_n (q := 58) rfl dX5_gather_57 rfl rfl ?_
      refine xv_aload_n (q := 59) rfl dX5_gather_58 rfl rfl ?_
      refine xv_geto (q := 62) rfl dX5_gather_59 f_X5_12 (hg.1 _ _ rfl) (hg.2 _ _ _ rfl) ?_
      refine xv_geta (q := 65) rfl dX5_gather_62 f_X5_67 (hg.1 _ _ rfl) (hg.2 _ _ _ rfl) ?_
      refine xv_iload_n (q := 66) rfl dX5_gather_65 rfl rfl ?_
      refine xv_iald (q := 67) rfl dX5_gather_66 (hg.1 _ _ rfl) rfl (by omega) (by decide) ?_
      refine xv_as (w := nI (c 3 r)) (hm 3 r (by decide) hr) ?_
      refine xv_icmp_ne (q := 70) (t := 84) rfl rfl dX5_gather_67 (fun h67 => ?_) (fun h67 => ?_)
      · have h67 : ¬ f = c 3 r := fun q => h67 (by rw [q])
        refine xv_iload_n (q := 85) rfl dX5_gather_84 rfl rfl ?_
        refine xv_aload_n (q := 86) rfl dX5_gather_85 rfl rfl ?_
        refine xv_geto (q := 89) rfl dX5_gather_86 f_X5_12 (hg.1 _ _ rfl) (hg.2 _ _ _ rfl) ?_
        refine xv_geta (q := 92) rfl dX5_gather_89 f_X5_70 (hg.1 _ _ rfl) (hg.2 _ _ _ rfl) ?_
        refine xv_iload_n (q := 93) rfl dX5_gather_92 rfl rfl ?_
        refine xv_iald (q := 94) rfl dX5_gather_93 (hg.1 _ _ rfl) rfl (by omega) (by decide) ?_
        refine xv_as (w := nI (c 4 r)) (hm 4 r (by decide) hr) ?_
        refine xv_icmp_ne (q := 97) (t := 111) rfl rfl dX5_gather_94 (fun h94 => ?_) (fun h94 => ?_)
        · have h94 : ¬ f = c 4 r := fun q => h94 (by rw [q])
          refine xv_iload_n (q := 112) rfl dX5_gather_111 rfl rfl ?_
          refine xv_aload_n (q := 113) rfl dX5_gather_112 rfl rfl ?_
          refine xv_geto (q := 116) rfl dX5_gather_113 f_X5_12 (hg.1 _ _ rfl) (hg.2 _ _ _ rfl) ?_
          refine xv_geta (q := 119) rfl dX5_gather_116 f_X5_67 (hg.1 _ _ rfl) (hg.2 _ _ _ rfl) ?_
          refine xv_iload_n (q := 120) rfl dX5_gather_119 rfl rfl ?_
          refine xv_iald (q := 121) rfl dX5_gather_120 (hg.1 _ _ rfl) rfl (by omega) (by decide) ?_
          refine xv_as (w := nI (c 3 r)) (hm 3 r (by decide) hr) ?_
          refine xv_icmp_le (q := 124) (t := 148) rfl rfl dX5_gather_121 (fun h121 => ?_) (fun h121 => ?_)
          · have h121 : f ≤ c 3 r := nIle h121 (by omega) (by have := (hw r hr).2.2.2.1; omega)
            refine xv_iinc (q := 151) (v := nI 1) rfl dX5_gather_148 rfl rfl ?_
            refine xv_goto (t := 39) rfl dX5_gather_151 ?_
            rw [nI_add]
            have hh := stp_no (P := P) h67 h94 (Or.inl h121)
            refine ih (r + 1) _ _ (by omega) (by omega) ⟨hJ.1, hJ.2.1, ?_, ?_, ?_⟩
            · rw [bm_f hh.1]; exact hJ.2.2.1
            · rw [bm_f hh.2.1]; exact hJ.2.2.2.1
            · rw [bm_f hh.2.2]; exact hJ.2.2.2.2
          · have h121 : c 3 r < f := nInle h121 (by omega) (by have := (hw r hr).2.2.2.1; omega)
            refine xv_iload_n (q := 125) rfl dX5_gather_124 rfl rfl ?_
            refine xv_aload_n (q := 126) rfl dX5_gather_125 rfl rfl ?_
            refine xv_geto (q := 129) rfl dX5_gather_126 f_X5_12 (hg.1 _ _ rfl) (hg.2 _ _ _ rfl) ?_
            refine xv_geta (q := 132) rfl dX5_gather_129 f_X5_70 (hg.1 _ _ rfl) (hg.2 _ _ _ rfl) ?_
            refine xv_iload_n (q := 133) rfl dX5_gather_132 rfl rfl ?_
            refine xv_iald (q := 134) rfl dX5_gather_133 (hg.1 _ _ rfl) rfl (by omega) (by decide) ?_
            refine xv_as (w := nI (c 4 r)) (hm 4 r (by decide) hr) ?_
            refine xv_icmp_ge (q := 137) (t := 148) rfl rfl dX5_gather_134 (fun h134 => ?_) (fun h134 => ?_)
            · have h134 : c 4 r ≤ f := nIle h134 (by have := (hw r hr).2.2.2.2.1; omega) (by omega)
              refine xv_iinc (q := 151) (v := nI 1) rfl dX5_gather_148 rfl rfl ?_
              refine xv_goto (t := 39) rfl dX5_gather_151 ?_
              rw [nI_add]
              have hh := stp_no (P := P) h67 h94 (Or.inr h134)
              refine ih (r + 1) _ _ (by omega) (by omega) ⟨hJ.1, hJ.2.1, ?_, ?_, ?_⟩
              · rw [bm_f hh.1]; exact hJ.2.2.1
              · rw [bm_f hh.2.1]; exact hJ.2.2.2.1
              · rw [bm_f hh.2.2]; exact hJ.2.2.2.2
            · have h134 : f < c 4 r := nInle h134 (by have := (hw r hr).2.2.2.2.1; omega) (by omega)
              refine xv_aload_n (q := 138) rfl dX5_gather_137 rfl rfl ?_
              refine xv_geta (q := 141) rfl dX5_gather_138 f_X5_18 (hg.1 _ _ rfl) (hg.2 _ _ _ rfl) ?_
              refine xv_iload_n (q := 142) rfl dX5_gather_141 rfl rfl ?_
              refine xv_dup2 (q := 143) rfl dX5_gather_142 rfl rfl ?_
              refine xv_iald (q := 144) rfl dX5_gather_143 (hg.1 _ _ rfl) rfl (by omega) (by decide) ?_
              refine xv_as (w := nI (bm (stp c P f) r)) hJ.2.2.1 ?_
              refine xv_iload (q := 146) rfl dX5_gather_144 rfl ?_
              refine xv_ior (q := 147) rfl dX5_gather_146 ?_
              refine xv_as (w := nI (bm (stp c P f) r ||| bof P r)) (nI_or _ _) ?_
              refine xv_iast (q := 148) rfl dX5_gather_147 (hg.1 _ _ rfl) rfl (by omega) (by decide) ?_
              refine xv_iinc (q := 151) (v := nI 1) rfl dX5_gather_148 rfl rfl ?_
              refine xv_goto (t := 39) rfl dX5_gather_151 ?_
              rw [nI_add]
              have hh := stp_st (P := P) h121 h134
              refine ih (r + 1) _ _ (by omega) (by omega) ⟨fun k q1 q2 q3 => (xi_off _ _ _ _ q1).trans (hJ.1 k q1 q2 q3), fun g hg2 => ?_, ?_, ?_, ?_⟩
              · have := hJ.2.1 g hg2
                simp [xi, upd, hg2]; exact this
              · rw [xi_eq, bm_p hh.1]
              · rw [xi_off _ _ _ _ (by decide), bm_f hh.2.1]; exact hJ.2.2.2.1
              · rw [xi_off _ _ _ _ (by decide), bm_f hh.2.2]; exact hJ.2.2.2.2
        · have h94 : f = c 4 r := nIe h94 (by omega) (by have := (hw r hr).2.2.2.2.1; omega)
          refine xv_aload_n (q := 98) rfl dX5_gather_97 rfl rfl ?_
          refine xv_geta (q := 101) rfl dX5_gather_98 f_X5_22 (hg.1 _ _ rfl) (hg.2 _ _ _ rfl) ?_
          refine xv_iload_n (q := 102) rfl dX5_gather_101 rfl rfl ?_
          refine xv_dup2 (q := 103) rfl dX5_gather_102 rfl rfl ?_
          refine xv_iald (q := 104) rfl dX5_gather_103 (hg.1 _ _ rfl) rfl (by omega) (by decide) ?_
          refine xv_as (w := nI (bm (gop c P f) r)) hJ.2.2.2.1 ?_
          refine xv_iload (q := 106) rfl dX5_gather_104 rfl ?_
          refine xv_ior (q := 107) rfl dX5_gather_106 ?_
          refine xv_as (w := nI (bm (gop c P f) r ||| bof P r)) (nI_or _ _) ?_
          refine xv_iast (q := 108) rfl dX5_gather_107 (hg.1 _ _ rfl) rfl (by omega) (by decide) ?_
          refine xv_goto (t := 148) rfl dX5_gather_108 ?_
          refine xv_iinc (q := 151) (v := nI 1) rfl dX5_gather_148 rfl rfl ?_
          refine xv_goto (t := 39) rfl dX5_gather_151 ?_
          rw [nI_add]
          have hh := stp_out (P := P) h67 h94
          refine ih (r + 1) _ _ (by omega) (by omega) ⟨fun k q1 q2 q3 => (xi_off _ _ _ _ q2).trans (hJ.1 k q1 q2 q3), fun g hg2 => ?_, ?_, ?_, ?_⟩
          · have := hJ.2.1 g hg2
            simp [xi, upd, hg2]; exact this
          · rw [xi_off _ _ _ _ (by decide), bm_f hh.1]; exact hJ.2.2.1
          · rw [xi_eq, bm_p hh.2.1]
          · rw [xi_off _ _ _ _ (by decide), bm_f hh.2.2]; exact hJ.2.2.2.2
      · have h67 : f = c 3 r := nIe h67 (by omega) (by have := (hw r hr).2.2.2.1; omega)
        refine xv_aload_n (q := 71) rfl dX5_gather_70 rfl rfl ?_
        refine xv_geta (q := 74) rfl dX5_gather_71 f_X5_25 (hg.1 _ _ rfl) (hg.2 _ _ _ rfl) ?_
        refine xv_iload_n (q := 75) rfl dX5_gather_74 rfl rfl ?_
        refine xv_dup2 (q := 76) rfl dX5_gather_75 rfl rfl ?_
        refine xv_iald (q := 77) rfl dX5_gather_76 (hg.1 _ _ rfl) rfl (by omega) (by decide) ?_
        refine xv_as (w := nI (bm (gip c P f) r)) hJ.2.2.2.2 ?_
        refine xv_iload (q := 79) rfl dX5_gather_77 rfl ?_
        refine xv_ior (q := 80) rfl dX5_gather_79 ?_
        refine xv_as (w := nI (bm (gip c P f) r ||| bof P r)) (nI_or _ _) ?_
        refine xv_iast (q := 81) rfl dX5_gather_80 (hg.1 _ _ rfl) rfl (by omega) (by decide) ?_
        refine xv_goto (t := 148) rfl dX5_gather_81 ?_
        refine xv_iinc (q := 151) (v := nI 1) rfl dX5_gather_148 rfl rfl ?_
        refine xv_goto (t := 39) rfl dX5_gather_151 ?_
        rw [nI_add]
        have hh := stp_in (P := P) h67 (hw r hr).2.2.2.2.2.2.2
        refine ih (r + 1) _ _ (by omega) (by omega) ⟨fun k q1 q2 q3 => (xi_off _ _ _ _ q3).trans (hJ.1 k q1 q2 q3), fun g hg2 => ?_, ?_, ?_, ?_⟩
        · have := hJ.2.1 g hg2
          simp [xi, upd, hg2]; exact this
        · rw [xi_off _ _ _ _ (by decide), bm_f hh.1]; exact hJ.2.2.1
        · rw [xi_off _ _ _ _ (by decide), bm_f hh.2.1]; exact hJ.2.2.2.1
        · rw [xi_eq, bm_p hh.2.2]
theorem c_gather_out (hg : XG sh R) (hT : TC I N c) (hP : P < 32) (hU : ∀ i, i < 450 → I 37 i = -1) : ∀ (k f : Nat) (J : XI) (l3 l4 : Option Value), f ≤ 10 → 10 < f + k → F3 I J → (∀ g, g < f → TS1 J N c P g) → XV E mX5_gather (d + 3) 0 0 (QGa c N P sh I R L) 0 0 10 [some (.ref 23), some (.int (nI P)), some (.int (nI f)), l3, l4] [] sh J R L := by
  intro k
  induction k with
  | zero => intro f J l3 l4 h1 h2; exact absurd h2 (by omega)
  | succ k ih =>
    intro f J l3 l4 h1 h2 hJ hS
    have hTJ := hJ.tc hT
    refine xv_iload_n (q := 11) rfl dX5_gather_10 rfl rfl ?_
    refine xv_bipush (v := nI 10) (q := 13) rfl dX5_gather_11 rfl ?_
    refine xv_icmp_ge (q := 16) (t := 160) rfl rfl dX5_gather_13 (fun h13 => ?_) (fun h13 => ?_)
    · have hf : f = 10 := by have := nIle h13 (by omega) (by omega); omega
      refine xv_aload_n (q := 161) rfl dX5_gather_160 rfl rfl ?_
      refine xv_rV0 (z := mX5_settle) (q := 164) rfl dX5_gather_161 l_X5_73 gX5_settle (hg.1 _ _ rfl) rfl rfl rfl (c_settle (d := d) hg hTJ) (by omega) ?_
      rintro _ _ K _ _ ⟨rfl, rfl, rfl, rfl, g1, g2⟩
      refine xv_vret dX5_gather_164 rfl ?_
      subst hf
      have hTS : TS J N c P := fun g hg2 => hS g hg2
      exact ⟨rfl, rfl, rfl, rfl, fun k hk => (g1 k (by omega) (by omega)).trans (hJ k (by omega) (by omega) (by omega)), hTS.mv (g1 _ (by decide) (by decide)) (g1 _ (by decide) (by decide)) (g1 _ (by decide) (by decide)), g2, fun i hi => by rw [g1 37 (by decide) (by decide), hJ 37 (by decide) (by decide) (by decide)]; exact hU i hi⟩
    · have hf : f < 10 := nInle h13 (by omega) (by omega)
      refine xv_aload_n (q := 17) rfl dX5_gather_16 rfl rfl ?_
      refine xv_geta (q := 20) rfl dX5_gather_17 f_X5_18 (hg.1 _ _ rfl) (hg.2 _ _ _ rfl) ?_
      refine xv_iload_n (q := 21) rfl dX5_gather_20 rfl rfl ?_
      refine xv_iconst (v := nI 0) (q := 22) rfl dX5_gather_21 rfl ?_
      refine xv_iast (q := 23) rfl dX5_gather_22 (hg.1 _ _ rfl) rfl (by omega) (by decide) ?_
      refine xv_aload_n (q := 24) rfl dX5_gather_23 rfl rfl ?_
      refine xv_geta (q := 27) rfl dX5_gather_24 f_X5_22 (hg.1 _ _ rfl) (hg.2 _ _ _ rfl) ?_
      refine xv_iload_n (q := 28) rfl dX5_gather_27 rfl rfl ?_
      refine xv_iconst (v := nI 0) (q := 29) rfl dX5_gather_28 rfl ?_
      refine xv_iast (q := 30) rfl dX5_gather_29 (hg.1 _ _ rfl) rfl (by omega) (by decide) ?_
      refine xv_aload_n (q := 31) rfl dX5_gather_30 rfl rfl ?_
      refine xv_geta (q := 34) rfl dX5_gather_31 f_X5_25 (hg.1 _ _ rfl) (hg.2 _ _ _ rfl) ?_
      refine xv_iload_n (q := 35) rfl dX5_gather_34 rfl rfl ?_
      refine xv_iconst (v := nI 0) (q := 36) rfl dX5_gather_35 rfl ?_
      refine xv_iast (q := 37) rfl dX5_gather_36 (hg.1 _ _ rfl) rfl (by omega) (by decide) ?_
      refine xv_iconst (v := nI 0) (q := 38) rfl dX5_gather_37 rfl ?_
      refine xv_istore_n (q := 39) rfl dX5_gather_38 rfl rfl ?_
      refine c_gather_in (I := xi (xi (xi J 32 f (nI 0)) 33 f (nI 0)) 34 f (nI 0)) hg (hTJ.mv (fun k q1 q2 => by simp [xi, show ¬ k = 32 by omega, show ¬ k = 33 by omega, show ¬ k = 34 by omega])) hP hf (fun K l3 l4 hK => ?_) (N + 1) 0 _ _ (Nat.zero_le N) (by omega) ⟨fun _ _ _ _ => rfl, fun _ _ => ⟨rfl, rfl, rfl⟩, by simp [xi, upd, bm], by simp [xi, upd, bm], by simp [xi, upd, bm]⟩
      refine xv_iinc (q := 157) (v := nI 1) rfl dX5_gather_154 rfl rfl ?_
      refine xv_goto (t := 10) rfl dX5_gather_157 ?_
      rw [nI_add]
      refine ih (f + 1) K _ _ (by omega) (by omega) (fun k q1 q2 q3 => ?_) (fun g hg2 => ?_)
      · rw [hK.1 k q1 q2 q3, xi_off _ _ _ _ q3, xi_off _ _ _ _ q2, xi_off _ _ _ _ q1]; exact hJ k q1 q2 q3
      · by_cases e : g = f
        · subst e; exact ⟨hK.2.2.1, hK.2.2.2.1, hK.2.2.2.2⟩
        · have h5 := hK.2.1 g e
          unfold TS1
          rw [h5.1, h5.2.1, h5.2.2]
          have := hS g (by omega)
          simp [xi, upd, e]
          exact this
/-- gather(P): just these ride -/
theorem c_gather (hg : XG sh R) (hT : TC I N c) (hP : P < 32) : XC E mX5_gather (d + 3) 0 0 [.ref 23, .int (nI P)] sh I R L (QGa c N P sh I R L) := by
  refine XC.of (by decide) rfl rfl ?_
  refine xv_aload_n (q := 1) rfl dX5_gather_0 rfl rfl ?_
  refine xv_geta (q := 4) rfl dX5_gather_1 f_X5_34 (hg.1 _ _ rfl) (hg.2 _ _ _ rfl) ?_
  refine xv_iconst (v := (-1)) (q := 5) rfl dX5_gather_4 rfl ?_
  refine xv_cS2 (z := mJ7_fill_53178) (q := 8) rfl dX5_gather_5 l_X5_61 gJ7_fill_53178 rfl (c_fill (d := d) (hg.1 37 _ rfl) (by decide)) (by omega) ?_
  refine xv_iconst (v := nI 0) (q := 9) rfl dX5_gather_8 rfl ?_
  refine xv_istore_n (q := 10) rfl dX5_gather_9 rfl rfl ?_
  have h := c_gather_out (E := E) (d := d) (L := L) (I := xic I 37 (fil (I 37) (-1) 450)) hg (hT.mv (fun k q1 q2 => xic_off _ _ _ (by omega))) hP (fun i hi => by rw [xic_row]; simp [fil, hi]) 11 0 _ none none (by omega) (by omega) (fun _ _ _ _ => rfl) (fun g hg2 => absurd hg2 (Nat.not_lt_zero g))
  exact XV.imp h (fun v sh' J R' L' q => ⟨q.1, q.2.1, q.2.2.1, q.2.2.2.1, fun k hk => (q.2.2.2.2.1 k hk).trans (xic_off _ _ _ (by omega)), q.2.2.2.2.2⟩)
/-- what start leaves: all is tried as it is -/
def QStt (c : CR) (n dd t : Nat) (sh : XSh) (I : XI) (R : XRf) (L : XL) : XQ := fun v sh' J R' L' => v = none ∧ sh' = sh ∧ R' = xr R 23 1 (some t) ∧ L' = L ∧ (∀ k, (k < 24 ∨ 38 ≤ k) → J k = I k) ∧ TC J n c ∧ J 24 8 = J 1 8 ∧ J 24 9 = J 1 9 ∧ TS J n c (2 ^ n - 1) ∧ TB J n c ∧ ∀ i, i < 450 → J 37 i = -1
theorem xg_xr (hg : XG sh R) (t : Nat) : XG sh (xr R 23 1 (some t)) := ⟨hg.1, fun k j a h => by
  by_cases e : k = 23
  · subst e
    by_cases e2 : j = 1
    · subst e2; cases h
    · simp [xr, va_up, e2]; exact hg.2 _ _ _ h
  · simp [xr, e]; exact hg.2 _ _ _ h⟩
theorem all_sh : ∀ n, n ≤ 5 → (nI 1 <<< (nI n &&& 31)) - nI 1 = nI (2 ^ n - 1) := by decide
theorem all_32 {n : Nat} (h : n ≤ 5) : 2 ^ n - 1 < 32 := by have := Nat.pow_le_pow_right (n := 2) (by decide) h; omega
theorem c_start (hg : XG sh R) {n dd u : Nat} (hK : KXc I n c dd u) (t : Nat) : XC E mX5_start (d + 4) 0 0 [.ref 23, .ref 1, .ref t] sh I R L (QStt c n dd t sh I R L) := by
  obtain ⟨hm, hn, hn5, hdd, hd2, hu, hwf⟩ := id hK
  have hg2 := xg_xr hg t
  refine XC.of (by decide) rfl rfl ?_
  refine xv_aload_n (q := 1) rfl dX5_start_0 rfl rfl ?_
  refine xv_geto (q := 4) rfl dX5_start_1 f_X5_12 (hg.1 _ _ rfl) (hg.2 _ _ _ rfl) ?_
  refine xv_aload_n (q := 5) rfl dX5_start_4 rfl rfl ?_
  refine xv_rV1 (z := mX0_become) (q := 8) rfl dX5_start_5 l_X5_45 gX0_become (hg.1 _ _ rfl) rfl rfl rfl (c_become (d := d + 2) (xg_crew hg (a := 24) (Or.inr (Or.inr rfl))) (xg_crew hg (a := 1) (Or.inl rfl)) (Or.inr (by decide))) (by omega) ?_
  rintro _ _ J _ _ ⟨rfl, rfl, rfl, rfl, g1, g2, g3, g4, g5⟩
  have hT : TC J n c := ⟨fun w r hw hr => by rw [g1 w r hw (by omega)]; exact hm w r hw hr, g2.trans hn, hn5, hwf.1⟩
  have hn2 := hT.2.1
  refine xv_aload_n (q := 9) rfl dX5_start_8 rfl rfl ?_
  refine xv_aload_n (q := 10) rfl dX5_start_9 rfl rfl ?_
  refine xv_puto (q := 13) rfl dX5_start_10 f_X5_49 (fun h => by cases h) (hg.1 _ _ rfl) ?_
  refine xv_aload_n (q := 14) rfl dX5_start_13 rfl rfl ?_
  refine xv_iconst (v := nI 1) (q := 15) rfl dX5_start_14 rfl ?_
  refine xv_aload_n (q := 16) rfl dX5_start_15 rfl rfl ?_
  refine xv_geto (q := 19) rfl dX5_start_16 f_X5_12 (hg.1 _ _ rfl) (hg2.2 _ _ _ rfl) ?_
  refine xv_geti (q := 22) rfl dX5_start_19 f_X5_53 (hg.1 _ _ rfl) ?_
  rw [hn2]
  refine xv_ishl (q := 23) rfl dX5_start_22 ?_
  refine xv_iconst (v := nI 1) (q := 24) rfl dX5_start_23 rfl ?_
  refine xv_isub (q := 25) rfl dX5_start_24 ?_
  refine xv_as (w := nI (2 ^ n - 1)) (all_sh n hn5) ?_
  refine xv_rV1 (z := mX5_gather) (q := 28) rfl dX5_start_25 l_X5_57 gX5_gather (hg.1 _ _ rfl) rfl rfl rfl (c_gather (d := d) hg2 hT (all_32 hn5)) (by omega) ?_
  rintro _ _ K _ _ ⟨rfl, rfl, rfl, rfl, k1, k2, k3, k4⟩
  refine xv_vret dX5_start_28 rfl ?_
  exact ⟨rfl, rfl, rfl, rfl, fun k hk => (k1 k (by omega)).trans (g5 k (by omega)), hT.mv (fun k q1 q2 => k1 k (by omega)), by rw [k1 24 (by omega), k1 1 (by omega), g3, g5 1 (by omega)], by rw [k1 24 (by omega), k1 1 (by omega), g4, g5 1 (by omega)], k2, k3, k4⟩
end GATHER

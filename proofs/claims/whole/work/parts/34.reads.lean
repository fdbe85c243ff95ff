/-! a whole text -/
def pe (tp : Nat → Nat) (n p : Nat) : PR := (prs tp n 1800 1 0 0 p [] (fun _ => 0)).getD (false, 0, [], fun _ => 0)
theorem pe_ok {tp : Nat → Nat} {n p : Nat} (hn : n ≤ 160) (hp : p ≤ n) : ∃ F, prs tp n F 1 0 0 p [] (fun _ => 0) = some (pe tp n p) := by
  refine ⟨1800, ?_⟩
  obtain ⟨r, hr⟩ := prs_end (tp := tp) (n := n) 1800 1 0 0 p [] (fun _ => 0) (by decide) (by decide) (fun _ => rfl) hp (by have : rnk 1 0 = 10 := rfl; omega)
  unfold pe
  rw [hr]; rfl
/-- a part: its key, an E, a semicolon -/
def ppa (tp : Nat → Nat) (n k p : Nat) : PR :=
  if ¬ tok tp n p = 4 + k then (false, p, [], fun _ => 0)
  else if (pe tp n (nxt tp n p)).1 = false then (false, (pe tp n (nxt tp n p)).2.1, [], fun _ => 0)
  else if tok tp n (pe tp n (nxt tp n p)).2.1 = 59 then (true, nxt tp n (pe tp n (nxt tp n p)).2.1, (pe tp n (nxt tp n p)).2.2.1, (pe tp n (nxt tp n p)).2.2.2)
  else (false, (pe tp n (nxt tp n p)).2.1, [], fun _ => 0)
def pt (tp : Nat → Nat) (n : Nat) : Nat → Bool × Nat
  | 0 => (true, 0)
  | k + 1 => if (pt tp n k).1 = true then ((ppa tp n k (pt tp n k).2).1, (ppa tp n k (pt tp n k).2).2.1) else pt tp n k
def pcd (tp : Nat → Nat) (n : Nat) : Nat → List Int32
  | 0 => []
  | k + 1 => pcd tp n k ++ (ppa tp n k (pt tp n k).2).2.2.1
def ptv (tp : Nat → Nat) (n : Nat) : TV := fun k => (ppa tp n k (pt tp n k).2).2.2.2
/-- it is a TEXT -/
def pok (tp : Nat → Nat) (n : Nat) : Bool := (pt tp n 3).1 && decide (tok tp n (pt tp n 3).2 = 0)
/-- the place of its FAULT -/
def pfa (tp : Nat → Nat) (n : Nat) : Nat := sta tp n (pt tp n 3).2
theorem pt_f {tp : Nat → Nat} {n k : Nat} (h : (pt tp n k).1 = false) : ∀ j, pt tp n (k + j) = pt tp n k
  | 0 => rfl
  | j + 1 => by
    have ih := pt_f h j
    show (if (pt tp n (k + j)).1 = true then _ else pt tp n (k + j)) = _
    rw [ih, if_neg (by rw [h]; decide)]
theorem pt_bad {tp : Nat → Nat} {n k : Nat} (hk : k ≤ 3) (h : (pt tp n k).1 = false) : pok tp n = false ∧ pfa tp n = sta tp n (pt tp n k).2 := by
  have := pt_f h (3 - k)
  rw [Nat.add_sub_cancel' hk] at this
  unfold pok pfa
  rw [this, h]
  exact ⟨rfl, rfl⟩
theorem pt_s {tp : Nat → Nat} {n k : Nat} (h : (pt tp n k).1 = true) : pt tp n (k + 1) = ((ppa tp n k (pt tp n k).2).1, (ppa tp n k (pt tp n k).2).2.1) := if_pos h
theorem ppa_k {tp : Nat → Nat} {n k p : Nat} (h : ¬ tok tp n p = 4 + k) : ppa tp n k p = (false, p, [], fun _ => 0) := if_pos h
theorem ppa_e {tp : Nat → Nat} {n k p : Nat} (h : tok tp n p = 4 + k) (h2 : (pe tp n (nxt tp n p)).1 = false) : ppa tp n k p = (false, (pe tp n (nxt tp n p)).2.1, [], fun _ => 0) := (if_neg (fun q => q h)).trans (if_pos h2)
theorem ppa_s {tp : Nat → Nat} {n k p : Nat} (h : tok tp n p = 4 + k) (h2 : (pe tp n (nxt tp n p)).1 = true) (h3 : ¬ tok tp n (pe tp n (nxt tp n p)).2.1 = 59) : ppa tp n k p = (false, (pe tp n (nxt tp n p)).2.1, [], fun _ => 0) := (if_neg (fun q => q h)).trans ((if_neg (by rw [h2]; decide)).trans (if_neg h3))
theorem ppa_g {tp : Nat → Nat} {n k p : Nat} (h : tok tp n p = 4 + k) (h2 : (pe tp n (nxt tp n p)).1 = true) (h3 : tok tp n (pe tp n (nxt tp n p)).2.1 = 59) : ppa tp n k p = (true, nxt tp n (pe tp n (nxt tp n p)).2.1, (pe tp n (nxt tp n p)).2.2.1, (pe tp n (nxt tp n p)).2.2.2) := (if_neg (fun q => q h)).trans ((if_neg (by rw [h2]; decide)).trans (if_pos h3))
/-- a good part -/
theorem ppa_ok {tp : Nat → Nat} {n k p : Nat} (hn : n ≤ 160) (hp : p ≤ n) (h : (ppa tp n k p).1 = true) : (ppa tp n k p).2.1 ≤ n ∧ (ppa tp n k p).2.2.1.length + p ≤ (ppa tp n k p).2.1 ∧ EV (ppa tp n k p).2.2.2 (ppa tp n k p).2.2.1 31 ∧ dep (ppa tp n k p).2.2.2 := by
  by_cases h1 : tok tp n p = 4 + k
  · cases h2 : (pe tp n (nxt tp n p)).1 with
    | false => rw [ppa_e h1 h2] at h; cases h
    | true =>
      by_cases h3 : tok tp n (pe tp n (nxt tp n p)).2.1 = 59
      · rw [ppa_g h1 h2 h3]
        obtain ⟨F, hq⟩ := pe_ok (tp := tp) hn (nxt_le (tp := tp) hp)
        have hpos := prs_pos F 1 0 0 (nxt tp n p) [] _ _ (by decide) (fun _ => rfl) (nxt_le hp) hq
        have hl := (hpos.2.2 h2).1
        have g1 := nxt_ge tp n p
        have g2 := nxt_ge tp n (pe tp n (nxt tp n p)).2.1
        have k1 : EV (pe tp n (nxt tp n p)).2.2.2 (pe tp n (nxt tp n p)).2.2.1 31 := (prs_ev F 1 0 0 _ [] _ (pe tp n (nxt tp n p)) (by decide) (by decide) (fun q => by cases q) hq h2).mono (by decide)
        have k2 : dep (pe tp n (nxt tp n p)).2.2.2 := prs_dep F 1 0 0 _ [] _ (pe tp n (nxt tp n p)) (by decide) (fun q => by cases q) hq h2
        refine ⟨nxt_le hpos.2.1, ?_, k1, k2⟩
        show (pe tp n (nxt tp n p)).2.2.1.length + p ≤ nxt tp n (pe tp n (nxt tp n p)).2.1
        simp at hl
        omega
      · rw [ppa_s h1 h2 h3] at h; cases h
  · rw [ppa_k h1] at h; cases h
theorem pt_ok {tp : Nat → Nat} {n : Nat} (hn : n ≤ 160) : ∀ k, (pt tp n k).1 = true → (pt tp n k).2 ≤ n ∧ (pcd tp n k).length ≤ (pt tp n k).2 ∧ ∀ j, j < k → (pt tp n j).1 = true
  | 0, _ => ⟨Nat.zero_le n, Nat.le_refl 0, fun j hj => absurd hj (Nat.not_lt_zero j)⟩
  | k + 1, h => by
    cases hk : (pt tp n k).1 with
    | false => rw [show pt tp n (k + 1) = pt tp n k from if_neg (by rw [hk]; decide), hk] at h; cases h
    | true =>
      rw [pt_s hk] at h ⊢
      obtain ⟨h1, h2, h3⟩ := pt_ok hn k hk
      obtain ⟨g1, g2, -, -⟩ := ppa_ok hn h1 h
      refine ⟨g1, ?_, fun j hj => ?_⟩
      · show (pcd tp n k ++ (ppa tp n k (pt tp n k).2).2.2.1).length ≤ (ppa tp n k (pt tp n k).2).2.1
        rw [List.length_append]
        omega
      · by_cases e : j = k
        · subst e; exact hk
        · exact h3 j (by omega)
section READS
variable {E : XE} {d : Nat} {sh : XSh} {I : XI} {R : XRf} {L : XL} {tp : Nat → Nat} {n : Nat}
/-- what reads leaves -/
def QRe (tp : Nat → Nat) (n : Nat) (sh : XSh) (I : XI) (R : XRf) (L : XL) : XQ := fun v sh' J R' L' => v = some (.int (bI (pok tp n))) ∧ sh' = sh ∧ R' = R ∧ L' = L ∧ (∀ k, k ≠ 17 → k ≠ 19 → k ≠ 20 → J k = I k) ∧ (pok tp n = false → J 17 2 = nI (pfa tp n)) ∧ (pok tp n = true → J 17 7 = nI (pcd tp n 3).length ∧ (∀ i, i < (pcd tp n 3).length → J 19 i = (pcd tp n 3).getD i 0) ∧ ∀ j, j < 3 → J 20 j = nI (pcd tp n (j + 1)).length)
theorem QRe.bad {J : XI} {k p : Nat} (hk : k ≤ 3) (h : pt tp n k = (false, p)) (h1 : ∀ k, k ≠ 17 → k ≠ 19 → k ≠ 20 → J k = I k) (h2 : RdP J tp n p) : QRe tp n sh I R L (some (.int (nI 0))) sh J R L := by
  obtain ⟨g1, g2⟩ := pt_bad hk (show (pt tp n k).1 = false by rw [h])
  exact ⟨by rw [g1]; rfl, rfl, rfl, rfl, h1, fun _ => by rw [g2, h]; exact h2.1, fun q => by rw [g1] at q; cases q⟩
theorem c_reads_loop (hg : XG sh R) : ∀ (k m : Nat) (J : XI), m ≤ 3 → 3 < m + k → (pt tp n m).1 = true → (∀ k, k ≠ 17 → k ≠ 19 → k ≠ 20 → J k = I k) → PSt J tp n (pt tp n m).2 (pcd tp n m).length → CX J 0 (pcd tp n m) → (∀ j, j < m → J 20 j = nI (pcd tp n (j + 1)).length) → XV E mX1_reads (d + 46) 0 0 (QRe tp n sh I R L) 0 0 16 [some (.ref 17), some (.int (nI m))] [] sh J R L := by
  intro k
  induction k with
  | zero => intro m J h1 h2; exact absurd h2 (by omega)
  | succ k ih =>
    intro m J h1 h2 hm hF hS hC hE
    obtain ⟨hT, hP, h7, hcl, hpn⟩ := id hS
    have hn := hT.2.1
    refine xv_iload_n (q := 17) rfl dX1_reads_16 rfl rfl ?_
    refine xv_iconst (v := nI 3) (q := 18) rfl dX1_reads_17 rfl ?_
    refine xv_icmp_ge (q := 21) (t := 67) rfl rfl dX1_reads_18 (fun h18 => ?_) (fun h18 => ?_)
    · have hm3 : m = 3 := by have := nIle h18 (by omega) (by omega); omega
      subst hm3
      have htk : tok tp n (pt tp n 3).2 < 256 := hT.lt _
      refine xv_aload_n (q := 68) rfl dX1_reads_67 rfl rfl ?_
      refine xv_geti (q := 71) rfl dX1_reads_68 f_X1_39 (hg.1 _ _ rfl) ?_
      rw [hP.2.2.1]
      refine xv_if_ne (q := 74) (t := 78) rfl rfl dX1_reads_71 (fun h71 => ?_) (fun h71 => ?_)
      · have h71 : ¬ tok tp n (pt tp n 3).2 = 0 := fun q => h71 (by rw [q]; rfl)
        refine xv_iconst (v := nI 0) (q := 79) rfl dX1_reads_78 rfl ?_
        refine xv_zret (ty := .boolean) dX1_reads_79 rfl rfl ?_
        have hpk : pok tp n = false := by unfold pok; rw [hm, decide_eq_false h71]; rfl
        exact ⟨by rw [hpk]; rfl, rfl, rfl, rfl, hF, fun _ => hP.1, fun q => by rw [hpk] at q; cases q⟩
      · have h71 : tok tp n (pt tp n 3).2 = 0 := nIe (b := 0) h71 (by omega) (by decide)
        refine xv_iconst (v := nI 1) (q := 75) rfl dX1_reads_74 rfl ?_
        refine xv_goto (t := 79) rfl dX1_reads_75 ?_
        refine xv_zret (ty := .boolean) dX1_reads_79 rfl rfl ?_
        have hpk : pok tp n = true := by unfold pok; rw [hm, decide_eq_true h71]; rfl
        exact ⟨by rw [hpk]; rfl, rfl, rfl, rfl, hF, fun q => by (rw [hpk] at q; cases q), fun _ => ⟨h7, fun i hi => by have := hC i hi; rwa [Nat.zero_add] at this, hE⟩⟩
    · have hm3 : m < 3 := nInle h18 (by omega) (by omega)
      refine xv_aload_n (q := 22) rfl dX1_reads_21 rfl rfl ?_
      refine xv_iconst (v := nI 4) (q := 23) rfl dX1_reads_22 rfl ?_
      refine xv_iload_n (q := 24) rfl dX1_reads_23 rfl rfl ?_
      refine xv_iadd (q := 25) rfl dX1_reads_24 ?_
      refine xv_as (w := nI (4 + m)) (nI_add _ _) ?_
      refine xv_rV1 (z := mX1_passes) (q := 28) rfl dX1_reads_25 l_X1_31 gX1_passes (hg.1 _ _ rfl) rfl rfl rfl (c_passes (d := d + 38) (t := 4 + m) hg hT hP hpn (by omega)) (by omega) ?_
      rintro _ _ J1 _ _ ⟨rfl, rfl, rfl, rfl, a1, a2⟩
      refine xv_if_eq (q := 31) (t := 49) rfl rfl dX1_reads_28 (fun h28 => ?_) (fun h28 => ?_)
      · have h28 := of_decide_eq_false (bIz h28)
        rw [if_neg h28] at a2
        have hb : pt tp n (m + 1) = (false, (pt tp n m).2) := (pt_s hm).trans (by rw [ppa_k h28])
        refine xv_iconst (v := nI 0) (q := 50) rfl dX1_reads_49 rfl ?_
        refine xv_zret (ty := .boolean) dX1_reads_50 rfl rfl ?_
        exact QRe.bad (by omega) hb (fun k q1 q2 q3 => (a1.1 k q1).trans (hF k q1 q2 q3)) a2
      · have h28 := of_decide_eq_true (bIn h28)
        rw [if_pos h28] at a2
        obtain ⟨F, hq⟩ := pe_ok (tp := tp) hn (nxt_le (tp := tp) hpn)
        have hpos := prs_pos F 1 0 0 (nxt tp n (pt tp n m).2) [] _ _ (by decide) (fun _ => rfl) (nxt_le hpn) hq
        have hnx := nxt_ge tp n (pt tp n m).2
        have hS1 : PSt J1 tp n (nxt tp n (pt tp n m).2) (pcd tp n m).length := ⟨hT.mv a1, a2, a1.2.2.trans h7, by omega, nxt_le hpn⟩
        have hF1 : ∀ k, k ≠ 17 → k ≠ 19 → k ≠ 20 → J1 k = I k := fun k q1 q2 q3 => (a1.1 k q1).trans (hF k q1 q2 q3)
        refine xv_aload_n (q := 32) rfl dX1_reads_31 rfl rfl ?_
        refine xv_iconst (v := nI 0) (q := 33) rfl dX1_reads_32 rfl ?_
        refine xv_iconst (v := nI 0) (q := 34) rfl dX1_reads_33 rfl ?_
        refine xv_rV2 (z := mX1_chain) (q := 37) rfl dX1_reads_34 l_X1_35 gX1_chain (hg.1 _ _ rfl) rfl rfl rfl ((c_parse (E := E) (d := d) hg F 1 0 0 _ _ _ _ J1 (by decide) (by decide) hq hS1).1 rfl) (by have : bdp 0 = 39 := rfl; have : cdp 0 = 5 := rfl; omega) ?_
        rintro _ _ J2 _ _ ⟨rfl, rfl, rfl, rfl, b1, b2, b3, b4⟩
        have hF2 : ∀ k, k ≠ 17 → k ≠ 19 → k ≠ 20 → J2 k = I k := fun k q1 q2 q3 => (b1 k q1 q2).trans (hF1 k q1 q2 q3)
        refine xv_if_eq (q := 40) (t := 49) rfl rfl dX1_reads_37 (fun h37 => ?_) (fun h37 => ?_)
        · have h37 := bIz h37
          have hb : pt tp n (m + 1) = (false, (pe tp n (nxt tp n (pt tp n m).2)).2.1) := (pt_s hm).trans (by rw [ppa_e h28 h37])
          refine xv_iconst (v := nI 0) (q := 50) rfl dX1_reads_49 rfl ?_
          refine xv_zret (ty := .boolean) dX1_reads_50 rfl rfl ?_
          exact QRe.bad (by omega) hb hF2 b3
        · have h37 := bIn h37
          obtain ⟨c1, c2, c3⟩ := b4 h37
          have hlen : (pcd tp n m).length + (pe tp n (nxt tp n (pt tp n m).2)).2.2.1.length ≤ (pe tp n (nxt tp n (pt tp n m).2)).2.1 := by
            have := (hpos.2.2 h37).1
            simp at this
            omega
          refine xv_aload_n (q := 41) rfl dX1_reads_40 rfl rfl ?_
          refine xv_bipush (v := nI 59) (q := 43) rfl dX1_reads_41 rfl ?_
          refine xv_rV1 (z := mX1_passes) (q := 46) rfl dX1_reads_43 l_X1_31 gX1_passes (hg.1 _ _ rfl) rfl rfl rfl (c_passes (d := d + 38) (t := 59) hg b2 b3 hpos.2.1 (by decide)) (by omega) ?_
          rintro _ _ J3 _ _ ⟨rfl, rfl, rfl, rfl, d1, d2⟩
          have hF3 : ∀ k, k ≠ 17 → k ≠ 19 → k ≠ 20 → J3 k = I k := fun k q1 q2 q3 => (d1.1 k q1).trans (hF2 k q1 q2 q3)
          refine xv_if_ne (q := 49) (t := 51) rfl rfl dX1_reads_46 (fun h46 => ?_) (fun h46 => ?_)
          · have h46 := of_decide_eq_true (bIn h46)
            rw [if_pos h46] at d2
            have hgd : pt tp n (m + 1) = (true, nxt tp n (pe tp n (nxt tp n (pt tp n m).2)).2.1) := (pt_s hm).trans (by rw [ppa_g h28 h37 h46])
            have hpc : pcd tp n (m + 1) = pcd tp n m ++ (pe tp n (nxt tp n (pt tp n m).2)).2.2.1 := by show _ ++ _ = _; rw [ppa_g h28 h37 h46]
            have hpl : (pcd tp n (m + 1)).length = (pcd tp n m).length + (pe tp n (nxt tp n (pt tp n m).2)).2.2.1.length := by rw [hpc, List.length_append]
            refine xv_aload_n (q := 52) rfl dX1_reads_51 rfl rfl ?_
            refine xv_geta (q := 55) rfl dX1_reads_52 f_X1_18 (hg.1 _ _ rfl) (hg.2 _ _ _ rfl) ?_
            refine xv_iload_n (q := 56) rfl dX1_reads_55 rfl rfl ?_
            refine xv_aload_n (q := 57) rfl dX1_reads_56 rfl rfl ?_
            refine xv_geti (q := 60) rfl dX1_reads_57 f_X1_25 (hg.1 _ _ rfl) ?_
            rw [d1.2.2, c1, ← hpl]
            refine xv_iast (q := 61) rfl dX1_reads_60 (hg.1 _ _ rfl) rfl (by omega) (by decide) ?_
            refine xv_iinc (q := 64) (v := nI 1) rfl dX1_reads_61 rfl rfl ?_
            refine xv_goto (t := 16) rfl dX1_reads_64 ?_
            rw [nI_add]
            have hng := nxt_ge tp n (pe tp n (nxt tp n (pt tp n m).2)).2.1
            have hF4 : RdF J3 (xi J3 20 m (nI (pcd tp n (m + 1)).length)) → True := fun _ => trivial
            refine ih (m + 1) _ (by omega) (by omega) (by rw [hgd]) (fun k q1 q2 q3 => (xi_off _ _ _ _ q3).trans (hF3 k q1 q2 q3)) ?_ ?_ (fun j hj => ?_)
            · rw [hgd]
              have e17 : xi J3 20 m (nI (pcd tp n (m + 1)).length) 17 = J3 17 := xi_off _ _ _ _ (by decide)
              have e18 : xi J3 20 m (nI (pcd tp n (m + 1)).length) 18 = J3 18 := xi_off _ _ _ _ (by decide)
              have hT3 := b2.mv d1
              refine ⟨?_, ?_, ?_, by rw [hpl]; show _ ≤ nxt _ _ _; omega, nxt_le hpos.2.1⟩
              · unfold RdT; rw [e17, e18]; exact hT3
              · unfold RdP; rw [e17]; exact d2
              · rw [e17, d1.2.2, c1, hpl]
            · generalize nI (pcd tp n (m + 1)).length = xx
              have e19 : xi J3 20 m xx 19 = J2 19 := (xi_off _ _ _ _ (by decide)).trans (d1.1 19 (by decide))
              rw [hpc]
              refine CX.app (fun i hi => ?_) (fun i hi => ?_)
              · rw [e19, Nat.zero_add, c2 i hi, a1.1 19 (by decide)]
                have := hC i hi
                rwa [Nat.zero_add] at this
              · rw [e19, Nat.zero_add]
                exact c3 i hi
            · by_cases e : j = m
              · subst e; rw [xi_eq]
              · rw [xi_ne _ _ _ _ (by omega), d1.1 20 (by decide), b1 20 (by decide) (by decide), a1.1 20 (by decide)]
                exact hE j (by omega)
          · have h46 := of_decide_eq_false (bIz h46)
            rw [if_neg h46] at d2
            have hb : pt tp n (m + 1) = (false, (pe tp n (nxt tp n (pt tp n m).2)).2.1) := (pt_s hm).trans (by rw [ppa_s h28 h37 h46])
            refine xv_iconst (v := nI 0) (q := 50) rfl dX1_reads_49 rfl ?_
            refine xv_zret (ty := .boolean) dX1_reads_50 rfl rfl ?_
            exact QRe.bad (by omega) hb hF3 d2
theorem c_reads (hg : XG sh R) (hT : RdT I tp n) : XC E mX1_reads (d + 46) 0 0 [.ref 17] sh I R L (QRe tp n sh I R L) := by
  refine XC.of (by decide) rfl rfl ?_
  refine xv_aload_n (q := 1) rfl dX1_reads_0 rfl rfl ?_
  refine xv_iconst (v := nI 0) (q := 2) rfl dX1_reads_1 rfl ?_
  refine xv_puti (q := 5) rfl dX1_reads_2 f_X1_21 (fun h => by cases h) (hg.1 _ _ rfl) ?_
  have hT2 : RdT (xi (xi I 17 3 (nI 0)) 17 7 (nI 0)) tp n := ⟨by rw [xi_ne _ _ _ _ (by decide), xi_ne _ _ _ _ (by decide)]; exact hT.1, hT.2.1, fun i hi => by rw [xi_off _ _ _ _ (by decide), xi_off _ _ _ _ (by decide)]; exact hT.2.2 i hi⟩
  refine xv_aload_n (q := 6) rfl dX1_reads_5 rfl rfl ?_
  refine xv_iconst (v := nI 0) (q := 7) rfl dX1_reads_6 rfl ?_
  refine xv_puti (q := 10) rfl dX1_reads_7 f_X1_25 (fun h => by cases h) (hg.1 _ _ rfl) ?_
  refine xv_aload_n (q := 11) rfl dX1_reads_10 rfl rfl ?_
  refine xv_rV0 (z := mX1_step) (q := 14) rfl dX1_reads_11 l_X1_28 gX1_step (hg.1 _ _ rfl) rfl rfl rfl (c_step (d := d + 39) (n := n) (tp := tp) (p := 0) hg hT2 (Nat.zero_le n) (by rw [xi_ne _ _ _ _ (by decide), xi_eq])) (by omega) ?_
  rintro _ _ J _ _ ⟨rfl, rfl, rfl, rfl, a1, a2⟩
  refine xv_iconst (v := nI 0) (q := 15) rfl dX1_reads_14 rfl ?_
  refine xv_istore_n (q := 16) rfl dX1_reads_15 rfl rfl ?_
  refine c_reads_loop hg 4 0 J (by omega) (by omega) rfl (fun k q1 q2 q3 => (a1.1 k q1).trans ((xi_off _ _ _ _ q1).trans (xi_off _ _ _ _ q1))) ⟨hT2.mv a1, a2, ?_, Nat.le_refl 0, Nat.zero_le n⟩ CX.nil (fun j hj => absurd hj (Nat.not_lt_zero j))
  rw [a1.2.2, xi_eq]
  rfl
end READS

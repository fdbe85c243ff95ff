/-! the model: a part, a text, what a text says -/
theorem tkm_0 {tp : Nat → Nat} {n p : Nat} : tok tp n p = 0 ↔ tkm tp n p = 0 := by
  unfold tkm tok
  split
  · omega
  · split
    · have := wtk_le (kno tp (sta tp n p) (wen tp n (sta tp n p)) 12)
      omega
    · split
      · split <;> omega
      · split
        next h => have := sgn_40 h; omega
        next => omega
section MREAD
variable {E : XE} {d : Nat} {sh : XSh} {I : XI} {R : XRf} {L : XL} {fr n : Nat} {tp : Nat → Nat} {nm : Nat → Int32} {p op : Nat}
theorem part_b (hg : XG sh R) {x : Int32} {dd q : Nat} {Q : XQ} {l1 : Int32} (hB : BD I q) (hQ : Q (some (.int x)) sh I R L) {l3 : Option Value} : XV E mX7_part (dd + 1) 0 0 Q 0 0 34 [some (.ref 61), some (.int l1), l3] [.int x] sh I R L := by
  refine xv_istore_n (q := 35) rfl dX7_part_34 rfl rfl ?_
  refine xv_aload_n (q := 36) rfl dX7_part_35 rfl rfl ?_
  refine xv_bipush (v := nI 59) (q := 38) rfl dX7_part_36 rfl ?_
  refine xv_cV1 (z := mX7_isSign) (q := 41) rfl dX7_part_38 l_X7_207 gX7_isSign (hg.1 _ _ rfl) rfl rfl rfl (m_isSign (d := dd) hg) (by omega) ?_
  rw [isS_b hB]
  refine xv_if_ne (q := 44) (t := 48) rfl rfl dX7_part_41 (fun h41 => ?_) (fun h41 => ?_)
  · exact absurd rfl h41
  · refine xv_aload_n (q := 45) rfl dX7_part_44 rfl rfl ?_
    refine xv_rV0 (z := mX7_fail) (q := 48) rfl dX7_part_45 l_X7_179 gX7_fail (hg.1 _ _ rfl) rfl rfl rfl (m_fail' (d := dd) hg) (by omega) ?_
    rintro _ _ J3 _ _ ⟨rfl, rfl, rfl, rfl, hF3, hB3⟩
    obtain rfl := hB3 (by rw [hB.1]; decide)
    refine xv_aload_n (q := 49) rfl dX7_part_48 rfl rfl ?_
    refine xv_getz (q := 52) rfl dX7_part_49 f_X7_166 (hg.1 _ _ rfl) ?_
    rw [hB.1]
    refine xv_if_ne (q := 55) (t := 59) rfl rfl dX7_part_52 (fun h52 => ?_) (fun h52 => ?_)
    · refine xv_iload_n (q := 60) rfl dX7_part_59 rfl rfl ?_
      refine xv_iret dX7_part_60 rfl ?_
      exact hQ
    · exact absurd h52 (by decide)
theorem m_part (hg : XG sh R) (hM : MG I L fr tp n nm p 0) {k : Nat} (hk : k < 3) : XC E mX7_part (d + 42) 0 0 [.ref 61, .int (bI (decide (tok tp n p = 4 + k)))] sh I R L (QPm fr tp n nm 0 (ppa tp n k p) sh I R L) := by
  obtain ⟨gT, gp, gR, g29, g28, gn⟩ := id hM
  refine XC.of (by decide) rfl rfl ?_
  refine xv_iload_n (q := 1) rfl dX7_part_0 rfl rfl ?_
  refine xv_if_ne (q := 4) (t := 8) rfl rfl dX7_part_1 (fun zh1 => ?_) (fun zh1 => ?_)
  · have zh1 : tok tp n p = 4 + k := of_decide_eq_true (bIn zh1)
    refine xv_aload_n (q := 9) rfl dX7_part_8 rfl rfl ?_
    refine xv_getz (q := 12) rfl dX7_part_9 f_X7_166 (hg.1 _ _ rfl) ?_
    rw [g29]
    refine xv_if_ne (q := 15) (t := 19) rfl rfl dX7_part_12 (fun h12 => ?_) (fun h12 => ?_)
    · exact absurd rfl h12
    · refine xv_aload_n (q := 16) rfl dX7_part_15 rfl rfl ?_
      refine xv_rV0 (z := mX7_next) (q := 19) rfl dX7_part_16 l_X7_182 gX7_next (hg.1 _ _ rfl) rfl rfl rfl (m_adv (d := d) hg hM (tok_m zh1 (by omega))) (by omega) ?_
      rintro _ _ J1 _ L1 ⟨rfl, rfl, rfl, hF1, hL1, hM1⟩
      refine xv_aload_n (q := 20) rfl dX7_part_19 rfl rfl ?_
      refine xv_getz (q := 23) rfl dX7_part_20 f_X7_166 (hg.1 _ _ rfl) ?_
      rw [hM1.2.2.2.1]
      refine xv_if_eq (q := 26) (t := 30) rfl rfl dX7_part_23 (fun h23 => ?_) (fun h23 => ?_)
      · refine xv_aload_n (q := 31) rfl dX7_part_30 rfl rfl ?_
        refine xv_rV0 (z := mX7_either) (q := 34) rfl dX7_part_31 l_X7_218 gX7_either (hg.1 _ _ rfl) rfl rfl rfl (m_E (d := d) hg hM1) (by omega) ?_
        rintro _ _ J2 _ L2 ⟨x, rfl, rfl, rfl, hF2, hL2, hb3, hb4⟩
        by_cases hr : (pe tp n (nxt tp n p)).1 = false
        · have e : ppa tp n k p = (false, (pe tp n (nxt tp n p)).2.1, [], fun _ => 0) := by unfold ppa; rw [if_neg (fun z => z zh1), if_pos hr]
          rw [e]
          exact part_b hg (hb4 hr) ⟨_, rfl, rfl, rfl, hF1.trans hF2, hL1.trans hL2, (fun z => by cases z), fun _ => hb4 hr⟩
        obtain ⟨rfl, hM2⟩ := hb3 (bT hr)
        refine xv_istore_n (q := 35) rfl dX7_part_34 rfl rfl ?_
        refine xv_aload_n (q := 36) rfl dX7_part_35 rfl rfl ?_
        refine xv_bipush (v := nI 59) (q := 38) rfl dX7_part_36 rfl ?_
        refine xv_cV1 (z := mX7_isSign) (q := 41) rfl dX7_part_38 l_X7_207 gX7_isSign (hg.1 _ _ rfl) rfl rfl rfl (m_isSign (d := d) hg) (by omega) ?_
        rw [isS_g hM2 (by decide) (by decide)]
        refine xv_if_ne (q := 44) (t := 48) rfl rfl dX7_part_41 (fun h41 => ?_) (fun h41 => ?_)
        · have h41 : tok tp n (pe tp n (nxt tp n p)).2.1 = 59 := of_decide_eq_true (bIn h41)
          have e : ppa tp n k p = (true, nxt tp n (pe tp n (nxt tp n p)).2.1, (pe tp n (nxt tp n p)).2.2.1, (pe tp n (nxt tp n p)).2.2.2) := by unfold ppa; rw [if_neg (fun z => z zh1), if_neg hr, if_pos h41]
          rw [e]
          refine xv_aload_n (q := 49) rfl dX7_part_48 rfl rfl ?_
          refine xv_getz (q := 52) rfl dX7_part_49 f_X7_166 (hg.1 _ _ rfl) ?_
          rw [hM2.2.2.2.1]
          refine xv_if_ne (q := 55) (t := 59) rfl rfl dX7_part_52 (fun h52 => ?_) (fun h52 => ?_)
          · exact absurd rfl h52
          · refine xv_aload_n (q := 56) rfl dX7_part_55 rfl rfl ?_
            refine xv_rV0 (z := mX7_next) (q := 59) rfl dX7_part_56 l_X7_182 gX7_next (hg.1 _ _ rfl) rfl rfl rfl (m_adv (d := d) hg hM2 (tok_m h41 (by decide))) (by omega) ?_
            rintro _ _ J3 _ L3 ⟨rfl, rfl, rfl, hF3, hL3, hM3⟩
            refine xv_iload_n (q := 60) rfl dX7_part_59 rfl rfl ?_
            refine xv_iret dX7_part_60 rfl ?_
            exact ⟨_, rfl, rfl, rfl, (hF1.trans hF2).trans hF3, (hL1.trans hL2).trans hL3, fun _ => ⟨rfl, hM3⟩, (fun z => by cases z)⟩
        · have h41 : ¬ tok tp n (pe tp n (nxt tp n p)).2.1 = 59 := of_decide_eq_false (bIz h41)
          have e : ppa tp n k p = (false, (pe tp n (nxt tp n p)).2.1, [], fun _ => 0) := by unfold ppa; rw [if_neg (fun z => z zh1), if_neg hr, if_neg h41]
          rw [e]
          refine xv_aload_n (q := 45) rfl dX7_part_44 rfl rfl ?_
          refine xv_rV0 (z := mX7_fail) (q := 48) rfl dX7_part_45 l_X7_179 gX7_fail (hg.1 _ _ rfl) rfl rfl rfl (m_fail (d := d) hg hM2.2.2.1.1) (by omega) ?_
          rintro _ _ J3 _ _ ⟨rfl, rfl, rfl, rfl, hF3, hB3, -⟩
          have hB := hB3 hM2.2.2.2.1
          refine xv_aload_n (q := 49) rfl dX7_part_48 rfl rfl ?_
          refine xv_getz (q := 52) rfl dX7_part_49 f_X7_166 (hg.1 _ _ rfl) ?_
          rw [hB.1]
          refine xv_if_ne (q := 55) (t := 59) rfl rfl dX7_part_52 (fun h52 => ?_) (fun h52 => ?_)
          · refine xv_iload_n (q := 60) rfl dX7_part_59 rfl rfl ?_
            refine xv_iret dX7_part_60 rfl ?_
            exact ⟨_, rfl, rfl, rfl, (hF1.trans hF2).trans hF3, hL1.trans hL2, (fun z => by cases z), fun _ => hB⟩
          · exact absurd h52 (by decide)
      · exact absurd rfl h23
  · have zh1 : ¬ tok tp n p = 4 + k := of_decide_eq_false (bIz zh1)
    have e : ppa tp n k p = (false, p, [], fun _ => 0) := by unfold ppa; rw [if_pos zh1]
    rw [e]
    refine xv_aload_n (q := 5) rfl dX7_part_4 rfl rfl ?_
    refine xv_rV0 (z := mX7_fail) (q := 8) rfl dX7_part_5 l_X7_179 gX7_fail (hg.1 _ _ rfl) rfl rfl rfl (m_fail (d := d) hg gR.1) (by omega) ?_
    rintro _ _ J3 _ _ ⟨rfl, rfl, rfl, rfl, hF3, hB3, -⟩
    have hB := hB3 g29
    refine xv_aload_n (q := 9) rfl dX7_part_8 rfl rfl ?_
    refine xv_getz (q := 12) rfl dX7_part_9 f_X7_166 (hg.1 _ _ rfl) ?_
    rw [hB.1]
    refine xv_if_ne (q := 15) (t := 19) rfl rfl dX7_part_12 (fun h12 => ?_) (fun h12 => ?_)
    · refine xv_aload_n (q := 20) rfl dX7_part_19 rfl rfl ?_
      refine xv_getz (q := 23) rfl dX7_part_20 f_X7_166 (hg.1 _ _ rfl) ?_
      rw [hB.1]
      refine xv_if_eq (q := 26) (t := 30) rfl rfl dX7_part_23 (fun h23 => ?_) (fun h23 => ?_)
      · exact absurd h23 (by decide)
      · refine xv_iconst (v := nI 0) (q := 27) rfl dX7_part_26 rfl ?_
        refine xv_goto (t := 34) rfl dX7_part_27 ?_
        exact part_b hg hB ⟨_, rfl, rfl, rfl, hF3, .rf, (fun z => by cases z), fun _ => hB⟩
    · exact absurd h12 (by decide)
def sel (k : Nat) (x y z : Int32) : Int32 := if k = 0 then x else if k = 1 then y else z
theorem read_e {E : XE} {dd : Nat} {Q : XQ} {za0 za1 : Value} {k : Nat} (hk : k < 3) {x y z : Int32} (hQ : Q (some (.int (sel k x y z))) sh I R L) : XV E mX7_read dd 0 0 Q 0 0 145 [some za0, some za1, some (.int (nI k)), some (.int x), some (.int y), some (.int z)] [] sh I R L := by
  refine xv_iload_n (q := 146) rfl dX7_read_145 rfl rfl ?_
  refine xv_if_ne (q := 149) (t := 153) rfl rfl dX7_read_146 (fun h146 => ?_) (fun h146 => ?_)
  · have h146 : ¬ k = 0 := fun z => h146 (by rw [z]; rfl)
    refine xv_iload_n (q := 154) rfl dX7_read_153 rfl rfl ?_
    refine xv_iconst (v := nI 1) (q := 155) rfl dX7_read_154 rfl ?_
    refine xv_icmp_ne (q := 158) (t := 163) rfl rfl dX7_read_155 (fun h155 => ?_) (fun h155 => ?_)
    · have h155 : ¬ k = 1 := fun z => h155 (by rw [z])
      refine xv_iload (q := 165) rfl dX7_read_163 rfl ?_
      refine xv_iret dX7_read_165 rfl ?_
      have e : sel k x y z = z := by unfold sel; rw [if_neg h146, if_neg h155]
      rw [e] at hQ
      exact hQ
    · have h155 : k = 1 := (nI_eq (b := 1) (by omega) (by decide)).mp h155
      refine xv_iload (q := 160) rfl dX7_read_158 rfl ?_
      refine xv_goto (t := 165) rfl dX7_read_160 ?_
      refine xv_iret dX7_read_165 rfl ?_
      have e : sel k x y z = y := by unfold sel; rw [if_neg h146, if_pos h155]
      rw [e] at hQ
      exact hQ
  · have h146 : k = 0 := (nI_eq (b := 0) (by omega) (by decide)).mp h146
    refine xv_iload_n (q := 150) rfl dX7_read_149 rfl rfl ?_
    refine xv_goto (t := 165) rfl dX7_read_150 ?_
    refine xv_iret dX7_read_165 rfl ?_
    have e : sel k x y z = x := by unfold sel; rw [if_pos h146]
    rw [e] at hQ
    exact hQ
theorem read_b1 (hg : XG sh R) {E : XE} {dd q : Nat} {Q : XQ} {za1 : Value} {k : Nat} (hk : k < 3) {x y z : Int32} (hB : BD I q) (hQ : ∀ w, Q (some (.int w)) sh I R L) : XV E mX7_read dd 0 0 Q 0 0 127 [some (.ref 61), some za1, some (.int (nI k)), some (.int x), some (.int y), some (.int z)] [] sh I R L := by
  refine xv_aload_n (q := 128) rfl dX7_read_127 rfl rfl ?_
  refine xv_getz (q := 131) rfl dX7_read_128 f_X7_166 (hg.1 _ _ rfl) ?_
  rw [hB.1]
  refine xv_if_ne (q := 134) (t := 145) rfl rfl dX7_read_131 (fun h131 => ?_) (fun h131 => ?_)
  · exact read_e hk (hQ _)
  · exact absurd h131 (by decide)
theorem read_b2 (hg : XG sh R) {E : XE} {dd q : Nat} {Q : XQ} {za1 : Value} {k : Nat} (hk : k < 3) {x y : Int32} (hB : BD I q) (hQ : ∀ w, Q (some (.int w)) sh I R L) : XV E mX7_read dd 0 0 Q 0 0 93 [some (.ref 61), some za1, some (.int (nI k)), some (.int x), some (.int y), none] [] sh I R L := by
  refine xv_aload_n (q := 94) rfl dX7_read_93 rfl rfl ?_
  refine xv_getz (q := 97) rfl dX7_read_94 f_X7_166 (hg.1 _ _ rfl) ?_
  rw [hB.1]
  refine xv_if_eq (q := 100) (t := 104) rfl rfl dX7_read_97 (fun h97 => ?_) (fun h97 => ?_)
  · exact absurd h97 (by decide)
  · refine xv_iconst (v := nI 0) (q := 101) rfl dX7_read_100 rfl ?_
    refine xv_goto (t := 125) rfl dX7_read_101 ?_
    refine xv_istore (q := 127) rfl dX7_read_125 rfl ?_
    exact read_b1 hg hk hB hQ
theorem read_b3 (hg : XG sh R) {E : XE} {dd q : Nat} {Q : XQ} {za1 : Value} {k : Nat} (hk : k < 3) {x : Int32} (hB : BD I q) (hQ : ∀ w, Q (some (.int w)) sh I R L) : XV E mX7_read dd 0 0 Q 0 0 60 [some (.ref 61), some za1, some (.int (nI k)), some (.int x), none, none] [] sh I R L := by
  refine xv_aload_n (q := 61) rfl dX7_read_60 rfl rfl ?_
  refine xv_getz (q := 64) rfl dX7_read_61 f_X7_166 (hg.1 _ _ rfl) ?_
  rw [hB.1]
  refine xv_if_eq (q := 67) (t := 71) rfl rfl dX7_read_64 (fun h64 => ?_) (fun h64 => ?_)
  · exact absurd h64 (by decide)
  · refine xv_iconst (v := nI 0) (q := 68) rfl dX7_read_67 rfl ?_
    refine xv_goto (t := 91) rfl dX7_read_68 ?_
    refine xv_istore (q := 93) rfl dX7_read_91 rfl ?_
    exact read_b2 hg hk hB hQ
/-- the reader's fields, the names among them -/
def FPb (I J : XI) : Prop := (∀ k, k ≠ 61 → J k = I k) ∧ ∀ j, (j < 16 ∨ 31 ≤ j) → J 61 j = I 61 j
theorem FPb.rf {I : XI} : FPb I I := ⟨fun _ _ => rfl, fun _ _ => rfl⟩
theorem FPb.trans {I J K : XI} (h : FPb I J) (zh2 : FPb J K) : FPb I K := ⟨fun k a => (zh2.1 k a).trans (h.1 k a), fun j a => (zh2.2 j a).trans (h.2 j a)⟩
theorem FPa.b {I J : XI} (h : FPa I J) : FPb I J := ⟨h.1, fun j zhj => h.2 j (by omega)⟩
theorem fpb_xi {I J : XI} {j : Nat} {x : Int32} (h : FPb I J) (zh1 : 16 ≤ j) (zh2 : j < 31) : FPb I (xi J 61 j x) := ⟨fun k hk => (xi_off _ _ _ _ hk).trans (h.1 k hk), fun a ha => (xi_ne _ _ _ _ (by omega)).trans (h.2 a ha)⟩
/-- what read answers -/
def QRd (tp : Nat → Nat) (n : Nat) (nm : Nat → Int32) (k : Nat) (sh : XSh) (I : XI) (R : XRf) (L : XL) : XQ := fun v sh' J R' L' => ∃ x, v = some (.int x) ∧ sh' = sh ∧ R' = R ∧ FPb I J ∧ FL L L' ∧ (pok tp n = true → x = ptv tp n k nm ∧ J 61 29 = nI 0) ∧ (pok tp n = false → J 61 29 = nI 1 ∧ J 61 30 = nI (pfa tp n))
theorem QRd.bad {tp : Nat → Nat} {n k j : Nat} {nm : Nat → Int32} {J : XI} {L' : XL} {w : Int32} (zhj : j ≤ 3) (h : (pt tp n j).1 = false) (hB : BD J (sta tp n (pt tp n j).2)) (hF : FPb I J) (hL : FL L L') : QRd tp n nm k sh I R L (some (.int w)) sh J R L' := by
  obtain ⟨zh1, zh2⟩ := pt_bad zhj h
  refine ⟨_, rfl, rfl, rfl, hF, hL, fun z => ?_, fun _ => ⟨hB.1, by rw [zh2]; exact hB.2⟩⟩
  rw [zh1] at z; cases z
theorem m_read (hg : XG sh R) {t k : Nat} (ht : t < 6) (hk : k < 3) (hn : n ≤ 160) (hln : I 63 t = nI n) (hby : ∀ i, i < n → I 62 (160 * t + i) = nI (tp i) ∧ tp i < 256) (hnm : ∀ j, j < 6 → I 61 (16 + j) = nm j) : XC E mX7_read (d + 43) 0 0 [.ref 61, .int (nI t), .int (nI k)] sh I R L (QRd tp n nm k sh I R L) := by
  refine XC.of (by decide) rfl rfl ?_
  refine xv_aload_n (q := 1) rfl dX7_read_0 rfl rfl ?_
  refine xv_sipush (v := nI 160) (q := 4) rfl dX7_read_1 rfl ?_
  refine xv_iload_n (q := 5) rfl dX7_read_4 rfl rfl ?_
  refine xv_imul (q := 6) rfl dX7_read_5 ?_
  refine xv_as (w := nI (160 * t)) (pk_mul _ _) ?_
  refine xv_puti (q := 9) rfl dX7_read_6 f_X7_136 (fun h => by cases h) (hg.1 _ _ rfl) ?_
  refine xv_aload_n (q := 10) rfl dX7_read_9 rfl rfl ?_
  refine xv_aload_n (q := 11) rfl dX7_read_10 rfl rfl ?_
  refine xv_geta (q := 14) rfl dX7_read_11 f_X7_17 (hg.1 _ _ rfl) (hg.2 _ _ _ rfl) ?_
  refine xv_iload_n (q := 15) rfl dX7_read_14 rfl rfl ?_
  refine xv_iald (q := 16) rfl dX7_read_15 (hg.1 _ _ rfl) rfl (by omega) (by decide) ?_
  rw [xi_off _ _ _ _ (by decide), hln]
  refine xv_puti (q := 19) rfl dX7_read_16 f_X7_133 (fun h => by cases h) (hg.1 _ _ rfl) ?_
  refine xv_aload_n (q := 20) rfl dX7_read_19 rfl rfl ?_
  refine xv_iconst (v := nI 0) (q := 21) rfl dX7_read_20 rfl ?_
  refine xv_puti (q := 24) rfl dX7_read_21 f_X7_139 (fun h => by cases h) (hg.1 _ _ rfl) ?_
  refine xv_aload_n (q := 25) rfl dX7_read_24 rfl rfl ?_
  refine xv_iconst (v := nI 0) (q := 26) rfl dX7_read_25 rfl ?_
  refine xv_puti (q := 29) rfl dX7_read_26 f_X7_176 (fun h => by cases h) (hg.1 _ _ rfl) ?_
  refine xv_aload_n (q := 30) rfl dX7_read_29 rfl rfl ?_
  refine xv_iconst (v := nI 0) (q := 31) rfl dX7_read_30 rfl ?_
  refine xv_putz (q := 34) rfl dX7_read_31 f_X7_166 (fun h => by cases h) (hg.1 _ _ rfl) (by decide) ?_
  have hTJ : MT (xi (xi (xi (xi (xi I 61 22 (nI (160 * t))) 61 23 (nI n)) 61 24 (nI 0)) 61 28 (nI 0)) 61 29 (nI 0)) (160 * t) tp n := by
    refine ⟨?_, ?_, hn, by omega, fun i hi => ?_⟩
    · rw [xi_ne _ _ _ _ (by decide), xi_ne _ _ _ _ (by decide), xi_ne _ _ _ _ (by decide), xi_ne _ _ _ _ (by decide), xi_eq]
    · rw [xi_ne _ _ _ _ (by decide), xi_ne _ _ _ _ (by decide), xi_ne _ _ _ _ (by decide), xi_eq]
    · rw [xi_off _ _ _ _ (by decide), xi_off _ _ _ _ (by decide), xi_off _ _ _ _ (by decide), xi_off _ _ _ _ (by decide), xi_off _ _ _ _ (by decide)]
      exact hby i hi
  have h24J : (xi (xi (xi (xi (xi I 61 22 (nI (160 * t))) 61 23 (nI n)) 61 24 (nI 0)) 61 28 (nI 0)) 61 29 (nI 0)) 61 24 = nI 0 := by
    rw [xi_ne _ _ _ _ (by decide), xi_ne _ _ _ _ (by decide), xi_eq]
  refine xv_aload_n (q := 35) rfl dX7_read_34 rfl rfl ?_
  refine xv_rV0 (z := mX7_next) (q := 38) rfl dX7_read_35 l_X7_182 gX7_next (hg.1 _ _ rfl) rfl rfl rfl (m_go (d := d) (p := 0) (fr := 160 * t) (tp := tp) hg hTJ (Nat.zero_le _) h24J) (by omega) ?_
  rintro _ _ J1 _ L1 ⟨rfl, rfl, rfl, hR1, hF1a, hF1b, hL1⟩
  have hF1 : FNx _ J1 := ⟨hF1a, hF1b⟩
  have hM1 : MG J1 L1 (160 * t) tp n nm 0 0 := ⟨hTJ.mv hF1.fpa, Nat.zero_le _, hR1, (hF1b 29 (by decide)).trans (by rw [xi_eq]), (hF1b 28 (by decide)).trans (by rw [xi_ne _ _ _ _ (by decide), xi_eq]), fun j zhj => (hF1b _ (by omega)).trans (by rw [xi_ne _ _ _ _ (by omega), xi_ne _ _ _ _ (by omega), xi_ne _ _ _ _ (by omega), xi_ne _ _ _ _ (by omega), xi_ne _ _ _ _ (by omega)]; exact hnm j zhj)⟩
  have hG1 : FPb I J1 := (fpb_xi (fpb_xi (fpb_xi (fpb_xi (fpb_xi .rf (by decide) (by decide)) (by decide) (by decide)) (by decide) (by decide)) (by decide) (by decide)) (by decide) (by decide)).trans hF1.fpa.b
  refine xv_aload_n (q := 39) rfl dX7_read_38 rfl rfl ?_
  refine xv_aload_n (q := 40) rfl dX7_read_39 rfl rfl ?_
  refine xv_bipush (v := nI 115) (q := 42) rfl dX7_read_40 rfl ?_
  refine xv_bipush (v := nI 116) (q := 44) rfl dX7_read_42 rfl ?_
  refine xv_bipush (v := nI 101) (q := 46) rfl dX7_read_44 rfl ?_
  refine xv_bipush (v := nI 112) (q := 48) rfl dX7_read_46 rfl ?_
  refine xv_bipush (v := nI 115) (q := 50) rfl dX7_read_48 rfl ?_
  refine xv_iconst (v := nI 0) (q := 51) rfl dX7_read_50 rfl ?_
  refine xv_iconst (v := nI 0) (q := 52) rfl dX7_read_51 rfl ?_
  refine xv_iconst (v := nI 0) (q := 53) rfl dX7_read_52 rfl ?_
  refine xv_cV8 (z := mX7_isWord) (q := 56) rfl dX7_read_53 l_X7_185 gX7_isWord (hg.1 _ _ rfl) rfl rfl rfl (m_isW (d := d) (w := 6) hg hM1 (by decide)) (by omega) ?_
  rw [tkw_iff (by decide) (by decide)]
  refine xv_rV1 (z := mX7_part) (q := 59) rfl dX7_read_56 l_X7_240 gX7_part (hg.1 _ _ rfl) rfl rfl rfl (m_part (d := d) hg hM1 (k := 0) (by decide)) (by omega) ?_
  rintro _ _ J2 _ L2 ⟨x0, rfl, rfl, rfl, hF2, hL2, hb0, hc0⟩
  have hG2 : FPb I J2 := hG1.trans hF2.b
  have hK2 : FL L L2 := hL1.trans hL2
  have hp1 : pt tp n 1 = ((ppa tp n 0 (pt tp n 0).2).1, (ppa tp n 0 (pt tp n 0).2).2.1) := pt_s rfl
  refine xv_istore_n (q := 60) rfl dX7_read_59 rfl rfl ?_
  by_cases hz0 : (ppa tp n 0 (pt tp n 0).2).1 = false
  · exact read_b3 hg hk (hc0 hz0) (fun w => QRd.bad (j := 1) (by decide) (by rw [hp1]; exact hz0) (by rw [hp1]; exact hc0 hz0) hG2 hK2)
  have hr1 : (ppa tp n 0 (pt tp n 0).2).1 = true := bT hz0
  obtain ⟨hx0, hM2⟩ := hb0 hr1
  rw [show (ppa tp n 0 0).2.1 = (pt tp n 1).2 from by rw [hp1]; rfl] at hM2
  refine xv_aload_n (q := 61) rfl dX7_read_60 rfl rfl ?_
  refine xv_getz (q := 64) rfl dX7_read_61 f_X7_166 (hg.1 _ _ rfl) ?_
  rw [hM2.2.2.2.1]
  refine xv_if_eq (q := 67) (t := 71) rfl rfl dX7_read_64 (fun h64 => ?_) (fun h64 => ?_)
  · refine xv_aload_n (q := 72) rfl dX7_read_71 rfl rfl ?_
    refine xv_aload_n (q := 73) rfl dX7_read_72 rfl rfl ?_
    refine xv_bipush (v := nI 108) (q := 75) rfl dX7_read_73 rfl ?_
    refine xv_bipush (v := nI 97) (q := 77) rfl dX7_read_75 rfl ?_
    refine xv_bipush (v := nI 116) (q := 79) rfl dX7_read_77 rfl ?_
    refine xv_bipush (v := nI 101) (q := 81) rfl dX7_read_79 rfl ?_
    refine xv_iconst (v := nI 0) (q := 82) rfl dX7_read_81 rfl ?_
    refine xv_iconst (v := nI 0) (q := 83) rfl dX7_read_82 rfl ?_
    refine xv_iconst (v := nI 0) (q := 84) rfl dX7_read_83 rfl ?_
    refine xv_iconst (v := nI 0) (q := 85) rfl dX7_read_84 rfl ?_
    refine xv_cV8 (z := mX7_isWord) (q := 88) rfl dX7_read_85 l_X7_185 gX7_isWord (hg.1 _ _ rfl) rfl rfl rfl (m_isW (d := d) (w := 7) hg hM2 (by decide)) (by omega) ?_
    rw [tkw_iff (by decide) (by decide)]
    refine xv_rV1 (z := mX7_part) (q := 91) rfl dX7_read_88 l_X7_240 gX7_part (hg.1 _ _ rfl) rfl rfl rfl (m_part (d := d) hg hM2 (k := 1) (by decide)) (by omega) ?_
    rintro _ _ J3 _ L3 ⟨x1, rfl, rfl, rfl, hF3, hL3, hb1, hc1⟩
    have hG3 : FPb I J3 := hG2.trans hF3.b
    have hK3 : FL L L3 := hK2.trans hL3
    have hp2 : pt tp n 2 = ((ppa tp n 1 (pt tp n 1).2).1, (ppa tp n 1 (pt tp n 1).2).2.1) := pt_s (by rw [hp1]; exact hr1)
    refine xv_istore (q := 93) rfl dX7_read_91 rfl ?_
    by_cases hz1 : (ppa tp n 1 (pt tp n 1).2).1 = false
    · exact read_b2 hg hk (hc1 hz1) (fun w => QRd.bad (j := 2) (by decide) (by rw [hp2]; exact hz1) (by rw [hp2]; exact hc1 hz1) hG3 hK3)
    have hr2 : (ppa tp n 1 (pt tp n 1).2).1 = true := bT hz1
    obtain ⟨hx1, hM3⟩ := hb1 hr2
    rw [show (ppa tp n 1 (pt tp n 1).2).2.1 = (pt tp n 2).2 from by rw [hp2]] at hM3
    refine xv_aload_n (q := 94) rfl dX7_read_93 rfl rfl ?_
    refine xv_getz (q := 97) rfl dX7_read_94 f_X7_166 (hg.1 _ _ rfl) ?_
    rw [hM3.2.2.2.1]
    refine xv_if_eq (q := 100) (t := 104) rfl rfl dX7_read_97 (fun h97 => ?_) (fun h97 => ?_)
    · refine xv_aload_n (q := 105) rfl dX7_read_104 rfl rfl ?_
      refine xv_aload_n (q := 106) rfl dX7_read_105 rfl rfl ?_
      refine xv_bipush (v := nI 109) (q := 108) rfl dX7_read_106 rfl ?_
      refine xv_bipush (v := nI 111) (q := 110) rfl dX7_read_108 rfl ?_
      refine xv_bipush (v := nI 118) (q := 112) rfl dX7_read_110 rfl ?_
      refine xv_bipush (v := nI 101) (q := 114) rfl dX7_read_112 rfl ?_
      refine xv_bipush (v := nI 115) (q := 116) rfl dX7_read_114 rfl ?_
      refine xv_iconst (v := nI 0) (q := 117) rfl dX7_read_116 rfl ?_
      refine xv_iconst (v := nI 0) (q := 118) rfl dX7_read_117 rfl ?_
      refine xv_iconst (v := nI 0) (q := 119) rfl dX7_read_118 rfl ?_
      refine xv_cV8 (z := mX7_isWord) (q := 122) rfl dX7_read_119 l_X7_185 gX7_isWord (hg.1 _ _ rfl) rfl rfl rfl (m_isW (d := d) (w := 8) hg hM3 (by decide)) (by omega) ?_
      rw [tkw_iff (by decide) (by decide)]
      refine xv_rV1 (z := mX7_part) (q := 125) rfl dX7_read_122 l_X7_240 gX7_part (hg.1 _ _ rfl) rfl rfl rfl (m_part (d := d) hg hM3 (k := 2) (by decide)) (by omega) ?_
      rintro _ _ J4 _ L4 ⟨x2, rfl, rfl, rfl, hF4, hL4, hb2, hc2⟩
      have hG4 : FPb I J4 := hG3.trans hF4.b
      have hK4 : FL L L4 := hK3.trans hL4
      have hp3 : pt tp n 3 = ((ppa tp n 2 (pt tp n 2).2).1, (ppa tp n 2 (pt tp n 2).2).2.1) := pt_s (by rw [hp2]; exact hr2)
      refine xv_istore (q := 127) rfl dX7_read_125 rfl ?_
      by_cases hz2 : (ppa tp n 2 (pt tp n 2).2).1 = false
      · exact read_b1 hg hk (hc2 hz2) (fun w => QRd.bad (j := 3) (by decide) (by rw [hp3]; exact hz2) (by rw [hp3]; exact hc2 hz2) hG4 hK4)
      have hr3 : (ppa tp n 2 (pt tp n 2).2).1 = true := bT hz2
      obtain ⟨hx2, hM4⟩ := hb2 hr3
      rw [show (ppa tp n 2 (pt tp n 2).2).2.1 = (pt tp n 3).2 from by rw [hp3]] at hM4
      refine xv_aload_n (q := 128) rfl dX7_read_127 rfl rfl ?_
      refine xv_getz (q := 131) rfl dX7_read_128 f_X7_166 (hg.1 _ _ rfl) ?_
      rw [hM4.2.2.2.1]
      refine xv_if_ne (q := 134) (t := 145) rfl rfl dX7_read_131 (fun h131 => ?_) (fun h131 => ?_)
      · exact absurd rfl h131
      · refine xv_aload_n (q := 135) rfl dX7_read_134 rfl rfl ?_
        refine xv_geti (q := 138) rfl dX7_read_135 f_X7_149 (hg.1 _ _ rfl) ?_
        rw [hM4.2.2.1.2.2.1]
        refine xv_if_eq (q := 141) (t := 145) rfl rfl dX7_read_138 (fun h138 => ?_) (fun h138 => ?_)
        · have h138 : tok tp n (pt tp n 3).2 = 0 := tkm_0.mpr ((nI_eq (b := 0) (by have := tkm_le tp n (pt tp n 3).2; omega) (by decide)).mp h138)
          have hpk : pok tp n = true := by unfold pok; rw [hp3, decide_eq_true (show tok tp n (ppa tp n 2 (pt tp n 2).2).2.1 = 0 from by rw [hp3] at h138; exact h138), hr3]; rfl
          refine read_e hk ⟨_, rfl, rfl, rfl, hG4, hK4, fun _ => ⟨?_, hM4.2.2.2.1⟩, fun z => by rw [hpk] at z; cases z⟩
          have hk3 : k = 0 ∨ k = 1 ∨ k = 2 := by omega
          unfold sel
          rcases hk3 with rfl | rfl | rfl
          · exact hx0
          · exact hx1
          · exact hx2
        · have h138 : ¬ tok tp n (pt tp n 3).2 = 0 := fun z => h138 (by rw [tkm_0.mp z]; rfl)
          have hpk : pok tp n = false := by unfold pok; rw [decide_eq_false h138, Bool.and_false]
          refine xv_aload_n (q := 142) rfl dX7_read_141 rfl rfl ?_
          refine xv_rV0 (z := mX7_fail) (q := 145) rfl dX7_read_142 l_X7_179 gX7_fail (hg.1 _ _ rfl) rfl rfl rfl (m_fail (d := d) hg hM4.2.2.1.1) (by omega) ?_
          rintro _ _ J5 _ _ ⟨rfl, rfl, rfl, rfl, hF5, hB5, -⟩
          exact read_e hk ⟨_, rfl, rfl, rfl, hG4.trans hF5.b, hK4, (fun z => by rw [hpk] at z; cases z), fun _ => hB5 hM4.2.2.2.1⟩
    · exact absurd rfl h97
  · exact absurd rfl h64
end MREAD

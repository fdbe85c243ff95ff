/-! drawn, chance -/
def zf (z : Int32) : Nat := (z.toBitVec.toNat / 512) % 6
def znx (z : Int32) : Int32 := z * 1103515245 + nI 12345
/-- how far round the first place lies on which r can stand with those below -/
def dfi (q : CR) (r f : Nat) : Nat → Nat → Nat
  | 0, k => k
  | m + 1, k => if oks (ci (setr q 5 r ((f + k) % 6))) r r = true then k else dfi q r f m (k + 1)
def dpl (q : CR) (r f : Nat) : CR := setr q 5 r ((f + dfi q r f 5 0) % 6)
def drq (c : CR) (z0 : Int32) : Nat → Int32 × CR
  | 0 => (z0, c)
  | r + 1 => (znx (drq c z0 r).1, dpl (drq c z0 r).2 r (zf (znx (drq c z0 r).1)))
def drc (n : Nat) (c : CR) (dd : Nat) (tv : TV) (z0 : Int32) : Nat := rdc (drq c z0 n).2 n dd (aln n) tv
def chg (n : Nat) (c : CR) (dd : Nat) (tv : TV) (seed : Int32) : Nat → Nat
  | 0 => 0
  | k + 1 => chg n c dd tv seed k + (if drc n c dd tv (seed + nI k) ≤ rdc c n dd (aln n) tv then 1 else 0)
def sp_drawn (n : Nat) (c : CR) (dd : Nat) (tv : TV) (seed : Int32) : Int32 := nI (drc n c dd tv seed)
def sp_chance (n : Nat) (c : CR) (dd : Nat) (tv : TV) (seed m part : Int32) : Int64 := if m < nI 1 ∨ nI 20 < m ∨ part < 0 ∨ ¬ part ≤ nI 1 then -4611686018427387904 else lN (lwt (chg n c dd tv seed m.toNatClampNeg) m.toNatClampNeg part)
theorem zsh (z : Int32) : (z.toUInt32 >>> ((nI 9).toUInt32 &&& Int32.toUInt32 31)).toInt32 = nI (z.toBitVec.toNat / 512) := by
  have e : z = nI z.toBitVec.toNat := by
    apply Int32.toBitVec_inj.1
    show z.toBitVec = BitVec.ofNat 32 z.toBitVec.toNat
    simp
  have h := pk_ushrN (n := z.toBitVec.toNat) z.toBitVec.isLt (nI 9) 9 (by decide)
  rw [← e] at h
  exact h
theorem zf_6 (z : Int32) : zf z < 6 := Nat.mod_lt _ (by decide)
theorem zf_I (z : Int32) : nI (z.toBitVec.toNat / 512) - nI (z.toBitVec.toNat / 512) / nI 6 * nI 6 = nI (zf z) := pk_rem (by have h := z.toBitVec.isLt; omega) (by decide) (by decide)
/-- alike below r, and but for places -/
def AG (q x : CR) (r : Nat) : Prop := SX q x ∧ ∀ a, a < r → x 5 a = q 5 a
theorem AG.oks {q x : CR} {r p : Nat} (h : AG q x r) : oks (ci (setr x 5 r p)) r r = oks (ci (setr q 5 r p)) r r := by
  have e : ∀ w a, (a < r ∨ a = r) → ci (setr x 5 r p) w a = ci (setr q 5 r p) w a := by
    intro w a ha
    unfold ci
    congr 1
    by_cases hw : w = 5 ∧ a = r
    · obtain ⟨rfl, rfl⟩ := hw
      rw [setr_at, setr_at]
    · rw [setr_ne hw, setr_ne hw]
      by_cases zh5 : w = 5
      · subst zh5
        exact h.2 a (by omega)
      · exact congrFun (h.1 w zh5) a
  exact oks_cong (fun w a _ ha => e w a (Or.inl ha)) (fun w _ => e w r (Or.inr rfl))
theorem AG.nx {q x : CR} {r p : Nat} (h : AG q x r) : AG (setr q 5 r p) (setr x 5 r p) (r + 1) := by
  refine ⟨fun w hw => ?_, fun a ha => ?_⟩
  · funext a
    rw [setr_ne (fun z => hw z.1), setr_ne (fun z => hw z.1)]
    exact congrFun (h.1 w hw) a
  · by_cases e : a = r
    · subst e; rw [setr_at, setr_at]
    · rw [setr_ne (fun z => e z.2), setr_ne (fun z => e z.2)]
      exact h.2 a (by omega)
theorem AG.tw {J : XI} {q x : CR} {n dd : Nat} (h : AG q x n) (hW : TW J n x dd) : TW J n q dd := by
  have e : ∀ w a, a < n → x w a = q w a := fun w a ha => by
    by_cases zh5 : w = 5
    · subst zh5; exact h.2 a ha
    · exact congrFun (h.1 w zh5) a
  refine ⟨⟨fun w a hw ha => (hW.1.1 w a hw ha).trans (by unfold ci; rw [e w a ha]), hW.1.2.1, hW.1.2.2.1, fun a ha => ?_⟩, hW.2⟩
  have zhx := hW.1.2.2.2 a ha
  unfold wfr at zhx ⊢
  rw [e 0 a ha, e 1 a ha, e 2 a ha, e 3 a ha, e 4 a ha, e 5 a ha, e 6 a ha] at zhx
  exact zhx
theorem drq_sx (c : CR) (z0 : Int32) : ∀ r, SX c (drq c z0 r).2
  | 0 => SX.rf
  | r + 1 => (drq_sx c z0 r).set
section DRAWN
variable {E : XE} {d : Nat} {sh : XSh} {I : XI} {R : XRf} {L : XL} {n dd u tc : Nat} {c : CR} {tx : TXS} {tv : TV} {t : Nat}
theorem c_dfi_loop (hg : XG sh R) {P r f : Nat} {q x : CR} {z : Int32} (hr : r < n) (hn5 : n ≤ 5) (hf : f < 6) (hA : AG q x r) {l1 : Option Value} {Q : XQ} (KK : ∀ (J : XI) (l6 : Option Value), TG I J n c (setr x 5 r ((f + dfi q r f 5 0) % 6)) dd P tv → XV E mX6_costOfDrawn (d + 5) 0 0 Q 0 0 94 [some (.ref 0), l1, some (.int z), some (.ref 24), some (.int (nI r)), some (.int (nI f)), l6] [] sh J R L) :
    ∀ (k j : Nat) (J : XI), j ≤ 5 → 5 < j + k → dfi q r f 5 0 = dfi q r f (5 - j) j → TG I J n c (setr x 5 r ((f + j) % 6)) dd P tv → XV E mX6_costOfDrawn (d + 5) 0 0 Q 0 0 55 [some (.ref 0), l1, some (.int z), some (.ref 24), some (.int (nI r)), some (.int (nI f)), some (.int (nI (j + 1)))] [] sh J R L := by
  intro k
  induction k with
  | zero => intro j J zh1 zh2; exact absurd zh2 (by omega)
  | succ k ih =>
    intro j J zh1 zh2 hD hG
    refine xv_iload (q := 57) rfl dX6_costOfDrawn_55 rfl ?_
    refine xv_bipush (v := nI 6) (q := 59) rfl dX6_costOfDrawn_57 rfl ?_
    refine xv_icmp_ge (q := 62) (t := 94) rfl rfl dX6_costOfDrawn_59 (fun h59 => ?_) (fun h59 => ?_)
    · have zhj : j = 5 := by have := nIle h59 (by omega) (by omega); omega
      subst zhj
      have hD5 : dfi q r f 5 0 = 5 := hD
      exact KK J _ (by rw [hD5]; exact hG)
    · have zhj : j < 5 := by have := nInle h59 (by omega) (by omega); omega
      refine xv_aload_n (q := 63) rfl dX6_costOfDrawn_62 rfl rfl ?_
      refine xv_iload (q := 65) rfl dX6_costOfDrawn_63 rfl ?_
      refine xv_iload (q := 67) rfl dX6_costOfDrawn_65 rfl ?_
      refine xv_cV2 (z := mX0_canStand) (q := 70) rfl dX6_costOfDrawn_67 l_X6_119 gX0_canStand (hg.1 _ _ rfl) rfl rfl rfl (c_canStand (d := d + 4) (xg_crew hg (a := 24) (Or.inr (Or.inr rfl))) hG.2.1.1.1 hn5 (Nat.le_of_lt hr) hr) (by omega) ?_
      refine xv_if_ne (q := 73) (t := 94) rfl rfl dX6_costOfDrawn_70 (fun h70 => ?_) (fun h70 => ?_)
      · have h70 := bIn h70
        rw [hA.oks] at h70
        have hDj : dfi q r f 5 0 = j := hD.trans (by
          rw [show 5 - j = (5 - (j + 1)) + 1 by omega]
          exact if_pos h70)
        exact KK J _ (by rw [hDj]; exact hG)
      · have h70 := bIz h70
        rw [hA.oks] at h70
        refine xv_aload_n (q := 74) rfl dX6_costOfDrawn_73 rfl rfl ?_
        refine xv_geta (q := 77) rfl dX6_costOfDrawn_74 f_X6_113 (hg.1 _ _ rfl) (hg.2 _ _ _ rfl) ?_
        refine xv_iload (q := 79) rfl dX6_costOfDrawn_77 rfl ?_
        refine xv_iload (q := 81) rfl dX6_costOfDrawn_79 rfl ?_
        refine xv_iload (q := 83) rfl dX6_costOfDrawn_81 rfl ?_
        refine xv_iadd (q := 84) rfl dX6_costOfDrawn_83 ?_
        refine xv_as (w := nI (f + (j + 1))) (nI_add _ _) ?_
        refine xv_bipush (v := nI 6) (q := 86) rfl dX6_costOfDrawn_84 rfl ?_
        refine xv_irem (q := 87) rfl dX6_costOfDrawn_86 (by decide) ?_
        refine xv_as (w := nI ((f + (j + 1)) % 6)) (pk_rem (by omega) (by decide) (by decide)) ?_
        refine xv_iast (q := 88) rfl dX6_costOfDrawn_87 (hg.1 _ _ rfl) rfl (by omega) (by decide) ?_
        refine xv_iinc (q := 91) (v := nI 1) rfl dX6_costOfDrawn_88 rfl rfl ?_
        refine xv_goto (t := 55) rfl dX6_costOfDrawn_91 ?_
        rw [nI_add]
        refine ih (j + 1) _ (by omega) (by omega) (hD.trans ?_) ?_
        · rw [show 5 - j = (5 - (j + 1)) + 1 by omega]
          exact if_neg (by rw [h70]; decide)
        · have hG2 := hG.put (r := r) (p := (f + (j + 1)) % 6) (Nat.mod_lt _ (by decide))
          rw [setr_setr] at hG2
          exact hG2
def QDr (v0 : Int32) (n : Nat) (c : CR) (dd P : Nat) (tv : TV) (I0 : XI) (sh : XSh) (R : XRf) (L : XL) : XQ := fun v sh' J R' L' => v = some (.int v0) ∧ sh' = sh ∧ R' = R ∧ L' = L ∧ ∃ x, TG I0 J n c x dd P tv
theorem c_drw_loop (hg : XG sh R) (hK : KXc I n c dd u) (hKT : KT sh I R t tv) (hr3 : R 23 1 = some t) (z0 : Int32) {z1 : Int32} : ∀ (k r : Nat) (J : XI) (x : CR) (l5 l6 : Option Value), r ≤ n → n < r + k → TG I J n c x dd (aln n) tv → AG (drq c z0 r).2 x r →
    XV E mX6_costOfDrawn (d + 5) 0 0 (QDr (nI (drc n c dd tv z0)) n c dd (aln n) tv I sh R L) 0 0 13 [some (.ref 0), some (.int z1), some (.int (drq c z0 r).1), some (.ref 24), some (.int (nI r)), l5, l6] [] sh J R L := by
  obtain ⟨hm, hn, hn5, hdd, hd2, hu, hwf⟩ := id hK
  intro k
  induction k with
  | zero => intro r J x l5 l6 zh1 zh2; exact absurd zh2 (by omega)
  | succ k ih =>
    intro r J x l5 l6 zh1 zh2 hG hA
    refine xv_iload (q := 15) rfl dX6_costOfDrawn_13 rfl ?_
    refine xv_aload_n (q := 16) rfl dX6_costOfDrawn_15 rfl rfl ?_
    refine xv_geto (q := 19) rfl dX6_costOfDrawn_16 f_X6_10 (hg.1 _ _ rfl) (hg.2 _ _ _ rfl) ?_
    refine xv_geti (q := 22) rfl dX6_costOfDrawn_19 f_X6_98 (hg.1 _ _ rfl) ?_
    rw [show J 1 7 = nI n from (congrFun (hG.1 1 (by decide)) 7).trans hn]
    refine xv_icmp_ge (q := 25) (t := 100) rfl rfl dX6_costOfDrawn_22 (fun h22 => ?_) (fun h22 => ?_)
    · have hrn : r = n := by have := nIle h22 (by omega) (by omega); omega
      subst hrn
      have hGq : TG I J r c (drq c z0 r).2 dd (aln r) tv := ⟨hG.1, hA.tw hG.2.1, drq_sx c z0 r, hG.2.2.2⟩
      refine xv_aload_n (q := 101) rfl dX6_costOfDrawn_100 rfl rfl ?_
      refine xv_geto (q := 104) rfl dX6_costOfDrawn_101 f_X6_41 (hg.1 _ _ rfl) (hg.2 _ _ _ rfl) ?_
      refine xv_rV0 (z := mX5_settle) (q := 107) rfl dX6_costOfDrawn_104 l_X6_182 gX5_settle (hg.1 _ _ rfl) rfl rfl rfl (c_costG (d := d + 2) hg hKT hr3 hGq) (by omega) ?_
      rintro _ sh K R L ⟨rfl, rfl, rfl, rfl, za1, za2, za3⟩
      refine xv_aload_n (q := 108) rfl dX6_costOfDrawn_107 rfl rfl ?_
      refine xv_geto (q := 111) rfl dX6_costOfDrawn_108 f_X6_41 (hg.1 _ _ rfl) (hg.2 _ _ _ rfl) ?_
      refine xv_rV0 (z := mX5_cost) (q := 114) rfl dX6_costOfDrawn_111 l_X6_148 gX5_cost (hg.1 _ _ rfl) rfl rfl rfl (c_cost (d := d) hg za2 (hKT.ft za1.1) hr3 za3) (by omega) ?_
      rintro _ sh M R L ⟨rfl, rfl, rfl, rfl, zb1, zb2⟩
      refine xv_iret dX6_costOfDrawn_114 rfl ?_
      exact ⟨rfl, rfl, rfl, rfl, _, za1.f9 zb1 zb2⟩
    · have hrn : r < n := nInle h22 (by omega) (by omega)
      refine xv_iload_n (q := 26) rfl dX6_costOfDrawn_25 rfl rfl ?_
      refine xv_ldc (q := 28) rfl dX6_costOfDrawn_26 k_X6_249 ?_
      refine xv_imul (q := 29) rfl dX6_costOfDrawn_28 ?_
      refine xv_sipush (v := nI 12345) (q := 32) rfl dX6_costOfDrawn_29 rfl ?_
      refine xv_iadd (q := 33) rfl dX6_costOfDrawn_32 ?_
      generalize zhz : (drq c z0 r).1 * 1103515245 + nI 12345 = z
      refine xv_istore_n (q := 34) rfl dX6_costOfDrawn_33 rfl rfl ?_
      refine xv_iload_n (q := 35) rfl dX6_costOfDrawn_34 rfl rfl ?_
      refine xv_bipush (v := nI 9) (q := 37) rfl dX6_costOfDrawn_35 rfl ?_
      refine xv_iushr (q := 38) rfl dX6_costOfDrawn_37 ?_
      refine xv_as (w := nI (z.toBitVec.toNat / 512)) (zsh z) ?_
      refine xv_bipush (v := nI 6) (q := 40) rfl dX6_costOfDrawn_38 rfl ?_
      refine xv_irem (q := 41) rfl dX6_costOfDrawn_40 (by decide) ?_
      refine xv_as (w := nI (zf z)) (zf_I z) ?_
      refine xv_istore (q := 43) rfl dX6_costOfDrawn_41 rfl ?_
      refine xv_aload_n (q := 44) rfl dX6_costOfDrawn_43 rfl rfl ?_
      refine xv_geta (q := 47) rfl dX6_costOfDrawn_44 f_X6_113 (hg.1 _ _ rfl) (hg.2 _ _ _ rfl) ?_
      refine xv_iload (q := 49) rfl dX6_costOfDrawn_47 rfl ?_
      refine xv_iload (q := 51) rfl dX6_costOfDrawn_49 rfl ?_
      refine xv_iast (q := 52) rfl dX6_costOfDrawn_51 (hg.1 _ _ rfl) rfl (by omega) (by decide) ?_
      refine xv_iconst (v := nI 1) (q := 53) rfl dX6_costOfDrawn_52 rfl ?_
      refine xv_istore (q := 55) rfl dX6_costOfDrawn_53 rfl ?_
      have hz6 := zf_6 z
      have hG1 := hG.put (r := r) (p := zf z) hz6
      refine c_dfi_loop (q := (drq c z0 r).2) hg hrn hn5 hz6 hA (fun K zm6 hGK => ?_) 6 0 _ (by omega) (by omega) rfl (by rw [Nat.add_zero, Nat.mod_eq_of_lt hz6]; exact hG1)
      refine xv_iinc (q := 97) (v := nI 1) rfl dX6_costOfDrawn_94 rfl rfl ?_
      refine xv_goto (t := 13) rfl dX6_costOfDrawn_97 ?_
      rw [nI_add]
      have hz1 : (drq c z0 (r + 1)).1 = z := zhz
      have hz2 : (drq c z0 (r + 1)).2 = dpl (drq c z0 r).2 r (zf z) := by rw [← zhz]; rfl
      have hzz := ih (r + 1) K _ (some (.int (nI (zf z)))) zm6 (by omega) (by omega) hGK (by rw [hz2]; exact hA.nx)
      rw [hz1] at hzz
      exact hzz
theorem c_drw (hg : XG sh R) (hK : KXc I n c dd u) (hKT : KT sh I R t tv) (hr3 : R 23 1 = some t) (z0 : Int32) {J : XI} {x : CR} (hG : TG I J n c x dd (aln n) tv) : XC E mX6_costOfDrawn (d + 5) 0 0 [.ref 0, .int z0] sh J R L (QDr (nI (drc n c dd tv z0)) n c dd (aln n) tv I sh R L) := by
  refine XC.of (by decide) rfl rfl ?_
  refine xv_iload_n (q := 1) rfl dX6_costOfDrawn_0 rfl rfl ?_
  refine xv_istore_n (q := 2) rfl dX6_costOfDrawn_1 rfl rfl ?_
  refine xv_aload_n (q := 3) rfl dX6_costOfDrawn_2 rfl rfl ?_
  refine xv_geto (q := 6) rfl dX6_costOfDrawn_3 f_X6_41 (hg.1 _ _ rfl) (hg.2 _ _ _ rfl) ?_
  refine xv_geto (q := 9) rfl dX6_costOfDrawn_6 f_X6_181 (hg.1 _ _ rfl) (hg.2 _ _ _ rfl) ?_
  refine xv_astore_n (q := 10) rfl dX6_costOfDrawn_9 rfl rfl ?_
  refine xv_iconst (v := nI 0) (q := 11) rfl dX6_costOfDrawn_10 rfl ?_
  refine xv_istore (q := 13) rfl dX6_costOfDrawn_11 rfl ?_
  exact c_drw_loop hg hK hKT hr3 z0 (n + 1) 0 J x none none (by omega) (by omega) hG ⟨hG.2.2.1, fun a ha => absurd ha (Nat.not_lt_zero a)⟩
theorem x_drawn (hg : XG sh R) (hK : KXc I n c dd u) (hT : KTs sh I R tc tx) (hu : u < tc) (seed : Int32) : XC E mX6_drawn (d + 7) 0 0 [.ref 0, .int seed] sh I R L (QTr (.int (sp_drawn n c dd (tvx tx u) seed)) sh I R L) := by
  obtain ⟨t, hst⟩ := c_start2 (E := E) (d := d + 1) (L := L) hg hK hT hu
  refine XC.of (by decide) rfl rfl ?_
  refine xv_aload_n (q := 1) rfl dX6_drawn_0 rfl rfl ?_
  refine xv_rV0 (z := mX6_setOut) (q := 4) rfl dX6_drawn_1 l_X6_145 gX6_setOut (hg.1 _ _ rfl) rfl rfl rfl (hst) (by omega) ?_
  rintro _ sh J R' L ⟨rfl, rfl, rfl, za1, za2, za3, za4, za5, za6, za7⟩
  have hKT : KT sh I R' t (tvx tx u) := za5.mv (fun k hk => (za2 k (by unfold txc at hk; omega)).symm) (fun _ _ => rfl)
  refine xv_aload_n (q := 5) rfl dX6_drawn_4 rfl rfl ?_
  refine xv_iload_n (q := 6) rfl dX6_drawn_5 rfl rfl ?_
  refine xv_rV1 (z := mX6_costOfDrawn) (q := 9) rfl dX6_drawn_6 l_X6_235 gX6_costOfDrawn (za6.1 _ _ rfl) rfl rfl rfl (c_drw (d := d) za6 hK hKT za7 seed (TG.of za2 za3 za4)) (by omega) ?_
  rintro _ sh K R' L ⟨rfl, rfl, rfl, rfl, x, zb1⟩
  refine xv_iret dX6_drawn_9 rfl ?_
  exact ⟨rfl, rfl, za1, rfl, zb1.1⟩
theorem drc_le {z0 : Int32} (hw : wfn c n) (hn : n ≤ 5) : drc n c dd tv z0 ≤ 10350 := rdc_le (fun a ha => by rw [drq_sx c z0 n 2 (by decide)]; exact (hw a ha).2.2.1) hn
theorem chg_le {seed : Int32} : ∀ k, chg n c dd tv seed k ≤ k
  | 0 => Nat.le_refl 0
  | k + 1 => by
    have h := chg_le (seed := seed) k
    show chg n c dd tv seed k + _ ≤ _
    split <;> omega
theorem c_chc_loop (hg : XG sh R) (hK : KXc I n c dd u) (hKT : KT sh I R t tv) (hr3 : R 23 1 = some t) (seed part : Int32) {m : Nat} (hm0 : 0 < m) (hm20 : m ≤ 20) {R0 : XRf} (hR0 : RT R0 R) : ∀ (k j : Nat) (J : XI) (x : CR), j ≤ m → m < j + k → TG I J n c x dd (aln n) tv →
    XV E mX6_chance (d + 7) 0 0 (QTr (.long (lN (lwt (chg n c dd tv seed m) m part))) sh I R0 L) 0 0 43 [some (.ref 0), some (.int seed), some (.int (nI m)), some (.int part), some (.int (nI (rdc c n dd (aln n) tv))), some (.int (nI (chg n c dd tv seed j))), some (.int (nI j))] [] sh J R L := by
  obtain ⟨hm, hn, hn5, hdd, hd2, hu, hwf⟩ := id hK
  have hrl := rdc_le (dd := dd) (P := aln n) (tv := tv) (c := c) (n := n) (fun r hr => (hwf.1 r hr).2.2.1) hn5
  intro k
  induction k with
  | zero => intro j J x zh1 zh2; exact absurd zh2 (by omega)
  | succ k ih =>
    intro j J x zh1 zh2 hG
    have hcl := chg_le (n := n) (c := c) (dd := dd) (tv := tv) (seed := seed) j
    have hdl := drc_le (dd := dd) (tv := tv) (z0 := seed + nI j) hwf.1 hn5
    refine xv_iload (q := 45) rfl dX6_chance_43 rfl ?_
    refine xv_iload_n (q := 46) rfl dX6_chance_45 rfl rfl ?_
    refine xv_icmp_ge (q := 49) (t := 71) rfl rfl dX6_chance_46 (fun h49 => ?_) (fun h49 => ?_)
    · have zhj : j = m := by have := nIle h49 (by omega) (by omega); omega
      subst zhj
      refine xv_iload (q := 73) rfl dX6_chance_71 rfl ?_
      refine xv_i2l (q := 74) rfl dX6_chance_73 ?_
      refine xv_asl (w := lN (chg n c dd tv seed j)) (nI_l (by omega)) ?_
      refine xv_iload_n (q := 75) rfl dX6_chance_74 rfl rfl ?_
      refine xv_i2l (q := 76) rfl dX6_chance_75 ?_
      refine xv_asl (w := lN j) (nI_l (by omega)) ?_
      refine xv_iload_n (q := 77) rfl dX6_chance_76 rfl rfl ?_
      refine xv_cS3 (z := mX6_inLowestTerms) (q := 80) rfl dX6_chance_77 l_X6_207 gX6_inLowestTerms rfl (c_low (d := d + 5) (show chg n c dd tv seed j < 2 ^ 63 by omega) (show j < 2 ^ 63 by omega) (by omega) part) (by omega) ?_
      refine xv_lret dX6_chance_80 rfl ?_
      exact ⟨rfl, rfl, hR0, rfl, hG.1⟩
    · have zhj : j < m := nInle h49 (by omega) (by omega)
      refine xv_aload_n (q := 50) rfl dX6_chance_49 rfl rfl ?_
      refine xv_iload_n (q := 51) rfl dX6_chance_50 rfl rfl ?_
      refine xv_iload (q := 53) rfl dX6_chance_51 rfl ?_
      refine xv_iadd (q := 54) rfl dX6_chance_53 ?_
      refine xv_rV1 (z := mX6_costOfDrawn) (q := 57) rfl dX6_chance_54 l_X6_235 gX6_costOfDrawn (hg.1 _ _ rfl) rfl rfl rfl (c_drw (d := d) hg hK hKT hr3 (seed + nI j) hG) (by omega) ?_
      rintro _ sh K R L ⟨rfl, rfl, rfl, rfl, y, zb1⟩
      refine xv_iload (q := 59) rfl dX6_chance_57 rfl ?_
      refine xv_icmp_gt (q := 62) (t := 65) rfl rfl dX6_chance_59 (fun h62 => ?_) (fun h62 => ?_)
      · have h62 := nIlt h62 (by omega) (by omega)
        refine xv_iinc (q := 68) (v := nI 1) rfl dX6_chance_65 rfl rfl ?_
        refine xv_goto (t := 43) rfl dX6_chance_68 ?_
        rw [nI_add]
        have zhz := ih (j + 1) K y (by omega) (by omega) zb1
        rw [show chg n c dd tv seed (j + 1) = chg n c dd tv seed j from by show _ + (if _ then _ else _) = _; rw [if_neg (by omega), Nat.add_zero]] at zhz
        exact zhz
      · have h62 := nInlt h62 (by omega) (by omega)
        refine xv_iinc (q := 65) (v := nI 1) rfl dX6_chance_62 rfl rfl ?_
        rw [nI_add]
        refine xv_iinc (q := 68) (v := nI 1) rfl dX6_chance_65 rfl rfl ?_
        refine xv_goto (t := 43) rfl dX6_chance_68 ?_
        rw [nI_add]
        have zhz := ih (j + 1) K y (by omega) (by omega) zb1
        rw [show chg n c dd tv seed (j + 1) = chg n c dd tv seed j + 1 from by show _ + (if _ then _ else _) = _; rw [if_pos h62]] at zhz
        exact zhz
theorem x_chance (hg : XG sh R) (hK : KXc I n c dd u) (hT : KTs sh I R tc tx) (hu : u < tc) (seed m part : Int32) : XC E mX6_chance (d + 7) 0 0 [.ref 0, .int seed, .int m, .int part] sh I R L (QTr (.long (sp_chance n c dd (tvx tx u) seed m part)) sh I R L) := by
  obtain ⟨t, hst⟩ := c_start2 (E := E) (d := d + 1) (L := L) hg hK hT hu
  refine XC.of (by decide) rfl rfl ?_
  refine xv_iload_n (q := 1) rfl dX6_chance_0 rfl rfl ?_
  refine xv_iconst (v := nI 1) (q := 2) rfl dX6_chance_1 rfl ?_
  refine xv_icmp_lt (q := 5) (t := 20) rfl rfl dX6_chance_2 (fun zh2 => ?_) (fun zh2 => ?_)
  · refine xv_ldc2 (q := 23) rfl dX6_chance_20 k_X6_195 ?_
    refine xv_lret dX6_chance_23 rfl ?_
    rw [show sp_chance n c dd (tvx tx u) seed m part = -4611686018427387904 from if_pos (Or.inl zh2)]
    exact QTr.rf
  · refine xv_iload_n (q := 6) rfl dX6_chance_5 rfl rfl ?_
    refine xv_bipush (v := nI 20) (q := 8) rfl dX6_chance_6 rfl ?_
    refine xv_icmp_gt (q := 11) (t := 20) rfl rfl dX6_chance_8 (fun zh8 => ?_) (fun zh8 => ?_)
    · refine xv_ldc2 (q := 23) rfl dX6_chance_20 k_X6_195 ?_
      refine xv_lret dX6_chance_23 rfl ?_
      rw [show sp_chance n c dd (tvx tx u) seed m part = -4611686018427387904 from if_pos (Or.inr (Or.inl zh8))]
      exact QTr.rf
    · refine xv_iload_n (q := 12) rfl dX6_chance_11 rfl rfl ?_
      refine xv_if_lt (q := 15) (t := 20) rfl rfl dX6_chance_12 (fun h12 => ?_) (fun h12 => ?_)
      · refine xv_ldc2 (q := 23) rfl dX6_chance_20 k_X6_195 ?_
        refine xv_lret dX6_chance_23 rfl ?_
        rw [show sp_chance n c dd (tvx tx u) seed m part = -4611686018427387904 from if_pos (Or.inr (Or.inr (Or.inl h12)))]
        exact QTr.rf
      · refine xv_iload_n (q := 16) rfl dX6_chance_15 rfl rfl ?_
        refine xv_iconst (v := nI 1) (q := 17) rfl dX6_chance_16 rfl ?_
        refine xv_icmp_le (q := 20) (t := 24) rfl rfl dX6_chance_17 (fun h17 => ?_) (fun h17 => ?_)
        · have zhq : sp_chance n c dd (tvx tx u) seed m part = _ := if_neg (fun z => z.elim zh2 (fun z => z.elim zh8 (fun z => z.elim h12 (fun z => z h17))))
          rw [zhq]
          obtain ⟨m, hm20, rfl⟩ := nI_of2 (n := 20) (M := nI 20) (by decide) (fun z => zh2 (Int32.lt_trans z (by decide))) (Int32.not_lt.mp zh8)
          rw [nI_clamp (n := m) (by omega)]
          have hm0 : 0 < m := Nat.pos_of_ne_zero (fun z => zh2 (by rw [z]; decide))
          refine xv_aload_n (q := 25) rfl dX6_chance_24 rfl rfl ?_
          refine xv_rV0 (z := mX6_setOut) (q := 28) rfl dX6_chance_25 l_X6_145 gX6_setOut (hg.1 _ _ rfl) rfl rfl rfl (hst) (by omega) ?_
          rintro _ sh J R' L ⟨rfl, rfl, rfl, za1, za2, za3, za4, za5, za6, za7⟩
          have hKT : KT sh I R' t (tvx tx u) := za5.mv (fun k hk => (za2 k (by unfold txc at hk; omega)).symm) (fun _ _ => rfl)
          refine xv_aload_n (q := 29) rfl dX6_chance_28 rfl rfl ?_
          refine xv_geto (q := 32) rfl dX6_chance_29 f_X6_41 (za6.1 _ _ rfl) (za6.2 _ _ _ rfl) ?_
          refine xv_rV0 (z := mX5_cost) (q := 35) rfl dX6_chance_32 l_X6_148 gX5_cost (hg.1 _ _ rfl) rfl rfl rfl (c_cost (d := d + 1) za6 za3 za5 za7 za4) (by omega) ?_
          rintro _ sh K R' L ⟨rfl, rfl, rfl, rfl, zb1, zb2⟩
          refine xv_istore (q := 37) rfl dX6_chance_35 rfl ?_
          refine xv_iconst (v := nI 0) (q := 38) rfl dX6_chance_37 rfl ?_
          refine xv_istore (q := 40) rfl dX6_chance_38 rfl ?_
          refine xv_iconst (v := nI 0) (q := 41) rfl dX6_chance_40 rfl ?_
          refine xv_istore (q := 43) rfl dX6_chance_41 rfl ?_
          exact c_chc_loop za6 hK hKT za7 seed part hm0 hm20 za1 (m + 1) 0 K c (by omega) (by omega) ((TG.of za2 za3 za4).f9 zb1 zb2)
        · refine xv_ldc2 (q := 23) rfl dX6_chance_20 k_X6_195 ?_
          refine xv_lret dX6_chance_23 rfl ?_
          rw [show sp_chance n c dd (tvx tx u) seed m part = -4611686018427387904 from if_pos (Or.inr (Or.inr (Or.inr h17)))]
          exact QTr.rf
end DRAWN

/-! the model: what the text says is gathered -/
/-- but for what gathers lays -/
def FGt (I J : XI) : Prop := (∀ k, k ≠ 61 → k ≠ 72 → k ≠ 73 → k ≠ 74 → J k = I k) ∧ ∀ j, (j < 16 ∨ 31 ≤ j) → j ≠ 34 → J 61 j = I 61 j
theorem FGt.rf {I : XI} : FGt I I := ⟨fun _ _ _ _ _ => rfl, fun _ _ _ => rfl⟩
theorem FGt.trans {I J K : XI} (h : FGt I J) (zh2 : FGt J K) : FGt I K := ⟨fun k a b e f => (zh2.1 k a b e f).trans (h.1 k a b e f), fun j a b => (zh2.2 j a b).trans (h.2 j a b)⟩
theorem FPb.gt {I J : XI} (h : FPb I J) : FGt I J := ⟨fun k a _ _ _ => h.1 k a, fun j a _ => h.2 j a⟩
theorem fgt_c {I : XI} {k j : Nat} {x : Int32} (h : k = 72 ∨ k = 73 ∨ k = 74) : FGt I (xi I k j x) := ⟨fun a _ zh2 zh3 zh4 => xi_off _ _ _ _ (by omega), fun a _ _ => by rw [xi_off _ _ _ _ (by omega)]⟩
theorem FGt.cw {I J : XI} {n dd : Nat} {c : CR} (h : FGt I J) (hc : MCw I n c dd) : MCw J n c dd := hc.mv (fun k zh1 zh2 => h.1 k (by omega) (by omega) (by omega) (by omega)) (h.2 15 (by decide) (by decide)) (h.2 7 (by decide) (by decide))
theorem FGt.tx {I J : XI} {tc : Nat} {tx : TXS} (h : FGt I J) (hc : MTX I tc tx) : MTX J tc tx := hc.mv (h.2 3 (by decide) (by decide)) (h.1 62 (by decide) (by decide) (by decide) (by decide)) (h.1 63 (by decide) (by decide) (by decide) (by decide))
def GE (J : XI) (n : Nat) (c : CR) (tv : TV) (P o f w : Nat) : Prop := J 72 (30 * o + 3 * f + w) = nI (csn c o (prc c tv 0 o f w (insd c n P f))) ∧ J 73 (30 * o + 3 * f + w) = nI (prc c tv 1 o f w (insd c n P f))
def GPw (J : XI) (n : Nat) (c : CR) (tv : TV) (P F O W : Nat) : Prop := ∀ o f w, o < n → f < 10 → w < 3 → c 3 o ≤ f → f < c 4 o → (f < F ∨ (f = F ∧ (o < O ∨ (o = O ∧ w < W)))) → GE J n c tv P o f w
def GM (J : XI) (n : Nat) (c : CR) (tv : TV) (O W : Nat) : Prop := ∀ o w, o < n → w < 3 → (o < O ∨ (o = O ∧ w < W)) → J 74 (3 * o + w) = nI (prc c tv 2 o (c 3 o) w 0)
/-- how far it has come -/
def SGt (I : XI) (L : XL) (n : Nat) (c : CR) (tv : TV) (P : Nat) (J : XI) (K : XL) (F O W : Nat) : Prop := FGt I J ∧ FL L K ∧ J 61 34 = nI P ∧ GPw J n c tv P F O W
theorem prc_l (c : CR) (tv : TV) (part r f w ins : Nat) : prc c tv part r f w ins ≤ 99 := clp_99 _
section MGATH
variable {E : XE} {d : Nat} {sh : XSh} {I : XI} {R : XRf} {L : XL} {n dd : Nat} {c : CR} {P : Nat} {tc u : Nat} {tx : TXS}
theorem m_gat_in (hg : XG sh R) (h : MCw I n c dd) (hT : MTX I tc tx) (hu4 : I 61 4 = nI u) (hu : u < tc) {f o : Nat} (hf : f < 10) (ho : o < n) {Q : XQ} (KK : ∀ (J : XI) (K : XL) (l5 l6 : Option Value), SGt I L n c (tvx tx u) P J K f (o + 1) 0 → XV E mX7_gathers (d + 45) 0 0 Q 0 0 124 [some (.ref 61), some (.int (nI P)), some (.int (nI f)), some (.int (nI (insd c n P f))), some (.int (nI o)), l5, l6] [] sh J R K) : ∀ (k w : Nat) (J : XI) (K : XL) (l6 : Option Value), w ≤ 3 → 3 < w + k → SGt I L n c (tvx tx u) P J K f o w → XV E mX7_gathers (d + 45) 0 0 Q 0 0 34 [some (.ref 61), some (.int (nI P)), some (.int (nI f)), some (.int (nI (insd c n P f))), some (.int (nI o)), some (.int (nI w)), l6] [] sh J R K := by
  intro k
  induction k with
  | zero => intro w J K l6 zh1 zh2; exact absurd zh2 (by omega)
  | succ k ih =>
    intro w J K l6 zh1 zh2 hS
    obtain ⟨hF, hL, hP, hGP⟩ := id hS
    obtain ⟨hm, hn, hn5, hd, hdd, hw⟩ := hF.cw h
    obtain ⟨zw0, zw1, zw2, zw3, zw4, zw5, zw6, w7⟩ := hw o ho
    refine xv_iload (q := 36) rfl dX7_gathers_34 rfl ?_
    refine xv_iconst (v := nI 3) (q := 37) rfl dX7_gathers_36 rfl ?_
    refine xv_icmp_ge (q := 40) (t := 124) rfl rfl dX7_gathers_37 (fun h37 => ?_) (fun h37 => ?_)
    · have h37 := nIle h37 (by omega) (by omega)
      exact KK J K _ _ ⟨hF, hL, hP, fun o' f' w' za1 za2 za3 za4 za5 za6 => hGP o' f' w' za1 za2 za3 za4 za5 (by omega)⟩
    · have h37 : w < 3 := nInle h37 (by omega) (by omega)
      refine xv_aload_n (q := 41) rfl dX7_gathers_40 rfl rfl ?_
      refine xv_geta (q := 44) rfl dX7_gathers_41 f_X7_35 (hg.1 _ _ rfl) (hg.2 _ _ _ rfl) ?_
      refine xv_iload (q := 46) rfl dX7_gathers_44 rfl ?_
      refine xv_iald (q := 47) rfl dX7_gathers_46 (hg.1 _ _ rfl) rfl (by omega) (by decide) ?_
      refine xv_as (w := nI (c 3 o)) (hm 3 o (by decide) ho) ?_
      refine xv_iload_n (q := 48) rfl dX7_gathers_47 rfl rfl ?_
      refine xv_icmp_gt (q := 51) (t := 124) rfl rfl dX7_gathers_48 (fun h48 => ?_) (fun h48 => ?_)
      · have h48 : f < c 3 o := nIlt h48 (by omega) (by omega)
        exact KK J K _ _ ⟨hF, hL, hP, fun o' f' w' za1 za2 za3 za4 za5 za6 => by
          by_cases e : o' = o ∧ f' = f
          · obtain ⟨rfl, rfl⟩ := e; omega
          · exact hGP o' f' w' za1 za2 za3 za4 za5 (by omega)⟩
      · have h48 : c 3 o ≤ f := nInlt h48 (by omega) (by omega)
        refine xv_aload_n (q := 52) rfl dX7_gathers_51 rfl rfl ?_
        refine xv_geta (q := 55) rfl dX7_gathers_52 f_X7_38 (hg.1 _ _ rfl) (hg.2 _ _ _ rfl) ?_
        refine xv_iload (q := 57) rfl dX7_gathers_55 rfl ?_
        refine xv_iald (q := 58) rfl dX7_gathers_57 (hg.1 _ _ rfl) rfl (by omega) (by decide) ?_
        refine xv_as (w := nI (c 4 o)) (hm 4 o (by decide) ho) ?_
        refine xv_iload_n (q := 59) rfl dX7_gathers_58 rfl rfl ?_
        refine xv_icmp_le (q := 62) (t := 124) rfl rfl dX7_gathers_59 (fun h59 => ?_) (fun h59 => ?_)
        · have h59 : c 4 o ≤ f := nIle h59 (by omega) (by omega)
          exact KK J K _ _ ⟨hF, hL, hP, fun o' f' w' za1 za2 za3 za4 za5 za6 => by
            by_cases e : o' = o ∧ f' = f
            · obtain ⟨rfl, rfl⟩ := e; omega
            · exact hGP o' f' w' za1 za2 za3 za4 za5 (by omega)⟩
        · have h59 : f < c 4 o := nInle h59 (by omega) (by omega)
          refine xv_bipush (v := nI 30) (q := 64) rfl dX7_gathers_62 rfl ?_
          refine xv_iload (q := 66) rfl dX7_gathers_64 rfl ?_
          refine xv_imul (q := 67) rfl dX7_gathers_66 ?_
          refine xv_as (w := nI (30 * o)) (pk_mul _ _) ?_
          refine xv_iconst (v := nI 3) (q := 68) rfl dX7_gathers_67 rfl ?_
          refine xv_iload_n (q := 69) rfl dX7_gathers_68 rfl rfl ?_
          refine xv_imul (q := 70) rfl dX7_gathers_69 ?_
          refine xv_as (w := nI (3 * f)) (pk_mul _ _) ?_
          refine xv_iadd (q := 71) rfl dX7_gathers_70 ?_
          refine xv_as (w := nI (30 * o + 3 * f)) (nI_add _ _) ?_
          refine xv_iload (q := 73) rfl dX7_gathers_71 rfl ?_
          refine xv_iadd (q := 74) rfl dX7_gathers_73 ?_
          refine xv_as (w := nI (30 * o + 3 * f + w)) (nI_add _ _) ?_
          refine xv_istore (q := 76) rfl dX7_gathers_74 rfl ?_
          refine xv_aload_n (q := 77) rfl dX7_gathers_76 rfl rfl ?_
          refine xv_geta (q := 80) rfl dX7_gathers_77 f_X7_47 (hg.1 _ _ rfl) (hg.2 _ _ _ rfl) ?_
          refine xv_iload (q := 82) rfl dX7_gathers_80 rfl ?_
          refine xv_aload_n (q := 83) rfl dX7_gathers_82 rfl rfl ?_
          refine xv_iload (q := 85) rfl dX7_gathers_83 rfl ?_
          refine xv_aload_n (q := 86) rfl dX7_gathers_85 rfl rfl ?_
          refine xv_iconst (v := nI 0) (q := 87) rfl dX7_gathers_86 rfl ?_
          refine xv_iload (q := 89) rfl dX7_gathers_87 rfl ?_
          refine xv_iload_n (q := 90) rfl dX7_gathers_89 rfl rfl ?_
          refine xv_iload (q := 92) rfl dX7_gathers_90 rfl ?_
          refine xv_iload_n (q := 93) rfl dX7_gathers_92 rfl rfl ?_
          refine xv_rV5 (z := mX7_says) (q := 96) rfl dX7_gathers_93 l_X7_260 gX7_says (hg.1 _ _ rfl) rfl rfl rfl (m_says (d := d) (I := J) (L := K) (part := 0) hg hm hn5 ((hF.2 4 (by decide) (by decide)).trans hu4) (hF.tx hT) hu (by decide) ho) (by omega) ?_
          rintro _ _ J1 _ L1 ⟨rfl, rfl, rfl, hF1, hL1⟩
          obtain ⟨hm1, hn1, -, -, -, -⟩ := (hF.trans hF1.gt).cw h
          refine xv_cV2 (z := mX7_costsOf) (q := 99) rfl dX7_gathers_96 l_X7_264 gX7_costsOf (hg.1 _ _ rfl) rfl rfl rfl (m_costs (d := d) hg hm1 hn5 hw ho (prc_l _ _ _ _ _ _ _)) (by omega) ?_
          refine xv_iast (q := 100) rfl dX7_gathers_99 (hg.1 _ _ rfl) rfl (by omega) (by decide) ?_
          have hF2 : FGt I (xi J1 72 (30 * o + 3 * f + w) (nI (csn c o (prc c (tvx tx u) 0 o f w (insd c n P f))))) := (hF.trans hF1.gt).trans (fgt_c (Or.inl rfl))
          obtain ⟨hm2, hn2, -, -, -, -⟩ := hF2.cw h
          refine xv_aload_n (q := 101) rfl dX7_gathers_100 rfl rfl ?_
          refine xv_geta (q := 104) rfl dX7_gathers_101 f_X7_50 (hg.1 _ _ rfl) (hg.2 _ _ _ rfl) ?_
          refine xv_iload (q := 106) rfl dX7_gathers_104 rfl ?_
          refine xv_aload_n (q := 107) rfl dX7_gathers_106 rfl rfl ?_
          refine xv_iconst (v := nI 1) (q := 108) rfl dX7_gathers_107 rfl ?_
          refine xv_iload (q := 110) rfl dX7_gathers_108 rfl ?_
          refine xv_iload_n (q := 111) rfl dX7_gathers_110 rfl rfl ?_
          refine xv_iload (q := 113) rfl dX7_gathers_111 rfl ?_
          refine xv_iload_n (q := 114) rfl dX7_gathers_113 rfl rfl ?_
          refine xv_rV5 (z := mX7_says) (q := 117) rfl dX7_gathers_114 l_X7_260 gX7_says (hg.1 _ _ rfl) rfl rfl rfl (m_says (d := d) (L := L1) (part := 1) hg hm2 hn5 ((hF2.2 4 (by decide) (by decide)).trans hu4) (hF2.tx hT) hu (by decide) ho) (by omega) ?_
          rintro _ _ J3 _ L3 ⟨rfl, rfl, rfl, hF3, hL3⟩
          refine xv_iast (q := 118) rfl dX7_gathers_117 (hg.1 _ _ rfl) rfl (by omega) (by decide) ?_
          refine xv_iinc (q := 121) (v := nI 1) rfl dX7_gathers_118 rfl rfl ?_
          refine xv_goto (t := 34) rfl dX7_gathers_121 ?_
          rw [nI_add]
          refine ih (w + 1) _ _ _ (by omega) (by omega) ⟨(hF2.trans hF3.gt).trans (fgt_c (Or.inr (Or.inl rfl))), (hL.trans hL1).trans hL3, ?_, fun o' f' w' za1 za2 za3 za4 za5 za6 => ?_⟩
          · rw [xi_off _ _ _ _ (by decide), hF3.2 34 (by decide), xi_off _ _ _ _ (by decide), hF1.2 34 (by decide)]; exact hP
          · unfold GE
            rw [xi_off _ _ _ _ (by decide), hF3.1 72 (by decide)]
            by_cases e : 30 * o' + 3 * f' + w' = 30 * o + 3 * f + w
            · obtain ⟨rfl, rfl, rfl⟩ : o' = o ∧ f' = f ∧ w' = w := by omega
              rw [xi_eq, xi_eq]
              exact ⟨rfl, rfl⟩
            · rw [xi_ne _ _ _ _ (fun z => e z.2), xi_ne _ _ _ _ (fun z => e z.2), hF1.1 72 (by decide), hF3.1 73 (by decide), xi_off _ _ _ _ (by decide), hF1.1 73 (by decide)]
              exact hGP o' f' w' za1 za2 za3 za4 za5 (by omega)
theorem m_gat_mid (hg : XG sh R) (h : MCw I n c dd) (hT : MTX I tc tx) (hu4 : I 61 4 = nI u) (hu : u < tc) {f : Nat} (hf : f < 10) {Q : XQ} (KK : ∀ (J : XI) (K : XL) (l3 l4 l5 l6 : Option Value), SGt I L n c (tvx tx u) P J K (f + 1) 0 0 → XV E mX7_gathers (d + 45) 0 0 Q 0 0 130 [some (.ref 61), some (.int (nI P)), some (.int (nI f)), l3, l4, l5, l6] [] sh J R K) : ∀ (k o : Nat) (J : XI) (K : XL) (l5 l6 : Option Value), o ≤ n → n < o + k → SGt I L n c (tvx tx u) P J K f o 0 → XV E mX7_gathers (d + 45) 0 0 Q 0 0 22 [some (.ref 61), some (.int (nI P)), some (.int (nI f)), some (.int (nI (insd c n P f))), some (.int (nI o)), l5, l6] [] sh J R K := by
  intro k
  induction k with
  | zero => intro o J K l5 l6 zh1 zh2; exact absurd zh2 (by omega)
  | succ k ih =>
    intro o J K l5 l6 zh1 zh2 hS
    obtain ⟨hF, hL, hP, hGP⟩ := id hS
    obtain ⟨hm, hn, hn5, hd, hdd, hw⟩ := hF.cw h
    refine xv_iload (q := 24) rfl dX7_gathers_22 rfl ?_
    refine xv_aload_n (q := 25) rfl dX7_gathers_24 rfl rfl ?_
    refine xv_geti (q := 28) rfl dX7_gathers_25 f_X7_88 (hg.1 _ _ rfl) ?_
    rw [hn]
    refine xv_icmp_ge (q := 31) (t := 130) rfl rfl dX7_gathers_28 (fun h28 => ?_) (fun h28 => ?_)
    · have h28 := nIle h28 (by omega) (by omega)
      exact KK J K _ _ _ _ ⟨hF, hL, hP, fun o' f' w' za1 za2 za3 za4 za5 za6 => hGP o' f' w' za1 za2 za3 za4 za5 (by omega)⟩
    · have h28 : o < n := nInle h28 (by omega) (by omega)
      refine xv_iconst (v := nI 0) (q := 32) rfl dX7_gathers_31 rfl ?_
      refine xv_istore (q := 34) rfl dX7_gathers_32 rfl ?_
      refine m_gat_in (d := d) hg h hT hu4 hu hf h28 (fun J K l5 l6 hS => ?_) 4 0 J K _ (by omega) (by omega) hS
      refine xv_iinc (q := 127) (v := nI 1) rfl dX7_gathers_124 rfl rfl ?_
      refine xv_goto (t := 22) rfl dX7_gathers_127 ?_
      rw [nI_add]
      exact ih (o + 1) J K _ _ (by omega) (by omega) hS
theorem m_gat_out (hg : XG sh R) (h : MCw I n c dd) (hT : MTX I tc tx) (hu4 : I 61 4 = nI u) (hu : u < tc) (hP32 : P < 32) {Q : XQ} (KK : ∀ (J : XI) (K : XL) (l2 l3 l4 l5 l6 : Option Value), SGt I L n c (tvx tx u) P J K 10 0 0 → XV E mX7_gathers (d + 45) 0 0 Q 0 0 136 [some (.ref 61), some (.int (nI P)), l2, l3, l4, l5, l6] [] sh J R K) : ∀ (k f : Nat) (J : XI) (K : XL) (l3 l4 l5 l6 : Option Value), f ≤ 10 → 10 < f + k → SGt I L n c (tvx tx u) P J K f 0 0 → XV E mX7_gathers (d + 45) 0 0 Q 0 0 7 [some (.ref 61), some (.int (nI P)), some (.int (nI f)), l3, l4, l5, l6] [] sh J R K := by
  intro k
  induction k with
  | zero => intro f J K l3 l4 l5 l6 zh1 zh2; exact absurd zh2 (by omega)
  | succ k ih =>
    intro f J K l3 l4 l5 l6 zh1 zh2 hS
    obtain ⟨hF, hL, hP, hGP⟩ := id hS
    refine xv_iload_n (q := 8) rfl dX7_gathers_7 rfl rfl ?_
    refine xv_bipush (v := nI 10) (q := 10) rfl dX7_gathers_8 rfl ?_
    refine xv_icmp_ge (q := 13) (t := 136) rfl rfl dX7_gathers_10 (fun h10 => ?_) (fun h10 => ?_)
    · have h10 : f = 10 := by have := nIle h10 (by omega) (by omega); omega
      subst h10
      exact KK J K _ _ _ _ _ hS
    · have h10 : f < 10 := nInle h10 (by omega) (by omega)
      refine xv_aload_n (q := 14) rfl dX7_gathers_13 rfl rfl ?_
      refine xv_iload_n (q := 15) rfl dX7_gathers_14 rfl rfl ?_
      refine xv_cV1 (z := mX7_insideAt) (q := 18) rfl dX7_gathers_15 l_X7_257 gX7_insideAt (hg.1 _ _ rfl) rfl rfl rfl (m_inside (d := d) hg (hF.cw h) hP hP32 h10) (by omega) ?_
      refine xv_istore_n (q := 19) rfl dX7_gathers_18 rfl rfl ?_
      refine xv_iconst (v := nI 0) (q := 20) rfl dX7_gathers_19 rfl ?_
      refine xv_istore (q := 22) rfl dX7_gathers_20 rfl ?_
      refine m_gat_mid (d := d) hg h hT hu4 hu h10 (fun J K l3 l4 l5 l6 hS => ?_) (n + 1) 0 J K _ _ (by omega) (by omega) hS
      refine xv_iinc (q := 133) (v := nI 1) rfl dX7_gathers_130 rfl rfl ?_
      refine xv_goto (t := 7) rfl dX7_gathers_133 ?_
      rw [nI_add]
      exact ih (f + 1) J K _ _ _ _ (by omega) (by omega) hS
def SMt (I : XI) (L : XL) (n : Nat) (c : CR) (tv : TV) (P : Nat) (J : XI) (K : XL) (O W : Nat) : Prop := SGt I L n c tv P J K 10 0 0 ∧ GM J n c tv O W
theorem m_gmv_in (hg : XG sh R) (h : MCw I n c dd) (hT : MTX I tc tx) (hu4 : I 61 4 = nI u) (hu : u < tc) {o : Nat} (ho : o < n) {l4 l5 l6 : Option Value} {Q : XQ} (KK : ∀ (J : XI) (K : XL) (l3 : Option Value), SMt I L n c (tvx tx u) P J K (o + 1) 0 → XV E mX7_gathers (d + 45) 0 0 Q 0 0 183 [some (.ref 61), some (.int (nI P)), some (.int (nI o)), l3, l4, l5, l6] [] sh J R K) : ∀ (k w : Nat) (J : XI) (K : XL), w ≤ 3 → 3 < w + k → SMt I L n c (tvx tx u) P J K o w → XV E mX7_gathers (d + 45) 0 0 Q 0 0 148 [some (.ref 61), some (.int (nI P)), some (.int (nI o)), some (.int (nI w)), l4, l5, l6] [] sh J R K := by
  intro k
  induction k with
  | zero => intro w J K zh1 zh2; exact absurd zh2 (by omega)
  | succ k ih =>
    intro w J K zh1 zh2 hS
    obtain ⟨⟨hF, hL, hP, hGP⟩, hGM⟩ := id hS
    obtain ⟨hm, hn, hn5, hd, hdd, hw⟩ := hF.cw h
    obtain ⟨zw0, zw1, zw2, zw3, zw4, zw5, zw6, w7⟩ := hw o ho
    refine xv_iload_n (q := 149) rfl dX7_gathers_148 rfl rfl ?_
    refine xv_iconst (v := nI 3) (q := 150) rfl dX7_gathers_149 rfl ?_
    refine xv_icmp_ge (q := 153) (t := 183) rfl rfl dX7_gathers_150 (fun h150 => ?_) (fun h150 => ?_)
    · have h150 := nIle h150 (by omega) (by omega)
      exact KK J K _ ⟨⟨hF, hL, hP, hGP⟩, fun o' w' za1 za2 za3 => hGM o' w' za1 za2 (by omega)⟩
    · have h150 : w < 3 := nInle h150 (by omega) (by omega)
      refine xv_aload_n (q := 154) rfl dX7_gathers_153 rfl rfl ?_
      refine xv_geta (q := 157) rfl dX7_gathers_154 f_X7_53 (hg.1 _ _ rfl) (hg.2 _ _ _ rfl) ?_
      refine xv_iconst (v := nI 3) (q := 158) rfl dX7_gathers_157 rfl ?_
      refine xv_iload_n (q := 159) rfl dX7_gathers_158 rfl rfl ?_
      refine xv_imul (q := 160) rfl dX7_gathers_159 ?_
      refine xv_as (w := nI (3 * o)) (pk_mul _ _) ?_
      refine xv_iload_n (q := 161) rfl dX7_gathers_160 rfl rfl ?_
      refine xv_iadd (q := 162) rfl dX7_gathers_161 ?_
      refine xv_as (w := nI (3 * o + w)) (nI_add _ _) ?_
      refine xv_aload_n (q := 163) rfl dX7_gathers_162 rfl rfl ?_
      refine xv_iconst (v := nI 2) (q := 164) rfl dX7_gathers_163 rfl ?_
      refine xv_iload_n (q := 165) rfl dX7_gathers_164 rfl rfl ?_
      refine xv_aload_n (q := 166) rfl dX7_gathers_165 rfl rfl ?_
      refine xv_geta (q := 169) rfl dX7_gathers_166 f_X7_35 (hg.1 _ _ rfl) (hg.2 _ _ _ rfl) ?_
      refine xv_iload_n (q := 170) rfl dX7_gathers_169 rfl rfl ?_
      refine xv_iald (q := 171) rfl dX7_gathers_170 (hg.1 _ _ rfl) rfl (by omega) (by decide) ?_
      refine xv_as (w := nI (c 3 o)) (hm 3 o (by decide) ho) ?_
      refine xv_iload_n (q := 172) rfl dX7_gathers_171 rfl rfl ?_
      refine xv_iconst (v := nI 0) (q := 173) rfl dX7_gathers_172 rfl ?_
      refine xv_rV5 (z := mX7_says) (q := 176) rfl dX7_gathers_173 l_X7_260 gX7_says (hg.1 _ _ rfl) rfl rfl rfl (m_says (d := d) (I := J) (L := K) (part := 2) (ins := 0) hg hm hn5 ((hF.2 4 (by decide) (by decide)).trans hu4) (hF.tx hT) hu (by decide) ho) (by omega) ?_
      rintro _ _ J1 _ L1 ⟨rfl, rfl, rfl, hF1, hL1⟩
      refine xv_iast (q := 177) rfl dX7_gathers_176 (hg.1 _ _ rfl) rfl (by omega) (by decide) ?_
      refine xv_iinc (q := 180) (v := nI 1) rfl dX7_gathers_177 rfl rfl ?_
      refine xv_goto (t := 148) rfl dX7_gathers_180 ?_
      rw [nI_add]
      refine ih (w + 1) _ _ (by omega) (by omega) ⟨⟨(hF.trans hF1.gt).trans (fgt_c (Or.inr (Or.inr rfl))), hL.trans hL1, ?_, fun o' f' w' za1 za2 za3 za4 za5 za6 => ?_⟩, fun o' w' za1 za2 za3 => ?_⟩
      · rw [xi_off _ _ _ _ (by decide), hF1.2 34 (by decide)]; exact hP
      · unfold GE
        rw [xi_off _ _ _ _ (by decide), xi_off _ _ _ _ (by decide), hF1.1 72 (by decide), hF1.1 73 (by decide)]
        exact hGP o' f' w' za1 za2 za3 za4 za5 za6
      · by_cases e : 3 * o' + w' = 3 * o + w
        · obtain ⟨rfl, rfl⟩ : o' = o ∧ w' = w := by omega
          rw [xi_eq]
        · rw [xi_ne _ _ _ _ (fun z => e z.2), hF1.1 74 (by decide)]
          exact hGM o' w' za1 za2 (by omega)
/-- what gathers leaves -/
def QGm (n : Nat) (c : CR) (tv : TV) (P : Nat) (sh : XSh) (I : XI) (R : XRf) (L : XL) : XQ := fun v sh' J R' L' => v = none ∧ sh' = sh ∧ R' = R ∧ FGt I J ∧ FL L L' ∧ J 61 34 = nI P ∧ MGa J n c tv P ∧ ∀ o w, o < n → w < 3 → J 74 (3 * o + w) = nI (prc c tv 2 o (c 3 o) w 0)
theorem m_gmv_out (hg : XG sh R) (h : MCw I n c dd) (hT : MTX I tc tx) (hu4 : I 61 4 = nI u) (hu : u < tc) {l4 l5 l6 : Option Value} : ∀ (k o : Nat) (J : XI) (K : XL) (l3 : Option Value), o ≤ n → n < o + k → SMt I L n c (tvx tx u) P J K o 0 → XV E mX7_gathers (d + 45) 0 0 (QGm n c (tvx tx u) P sh I R L) 0 0 138 [some (.ref 61), some (.int (nI P)), some (.int (nI o)), l3, l4, l5, l6] [] sh J R K := by
  intro k
  induction k with
  | zero => intro o J K l3 zh1 zh2; exact absurd zh2 (by omega)
  | succ k ih =>
    intro o J K l3 zh1 zh2 hS
    obtain ⟨⟨hF, hL, hP, hGP⟩, hGM⟩ := id hS
    obtain ⟨hm, hn, hn5, hd, hdd, hw⟩ := hF.cw h
    refine xv_iload_n (q := 139) rfl dX7_gathers_138 rfl rfl ?_
    refine xv_aload_n (q := 140) rfl dX7_gathers_139 rfl rfl ?_
    refine xv_geti (q := 143) rfl dX7_gathers_140 f_X7_88 (hg.1 _ _ rfl) ?_
    rw [hn]
    refine xv_icmp_ge (q := 146) (t := 189) rfl rfl dX7_gathers_143 (fun h143 => ?_) (fun h143 => ?_)
    · have h143 := nIle h143 (by omega) (by omega)
      obtain rfl : o = n := by omega
      refine xv_vret dX7_gathers_189 rfl ?_
      exact ⟨rfl, rfl, rfl, hF, hL, hP, fun o f w za1 za2 za3 za4 za5 => hGP o f w za1 za2 za3 za4 za5 (Or.inl za2), fun o w za1 za2 => hGM o w za1 za2 (Or.inl za1)⟩
    · have h143 : o < n := nInle h143 (by omega) (by omega)
      refine xv_iconst (v := nI 0) (q := 147) rfl dX7_gathers_146 rfl ?_
      refine xv_istore_n (q := 148) rfl dX7_gathers_147 rfl rfl ?_
      refine m_gmv_in (d := d) hg h hT hu4 hu h143 (fun J K l3 hS => ?_) 4 0 J K (by omega) (by omega) hS
      refine xv_iinc (q := 186) (v := nI 1) rfl dX7_gathers_183 rfl rfl ?_
      refine xv_goto (t := 138) rfl dX7_gathers_186 ?_
      rw [nI_add]
      exact ih (o + 1) J K _ (by omega) (by omega) hS
theorem m_gat (hg : XG sh R) (h : MCw I n c dd) (hT : MTX I tc tx) (hu4 : I 61 4 = nI u) (hu : u < tc) (hP32 : P < 32) : XC E mX7_gathers (d + 45) 0 0 [.ref 61, .int (nI P)] sh I R L (QGm n c (tvx tx u) P sh I R L) := by
  refine XC.of (by decide) rfl rfl ?_
  refine xv_aload_n (q := 1) rfl dX7_gathers_0 rfl rfl ?_
  refine xv_iload_n (q := 2) rfl dX7_gathers_1 rfl rfl ?_
  refine xv_puti (q := 5) rfl dX7_gathers_2 f_X7_254 (fun h => by cases h) (hg.1 _ _ rfl) ?_
  refine xv_iconst (v := nI 0) (q := 6) rfl dX7_gathers_5 rfl ?_
  refine xv_istore_n (q := 7) rfl dX7_gathers_6 rfl rfl ?_
  refine m_gat_out (d := d) (I := I) (L := L) hg h hT hu4 hu hP32 (fun J K l2 l3 l4 l5 l6 hS => ?_) 11 0 _ _ _ _ _ _ (by omega) (by omega) ⟨⟨fun k zh1 _ _ _ => xi_off _ _ _ _ zh1, fun j _ zh2 => xi_ne _ _ _ _ (fun z => zh2 z.2)⟩, .rf, xi_eq _ _ _ _, fun o f w za1 za2 za3 za4 za5 za6 => absurd za6 (by omega)⟩
  refine xv_iconst (v := nI 0) (q := 137) rfl dX7_gathers_136 rfl ?_
  refine xv_istore_n (q := 138) rfl dX7_gathers_137 rfl rfl ?_
  exact m_gmv_out (d := d) hg h hT hu4 hu (n + 1) 0 J K _ (by omega) (by omega) ⟨hS, fun o w za1 za2 za3 => absurd za3 (by omega)⟩
end MGATH

/-! Trip: what is asked of a gathered trip -/
/-- a number by names looks at six of them -/
def dep (v : PV) : Prop := ∀ nm nm' : Nat → Int32, (∀ j, j < 6 → nm j = nm' j) → v nm = v nm'
theorem wop_cdo (t : Nat) (nm nm' : Nat → Int32) (a b : Int32) : wop nm (cdo t) a b = wop nm' (cdo t) a b := by
  unfold cdo
  (repeat' split) <;> rfl
theorem dep.bin {v w : PV} {t : Nat} (h : dep v) (h2 : dep w) : dep (fun nm => wop nm (cdo t) (v nm) (w nm)) := fun nm nm' q => by
  show wop nm (cdo t) (v nm) (w nm) = wop nm' (cdo t) (v nm') (w nm')
  rw [h nm nm' q, h2 nm nm' q, wop_cdo t nm nm']
theorem prs_dep {tp : Nat → Nat} {n : Nat} : ∀ (f tag lv op p : Nat) (sg : List Int32) (v : PV) (r : PR), tag < 5 → (tag = 2 → dep v) → prs tp n f tag lv op p sg v = some r → r.1 = true → dep r.2.2.2 := by
  intro f
  induction f with
  | zero => intro tag lv op p sg v r _ _ h; cases h
  | succ f ih =>
    intro tag lv op p sg v r htag hsg h hr
    rcases (show tag = 0 ∨ tag = 1 ∨ tag = 2 ∨ tag = 3 ∨ tag = 4 by omega) with rfl | rfl | rfl | rfl | rfl
    · rw [prs_0] at h
      split at h
      · exact ih 3 0 op p [] v r (by omega) (fun q => by omega) h hr
      · split at h
        · exact ih 4 0 op p [] v r (by omega) (fun q => by omega) h hr
        · exact ih 1 (lv + 1) op p [] v r (by omega) (fun q => by omega) h hr
    · rw [prs_1] at h
      obtain ⟨a, ha, h⟩ := bnd h
      split at h
      next e => cases h; rw [e] at hr; cases hr
      next e => exact ih 2 lv op a.2.1 a.2.2.1 a.2.2.2 r (by omega) (fun _ => ih 0 lv op p [] v a (by omega) (fun q => by omega) ha (bT e)) h hr
    · rw [prs_2] at h
      split at h
      · cases h; exact hsg rfl
      next hl =>
        obtain ⟨a, ha, h⟩ := bnd h
        split at h
        next e => cases h; rw [e] at hr; cases hr
        next e => exact ih 2 lv op a.2.1 _ _ r (by omega) (fun _ => (hsg rfl).bin (ih 0 lv op (nxt tp n p) [] v a (by omega) (fun q => by omega) ha (bT e))) h hr
    · rw [prs_3] at h
      split at h
      next ht =>
        split at h
        · cases h; cases hr
        · obtain ⟨a, ha, h⟩ := bnd h
          split at h
          next e => cases h; rw [e] at hr; cases hr
          next e =>
            have g1 := ih 3 0 (op + 1) (nxt tp n p) [] v a (by omega) (fun q => by omega) ha (bT e)
            cases h
            intro nm nm' q
            show wop nm (-14) (a.2.2.2 nm) 0 = wop nm' (-14) (a.2.2.2 nm') 0
            rw [g1 nm nm' q]; rfl
      next ht =>
        obtain ⟨a, ha, h⟩ := bnd h
        split at h
        next e => cases h; rw [e] at hr; cases hr
        next e =>
          have g1 := ih 1 2 op p [] v a (by omega) (fun q => by omega) ha (bT e)
          split at h
          next ht2 =>
            obtain ⟨b, hb, h⟩ := bnd h
            split at h
            next e2 => cases h; rw [e2] at hr; cases hr
            next e2 =>
              have g2 := ih 1 2 op _ [] v b (by omega) (fun q => by omega) hb (bT e2)
              cases h
              exact g1.bin g2
          · cases h; exact g1
    · rw [prs_4] at h
      split at h
      next ht => cases h; exact fun _ _ _ => rfl
      next =>
        split at h
        next ht => cases h; exact fun nm nm' q => q _ (tok_3 ht)
        next =>
          split at h
          · cases h; cases hr
          next ht =>
            split at h
            next =>
              obtain ⟨a, ha, h⟩ := bnd h
              split at h
              next e => cases h; rw [e] at hr; cases hr
              next e =>
                have g1 := ih 4 0 (op + 1) (nxt tp n p) [] v a (by omega) (fun q => by omega) ha (bT e)
                cases h
                intro nm nm' q
                show wop nm (-15) (a.2.2.2 nm) 0 = wop nm' (-15) (a.2.2.2 nm') 0
                rw [g1 nm nm' q]; rfl
            next =>
              obtain ⟨a, ha, h⟩ := bnd h
              split at h
              next e => cases h; rw [e] at hr; cases hr
              next e =>
                have g1 := ih 1 0 (op + 1) (nxt tp n p) [] v a (by omega) (fun q => by omega) ha (bT e)
                split at h
                · cases h; exact g1
                · cases h; cases hr
/-- the Text at t says tv -/
def KT (sh : XSh) (I : XI) (R : XRf) (t : Nat) (tv : TV) : Prop := (t = 50 ∨ 82 ≤ t) ∧ ∃ ca ea M, XTx sh R t ca ea M ∧ (ca = 51 ∨ 82 ≤ ca) ∧ (ea = 52 ∨ 82 ≤ ea) ∧ ∀ part, part < 3 → dep (tv part) ∧ ∃ s e, (if part = 0 then s = 0 else I ea (part - 1) = nI s) ∧ s ≤ e ∧ I ea part = nI e ∧ e ≤ M ∧ (∀ i, i < e → ¬ I ca i < -15) ∧ ∀ nm f, ∃ f', wrun nm (I ca) (e - s) s (0, f) = some (1, f') ∧ f' 0 = tv part nm
/-- the Texts' cells -/
def txc (k : Nat) : Prop := k = 50 ∨ k = 51 ∨ k = 52 ∨ 82 ≤ k
theorem KT.mv {sh : XSh} {I J : XI} {R R' : XRf} {t : Nat} {tv : TV} (h : KT sh I R t tv) (hJ : ∀ k, txc k → J k = I k) (hR : ∀ k, txc k → R' k = R k) : KT sh J R' t tv := by
  obtain ⟨h0, ca, ea, M, h1, h2, h3, h4⟩ := h
  have e1 : J ca = I ca := hJ ca (by unfold txc; omega)
  have e2 : J ea = I ea := hJ ea (by unfold txc; omega)
  have e3 : R' t = R t := hR t (by unfold txc; omega)
  refine ⟨h0, ca, ea, M, ?_, h2, h3, fun part hp => ?_⟩
  · unfold XTx at *
    rw [e3]; exact h1
  · rw [e1, e2]; exact h4 part hp
/-- a gathered trip -/
def TR (J : XI) (n : Nat) (c : CR) (dd P : Nat) : Prop := TC J n c ∧ J 24 8 = nI dd ∧ (dd = 1 ∨ dd = 2) ∧ TB J n c ∧ TS J n c P ∧ P < 32
def insp (c : CR) (n P part f : Nat) : Nat := if part = 2 then 0 else insd c n P f
/-- what is kept of prices is right -/
def TP (J : XI) (n : Nat) (c : CR) (P : Nat) (tv : TV) : Prop := ∀ part r f row, part < 3 → r < n → f < 10 → row < 3 → J 37 (((part * 5 + r) * 10 + f) * 3 + row) = -1 ∨ J 37 (((part * 5 + r) * 10 + f) * 3 + row) = nI (prc c tv part r f row (insp c n P part f))
def F9 (I J : XI) : Prop := ∀ k, k ≠ 37 → k ≠ 38 → k ≠ 39 → J k = I k
theorem F9.rf {I : XI} : F9 I I := fun _ _ _ _ => rfl
theorem F9.trans {I J K : XI} (h : F9 I J) (h2 : F9 J K) : F9 I K := fun k a b e => (h2 k a b e).trans (h k a b e)
theorem TR.mv {I J : XI} {n : Nat} {c : CR} {dd P : Nat} (h : TR I n c dd P) (hJ : F9 I J) : TR J n c dd P := by
  have q : ∀ k, k < 37 → J k = I k := fun k hk => hJ k (by omega) (by omega) (by omega)
  exact ⟨h.1.mv (fun k h1 h2 => q k (by omega)), by rw [q 24 (by decide)]; exact h.2.1, h.2.2.1, h.2.2.2.1.mv (q _ (by decide)) (q _ (by decide)), h.2.2.2.2.1.mv (q _ (by decide)) (q _ (by decide)) (q _ (by decide)), h.2.2.2.2.2⟩
theorem KT.f9 {sh : XSh} {I J : XI} {R : XRf} {t : Nat} {tv : TV} (h : KT sh I R t tv) (hJ : F9 I J) : KT sh J R t tv := h.mv (fun k hk => hJ k (by unfold txc at hk; omega) (by unfold txc at hk; omega) (by unfold txc at hk; omega)) (fun _ _ => rfl)
theorem cst_csn {c : CR} {r v : Nat} (h0 : c 0 r < 6) (hv : v ≤ 99) : cst (ci c) r (nI v) = nI (csn c r v) := by
  unfold cst csn ci
  have q : ∀ k, k < 6 → (nI (c 0 r) = nI k ↔ c 0 r = k) := fun k hk => nI_eq (by omega) (by omega)
  simp only [q 2 (by decide), q 3 (by decide), q 4 (by decide), q 5 (by decide)]
  split
  · exact pk_mul 2 v
  · split
    · cases v with
      | zero => rw [if_neg (show ¬ nI 0 < nI 0 - nI 1 by decide)]
      | succ v =>
        rw [pk_sub (by omega), Nat.add_sub_cancel]
        cases v with
        | zero => rw [if_neg (show ¬ nI 0 < nI 0 by decide)]
        | succ v => rw [if_pos (nI_lt (by omega) (by omega))]
    · split
      · rw [pk_mul, nI_add]
      · split
        · exact pk_div (by omega) (by decide) (by decide)
        · rfl
section ASK
variable {E : XE} {d : Nat} {sh : XSh} {I : XI} {R : XRf} {L : XL} {n : Nat} {c : CR} {dd P : Nat} {tv : TV} {t : Nat}
theorem land_32 {a s : Nat} (h : a < 32) : a &&& s < 32 := Nat.lt_of_le_of_lt Nat.and_le_left h
theorem c_mus (hg : XG sh R) (hT : TR I n c dd P) {r s : Nat} (hr : r < n) : XC E mX5_whoMakesWay (d + 1) 0 0 [.ref 23, .int (nI r), .int (nI s)] sh I R L (xq (some (.int (nI (mus c n dd r s)))) sh I R L) := by
  obtain ⟨⟨hm, hn, hn5, hw⟩, hdd, hd2, hB, hS, hP⟩ := id hT
  refine XC.of (by decide) rfl rfl ?_
  refine xv_aload_n (q := 1) rfl dX5_whoMakesWay_0 rfl rfl ?_
  refine xv_geta (q := 4) rfl dX5_whoMakesWay_1 f_X5_28 (hg.1 _ _ rfl) (hg.2 _ _ _ rfl) ?_
  refine xv_iload_n (q := 5) rfl dX5_whoMakesWay_4 rfl rfl ?_
  refine xv_iald (q := 6) rfl dX5_whoMakesWay_5 (hg.1 _ _ rfl) rfl (by omega) (by decide) ?_
  refine xv_as (w := nI (brs c false r n)) (hB r hr).1 ?_
  refine xv_iload_n (q := 7) rfl dX5_whoMakesWay_6 rfl rfl ?_
  refine xv_iand (q := 8) rfl dX5_whoMakesWay_7 ?_
  refine xv_as (w := nI (brs c false r n &&& s)) (nI_and _ _) ?_
  refine xv_istore_n (q := 9) rfl dX5_whoMakesWay_8 rfl rfl ?_
  refine xv_aload_n (q := 10) rfl dX5_whoMakesWay_9 rfl rfl ?_
  refine xv_geto (q := 13) rfl dX5_whoMakesWay_10 f_X5_12 (hg.1 _ _ rfl) (hg.2 _ _ _ rfl) ?_
  refine xv_geti (q := 16) rfl dX5_whoMakesWay_13 f_X5_93 (hg.1 _ _ rfl) ?_
  rw [hdd]
  refine xv_iconst (v := nI 2) (q := 17) rfl dX5_whoMakesWay_16 rfl ?_
  refine xv_icmp_eq (q := 20) (t := 22) rfl rfl dX5_whoMakesWay_17 (fun h17 => ?_) (fun h17 => ?_)
  · have h17 : dd = 2 := nIe h17 (by omega) (by omega)
    refine xv_aload_n (q := 23) rfl dX5_whoMakesWay_22 rfl rfl ?_
    refine xv_geta (q := 26) rfl dX5_whoMakesWay_23 f_X5_31 (hg.1 _ _ rfl) (hg.2 _ _ _ rfl) ?_
    refine xv_iload_n (q := 27) rfl dX5_whoMakesWay_26 rfl rfl ?_
    refine xv_iald (q := 28) rfl dX5_whoMakesWay_27 (hg.1 _ _ rfl) rfl (by omega) (by decide) ?_
    refine xv_as (w := nI (brs c true r n)) (hB r hr).2 ?_
    refine xv_iload_n (q := 29) rfl dX5_whoMakesWay_28 rfl rfl ?_
    refine xv_iand (q := 30) rfl dX5_whoMakesWay_29 ?_
    refine xv_as (w := nI (brs c true r n &&& s)) (nI_and _ _) ?_
    refine xv_istore (q := 32) rfl dX5_whoMakesWay_30 rfl ?_
    refine xv_iload (q := 34) rfl dX5_whoMakesWay_32 rfl ?_
    refine xv_cS1 (z := mJ6_bitCount_0f7a4) (q := 37) rfl dX5_whoMakesWay_34 l_X5_96 gJ6_bitCount_0f7a4 rfl (c_bitCount (d := d) (land_32 (bm_32 _ hn5))) (by omega) ?_
    refine xv_iload_n (q := 38) rfl dX5_whoMakesWay_37 rfl rfl ?_
    refine xv_cS1 (z := mJ6_bitCount_0f7a4) (q := 41) rfl dX5_whoMakesWay_38 l_X5_96 gJ6_bitCount_0f7a4 rfl (c_bitCount (d := d) (land_32 (bm_32 _ hn5))) (by omega) ?_
    refine xv_icmp_ge (q := 44) (t := 49) rfl rfl dX5_whoMakesWay_41 (fun h41 => ?_) (fun h41 => ?_)
    · have h41 := nIle h41 (by have := popc_5 _ (land_32 (s := s) (bm_32 (fun o => bar c false o r) hn5)); unfold brs; omega) (by have := popc_5 _ (land_32 (s := s) (bm_32 (fun o => bar c true o r) hn5)); unfold brs; omega)
      refine xv_iload_n (q := 50) rfl dX5_whoMakesWay_49 rfl rfl ?_
      refine xv_iret dX5_whoMakesWay_50 rfl ?_
      exact ⟨by rw [show mus c n dd r s = brs c false r n &&& s from if_neg (fun q => by have := q.2; omega)], rfl, rfl, rfl, rfl⟩
    · have h41 := nInle h41 (by have := popc_5 _ (land_32 (s := s) (bm_32 (fun o => bar c false o r) hn5)); unfold brs; omega) (by have := popc_5 _ (land_32 (s := s) (bm_32 (fun o => bar c true o r) hn5)); unfold brs; omega)
      refine xv_iload (q := 46) rfl dX5_whoMakesWay_44 rfl ?_
      refine xv_goto (t := 50) rfl dX5_whoMakesWay_46 ?_
      refine xv_iret dX5_whoMakesWay_50 rfl ?_
      exact ⟨by rw [show mus c n dd r s = brs c true r n &&& s from if_pos ⟨h17, h41⟩], rfl, rfl, rfl, rfl⟩
  · have h17 : ¬ dd = 2 := fun q => h17 (by rw [q])
    refine xv_iload_n (q := 21) rfl dX5_whoMakesWay_20 rfl rfl ?_
    refine xv_iret dX5_whoMakesWay_21 rfl ?_
    exact ⟨by rw [show mus c n dd r s = brs c false r n &&& s from if_neg (fun q => h17 q.1)], rfl, rfl, rfl, rfl⟩
theorem gou_gip {f r : Nat} (hw : wfn c n) (hr : r < n) (h : (gou c n P f).testBit r = true) : gip c P f r = false := by
  unfold gou at h
  rw [bm_bit, decide_eq_true hr, Bool.true_and] at h
  unfold gop at h
  have h3 := (hw r hr).2.2.2.2.2.2.2
  have h4 : c 4 r = f := of_decide_eq_true (Bool.and_eq_true_iff.mp h).2
  unfold gip
  rw [decide_eq_false (show ¬ c 3 r = f by omega), Bool.and_false]
theorem wok_0 {f0 : Nat} (h1 : sty c n P f0 = 0) (h2 : gin c n P f0 = 0) : ∀ k, wok c n dd P f0 k = 0
  | 0 => rfl
  | k + 1 => by
    show wok c n dd P f0 k ||| _ = 0
    rw [wok_0 h1 h2 k, h1, h2, Nat.zero_testBit, mus_0]
    split
    · rfl
    · rw [if_neg (by decide)]; rfl
theorem c_wso_loop (hg : XG sh R) (hT : TR I n c dd P) {f : Nat} (hf : f < 10) : ∀ (k r : Nat), r ≤ n → n < r + k → XV E mX5_whoStepsOut (d + 2) 0 0 (xq (some (.int (nI (wso c n dd P f)))) sh I R L) 0 0 27 [some (.ref 23), some (.int (nI f)), some (.int (nI (wok c n dd P f r))), some (.int (nI (sty c n P f ||| bm (gip c P f) r))), some (.int (nI r))] [] sh I R L := by
  obtain ⟨⟨hm, hn, hn5, hw⟩, hdd, hd2, hB, hS, hP⟩ := id hT
  obtain ⟨s1, s2, s3⟩ := hS f hf
  intro k
  induction k with
  | zero => intro r h1 h2; exact absurd h2 (by omega)
  | succ k ih =>
    intro r h1 h2
    refine xv_iload (q := 29) rfl dX5_whoStepsOut_27 rfl ?_
    refine xv_aload_n (q := 30) rfl dX5_whoStepsOut_29 rfl rfl ?_
    refine xv_geto (q := 33) rfl dX5_whoStepsOut_30 f_X5_12 (hg.1 _ _ rfl) (hg.2 _ _ _ rfl) ?_
    refine xv_geti (q := 36) rfl dX5_whoStepsOut_33 f_X5_53 (hg.1 _ _ rfl) ?_
    rw [hn]
    refine xv_icmp_ge (q := 39) (t := 108) rfl rfl dX5_whoStepsOut_36 (fun h36 => ?_) (fun h36 => ?_)
    · have hrn : r = n := by have := nIle h36 (by omega) (by omega); omega
      refine xv_iload_n (q := 109) rfl dX5_whoStepsOut_108 rfl rfl ?_
      refine xv_iret dX5_whoStepsOut_109 rfl ?_
      rw [hrn]
      exact xq_rfl
    · have hrn : r < n := nInle h36 (by omega) (by omega)
      refine xv_aload_n (q := 40) rfl dX5_whoStepsOut_39 rfl rfl ?_
      refine xv_geta (q := 43) rfl dX5_whoStepsOut_40 f_X5_22 (hg.1 _ _ rfl) (hg.2 _ _ _ rfl) ?_
      refine xv_iload_n (q := 44) rfl dX5_whoStepsOut_43 rfl rfl ?_
      refine xv_iald (q := 45) rfl dX5_whoStepsOut_44 (hg.1 _ _ rfl) rfl (by omega) (by decide) ?_
      refine xv_as (w := nI (gou c n P f)) s2 ?_
      refine xv_iload (q := 47) rfl dX5_whoStepsOut_45 rfl ?_
      refine xv_ishr (q := 48) rfl dX5_whoStepsOut_47 ?_
      refine xv_iconst (v := nI 1) (q := 49) rfl dX5_whoStepsOut_48 rfl ?_
      refine xv_iand (q := 50) rfl dX5_whoStepsOut_49 ?_
      refine xv_as (w := nI (b01 ((gou c n P f).testBit r))) (shb _ (bm_32 _ hn5) r (by omega)) ?_
      refine xv_if_eq (q := 53) (t := 71) rfl rfl dX5_whoStepsOut_50 (fun h50 => ?_) (fun h50 => ?_)
      · have hgo := b01z h50
        refine xv_aload_n (q := 72) rfl dX5_whoStepsOut_71 rfl rfl ?_
        refine xv_geta (q := 75) rfl dX5_whoStepsOut_72 f_X5_25 (hg.1 _ _ rfl) (hg.2 _ _ _ rfl) ?_
        refine xv_iload_n (q := 76) rfl dX5_whoStepsOut_75 rfl rfl ?_
        refine xv_iald (q := 77) rfl dX5_whoStepsOut_76 (hg.1 _ _ rfl) rfl (by omega) (by decide) ?_
        refine xv_as (w := nI (gin c n P f)) s3 ?_
        refine xv_iload (q := 79) rfl dX5_whoStepsOut_77 rfl ?_
        refine xv_ishr (q := 80) rfl dX5_whoStepsOut_79 ?_
        refine xv_iconst (v := nI 1) (q := 81) rfl dX5_whoStepsOut_80 rfl ?_
        refine xv_iand (q := 82) rfl dX5_whoStepsOut_81 ?_
        refine xv_as (w := nI (b01 ((gin c n P f).testBit r))) (shb _ (bm_32 _ hn5) r (by omega)) ?_
        refine xv_if_eq (q := 85) (t := 102) rfl rfl dX5_whoStepsOut_82 (fun h82 => ?_) (fun h82 => ?_)
        · have hgi := b01z h82
          refine xv_iinc (q := 105) (v := nI 1) rfl dX5_whoStepsOut_102 rfl rfl ?_
          refine xv_goto (t := 27) rfl dX5_whoStepsOut_105 ?_
          rw [nI_add]
          have := ih (r + 1) (by omega) (by omega)
          have e1 : wok c n dd P f (r + 1) = wok c n dd P f r ||| 0 := by show _ ||| (if _ then _ else _) = _; rw [hgo, hgi]; rfl
          have e2 : bm (gip c P f) (r + 1) = bm (gip c P f) r := by show _ ||| (if gip c P f r = true then _ else _) = _; rw [(show gip c P f r = false by have := hgi; unfold gin at this; rw [bm_bit, decide_eq_true hrn, Bool.true_and] at this; exact this)]; exact Nat.or_zero _
          rw [e1, e2] at this
          rw [Nat.or_zero] at this
          exact this
        · have hgi := b01n h82
          refine xv_iload_n (q := 86) rfl dX5_whoStepsOut_85 rfl rfl ?_
          refine xv_aload_n (q := 87) rfl dX5_whoStepsOut_86 rfl rfl ?_
          refine xv_iload (q := 89) rfl dX5_whoStepsOut_87 rfl ?_
          refine xv_iload_n (q := 90) rfl dX5_whoStepsOut_89 rfl rfl ?_
          refine xv_cV2 (z := mX5_whoMakesWay) (q := 93) rfl dX5_whoStepsOut_90 l_X5_89 gX5_whoMakesWay (hg.1 _ _ rfl) rfl rfl rfl (c_mus (d := d) hg hT hrn) (by omega) ?_
          refine xv_ior (q := 94) rfl dX5_whoStepsOut_93 ?_
          refine xv_as (w := nI (wok c n dd P f r ||| mus c n dd r (sty c n P f ||| bm (gip c P f) r))) (nI_or _ _) ?_
          refine xv_istore_n (q := 95) rfl dX5_whoStepsOut_94 rfl rfl ?_
          refine xv_iload_n (q := 96) rfl dX5_whoStepsOut_95 rfl rfl ?_
          refine xv_iconst (v := nI 1) (q := 97) rfl dX5_whoStepsOut_96 rfl ?_
          refine xv_iload (q := 99) rfl dX5_whoStepsOut_97 rfl ?_
          refine xv_ishl (q := 100) rfl dX5_whoStepsOut_99 ?_
          refine xv_as (w := nI (2 ^ r)) (sh1 r (by omega)) ?_
          refine xv_ior (q := 101) rfl dX5_whoStepsOut_100 ?_
          refine xv_as (w := nI (sty c n P f ||| (bm (gip c P f) r ||| 2 ^ r))) ((nI_or _ _).trans (by rw [Nat.or_assoc])) ?_
          refine xv_istore_n (q := 102) rfl dX5_whoStepsOut_101 rfl rfl ?_
          refine xv_iinc (q := 105) (v := nI 1) rfl dX5_whoStepsOut_102 rfl rfl ?_
          refine xv_goto (t := 27) rfl dX5_whoStepsOut_105 ?_
          rw [nI_add]
          have := ih (r + 1) (by omega) (by omega)
          have e1 : wok c n dd P f (r + 1) = wok c n dd P f r ||| mus c n dd r (sty c n P f ||| bm (gip c P f) r) := by show _ ||| (if _ then _ else _) = _; rw [hgo, hgi]; rfl
          have e2 : bm (gip c P f) (r + 1) = bm (gip c P f) r ||| 2 ^ r := by show _ ||| (if gip c P f r = true then _ else _) = _; rw [(show gip c P f r = true by have := hgi; unfold gin at this; rw [bm_bit, decide_eq_true hrn, Bool.true_and] at this; exact this)]; rfl
          rw [e1, e2] at this
          exact this
      · have hgo := b01n h50
        refine xv_iload_n (q := 54) rfl dX5_whoStepsOut_53 rfl rfl ?_
        refine xv_aload_n (q := 55) rfl dX5_whoStepsOut_54 rfl rfl ?_
        refine xv_iload (q := 57) rfl dX5_whoStepsOut_55 rfl ?_
        refine xv_aload_n (q := 58) rfl dX5_whoStepsOut_57 rfl rfl ?_
        refine xv_geta (q := 61) rfl dX5_whoStepsOut_58 f_X5_18 (hg.1 _ _ rfl) (hg.2 _ _ _ rfl) ?_
        refine xv_iload_n (q := 62) rfl dX5_whoStepsOut_61 rfl rfl ?_
        refine xv_iald (q := 63) rfl dX5_whoStepsOut_62 (hg.1 _ _ rfl) rfl (by omega) (by decide) ?_
        refine xv_as (w := nI (sty c n P f)) s1 ?_
        refine xv_cV2 (z := mX5_whoMakesWay) (q := 66) rfl dX5_whoStepsOut_63 l_X5_89 gX5_whoMakesWay (hg.1 _ _ rfl) rfl rfl rfl (c_mus (d := d) hg hT hrn) (by omega) ?_
        refine xv_ior (q := 67) rfl dX5_whoStepsOut_66 ?_
        refine xv_as (w := nI (wok c n dd P f r ||| mus c n dd r (sty c n P f))) (nI_or _ _) ?_
        refine xv_istore_n (q := 68) rfl dX5_whoStepsOut_67 rfl rfl ?_
        refine xv_goto (t := 102) rfl dX5_whoStepsOut_68 ?_
        refine xv_iinc (q := 105) (v := nI 1) rfl dX5_whoStepsOut_102 rfl rfl ?_
        refine xv_goto (t := 27) rfl dX5_whoStepsOut_105 ?_
        rw [nI_add]
        have := ih (r + 1) (by omega) (by omega)
        have e1 : wok c n dd P f (r + 1) = wok c n dd P f r ||| mus c n dd r (sty c n P f) := by show _ ||| (if _ then _ else _) = _; rw [hgo]; rfl
        have e2 : bm (gip c P f) (r + 1) = bm (gip c P f) r := by show _ ||| (if gip c P f r = true then _ else _) = _; rw [gou_gip hw hrn hgo]; exact Nat.or_zero _
        rw [e1, e2] at this
        exact this
/-- whoStepsOut(f) -/
theorem c_wso (hg : XG sh R) (hT : TR I n c dd P) {f : Nat} (hf : f < 10) : XC E mX5_whoStepsOut (d + 2) 0 0 [.ref 23, .int (nI f)] sh I R L (xq (some (.int (nI (wso c n dd P f)))) sh I R L) := by
  obtain ⟨⟨hm, hn, hn5, hw⟩, hdd, hd2, hB, hS, hP⟩ := id hT
  obtain ⟨s1, s2, s3⟩ := hS f hf
  refine XC.of (by decide) rfl rfl ?_
  refine xv_iconst (v := nI 0) (q := 1) rfl dX5_whoStepsOut_0 rfl ?_
  refine xv_istore_n (q := 2) rfl dX5_whoStepsOut_1 rfl rfl ?_
  refine xv_aload_n (q := 3) rfl dX5_whoStepsOut_2 rfl rfl ?_
  refine xv_geta (q := 6) rfl dX5_whoStepsOut_3 f_X5_18 (hg.1 _ _ rfl) (hg.2 _ _ _ rfl) ?_
  refine xv_iload_n (q := 7) rfl dX5_whoStepsOut_6 rfl rfl ?_
  refine xv_iald (q := 8) rfl dX5_whoStepsOut_7 (hg.1 _ _ rfl) rfl (by omega) (by decide) ?_
  refine xv_as (w := nI (sty c n P f)) s1 ?_
  refine xv_istore_n (q := 9) rfl dX5_whoStepsOut_8 rfl rfl ?_
  refine xv_iload_n (q := 10) rfl dX5_whoStepsOut_9 rfl rfl ?_
  refine xv_if_ne (q := 13) (t := 24) rfl rfl dX5_whoStepsOut_10 (fun h10 => ?_) (fun h10 => ?_)
  · have h := c_wso_loop (E := E) (d := d) (L := L) hg hT hf (n + 1) 0 (by omega) (by omega)
    rw [show sty c n P f ||| bm (gip c P f) 0 = sty c n P f from Nat.or_zero _] at h
    refine xv_iconst (v := nI 0) (q := 25) rfl dX5_whoStepsOut_24 rfl ?_
    refine xv_istore (q := 27) rfl dX5_whoStepsOut_25 rfl ?_
    exact h
  · refine xv_aload_n (q := 14) rfl dX5_whoStepsOut_13 rfl rfl ?_
    refine xv_geta (q := 17) rfl dX5_whoStepsOut_14 f_X5_25 (hg.1 _ _ rfl) (hg.2 _ _ _ rfl) ?_
    refine xv_iload_n (q := 18) rfl dX5_whoStepsOut_17 rfl rfl ?_
    refine xv_iald (q := 19) rfl dX5_whoStepsOut_18 (hg.1 _ _ rfl) rfl (by omega) (by decide) ?_
    refine xv_as (w := nI (gin c n P f)) s3 ?_
    refine xv_if_ne (q := 22) (t := 24) rfl rfl dX5_whoStepsOut_19 (fun h19 => ?_) (fun h19 => ?_)
    · have h := c_wso_loop (E := E) (d := d) (L := L) hg hT hf (n + 1) 0 (by omega) (by omega)
      rw [show sty c n P f ||| bm (gip c P f) 0 = sty c n P f from Nat.or_zero _] at h
      refine xv_iconst (v := nI 0) (q := 25) rfl dX5_whoStepsOut_24 rfl ?_
      refine xv_istore (q := 27) rfl dX5_whoStepsOut_25 rfl ?_
      exact h
    · refine xv_iconst (v := nI 0) (q := 23) rfl dX5_whoStepsOut_22 rfl ?_
      refine xv_iret dX5_whoStepsOut_23 rfl ?_
      have q1 : sty c n P f = 0 := nIe (b := 0) h10 (by have := bm_32 (stp c P f) hn5; unfold sty; omega) (by decide)
      have q2 : gin c n P f = 0 := nIe (b := 0) h19 (by have := bm_32 (gip c P f) hn5; unfold gin; omega) (by decide)
      exact ⟨by rw [show wso c n dd P f = 0 from wok_0 q1 q2 n], rfl, rfl, rfl, rfl⟩
theorem c_goes (hg : XG sh R) (hT : TR I n c dd P) {f : Nat} (hf : f < 10) : XC E mX5_whoGoesOn d 0 0 [.ref 23, .int (nI f)] sh I R L (xq (some (.int (nI (sty c n P f ||| gin c n P f)))) sh I R L) := by
  obtain ⟨⟨hm, hn, hn5, hw⟩, hdd, hd2, hB, hS, hP⟩ := id hT
  obtain ⟨s1, s2, s3⟩ := hS f hf
  refine XC.of (by decide) rfl rfl ?_
  refine xv_aload_n (q := 1) rfl dX5_whoGoesOn_0 rfl rfl ?_
  refine xv_geta (q := 4) rfl dX5_whoGoesOn_1 f_X5_18 (hg.1 _ _ rfl) (hg.2 _ _ _ rfl) ?_
  refine xv_iload_n (q := 5) rfl dX5_whoGoesOn_4 rfl rfl ?_
  refine xv_iald (q := 6) rfl dX5_whoGoesOn_5 (hg.1 _ _ rfl) rfl (by omega) (by decide) ?_
  refine xv_as (w := nI (sty c n P f)) s1 ?_
  refine xv_aload_n (q := 7) rfl dX5_whoGoesOn_6 rfl rfl ?_
  refine xv_geta (q := 10) rfl dX5_whoGoesOn_7 f_X5_25 (hg.1 _ _ rfl) (hg.2 _ _ _ rfl) ?_
  refine xv_iload_n (q := 11) rfl dX5_whoGoesOn_10 rfl rfl ?_
  refine xv_iald (q := 12) rfl dX5_whoGoesOn_11 (hg.1 _ _ rfl) rfl (by omega) (by decide) ?_
  refine xv_as (w := nI (gin c n P f)) s3 ?_
  refine xv_ior (q := 13) rfl dX5_whoGoesOn_12 ?_
  refine xv_as (w := nI (sty c n P f ||| gin c n P f)) (nI_or _ _) ?_
  refine xv_iret dX5_whoGoesOn_13 rfl ?_
  exact xq_rfl
/-- an asked price: it is the answer, and what is kept stays right -/
def QPr (x : Nat) (n : Nat) (c : CR) (P : Nat) (tv : TV) (sh : XSh) (I : XI) (R : XRf) (L : XL) : XQ := fun v sh' J R' L' => v = some (.int (nI x)) ∧ sh' = sh ∧ R' = R ∧ L' = L ∧ F9 I J ∧ TP J n c P tv
theorem c_price (hg : XG sh R) (hT : TR I n c dd P) (hK : KT sh I R t tv) (hr3 : R 23 1 = some t) (hTP : TP I n c P tv) {part r f ins : Nat} (hp : part < 3) (hr : r < n) (hf : f < 10) (hins : ins = insp c n P part f) : XC E mX5_price (d + 1) 0 0 [.ref 23, .int (nI part), .int (nI r), .int (nI f), .int (nI ins)] sh I R L (QPr (prc c tv part r f (c 5 r / 2) ins) n c P tv sh I R L) := by
  obtain ⟨⟨hm, hn, hn5, hw⟩, hdd, hd2, hB, hS, hP⟩ := id hT
  have hc5 := (hw r hr).2.2.2.2.2.1
  refine XC.of (by decide) rfl rfl ?_
  refine xv_aload_n (q := 1) rfl dX5_price_0 rfl rfl ?_
  refine xv_geto (q := 4) rfl dX5_price_1 f_X5_12 (hg.1 _ _ rfl) (hg.2 _ _ _ rfl) ?_
  refine xv_geta (q := 7) rfl dX5_price_4 f_X5_79 (hg.1 _ _ rfl) (hg.2 _ _ _ rfl) ?_
  refine xv_iload_n (q := 8) rfl dX5_price_7 rfl rfl ?_
  refine xv_iald (q := 9) rfl dX5_price_8 (hg.1 _ _ rfl) rfl (by omega) (by decide) ?_
  refine xv_as (w := nI (c 5 r)) (hm 5 r (by decide) hr) ?_
  refine xv_iconst (v := nI 1) (q := 10) rfl dX5_price_9 rfl ?_
  refine xv_ishr (q := 11) rfl dX5_price_10 ?_
  refine xv_as (w := nI (c 5 r / 2)) (pk_shrN (by omega) _ 1 (by decide)) ?_
  refine xv_istore (q := 13) rfl dX5_price_11 rfl ?_
  refine xv_iload_n (q := 14) rfl dX5_price_13 rfl rfl ?_
  refine xv_iconst (v := nI 5) (q := 15) rfl dX5_price_14 rfl ?_
  refine xv_imul (q := 16) rfl dX5_price_15 ?_
  refine xv_as (w := nI (part * 5)) (pk_mul _ _) ?_
  refine xv_iload_n (q := 17) rfl dX5_price_16 rfl rfl ?_
  refine xv_iadd (q := 18) rfl dX5_price_17 ?_
  refine xv_as (w := nI (part * 5 + r)) (nI_add _ _) ?_
  refine xv_bipush (v := nI 10) (q := 20) rfl dX5_price_18 rfl ?_
  refine xv_imul (q := 21) rfl dX5_price_20 ?_
  refine xv_as (w := nI ((part * 5 + r) * 10)) (pk_mul _ _) ?_
  refine xv_iload_n (q := 22) rfl dX5_price_21 rfl rfl ?_
  refine xv_iadd (q := 23) rfl dX5_price_22 ?_
  refine xv_as (w := nI ((part * 5 + r) * 10 + f)) (nI_add _ _) ?_
  refine xv_iconst (v := nI 3) (q := 24) rfl dX5_price_23 rfl ?_
  refine xv_imul (q := 25) rfl dX5_price_24 ?_
  refine xv_as (w := nI (((part * 5 + r) * 10 + f) * 3)) (pk_mul _ _) ?_
  refine xv_iload (q := 27) rfl dX5_price_25 rfl ?_
  refine xv_iadd (q := 28) rfl dX5_price_27 ?_
  refine xv_as (w := nI (((part * 5 + r) * 10 + f) * 3 + c 5 r / 2)) (nI_add _ _) ?_
  generalize hat : ((part * 5 + r) * 10 + f) * 3 + c 5 r / 2 = at_
  have hat4 : at_ < 450 := by omega
  refine xv_istore (q := 30) rfl dX5_price_28 rfl ?_
  refine xv_iload (q := 32) rfl dX5_price_30 rfl ?_
  refine xv_if_lt (q := 35) (t := 52) rfl rfl dX5_price_32 (fun h32 => ?_) (fun h32 => ?_)
  · exact absurd h32 (nI_pos (by omega))
  · refine xv_iload (q := 37) rfl dX5_price_35 rfl ?_
    refine xv_aload_n (q := 38) rfl dX5_price_37 rfl rfl ?_
    refine xv_geta (q := 41) rfl dX5_price_38 f_X5_34 (hg.1 _ _ rfl) (hg.2 _ _ _ rfl) ?_
    refine xv_alen (q := 42) rfl dX5_price_41 (hg.1 _ _ rfl) (by decide) ?_
    refine xv_icmp_ge (q := 45) (t := 52) rfl rfl dX5_price_42 (fun h42 => ?_) (fun h42 => ?_)
    · exact absurd (nIle h42 (by omega) (by omega)) (by omega)
    · refine xv_aload_n (q := 46) rfl dX5_price_45 rfl rfl ?_
      refine xv_geto (q := 49) rfl dX5_price_46 f_X5_49 (hg.1 _ _ rfl) hr3 ?_
      refine xv_ifnonnull (t := 54) rfl dX5_price_49 ?_
      refine xv_aload_n (q := 55) rfl dX5_price_54 rfl rfl ?_
      refine xv_geta (q := 58) rfl dX5_price_55 f_X5_34 (hg.1 _ _ rfl) (hg.2 _ _ _ rfl) ?_
      refine xv_iload (q := 60) rfl dX5_price_58 rfl ?_
      refine xv_iald (q := 61) rfl dX5_price_60 (hg.1 _ _ rfl) rfl (by omega) (by decide) ?_
      refine xv_iconst (v := (-1)) (q := 62) rfl dX5_price_61 rfl ?_
      refine xv_icmp_ne (q := 65) (t := 157) rfl rfl dX5_price_62 (fun h62 => ?_) (fun h62 => ?_)
      · have hv : I 37 at_ = nI (prc c tv part r f (c 5 r / 2) ins) := by
          have := hTP part r f (c 5 r / 2) hp hr hf (by omega)
          rw [hat, ← hins] at this
          exact this.resolve_left h62
        refine xv_aload_n (q := 158) rfl dX5_price_157 rfl rfl ?_
        refine xv_geta (q := 161) rfl dX5_price_158 f_X5_34 (hg.1 _ _ rfl) (hg.2 _ _ _ rfl) ?_
        refine xv_iload (q := 163) rfl dX5_price_161 rfl ?_
        refine xv_iald (q := 164) rfl dX5_price_163 (hg.1 _ _ rfl) rfl (by omega) (by decide) ?_
        refine xv_as hv ?_
        refine xv_iret dX5_price_164 rfl ?_
        exact ⟨rfl, rfl, rfl, rfl, F9.rf, hTP⟩
      · refine xv_aload_n (q := 66) rfl dX5_price_65 rfl rfl ?_
        refine xv_geta (q := 69) rfl dX5_price_66 f_X5_39 (hg.1 _ _ rfl) (hg.2 _ _ _ rfl) ?_
        refine xv_iconst (v := nI 0) (q := 70) rfl dX5_price_69 rfl ?_
        refine xv_iload_n (q := 71) rfl dX5_price_70 rfl rfl ?_
        refine xv_iast (q := 72) rfl dX5_price_71 (hg.1 _ _ rfl) rfl (by omega) (by decide) ?_
        refine xv_aload_n (q := 73) rfl dX5_price_72 rfl rfl ?_
        refine xv_geta (q := 76) rfl dX5_price_73 f_X5_39 (hg.1 _ _ rfl) (hg.2 _ _ _ rfl) ?_
        refine xv_iconst (v := nI 1) (q := 77) rfl dX5_price_76 rfl ?_
        refine xv_iload_n (q := 78) rfl dX5_price_77 rfl rfl ?_
        refine xv_iast (q := 79) rfl dX5_price_78 (hg.1 _ _ rfl) rfl (by omega) (by decide) ?_
        refine xv_aload_n (q := 80) rfl dX5_price_79 rfl rfl ?_
        refine xv_geta (q := 83) rfl dX5_price_80 f_X5_39 (hg.1 _ _ rfl) (hg.2 _ _ _ rfl) ?_
        refine xv_iconst (v := nI 2) (q := 84) rfl dX5_price_83 rfl ?_
        refine xv_aload_n (q := 85) rfl dX5_price_84 rfl rfl ?_
        refine xv_geto (q := 88) rfl dX5_price_85 f_X5_12 (hg.1 _ _ rfl) (hg.2 _ _ _ rfl) ?_
        refine xv_geta (q := 91) rfl dX5_price_88 f_X5_82 (hg.1 _ _ rfl) (hg.2 _ _ _ rfl) ?_
        refine xv_iload_n (q := 92) rfl dX5_price_91 rfl rfl ?_
        refine xv_iald (q := 93) rfl dX5_price_92 (hg.1 _ _ rfl) rfl (by omega) (by decide) ?_
        refine xv_as (w := nI (c 2 r)) (hm 2 r (by decide) hr) ?_
        refine xv_iast (q := 94) rfl dX5_price_93 (hg.1 _ _ rfl) rfl (by omega) (by decide) ?_
        refine xv_aload_n (q := 95) rfl dX5_price_94 rfl rfl ?_
        refine xv_geta (q := 98) rfl dX5_price_95 f_X5_39 (hg.1 _ _ rfl) (hg.2 _ _ _ rfl) ?_
        refine xv_iconst (v := nI 3) (q := 99) rfl dX5_price_98 rfl ?_
        refine xv_iload (q := 101) rfl dX5_price_99 rfl ?_
        refine xv_iast (q := 102) rfl dX5_price_101 (hg.1 _ _ rfl) rfl (by omega) (by decide) ?_
        refine xv_aload_n (q := 103) rfl dX5_price_102 rfl rfl ?_
        refine xv_geta (q := 106) rfl dX5_price_103 f_X5_39 (hg.1 _ _ rfl) (hg.2 _ _ _ rfl) ?_
        refine xv_iconst (v := nI 4) (q := 107) rfl dX5_price_106 rfl ?_
        refine xv_aload_n (q := 108) rfl dX5_price_107 rfl rfl ?_
        refine xv_geto (q := 111) rfl dX5_price_108 f_X5_12 (hg.1 _ _ rfl) (hg.2 _ _ _ rfl) ?_
        refine xv_geta (q := 114) rfl dX5_price_111 f_X5_119 (hg.1 _ _ rfl) (hg.2 _ _ _ rfl) ?_
        refine xv_iload_n (q := 115) rfl dX5_price_114 rfl rfl ?_
        refine xv_iald (q := 116) rfl dX5_price_115 (hg.1 _ _ rfl) rfl (by omega) (by decide) ?_
        refine xv_as (w := nI (c 1 r)) (hm 1 r (by decide) hr) ?_
        refine xv_iast (q := 117) rfl dX5_price_116 (hg.1 _ _ rfl) rfl (by omega) (by decide) ?_
        refine xv_aload_n (q := 118) rfl dX5_price_117 rfl rfl ?_
        refine xv_geta (q := 121) rfl dX5_price_118 f_X5_39 (hg.1 _ _ rfl) (hg.2 _ _ _ rfl) ?_
        refine xv_iconst (v := nI 5) (q := 122) rfl dX5_price_121 rfl ?_
        refine xv_iload (q := 124) rfl dX5_price_122 rfl ?_
        refine xv_iast (q := 125) rfl dX5_price_124 (hg.1 _ _ rfl) rfl (by omega) (by decide) ?_
        generalize hJ : xi (xi (xi (xi (xi (xi I 38 0 (nI r)) 38 1 (nI f)) 38 2 (nI (c 2 r))) 38 3 (nI (c 5 r / 2))) 38 4 (nI (c 1 r))) 38 5 (nI ins) = J
        have hF : F9 I J := fun k q1 q2 q3 => by rw [← hJ, xi_off _ _ _ _ q2, xi_off _ _ _ _ q2, xi_off _ _ _ _ q2, xi_off _ _ _ _ q2, xi_off _ _ _ _ q2, xi_off _ _ _ _ q2]
        have hJ37 : J 37 = I 37 := by rw [← hJ, xi_off _ _ _ _ (by decide), xi_off _ _ _ _ (by decide), xi_off _ _ _ _ (by decide), xi_off _ _ _ _ (by decide), xi_off _ _ _ _ (by decide), xi_off _ _ _ _ (by decide)]
        have hJ38 : ∀ j, j < 6 → J 38 j = nms c r f (c 5 r / 2) ins j := by
          intro j hj
          rcases k6 hj with rfl | rfl | rfl | rfl | rfl | rfl <;> (rw [← hJ]; simp [xi, upd, nms])
        obtain ⟨ht0, ca, ea, M, hX, hca, hea, hpp⟩ := hK.f9 hF
        obtain ⟨hdp, s, e, hs, hse, he, heM, hcd, hrun⟩ := hpp part hp
        obtain ⟨f', hf1, hf2⟩ := hrun (J 38) (J 39)
        have hv0 : f' 0 = tv part (nms c r f (c 5 r / 2) ins) := hf2.trans (hdp _ _ hJ38)
        refine xv_aload_n (q := 126) rfl dX5_price_125 rfl rfl ?_
        refine xv_geta (q := 129) rfl dX5_price_126 f_X5_34 (hg.1 _ _ rfl) (hg.2 _ _ _ rfl) ?_
        refine xv_iload (q := 131) rfl dX5_price_129 rfl ?_
        refine xv_iconst (v := nI 0) (q := 132) rfl dX5_price_131 rfl ?_
        refine xv_bipush (v := nI 99) (q := 134) rfl dX5_price_132 rfl ?_
        refine xv_aload_n (q := 135) rfl dX5_price_134 rfl rfl ?_
        refine xv_geto (q := 138) rfl dX5_price_135 f_X5_49 (hg.1 _ _ rfl) hr3 ?_
        refine xv_iload_n (q := 139) rfl dX5_price_138 rfl rfl ?_
        refine xv_aload_n (q := 140) rfl dX5_price_139 rfl rfl ?_
        refine xv_geta (q := 143) rfl dX5_price_140 f_X5_39 (hg.1 _ _ rfl) (hg.2 _ _ _ rfl) ?_
        refine xv_aload_n (q := 144) rfl dX5_price_143 rfl rfl ?_
        refine xv_geta (q := 147) rfl dX5_price_144 f_X5_42 (hg.1 _ _ rfl) (hg.2 _ _ _ rfl) ?_
        refine xv_cV3 (z := mX4_worth) (q := 150) rfl dX5_price_147 l_X5_122 gX4_worth hX.1 rfl rfl rfl (c_worth (d := d) hg hX hp hs hse he heM hcd hf1) (by omega) ?_
        refine xv_min (q := 153) rfl dX5_price_150 l_X5_126 rfl (by omega) ?_
        refine xv_max (q := 156) rfl dX5_price_153 l_X5_131 rfl (by omega) ?_
        rw [hv0]
        refine xv_as (w := nI (prc c tv part r f (c 5 r / 2) ins)) (clp_I _) ?_
        refine xv_iast (q := 157) rfl dX5_price_156 (hg.1 _ _ rfl) rfl (by omega) (by decide) ?_
        refine xv_aload_n (q := 158) rfl dX5_price_157 rfl rfl ?_
        refine xv_geta (q := 161) rfl dX5_price_158 f_X5_34 (hg.1 _ _ rfl) (hg.2 _ _ _ rfl) ?_
        refine xv_iload (q := 163) rfl dX5_price_161 rfl ?_
        refine xv_iald (q := 164) rfl dX5_price_163 (hg.1 _ _ rfl) rfl (by omega) (by decide) ?_
        refine xv_as (w := nI (prc c tv part r f (c 5 r / 2) ins)) (xi_eq _ _ _ _) ?_
        refine xv_iret dX5_price_164 rfl ?_
        have h37 : ∀ i, xi (xic J 39 f') 37 at_ (nI (prc c tv part r f (c 5 r / 2) ins)) 37 i = if i = at_ then nI (prc c tv part r f (c 5 r / 2) ins) else I 37 i := by
          intro i
          rw [xi_row]
          show (if i = at_ then _ else (xic J 39 f') 37 i) = _
          rw [xic_off _ _ _ (by decide), hJ37]
        refine ⟨rfl, rfl, rfl, rfl, fun k q1 q2 q3 => by rw [xi_off _ _ _ _ q1, xic_off _ _ _ q3]; exact hF k q1 q2 q3, fun part' r' f'' row' k1 k2 k3 k4 => ?_⟩
        rw [h37]
        split
        next e =>
          have hr5 : r' < 5 := by omega
          have hrow : c 5 r / 2 < 3 := by omega
          obtain ⟨rfl, rfl, rfl, rfl⟩ : part' = part ∧ r' = r ∧ f'' = f ∧ row' = c 5 r / 2 := by omega
          exact Or.inr (by rw [hins])
        next e => exact hTP part' r' f'' row' k1 k2 k3 k4
theorem c_move (hg : XG sh R) (hT : TR I n c dd P) (hK : KT sh I R t tv) (hr3 : R 23 1 = some t) (hTP : TP I n c P tv) {r : Nat} (hr : r < n) : XC E mX5_costToMove (d + 2) 0 0 [.ref 23, .int (nI r)] sh I R L (QPr (prc c tv 2 r (c 3 r) (c 5 r / 2) 0) n c P tv sh I R L) := by
  obtain ⟨⟨hm, hn, hn5, hw⟩, hdd, hd2, hB, hS, hP⟩ := id hT
  refine XC.of (by decide) rfl rfl ?_
  refine xv_aload_n (q := 1) rfl dX5_costToMove_0 rfl rfl ?_
  refine xv_iconst (v := nI 2) (q := 2) rfl dX5_costToMove_1 rfl ?_
  refine xv_iload_n (q := 3) rfl dX5_costToMove_2 rfl rfl ?_
  refine xv_aload_n (q := 4) rfl dX5_costToMove_3 rfl rfl ?_
  refine xv_geto (q := 7) rfl dX5_costToMove_4 f_X5_12 (hg.1 _ _ rfl) (hg.2 _ _ _ rfl) ?_
  refine xv_geta (q := 10) rfl dX5_costToMove_7 f_X5_67 (hg.1 _ _ rfl) (hg.2 _ _ _ rfl) ?_
  refine xv_iload_n (q := 11) rfl dX5_costToMove_10 rfl rfl ?_
  refine xv_iald (q := 12) rfl dX5_costToMove_11 (hg.1 _ _ rfl) rfl (by omega) (by decide) ?_
  refine xv_as (w := nI (c 3 r)) (hm 3 r (by decide) hr) ?_
  refine xv_iconst (v := nI 0) (q := 13) rfl dX5_costToMove_12 rfl ?_
  refine xv_rV4 (z := mX5_price) (q := 16) rfl dX5_costToMove_13 l_X5_102 gX5_price (hg.1 _ _ rfl) rfl rfl rfl (c_price (d := d) (ins := 0) hg hT hK hr3 hTP (show 2 < 3 by decide) hr (show c 3 r < 10 by have := (hw r hr).2.2.2.1; omega) rfl) (by omega) ?_
  rintro _ _ K _ _ ⟨rfl, rfl, rfl, rfl, g1, g2⟩
  refine xv_iret dX5_costToMove_16 rfl ?_
  exact ⟨rfl, rfl, rfl, rfl, g1, g2⟩
theorem c_costAt_loop (hg : XG sh R) (hT : TR I n c dd P) (hK : KT sh I R t tv) (hr3 : R 23 1 = some t) {f out : Nat} (hf : f < 10) (ho : out < 32) (ho0 : ¬ out = 0) : ∀ (k r : Nat) (J : XI), r ≤ n → n < r + k → F9 I J → TP J n c P tv → XV E mX5_costAt (d + 2) 0 0 (QPr (cta c n P f tv out) n c P tv sh I R L) 0 0 29 [some (.ref 23), some (.int (nI f)), some (.int (nI out)), some (.int (nI (insd c n P f))), some (.int (nI (ctk c n P f tv out r))), some (.int (nI r))] [] sh J R L := by
  have hcr := xg_crew hg (a := 24) (Or.inr (Or.inr rfl))
  intro k
  induction k with
  | zero => intro r J h1 h2; exact absurd h2 (by omega)
  | succ k ih =>
    intro r J h1 h2 hF hTP
    have hTJ := hT.mv hF
    have hKJ := hK.f9 hF
    obtain ⟨⟨hm, hn, hn5, hw⟩, hdd, hd2, hB, hS, hP⟩ := id hTJ
    obtain ⟨s1, s2, s3⟩ := hS f hf
    refine xv_iload (q := 31) rfl dX5_costAt_29 rfl ?_
    refine xv_aload_n (q := 32) rfl dX5_costAt_31 rfl rfl ?_
    refine xv_geto (q := 35) rfl dX5_costAt_32 f_X5_12 (hg.1 _ _ rfl) (hg.2 _ _ _ rfl) ?_
    refine xv_geti (q := 38) rfl dX5_costAt_35 f_X5_53 (hg.1 _ _ rfl) ?_
    rw [hn]
    refine xv_icmp_ge (q := 41) (t := 110) rfl rfl dX5_costAt_38 (fun h38 => ?_) (fun h38 => ?_)
    · have hrn : r = n := by have := nIle h38 (by omega) (by omega); omega
      refine xv_iload (q := 112) rfl dX5_costAt_110 rfl ?_
      refine xv_iret dX5_costAt_112 rfl ?_
      exact ⟨by rw [hrn, show cta c n P f tv out = ctk c n P f tv out n from if_neg ho0], rfl, rfl, rfl, hF, hTP⟩
    · have hrn : r < n := nInle h38 (by omega) (by omega)
      refine xv_iload_n (q := 42) rfl dX5_costAt_41 rfl rfl ?_
      refine xv_iload (q := 44) rfl dX5_costAt_42 rfl ?_
      refine xv_ishr (q := 45) rfl dX5_costAt_44 ?_
      refine xv_iconst (v := nI 1) (q := 46) rfl dX5_costAt_45 rfl ?_
      refine xv_iand (q := 47) rfl dX5_costAt_46 ?_
      refine xv_as (w := nI (b01 (out.testBit r))) (shb _ ho r (by omega)) ?_
      refine xv_if_eq (q := 50) (t := 76) rfl rfl dX5_costAt_47 (fun h47 => ?_) (fun h47 => ?_)
      · have hb := b01z h47
        refine xv_aload_n (q := 77) rfl dX5_costAt_76 rfl rfl ?_
        refine xv_geta (q := 80) rfl dX5_costAt_77 f_X5_18 (hg.1 _ _ rfl) (hg.2 _ _ _ rfl) ?_
        refine xv_iload_n (q := 81) rfl dX5_costAt_80 rfl rfl ?_
        refine xv_iald (q := 82) rfl dX5_costAt_81 (hg.1 _ _ rfl) rfl (by omega) (by decide) ?_
        refine xv_as (w := nI (sty c n P f)) s1 ?_
        refine xv_iload (q := 84) rfl dX5_costAt_82 rfl ?_
        refine xv_ishr (q := 85) rfl dX5_costAt_84 ?_
        refine xv_iconst (v := nI 1) (q := 86) rfl dX5_costAt_85 rfl ?_
        refine xv_iand (q := 87) rfl dX5_costAt_86 ?_
        refine xv_as (w := nI (b01 ((sty c n P f).testBit r))) (shb _ (bm_32 _ hn5) r (by omega)) ?_
        refine xv_if_eq (q := 90) (t := 104) rfl rfl dX5_costAt_87 (fun h87 => ?_) (fun h87 => ?_)
        · have hb2 := b01z h87
          refine xv_iinc (q := 107) (v := nI 1) rfl dX5_costAt_104 rfl rfl ?_
          refine xv_goto (t := 29) rfl dX5_costAt_107 ?_
          rw [nI_add]
          have := ih (r + 1) J (by omega) (by omega) hF hTP
          rw [show ctk c n P f tv out (r + 1) = ctk c n P f tv out r from by show _ + (if _ then _ else _) = _; rw [hb, hb2]; rfl] at this
          exact this
        · have hb2 := b01n h87
          refine xv_iload (q := 92) rfl dX5_costAt_90 rfl ?_
          refine xv_aload_n (q := 93) rfl dX5_costAt_92 rfl rfl ?_
          refine xv_iconst (v := nI 1) (q := 94) rfl dX5_costAt_93 rfl ?_
          refine xv_iload (q := 96) rfl dX5_costAt_94 rfl ?_
          refine xv_iload_n (q := 97) rfl dX5_costAt_96 rfl rfl ?_
          refine xv_iload_n (q := 98) rfl dX5_costAt_97 rfl rfl ?_
          refine xv_rV4 (z := mX5_price) (q := 101) rfl dX5_costAt_98 l_X5_102 gX5_price (hg.1 _ _ rfl) rfl rfl rfl (c_price (d := d) (part := 1) (ins := insd c n P f) hg hTJ hKJ hr3 hTP (by decide) hrn hf rfl) (by omega) ?_
          rintro _ _ K _ _ ⟨rfl, rfl, rfl, rfl, g1, g2⟩
          refine xv_iadd (q := 102) rfl dX5_costAt_101 ?_
          refine xv_as (w := nI (ctk c n P f tv out r + prc c tv 1 r f (c 5 r / 2) (insd c n P f))) (nI_add _ _) ?_
          refine xv_istore (q := 104) rfl dX5_costAt_102 rfl ?_
          refine xv_iinc (q := 107) (v := nI 1) rfl dX5_costAt_104 rfl rfl ?_
          refine xv_goto (t := 29) rfl dX5_costAt_107 ?_
          rw [nI_add]
          have := ih (r + 1) K (by omega) (by omega) (hF.trans g1) g2
          rw [show ctk c n P f tv out (r + 1) = ctk c n P f tv out r + prc c tv 1 r f (c 5 r / 2) (insd c n P f) from by show _ + (if _ then _ else _) = _; rw [hb, hb2]; rfl] at this
          exact this
      · have hb := b01n h47
        refine xv_iload (q := 52) rfl dX5_costAt_50 rfl ?_
        refine xv_aload_n (q := 53) rfl dX5_costAt_52 rfl rfl ?_
        refine xv_geto (q := 56) rfl dX5_costAt_53 f_X5_12 (hg.1 _ _ rfl) (hg.2 _ _ _ rfl) ?_
        refine xv_iload (q := 58) rfl dX5_costAt_56 rfl ?_
        refine xv_aload_n (q := 59) rfl dX5_costAt_58 rfl rfl ?_
        refine xv_iconst (v := nI 0) (q := 60) rfl dX5_costAt_59 rfl ?_
        refine xv_iload (q := 62) rfl dX5_costAt_60 rfl ?_
        refine xv_iload_n (q := 63) rfl dX5_costAt_62 rfl rfl ?_
        refine xv_iload_n (q := 64) rfl dX5_costAt_63 rfl rfl ?_
        refine xv_rV4 (z := mX5_price) (q := 67) rfl dX5_costAt_64 l_X5_102 gX5_price (hg.1 _ _ rfl) rfl rfl rfl (c_price (d := d) (part := 0) (ins := insd c n P f) hg hTJ hKJ hr3 hTP (by decide) hrn hf rfl) (by omega) ?_
        rintro _ _ K _ _ ⟨rfl, rfl, rfl, rfl, g1, g2⟩
        have hTK := hTJ.mv g1
        refine xv_cV2 (z := mX0_costToStepOut) (q := 70) rfl dX5_costAt_67 l_X5_106 gX0_costToStepOut (hg.1 _ _ rfl) rfl rfl rfl (c_costTo (d := d) (k := c 0 r) hcr hTK.1.1 hn5 hrn rfl (hw r hrn).1 _) (by omega) ?_
        refine xv_as (w := nI (csn c r (prc c tv 0 r f (c 5 r / 2) (insd c n P f)))) (cst_csn (hw r hrn).1 (prc_99 _ _ _ _ _ _ _)) ?_
        refine xv_iadd (q := 71) rfl dX5_costAt_70 ?_
        refine xv_as (w := nI (ctk c n P f tv out r + csn c r (prc c tv 0 r f (c 5 r / 2) (insd c n P f)))) (nI_add _ _) ?_
        refine xv_istore (q := 73) rfl dX5_costAt_71 rfl ?_
        refine xv_goto (t := 104) rfl dX5_costAt_73 ?_
        refine xv_iinc (q := 107) (v := nI 1) rfl dX5_costAt_104 rfl rfl ?_
        refine xv_goto (t := 29) rfl dX5_costAt_107 ?_
        rw [nI_add]
        have := ih (r + 1) K (by omega) (by omega) (hF.trans g1) g2
        rw [show ctk c n P f tv out (r + 1) = ctk c n P f tv out r + csn c r (prc c tv 0 r f (c 5 r / 2) (insd c n P f)) from by show _ + (if _ then _ else _) = _; rw [hb]; rfl] at this
        exact this
/-- costAt(f, out) -/
theorem c_costAt (hg : XG sh R) (hT : TR I n c dd P) (hK : KT sh I R t tv) (hr3 : R 23 1 = some t) (hTP : TP I n c P tv) {f out : Nat} (hf : f < 10) (ho : out < 32) : XC E mX5_costAt (d + 2) 0 0 [.ref 23, .int (nI f), .int (nI out)] sh I R L (QPr (cta c n P f tv out) n c P tv sh I R L) := by
  obtain ⟨⟨hm, hn, hn5, hw⟩, hdd, hd2, hB, hS, hP⟩ := id hT
  obtain ⟨s1, s2, s3⟩ := hS f hf
  refine XC.of (by decide) rfl rfl ?_
  refine xv_iload_n (q := 1) rfl dX5_costAt_0 rfl rfl ?_
  refine xv_if_ne (q := 4) (t := 6) rfl rfl dX5_costAt_1 (fun h1 => ?_) (fun h1 => ?_)
  · have h1 : ¬ out = 0 := fun q => h1 (by rw [q]; rfl)
    refine xv_aload_n (q := 7) rfl dX5_costAt_6 rfl rfl ?_
    refine xv_geta (q := 10) rfl dX5_costAt_7 f_X5_18 (hg.1 _ _ rfl) (hg.2 _ _ _ rfl) ?_
    refine xv_iload_n (q := 11) rfl dX5_costAt_10 rfl rfl ?_
    refine xv_iald (q := 12) rfl dX5_costAt_11 (hg.1 _ _ rfl) rfl (by omega) (by decide) ?_
    refine xv_as (w := nI (sty c n P f)) s1 ?_
    refine xv_aload_n (q := 13) rfl dX5_costAt_12 rfl rfl ?_
    refine xv_geta (q := 16) rfl dX5_costAt_13 f_X5_22 (hg.1 _ _ rfl) (hg.2 _ _ _ rfl) ?_
    refine xv_iload_n (q := 17) rfl dX5_costAt_16 rfl rfl ?_
    refine xv_iald (q := 18) rfl dX5_costAt_17 (hg.1 _ _ rfl) rfl (by omega) (by decide) ?_
    refine xv_as (w := nI (gou c n P f)) s2 ?_
    refine xv_ior (q := 19) rfl dX5_costAt_18 ?_
    refine xv_as (w := nI (sty c n P f ||| gou c n P f)) (nI_or _ _) ?_
    refine xv_cS1 (z := mJ6_bitCount_0f7a4) (q := 22) rfl dX5_costAt_19 l_X5_96 gJ6_bitCount_0f7a4 rfl (c_bitCount (d := d) (p5 (Nat.or_lt_two_pow (bm_lt _ n) (bm_lt _ n)) hn5)) (by omega) ?_
    refine xv_istore_n (q := 23) rfl dX5_costAt_22 rfl rfl ?_
    refine xv_iconst (v := nI 0) (q := 24) rfl dX5_costAt_23 rfl ?_
    refine xv_istore (q := 26) rfl dX5_costAt_24 rfl ?_
    refine xv_iconst (v := nI 0) (q := 27) rfl dX5_costAt_26 rfl ?_
    refine xv_istore (q := 29) rfl dX5_costAt_27 rfl ?_
    exact c_costAt_loop hg hT hK hr3 hf ho h1 (n + 1) 0 I (by omega) (by omega) F9.rf hTP
  · have h1 : out = 0 := nIe (b := 0) h1 (by omega) (by decide)
    refine xv_iconst (v := nI 0) (q := 5) rfl dX5_costAt_4 rfl ?_
    refine xv_iret dX5_costAt_5 rfl ?_
    exact ⟨by rw [show cta c n P f tv out = 0 from if_pos h1], rfl, rfl, rfl, F9.rf, hTP⟩
/-- costBelow: the ride's first k floors, all or beyond the limit -/
def QCb (lim : Int32) (n : Nat) (c : CR) (dd P : Nat) (tv : TV) (sh : XSh) (I : XI) (R : XRf) (L : XL) : XQ := fun v sh' J R' L' => (∃ k, k ≤ 10 ∧ v = some (.int (nI (rdk c n dd P tv k))) ∧ (k = 10 ∨ lim ≤ nI (rdk c n dd P tv k))) ∧ sh' = sh ∧ R' = R ∧ L' = L ∧ F9 I J ∧ TP J n c P tv
theorem c_below_loop (hg : XG sh R) (hT : TR I n c dd P) (hK : KT sh I R t tv) (hr3 : R 23 1 = some t) (lim : Int32) : ∀ (k f : Nat) (J : XI), f ≤ 10 → 10 < f + k → F9 I J → TP J n c P tv → XV E mX5_costBelow (d + 3) 0 0 (QCb lim n c dd P tv sh I R L) 0 0 4 [some (.ref 23), some (.int lim), some (.int (nI (rdk c n dd P tv f))), some (.int (nI f))] [] sh J R L := by
  intro k
  induction k with
  | zero => intro f J h1 h2; exact absurd h2 (by omega)
  | succ k ih =>
    intro f J h1 h2 hF hTP
    have hTJ := hT.mv hF
    have hKJ := hK.f9 hF
    refine xv_iload_n (q := 5) rfl dX5_costBelow_4 rfl rfl ?_
    refine xv_bipush (v := nI 10) (q := 7) rfl dX5_costBelow_5 rfl ?_
    refine xv_icmp_ge (q := 10) (t := 34) rfl rfl dX5_costBelow_7 (fun h7 => ?_) (fun h7 => ?_)
    · have hf : f = 10 := by have := nIle h7 (by omega) (by omega); omega
      refine xv_iload_n (q := 35) rfl dX5_costBelow_34 rfl rfl ?_
      refine xv_iret dX5_costBelow_35 rfl ?_
      exact ⟨⟨f, by omega, rfl, Or.inl hf⟩, rfl, rfl, rfl, hF, hTP⟩
    · have hf : f < 10 := nInle h7 (by omega) (by omega)
      refine xv_iload_n (q := 11) rfl dX5_costBelow_10 rfl rfl ?_
      refine xv_iload_n (q := 12) rfl dX5_costBelow_11 rfl rfl ?_
      refine xv_icmp_ge (q := 15) (t := 34) rfl rfl dX5_costBelow_12 (fun h12 => ?_) (fun h12 => ?_)
      · refine xv_iload_n (q := 35) rfl dX5_costBelow_34 rfl rfl ?_
        refine xv_iret dX5_costBelow_35 rfl ?_
        exact ⟨⟨f, by omega, rfl, Or.inr h12⟩, rfl, rfl, rfl, hF, hTP⟩
      · refine xv_iload_n (q := 16) rfl dX5_costBelow_15 rfl rfl ?_
        refine xv_aload_n (q := 17) rfl dX5_costBelow_16 rfl rfl ?_
        refine xv_iload_n (q := 18) rfl dX5_costBelow_17 rfl rfl ?_
        refine xv_aload_n (q := 19) rfl dX5_costBelow_18 rfl rfl ?_
        refine xv_iload_n (q := 20) rfl dX5_costBelow_19 rfl rfl ?_
        refine xv_cV1 (z := mX5_whoStepsOut) (q := 23) rfl dX5_costBelow_20 l_X5_113 gX5_whoStepsOut (hg.1 _ _ rfl) rfl rfl rfl (c_wso (d := d) hg hTJ hf) (by omega) ?_
        refine xv_rV2 (z := mX5_costAt) (q := 26) rfl dX5_costBelow_23 l_X5_116 gX5_costAt (hg.1 _ _ rfl) rfl rfl rfl (c_costAt (d := d) hg hTJ hKJ hr3 hTP hf (p5 (wso_lt c n dd P f) hTJ.1.2.2.1)) (by omega) ?_
        rintro _ _ K _ _ ⟨rfl, rfl, rfl, rfl, g1, g2⟩
        refine xv_iadd (q := 27) rfl dX5_costBelow_26 ?_
        refine xv_as (w := nI (rdk c n dd P tv (f + 1))) (nI_add _ _) ?_
        refine xv_istore_n (q := 28) rfl dX5_costBelow_27 rfl rfl ?_
        refine xv_iinc (q := 31) (v := nI 1) rfl dX5_costBelow_28 rfl rfl ?_
        refine xv_goto (t := 4) rfl dX5_costBelow_31 ?_
        rw [nI_add]
        exact ih (f + 1) K (by omega) (by omega) (hF.trans g1) g2
theorem c_below (hg : XG sh R) (hT : TR I n c dd P) (hK : KT sh I R t tv) (hr3 : R 23 1 = some t) (hTP : TP I n c P tv) (lim : Int32) : XC E mX5_costBelow (d + 3) 0 0 [.ref 23, .int lim] sh I R L (QCb lim n c dd P tv sh I R L) := by
  refine XC.of (by decide) rfl rfl ?_
  refine xv_iconst (v := nI 0) (q := 1) rfl dX5_costBelow_0 rfl ?_
  refine xv_istore_n (q := 2) rfl dX5_costBelow_1 rfl rfl ?_
  refine xv_iconst (v := nI 0) (q := 3) rfl dX5_costBelow_2 rfl ?_
  refine xv_istore_n (q := 4) rfl dX5_costBelow_3 rfl rfl ?_
  exact c_below_loop hg hT hK hr3 lim 11 0 I (by omega) (by omega) F9.rf hTP
theorem c_cost (hg : XG sh R) (hT : TR I n c dd P) (hK : KT sh I R t tv) (hr3 : R 23 1 = some t) (hTP : TP I n c P tv) : XC E mX5_cost (d + 4) 0 0 [.ref 23] sh I R L (QPr (rdc c n dd P tv) n c P tv sh I R L) := by
  refine XC.of (by decide) rfl rfl ?_
  refine xv_aload_n (q := 1) rfl dX5_cost_0 rfl rfl ?_
  refine xv_ldc (q := 3) rfl dX5_cost_1 k_X5_109 ?_
  refine xv_rV1 (z := mX5_costBelow) (q := 6) rfl dX5_cost_3 l_X5_110 gX5_costBelow (hg.1 _ _ rfl) rfl rfl rfl (c_below (d := d) hg hT hK hr3 hTP _) (by omega) ?_
  rintro _ _ K _ _ ⟨⟨k, k1, rfl, k2⟩, rfl, rfl, rfl, g1, g2⟩
  refine xv_iret dX5_cost_6 rfl ?_
  have hle := rdk_le (dd := dd) (P := P) (tv := tv) (c := c) (fun r hr => (hT.1.2.2.2 r hr).2.2.1) hT.1.2.2.1 k
  have hk : k = 10 := k2.resolve_right (fun q => by
    have := Int32.le_iff_toInt_le.mp q
    rw [nI_toInt (by omega), show (2147483647 : Int32).toInt = 2147483647 by decide] at this
    omega)
  rw [hk]
  exact ⟨rfl, rfl, rfl, rfl, g1, g2⟩
theorem c_steps_loop (hg : XG sh R) (hT : TR I n c dd P) : ∀ (k f : Nat), f ≤ 10 → 10 < f + k → XV E mX5_steps (d + 3) 0 0 (xq (some (.int (nI (spk c n dd P 10)))) sh I R L) 0 0 4 [some (.ref 23), some (.int (nI (spk c n dd P f))), some (.int (nI f))] [] sh I R L := by
  intro k
  induction k with
  | zero => intro f h1 h2; exact absurd h2 (by omega)
  | succ k ih =>
    intro f h1 h2
    refine xv_iload_n (q := 5) rfl dX5_steps_4 rfl rfl ?_
    refine xv_bipush (v := nI 10) (q := 7) rfl dX5_steps_5 rfl ?_
    refine xv_icmp_ge (q := 10) (t := 27) rfl rfl dX5_steps_7 (fun h7 => ?_) (fun h7 => ?_)
    · have hf : f = 10 := by have := nIle h7 (by omega) (by omega); omega
      subst hf
      refine xv_iload_n (q := 28) rfl dX5_steps_27 rfl rfl ?_
      refine xv_iret dX5_steps_28 rfl ?_
      exact xq_rfl
    · have hf : f < 10 := nInle h7 (by omega) (by omega)
      refine xv_iload_n (q := 11) rfl dX5_steps_10 rfl rfl ?_
      refine xv_aload_n (q := 12) rfl dX5_steps_11 rfl rfl ?_
      refine xv_iload_n (q := 13) rfl dX5_steps_12 rfl rfl ?_
      refine xv_cV1 (z := mX5_whoStepsOut) (q := 16) rfl dX5_steps_13 l_X5_113 gX5_whoStepsOut (hg.1 _ _ rfl) rfl rfl rfl (c_wso (d := d) hg hT hf) (by omega) ?_
      refine xv_cS1 (z := mJ6_bitCount_0f7a4) (q := 19) rfl dX5_steps_16 l_X5_96 gJ6_bitCount_0f7a4 rfl (c_bitCount (d := d) (p5 (wso_lt c n dd P f) hT.1.2.2.1)) (by omega) ?_
      refine xv_iadd (q := 20) rfl dX5_steps_19 ?_
      refine xv_as (w := nI (spk c n dd P (f + 1))) (nI_add _ _) ?_
      refine xv_istore_n (q := 21) rfl dX5_steps_20 rfl rfl ?_
      refine xv_iinc (q := 24) (v := nI 1) rfl dX5_steps_21 rfl rfl ?_
      refine xv_goto (t := 4) rfl dX5_steps_24 ?_
      rw [nI_add]
      exact ih (f + 1) (by omega) (by omega)
theorem c_steps (hg : XG sh R) (hT : TR I n c dd P) : XC E mX5_steps (d + 3) 0 0 [.ref 23] sh I R L (xq (some (.int (nI (spk c n dd P 10)))) sh I R L) := by
  refine XC.of (by decide) rfl rfl ?_
  refine xv_iconst (v := nI 0) (q := 1) rfl dX5_steps_0 rfl ?_
  refine xv_istore_n (q := 2) rfl dX5_steps_1 rfl rfl ?_
  refine xv_iconst (v := nI 0) (q := 3) rfl dX5_steps_2 rfl ?_
  refine xv_istore_n (q := 4) rfl dX5_steps_3 rfl rfl ?_
  exact c_steps_loop hg hT 11 0 (by omega) (by omega)
theorem c_flo_loop (hg : XG sh R) (hT : TR I n c dd P) : ∀ (k f : Nat), f ≤ 10 → 10 < f + k → XV E mX5_floorsWithSteps (d + 3) 0 0 (xq (some (.int (nI (flk c n dd P 10)))) sh I R L) 0 0 4 [some (.ref 23), some (.int (nI (flk c n dd P f))), some (.int (nI f))] [] sh I R L := by
  intro k
  induction k with
  | zero => intro f h1 h2; exact absurd h2 (by omega)
  | succ k ih =>
    intro f h1 h2
    refine xv_iload_n (q := 5) rfl dX5_floorsWithSteps_4 rfl rfl ?_
    refine xv_bipush (v := nI 10) (q := 7) rfl dX5_floorsWithSteps_5 rfl ?_
    refine xv_icmp_ge (q := 10) (t := 30) rfl rfl dX5_floorsWithSteps_7 (fun h7 => ?_) (fun h7 => ?_)
    · have hf : f = 10 := by have := nIle h7 (by omega) (by omega); omega
      subst hf
      refine xv_iload_n (q := 31) rfl dX5_floorsWithSteps_30 rfl rfl ?_
      refine xv_iret dX5_floorsWithSteps_31 rfl ?_
      exact xq_rfl
    · have hf : f < 10 := nInle h7 (by omega) (by omega)
      refine xv_aload_n (q := 11) rfl dX5_floorsWithSteps_10 rfl rfl ?_
      refine xv_iload_n (q := 12) rfl dX5_floorsWithSteps_11 rfl rfl ?_
      refine xv_cV1 (z := mX5_whoStepsOut) (q := 15) rfl dX5_floorsWithSteps_12 l_X5_113 gX5_whoStepsOut (hg.1 _ _ rfl) rfl rfl rfl (c_wso (d := d) hg hT hf) (by omega) ?_
      refine xv_if_eq (q := 18) (t := 24) rfl rfl dX5_floorsWithSteps_15 (fun h15 => ?_) (fun h15 => ?_)
      · have hz : wso c n dd P f = 0 := nIe (b := 0) h15 (by have := p5 (wso_lt c n dd P f) hT.1.2.2.1; omega) (by decide)
        refine xv_iinc (q := 27) (v := nI 1) rfl dX5_floorsWithSteps_24 rfl rfl ?_
        refine xv_goto (t := 4) rfl dX5_floorsWithSteps_27 ?_
        rw [nI_add]
        have := ih (f + 1) (by omega) (by omega)
        rw [show flk c n dd P (f + 1) = flk c n dd P f from (by show _ ||| (if _ then _ else _) = _; rw [if_pos hz]; exact Nat.or_zero _)] at this
        exact this
      · have hz : ¬ wso c n dd P f = 0 := fun q => h15 (by rw [q]; rfl)
        refine xv_iload_n (q := 19) rfl dX5_floorsWithSteps_18 rfl rfl ?_
        refine xv_iconst (v := nI 1) (q := 20) rfl dX5_floorsWithSteps_19 rfl ?_
        refine xv_iload_n (q := 21) rfl dX5_floorsWithSteps_20 rfl rfl ?_
        refine xv_ishl (q := 22) rfl dX5_floorsWithSteps_21 ?_
        refine xv_as (w := nI (2 ^ f)) (sh1 f (by omega)) ?_
        refine xv_ior (q := 23) rfl dX5_floorsWithSteps_22 ?_
        refine xv_as (w := nI (flk c n dd P f ||| 2 ^ f)) (nI_or _ _) ?_
        refine xv_istore_n (q := 24) rfl dX5_floorsWithSteps_23 rfl rfl ?_
        refine xv_iinc (q := 27) (v := nI 1) rfl dX5_floorsWithSteps_24 rfl rfl ?_
        refine xv_goto (t := 4) rfl dX5_floorsWithSteps_27 ?_
        rw [nI_add]
        have := ih (f + 1) (by omega) (by omega)
        rw [show flk c n dd P (f + 1) = flk c n dd P f ||| 2 ^ f from (by show _ ||| (if _ then _ else _) = _; rw [if_neg hz])] at this
        exact this
theorem c_flo (hg : XG sh R) (hT : TR I n c dd P) : XC E mX5_floorsWithSteps (d + 3) 0 0 [.ref 23] sh I R L (xq (some (.int (nI (flk c n dd P 10)))) sh I R L) := by
  refine XC.of (by decide) rfl rfl ?_
  refine xv_iconst (v := nI 0) (q := 1) rfl dX5_floorsWithSteps_0 rfl ?_
  refine xv_istore_n (q := 2) rfl dX5_floorsWithSteps_1 rfl rfl ?_
  refine xv_iconst (v := nI 0) (q := 3) rfl dX5_floorsWithSteps_2 rfl ?_
  refine xv_istore_n (q := 4) rfl dX5_floorsWithSteps_3 rfl rfl ?_
  exact c_flo_loop hg hT 11 0 (by omega) (by omega)
end ASK

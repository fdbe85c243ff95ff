/-! the model: who steps out at a floor, what it costs, a ride -/
def wa (c : CR) (n dd P f : Nat) : Nat → Nat
  | 0 => 0
  | k + 1 => wa c n dd P f k ||| (if gop c P f k = true then mus c n dd k (sty c n P f) else 0)
def wb (c : CR) (n dd P f : Nat) : Nat → Nat
  | 0 => 0
  | k + 1 => wb c n dd P f k ||| (if gip c P f k = true then mus c n dd k (sty c n P f ||| bm (gip c P f) k) else 0)
theorem wok_ab {c : CR} {n dd P f : Nat} (hw : wfn c n) : ∀ k, k ≤ n → wok c n dd P f k = wa c n dd P f k ||| wb c n dd P f k
  | 0, _ => show (0 : Nat) = 0 ||| 0 by decide
  | k + 1, hk => by
    have zh7 := (hw k (by omega)).2.2.2.2.2.2.2
    have ze1 : (gou c n P f).testBit k = gop c P f k := by unfold gou; rw [bm_bit, decide_eq_true (show k < n by omega), Bool.true_and]
    have ze2 : (gin c n P f).testBit k = gip c P f k := by unfold gin; rw [bm_bit, decide_eq_true (show k < n by omega), Bool.true_and]
    show wok c n dd P f k ||| _ = (wa c n dd P f k ||| _) ||| (wb c n dd P f k ||| _)
    rw [wok_ab hw k (by omega), ze1, ze2]
    cases h : gop c P f k with
    | true =>
      have zh2 : gip c P f k = false := by
        unfold gop at h
        rw [Bool.and_eq_true_iff, decide_eq_true_iff] at h
        unfold gip
        rw [decide_eq_false (by omega), Bool.and_false]
      rw [if_pos rfl, if_pos rfl, zh2, if_neg (by decide), Nat.or_zero, Nat.or_assoc, Nat.or_assoc, Nat.or_comm (wb c n dd P f k)]
    | false => simp only [Bool.false_eq_true, if_false, Nat.or_zero, Nat.or_assoc]
theorem wa_lt (c : CR) (n dd P f : Nat) : ∀ k, wa c n dd P f k < 2 ^ n
  | 0 => Nat.two_pow_pos n
  | k + 1 => by
    refine Nat.or_lt_two_pow (wa_lt c n dd P f k) ?_
    split
    · exact mus_lt _ _ _ _ _
    · exact Nat.two_pow_pos n
theorem mus_sub {c : CR} {n dd r s i : Nat} (h : (mus c n dd r s).testBit i = true) : s.testBit i = true := by
  unfold mus at h
  split at h <;> (rw [Nat.testBit_and, Bool.and_eq_true_iff] at h; exact h.2)
theorem wok_sub {c : CR} {n dd P f i : Nat} : ∀ {k}, k ≤ n → (wok c n dd P f k).testBit i = true → stp c P f i = true ∨ gip c P f i = true
  | 0, _, h => by rw [show wok c n dd P f 0 = 0 from rfl, Nat.zero_testBit] at h; cases h
  | k + 1, hk, h => by
    rw [show wok c n dd P f (k + 1) = wok c n dd P f k ||| _ from rfl, Nat.testBit_or, Bool.or_eq_true] at h
    rcases h with h | h
    · exact wok_sub (by omega) h
    · split at h
      · have := mus_sub h
        unfold sty at this
        rw [bm_bit, Bool.and_eq_true_iff] at this
        exact Or.inl this.2
      · split at h
        · have := mus_sub h
          unfold sty at this
          rw [Nat.testBit_or, bm_bit, bm_bit, Bool.or_eq_true, Bool.and_eq_true_iff, Bool.and_eq_true_iff] at this
          rcases this with q | q
          · exact Or.inl q.2
          · exact Or.inr q.2
        · rw [Nat.zero_testBit] at h; cases h
theorem wso_in {c : CR} {n dd P f i : Nat} (hw : wfn c n) (hi : i < n) (h : (wso c n dd P f).testBit i = true) : c 3 i ≤ f ∧ f < c 4 i := by
  have zh7 := (hw i hi).2.2.2.2.2.2.2
  rcases wok_sub (Nat.le_refl n) h with q | q
  · unfold stp at q
    rw [Bool.and_eq_true_iff, Bool.and_eq_true_iff, decide_eq_true_iff, decide_eq_true_iff] at q
    omega
  · unfold gip at q
    rw [Bool.and_eq_true_iff, decide_eq_true_iff] at q
    omega
section MSTEP
variable {E : XE} {d : Nat} {sh : XSh} {I : XI} {R : XRf} {L : XL} {n dd : Nat} {c : CR} {P : Nat} {tv : TV}
theorem m_steps_b (hg : XG sh R) (h : MCw I n c dd) (hP : I 61 34 = nI P) (hP32 : P < 32) {f : Nat} (hf : f < 10) : ∀ (k o : Nat), o ≤ n → n < o + k → XV E mX7_stepsAt (d + 3) 0 0 (xq (some (.int (nI (wso c n dd P f)))) sh I R L) 0 0 66 [some (.ref 61), some (.int (nI f)), some (.int (nI (sty c n P f))), some (.int (nI (wa c n dd P f n ||| wb c n dd P f o))), some (.int (nI (sty c n P f ||| bm (gip c P f) o))), some (.int (nI o))] [] sh I R L := by
  intro k
  induction k with
  | zero => intro o zh1 zh2; exact absurd zh2 (by omega)
  | succ k ih =>
    intro o zh1 zh2
    obtain ⟨hm, hn, hn5, hd, hdd, hw⟩ := id h
    refine xv_iload (q := 68) rfl dX7_stepsAt_66 rfl ?_
    refine xv_aload_n (q := 69) rfl dX7_stepsAt_68 rfl rfl ?_
    refine xv_geti (q := 72) rfl dX7_stepsAt_69 f_X7_88 (hg.1 _ _ rfl) ?_
    rw [hn]
    refine xv_icmp_ge (q := 75) (t := 125) rfl rfl dX7_stepsAt_72 (fun h72 => ?_) (fun h72 => ?_)
    · have h72 := nIle h72 (by omega) (by omega)
      obtain rfl : o = n := by omega
      refine xv_iload_n (q := 126) rfl dX7_stepsAt_125 rfl rfl ?_
      refine xv_iret dX7_stepsAt_126 rfl ?_
      exact ⟨by unfold wso; rw [wok_ab hw _ (Nat.le_refl _)], rfl, rfl, rfl, rfl⟩
    · have h72 : o < n := nInle h72 (by omega) (by omega)
      obtain ⟨zw0, zw1, zw2, zw3, zw4, zw5, zw6, w7⟩ := hw o h72
      refine xv_aload_n (q := 76) rfl dX7_stepsAt_75 rfl rfl ?_
      refine xv_geti (q := 79) rfl dX7_stepsAt_76 f_X7_254 (hg.1 _ _ rfl) ?_
      rw [hP]
      refine xv_iload (q := 81) rfl dX7_stepsAt_79 rfl ?_
      refine xv_ishr (q := 82) rfl dX7_stepsAt_81 ?_
      refine xv_iconst (v := nI 1) (q := 83) rfl dX7_stepsAt_82 rfl ?_
      refine xv_iand (q := 84) rfl dX7_stepsAt_83 ?_
      refine xv_as (w := nI (b01 (P.testBit o))) (shb P hP32 o (by omega)) ?_
      refine xv_iconst (v := nI 1) (q := 85) rfl dX7_stepsAt_84 rfl ?_
      refine xv_icmp_ne (q := 88) (t := 119) rfl rfl dX7_stepsAt_85 (fun h85 => ?_) (fun h85 => ?_)
      · have hbit := b1n h85
        refine xv_iinc (q := 122) (v := nI 1) rfl dX7_stepsAt_119 rfl rfl ?_
        have zhq : gip c P f o = false := by unfold gip; rw [hbit]; rfl
        refine xv_goto (t := 66) rfl dX7_stepsAt_122 ?_
        have zhz := ih (o + 1) (by omega) (by omega)
        rw [bm_s, show wb c n dd P f (o + 1) = wb c n dd P f o ||| (if gip c P f o = true then mus c n dd o (sty c n P f ||| bm (gip c P f) o) else 0) from rfl, zhq] at zhz
        rw [nI_add]
        rw [if_neg (by decide), if_neg (by decide), Nat.or_zero, Nat.or_zero] at zhz
        exact zhz
      · have hbit := b1e h85
        refine xv_aload_n (q := 89) rfl dX7_stepsAt_88 rfl rfl ?_
        refine xv_geta (q := 92) rfl dX7_stepsAt_89 f_X7_35 (hg.1 _ _ rfl) (hg.2 _ _ _ rfl) ?_
        refine xv_iload (q := 94) rfl dX7_stepsAt_92 rfl ?_
        refine xv_iald (q := 95) rfl dX7_stepsAt_94 (hg.1 _ _ rfl) rfl (by omega) (by decide) ?_
        refine xv_as (w := nI (c 3 o)) (hm 3 o (by decide) h72) ?_
        refine xv_iload_n (q := 96) rfl dX7_stepsAt_95 rfl rfl ?_
        refine xv_icmp_ne (q := 99) (t := 119) rfl rfl dX7_stepsAt_96 (fun h96 => ?_) (fun h96 => ?_)
        · have h96 : ¬ c 3 o = f := fun z => h96 (by rw [z])
          refine xv_iinc (q := 122) (v := nI 1) rfl dX7_stepsAt_119 rfl rfl ?_
          have zhq : gip c P f o = false := by unfold gip; rw [decide_eq_false h96, Bool.and_false]
          refine xv_goto (t := 66) rfl dX7_stepsAt_122 ?_
          have zhz := ih (o + 1) (by omega) (by omega)
          rw [bm_s, show wb c n dd P f (o + 1) = wb c n dd P f o ||| (if gip c P f o = true then mus c n dd o (sty c n P f ||| bm (gip c P f) o) else 0) from rfl, zhq] at zhz
          rw [nI_add]
          rw [if_neg (by decide), if_neg (by decide), Nat.or_zero, Nat.or_zero] at zhz
          exact zhz
        · have h96 : c 3 o = f := (nI_eq (by omega) (by omega)).mp h96
          refine xv_iload_n (q := 100) rfl dX7_stepsAt_99 rfl rfl ?_
          refine xv_aload_n (q := 101) rfl dX7_stepsAt_100 rfl rfl ?_
          refine xv_iload (q := 103) rfl dX7_stepsAt_101 rfl ?_
          refine xv_iload (q := 105) rfl dX7_stepsAt_103 rfl ?_
          refine xv_cV2 (z := mX7_mustFor) (q := 108) rfl dX7_stepsAt_105 l_X7_276 gX7_mustFor (hg.1 _ _ rfl) rfl rfl rfl (m_must (d := d) hg h h72 (Nat.or_lt_two_pow (bm_lt _ n) (Nat.lt_of_lt_of_le (bm_lt _ o) (Nat.pow_le_pow_right (by decide) (by omega))))) (by omega) ?_
          refine xv_ior (q := 109) rfl dX7_stepsAt_108 ?_
          refine xv_as (w := nI (wa c n dd P f n ||| wb c n dd P f o ||| mus c n dd o (sty c n P f ||| bm (gip c P f) o))) (nI_or _ _) ?_
          refine xv_istore_n (q := 110) rfl dX7_stepsAt_109 rfl rfl ?_
          refine xv_iload (q := 112) rfl dX7_stepsAt_110 rfl ?_
          refine xv_iconst (v := nI 1) (q := 113) rfl dX7_stepsAt_112 rfl ?_
          refine xv_iload (q := 115) rfl dX7_stepsAt_113 rfl ?_
          refine xv_ishl (q := 116) rfl dX7_stepsAt_115 ?_
          refine xv_as (w := nI (2 ^ o)) (sh1 o (by omega)) ?_
          refine xv_ior (q := 117) rfl dX7_stepsAt_116 ?_
          refine xv_as (w := nI (sty c n P f ||| bm (gip c P f) o ||| 2 ^ o)) (nI_or _ _) ?_
          refine xv_istore (q := 119) rfl dX7_stepsAt_117 rfl ?_
          refine xv_iinc (q := 122) (v := nI 1) rfl dX7_stepsAt_119 rfl rfl ?_
          have zhq : gip c P f o = true := by unfold gip; rw [hbit, decide_eq_true h96]; rfl
          refine xv_goto (t := 66) rfl dX7_stepsAt_122 ?_
          have zhz := ih (o + 1) (by omega) (by omega)
          rw [bm_s, show wb c n dd P f (o + 1) = wb c n dd P f o ||| (if gip c P f o = true then mus c n dd o (sty c n P f ||| bm (gip c P f) o) else 0) from rfl, zhq] at zhz
          rw [nI_add]
          rw [if_pos rfl, if_pos rfl, ← Nat.or_assoc, ← Nat.or_assoc] at zhz
          exact zhz
theorem m_steps_a (hg : XG sh R) (h : MCw I n c dd) (hP : I 61 34 = nI P) (hP32 : P < 32) {f : Nat} (hf : f < 10) : ∀ (k o : Nat), o ≤ n → n < o + k → XV E mX7_stepsAt (d + 3) 0 0 (xq (some (.int (nI (wso c n dd P f)))) sh I R L) 0 0 14 [some (.ref 61), some (.int (nI f)), some (.int (nI (sty c n P f))), some (.int (nI (wa c n dd P f o))), some (.int (nI (sty c n P f))), some (.int (nI o))] [] sh I R L := by
  intro k
  induction k with
  | zero => intro o zh1 zh2; exact absurd zh2 (by omega)
  | succ k ih =>
    intro o zh1 zh2
    obtain ⟨hm, hn, hn5, hd, hdd, hw⟩ := id h
    refine xv_iload (q := 16) rfl dX7_stepsAt_14 rfl ?_
    refine xv_aload_n (q := 17) rfl dX7_stepsAt_16 rfl rfl ?_
    refine xv_geti (q := 20) rfl dX7_stepsAt_17 f_X7_88 (hg.1 _ _ rfl) ?_
    rw [hn]
    refine xv_icmp_ge (q := 23) (t := 63) rfl rfl dX7_stepsAt_20 (fun h20 => ?_) (fun h20 => ?_)
    · have h20 := nIle h20 (by omega) (by omega)
      obtain rfl : o = n := by omega
      refine xv_iconst (v := nI 0) (q := 64) rfl dX7_stepsAt_63 rfl ?_
      refine xv_istore (q := 66) rfl dX7_stepsAt_64 rfl ?_
      have zhz := m_steps_b (E := E) (d := d) (L := L) hg h hP hP32 hf (o + 1) 0 (by omega) (by omega)
      rw [show wb c o dd P f 0 = 0 from rfl, show bm (gip c P f) 0 = 0 from rfl, Nat.or_zero, Nat.or_zero] at zhz
      exact zhz
    · have h20 : o < n := nInle h20 (by omega) (by omega)
      obtain ⟨zw0, zw1, zw2, zw3, zw4, zw5, zw6, w7⟩ := hw o h20
      refine xv_aload_n (q := 24) rfl dX7_stepsAt_23 rfl rfl ?_
      refine xv_geti (q := 27) rfl dX7_stepsAt_24 f_X7_254 (hg.1 _ _ rfl) ?_
      rw [hP]
      refine xv_iload (q := 29) rfl dX7_stepsAt_27 rfl ?_
      refine xv_ishr (q := 30) rfl dX7_stepsAt_29 ?_
      refine xv_iconst (v := nI 1) (q := 31) rfl dX7_stepsAt_30 rfl ?_
      refine xv_iand (q := 32) rfl dX7_stepsAt_31 ?_
      refine xv_as (w := nI (b01 (P.testBit o))) (shb P hP32 o (by omega)) ?_
      refine xv_iconst (v := nI 1) (q := 33) rfl dX7_stepsAt_32 rfl ?_
      refine xv_icmp_ne (q := 36) (t := 57) rfl rfl dX7_stepsAt_33 (fun h33 => ?_) (fun h33 => ?_)
      · have hbit := b1n h33
        refine xv_iinc (q := 60) (v := nI 1) rfl dX7_stepsAt_57 rfl rfl ?_
        have zhq : gop c P f o = false := by unfold gop; rw [hbit]; rfl
        refine xv_goto (t := 14) rfl dX7_stepsAt_60 ?_
        have zhz := ih (o + 1) (by omega) (by omega)
        rw [show wa c n dd P f (o + 1) = wa c n dd P f o ||| (if gop c P f o = true then mus c n dd o (sty c n P f) else 0) from rfl, zhq] at zhz
        rw [nI_add]
        rw [if_neg (by decide), Nat.or_zero] at zhz
        exact zhz
      · have hbit := b1e h33
        refine xv_aload_n (q := 37) rfl dX7_stepsAt_36 rfl rfl ?_
        refine xv_geta (q := 40) rfl dX7_stepsAt_37 f_X7_38 (hg.1 _ _ rfl) (hg.2 _ _ _ rfl) ?_
        refine xv_iload (q := 42) rfl dX7_stepsAt_40 rfl ?_
        refine xv_iald (q := 43) rfl dX7_stepsAt_42 (hg.1 _ _ rfl) rfl (by omega) (by decide) ?_
        refine xv_as (w := nI (c 4 o)) (hm 4 o (by decide) h20) ?_
        refine xv_iload_n (q := 44) rfl dX7_stepsAt_43 rfl rfl ?_
        refine xv_icmp_ne (q := 47) (t := 57) rfl rfl dX7_stepsAt_44 (fun h44 => ?_) (fun h44 => ?_)
        · have h44 : ¬ c 4 o = f := fun z => h44 (by rw [z])
          refine xv_iinc (q := 60) (v := nI 1) rfl dX7_stepsAt_57 rfl rfl ?_
          have zhq : gop c P f o = false := by unfold gop; rw [decide_eq_false h44, Bool.and_false]
          refine xv_goto (t := 14) rfl dX7_stepsAt_60 ?_
          have zhz := ih (o + 1) (by omega) (by omega)
          rw [show wa c n dd P f (o + 1) = wa c n dd P f o ||| (if gop c P f o = true then mus c n dd o (sty c n P f) else 0) from rfl, zhq] at zhz
          rw [nI_add]
          rw [if_neg (by decide), Nat.or_zero] at zhz
          exact zhz
        · have h44 : c 4 o = f := (nI_eq (by omega) (by omega)).mp h44
          refine xv_iload_n (q := 48) rfl dX7_stepsAt_47 rfl rfl ?_
          refine xv_aload_n (q := 49) rfl dX7_stepsAt_48 rfl rfl ?_
          refine xv_iload (q := 51) rfl dX7_stepsAt_49 rfl ?_
          refine xv_iload_n (q := 52) rfl dX7_stepsAt_51 rfl rfl ?_
          refine xv_cV2 (z := mX7_mustFor) (q := 55) rfl dX7_stepsAt_52 l_X7_276 gX7_mustFor (hg.1 _ _ rfl) rfl rfl rfl (m_must (d := d) hg h h20 (bm_lt _ n)) (by omega) ?_
          refine xv_ior (q := 56) rfl dX7_stepsAt_55 ?_
          refine xv_as (w := nI (wa c n dd P f o ||| mus c n dd o (sty c n P f))) (nI_or _ _) ?_
          refine xv_istore_n (q := 57) rfl dX7_stepsAt_56 rfl rfl ?_
          refine xv_iinc (q := 60) (v := nI 1) rfl dX7_stepsAt_57 rfl rfl ?_
          have zhq : gop c P f o = true := by unfold gop; rw [hbit, decide_eq_true h44]; rfl
          refine xv_goto (t := 14) rfl dX7_stepsAt_60 ?_
          have zhz := ih (o + 1) (by omega) (by omega)
          rw [show wa c n dd P f (o + 1) = wa c n dd P f o ||| (if gop c P f o = true then mus c n dd o (sty c n P f) else 0) from rfl, zhq] at zhz
          rw [nI_add]
          rw [if_pos rfl] at zhz
          exact zhz
theorem m_steps (hg : XG sh R) (h : MCw I n c dd) (hP : I 61 34 = nI P) (hP32 : P < 32) {f : Nat} (hf : f < 10) : XC E mX7_stepsAt (d + 3) 0 0 [.ref 61, .int (nI f)] sh I R L (xq (some (.int (nI (wso c n dd P f)))) sh I R L) := by
  refine XC.of (by decide) rfl rfl ?_
  refine xv_aload_n (q := 1) rfl dX7_stepsAt_0 rfl rfl ?_
  refine xv_iload_n (q := 2) rfl dX7_stepsAt_1 rfl rfl ?_
  refine xv_cV1 (z := mX7_stayingAt) (q := 5) rfl dX7_stepsAt_2 l_X7_273 gX7_stayingAt (hg.1 _ _ rfl) rfl rfl rfl (m_stay (d := d) hg h hP hP32 hf) (by omega) ?_
  refine xv_istore_n (q := 6) rfl dX7_stepsAt_5 rfl rfl ?_
  refine xv_iconst (v := nI 0) (q := 7) rfl dX7_stepsAt_6 rfl ?_
  refine xv_istore_n (q := 8) rfl dX7_stepsAt_7 rfl rfl ?_
  refine xv_iload_n (q := 9) rfl dX7_stepsAt_8 rfl rfl ?_
  refine xv_istore (q := 11) rfl dX7_stepsAt_9 rfl ?_
  refine xv_iconst (v := nI 0) (q := 12) rfl dX7_stepsAt_11 rfl ?_
  refine xv_istore (q := 14) rfl dX7_stepsAt_12 rfl ?_
  exact m_steps_a hg h hP hP32 hf (n + 1) 0 (by omega) (by omega)
/-- what was gathered -/
def MGa (I : XI) (n : Nat) (c : CR) (tv : TV) (P : Nat) : Prop := ∀ o f w, o < n → f < 10 → w < 3 → c 3 o ≤ f → f < c 4 o → I 72 (30 * o + 3 * f + w) = nI (csn c o (prc c tv 0 o f w (insd c n P f))) ∧ I 73 (30 * o + 3 * f + w) = nI (prc c tv 1 o f w (insd c n P f))
theorem m_cost_loop (hg : XG sh R) (h : MCw I n c dd) (hP : I 61 34 = nI P) (hG : MGa I n c tv P) {f out : Nat} (hf : f < 10) (ho : out < 32) (ho0 : ¬ out = 0) (hin : ∀ i, i < n → out.testBit i = true → c 3 i ≤ f ∧ f < c 4 i) : ∀ (k o : Nat) (l6 : Option Value), o ≤ n → n < o + k → XV E mX7_costAt (d + 1) 0 0 (xq (some (.int (nI (ctk c n P f tv out n)))) sh I R L) 0 0 12 [some (.ref 61), some (.int (nI f)), some (.int (nI out)), some (.int (nI (ctk c n P f tv out o))), some (.int (nI (sty c n P f))), some (.int (nI o)), l6] [] sh I R L := by
  intro k
  induction k with
  | zero => intro o l6 zh1 zh2; exact absurd zh2 (by omega)
  | succ k ih =>
    intro o l6 zh1 zh2
    obtain ⟨hm, hn, hn5, hd, hdd, hw⟩ := id h
    have hs32 := p5 (bm_lt (stp c P f) n) hn5
    refine xv_iload (q := 14) rfl dX7_costAt_12 rfl ?_
    refine xv_aload_n (q := 15) rfl dX7_costAt_14 rfl rfl ?_
    refine xv_geti (q := 18) rfl dX7_costAt_15 f_X7_88 (hg.1 _ _ rfl) ?_
    rw [hn]
    refine xv_icmp_ge (q := 21) (t := 96) rfl rfl dX7_costAt_18 (fun h18 => ?_) (fun h18 => ?_)
    · have h18 := nIle h18 (by omega) (by omega)
      obtain rfl : o = n := by omega
      refine xv_iload_n (q := 97) rfl dX7_costAt_96 rfl rfl ?_
      refine xv_iret dX7_costAt_97 rfl ?_
      exact xq_rfl
    · have h18 : o < n := nInle h18 (by omega) (by omega)
      obtain ⟨zw0, zw1, zw2, zw3, zw4, zw5, zw6, w7⟩ := hw o h18
      refine xv_iload_n (q := 22) rfl dX7_costAt_21 rfl rfl ?_
      refine xv_if_eq (q := 25) (t := 96) rfl rfl dX7_costAt_22 (fun h22 => ?_) (fun h22 => ?_)
      · exact absurd ((nI_eq (b := 0) (by omega) (by decide)).mp h22) ho0
      · refine xv_bipush (v := nI 30) (q := 27) rfl dX7_costAt_25 rfl ?_
        refine xv_iload (q := 29) rfl dX7_costAt_27 rfl ?_
        refine xv_imul (q := 30) rfl dX7_costAt_29 ?_
        refine xv_as (w := nI (30 * o)) (pk_mul _ _) ?_
        refine xv_iconst (v := nI 3) (q := 31) rfl dX7_costAt_30 rfl ?_
        refine xv_iload_n (q := 32) rfl dX7_costAt_31 rfl rfl ?_
        refine xv_imul (q := 33) rfl dX7_costAt_32 ?_
        refine xv_as (w := nI (3 * f)) (pk_mul _ _) ?_
        refine xv_iadd (q := 34) rfl dX7_costAt_33 ?_
        refine xv_as (w := nI (30 * o + 3 * f)) (nI_add _ _) ?_
        refine xv_aload_n (q := 35) rfl dX7_costAt_34 rfl rfl ?_
        refine xv_geta (q := 38) rfl dX7_costAt_35 f_X7_41 (hg.1 _ _ rfl) (hg.2 _ _ _ rfl) ?_
        refine xv_iload (q := 40) rfl dX7_costAt_38 rfl ?_
        refine xv_iald (q := 41) rfl dX7_costAt_40 (hg.1 _ _ rfl) rfl (by omega) (by decide) ?_
        refine xv_as (w := nI (c 5 o)) (hm 5 o (by decide) h18) ?_
        refine xv_iconst (v := nI 2) (q := 42) rfl dX7_costAt_41 rfl ?_
        refine xv_idiv (q := 43) rfl dX7_costAt_42 (by decide) ?_
        refine xv_as (w := nI (c 5 o / 2)) (pk_div (by omega) (by decide) (by decide)) ?_
        refine xv_iadd (q := 44) rfl dX7_costAt_43 ?_
        refine xv_as (w := nI (30 * o + 3 * f + c 5 o / 2)) (nI_add _ _) ?_
        refine xv_istore (q := 46) rfl dX7_costAt_44 rfl ?_
        refine xv_iload_n (q := 47) rfl dX7_costAt_46 rfl rfl ?_
        refine xv_iload (q := 49) rfl dX7_costAt_47 rfl ?_
        refine xv_ishr (q := 50) rfl dX7_costAt_49 ?_
        refine xv_iconst (v := nI 1) (q := 51) rfl dX7_costAt_50 rfl ?_
        refine xv_iand (q := 52) rfl dX7_costAt_51 ?_
        refine xv_as (w := nI (b01 (out.testBit o))) (shb out ho o (by omega)) ?_
        refine xv_iconst (v := nI 1) (q := 53) rfl dX7_costAt_52 rfl ?_
        refine xv_icmp_ne (q := 56) (t := 69) rfl rfl dX7_costAt_53 (fun h53 => ?_) (fun h53 => ?_)
        · have hbit := b1n h53
          refine xv_iload (q := 71) rfl dX7_costAt_69 rfl ?_
          refine xv_iload (q := 73) rfl dX7_costAt_71 rfl ?_
          refine xv_ishr (q := 74) rfl dX7_costAt_73 ?_
          refine xv_iconst (v := nI 1) (q := 75) rfl dX7_costAt_74 rfl ?_
          refine xv_iand (q := 76) rfl dX7_costAt_75 ?_
          refine xv_as (w := nI (b01 ((sty c n P f).testBit o))) (shb _ hs32 o (by omega)) ?_
          refine xv_iconst (v := nI 1) (q := 77) rfl dX7_costAt_76 rfl ?_
          refine xv_icmp_ne (q := 80) (t := 90) rfl rfl dX7_costAt_77 (fun h77 => ?_) (fun h77 => ?_)
          · have hb2 := b1n h77
            refine xv_iinc (q := 93) (v := nI 1) rfl dX7_costAt_90 rfl rfl ?_
            refine xv_goto (t := 12) rfl dX7_costAt_93 ?_
            have zhz := fun l6 => ih (o + 1) l6 (by omega) (by omega)
            rw [show ctk c n P f tv out (o + 1) = ctk c n P f tv out o + (if out.testBit o = true then csn c o (prc c tv 0 o f (c 5 o / 2) (insd c n P f)) else if (sty c n P f).testBit o = true then prc c tv 1 o f (c 5 o / 2) (insd c n P f) else 0) from rfl, hbit, if_neg (by decide), hb2, if_neg (by decide), Nat.add_zero] at zhz
            rw [nI_add]
            exact zhz _
          · have hb2 := b1e h77
            have hst : stp c P f o = true := by
              have := hb2
              unfold sty at this
              rw [bm_bit, Bool.and_eq_true_iff] at this
              exact this.2
            have hio : c 3 o ≤ f ∧ f < c 4 o := by
              unfold stp at hst
              rw [Bool.and_eq_true_iff, Bool.and_eq_true_iff, decide_eq_true_iff, decide_eq_true_iff] at hst
              omega
            have hga := hG o f (c 5 o / 2) h18 hf (by omega) hio.1 hio.2
            refine xv_iload_n (q := 81) rfl dX7_costAt_80 rfl rfl ?_
            refine xv_aload_n (q := 82) rfl dX7_costAt_81 rfl rfl ?_
            refine xv_geta (q := 85) rfl dX7_costAt_82 f_X7_50 (hg.1 _ _ rfl) (hg.2 _ _ _ rfl) ?_
            refine xv_iload (q := 87) rfl dX7_costAt_85 rfl ?_
            refine xv_iald (q := 88) rfl dX7_costAt_87 (hg.1 _ _ rfl) rfl (by omega) (by decide) ?_
            refine xv_as (w := nI (prc c tv 1 o f (c 5 o / 2) (insd c n P f))) hga.2 ?_
            refine xv_iadd (q := 89) rfl dX7_costAt_88 ?_
            refine xv_as (w := nI (ctk c n P f tv out o + prc c tv 1 o f (c 5 o / 2) (insd c n P f))) (nI_add _ _) ?_
            refine xv_istore_n (q := 90) rfl dX7_costAt_89 rfl rfl ?_
            refine xv_iinc (q := 93) (v := nI 1) rfl dX7_costAt_90 rfl rfl ?_
            refine xv_goto (t := 12) rfl dX7_costAt_93 ?_
            have zhz := fun l6 => ih (o + 1) l6 (by omega) (by omega)
            rw [show ctk c n P f tv out (o + 1) = ctk c n P f tv out o + (if out.testBit o = true then csn c o (prc c tv 0 o f (c 5 o / 2) (insd c n P f)) else if (sty c n P f).testBit o = true then prc c tv 1 o f (c 5 o / 2) (insd c n P f) else 0) from rfl, hbit, if_neg (by decide), hb2, if_pos rfl] at zhz
            rw [nI_add]
            exact zhz _
        · have hbit := b1e h53
          have hio := hin o h18 hbit
          have hga := hG o f (c 5 o / 2) h18 hf (by omega) hio.1 hio.2
          refine xv_iload_n (q := 57) rfl dX7_costAt_56 rfl rfl ?_
          refine xv_aload_n (q := 58) rfl dX7_costAt_57 rfl rfl ?_
          refine xv_geta (q := 61) rfl dX7_costAt_58 f_X7_47 (hg.1 _ _ rfl) (hg.2 _ _ _ rfl) ?_
          refine xv_iload (q := 63) rfl dX7_costAt_61 rfl ?_
          refine xv_iald (q := 64) rfl dX7_costAt_63 (hg.1 _ _ rfl) rfl (by omega) (by decide) ?_
          refine xv_as (w := nI (csn c o (prc c tv 0 o f (c 5 o / 2) (insd c n P f)))) hga.1 ?_
          refine xv_iadd (q := 65) rfl dX7_costAt_64 ?_
          refine xv_as (w := nI (ctk c n P f tv out o + csn c o (prc c tv 0 o f (c 5 o / 2) (insd c n P f)))) (nI_add _ _) ?_
          refine xv_istore_n (q := 66) rfl dX7_costAt_65 rfl rfl ?_
          refine xv_goto (t := 90) rfl dX7_costAt_66 ?_
          refine xv_iinc (q := 93) (v := nI 1) rfl dX7_costAt_90 rfl rfl ?_
          refine xv_goto (t := 12) rfl dX7_costAt_93 ?_
          have zhz := fun l6 => ih (o + 1) l6 (by omega) (by omega)
          rw [show ctk c n P f tv out (o + 1) = ctk c n P f tv out o + (if out.testBit o = true then csn c o (prc c tv 0 o f (c 5 o / 2) (insd c n P f)) else if (sty c n P f).testBit o = true then prc c tv 1 o f (c 5 o / 2) (insd c n P f) else 0) from rfl, hbit, if_pos rfl] at zhz
          rw [nI_add]
          exact zhz _
theorem m_cost (hg : XG sh R) (h : MCw I n c dd) (hP : I 61 34 = nI P) (hP32 : P < 32) (hG : MGa I n c tv P) {f out : Nat} (hf : f < 10) (ho : out < 32) (hin : ∀ i, i < n → out.testBit i = true → c 3 i ≤ f ∧ f < c 4 i) : XC E mX7_costAt (d + 1) 0 0 [.ref 61, .int (nI f), .int (nI out)] sh I R L (xq (some (.int (nI (cta c n P f tv out)))) sh I R L) := by
  refine XC.of (by decide) rfl rfl ?_
  refine xv_iconst (v := nI 0) (q := 1) rfl dX7_costAt_0 rfl ?_
  refine xv_istore_n (q := 2) rfl dX7_costAt_1 rfl rfl ?_
  refine xv_aload_n (q := 3) rfl dX7_costAt_2 rfl rfl ?_
  refine xv_iload_n (q := 4) rfl dX7_costAt_3 rfl rfl ?_
  refine xv_cV1 (z := mX7_stayingAt) (q := 7) rfl dX7_costAt_4 l_X7_273 gX7_stayingAt (hg.1 _ _ rfl) rfl rfl rfl (m_stay (d := d) hg h hP hP32 hf) (by omega) ?_
  refine xv_istore (q := 9) rfl dX7_costAt_7 rfl ?_
  refine xv_iconst (v := nI 0) (q := 10) rfl dX7_costAt_9 rfl ?_
  refine xv_istore (q := 12) rfl dX7_costAt_10 rfl ?_
  by_cases zh0 : out = 0
  rotate_left
  · have zhz := m_cost_loop (E := E) (d := d) (L := L) hg h hP hG hf ho zh0 hin (n + 1) 0 none (by omega) (by omega)
    rw [show cta c n P f tv out = ctk c n P f tv out n from if_neg zh0]
    exact zhz
  subst zh0
  rw [show cta c n P f tv 0 = 0 from if_pos rfl]
  refine xv_iload (q := 14) rfl dX7_costAt_12 rfl ?_
  refine xv_aload_n (q := 15) rfl dX7_costAt_14 rfl rfl ?_
  refine xv_geti (q := 18) rfl dX7_costAt_15 f_X7_88 (hg.1 _ _ rfl) ?_
  rw [h.2.1]
  refine xv_icmp_ge (q := 21) (t := 96) rfl rfl dX7_costAt_18 (fun _ => ?_) (fun _ => ?_)
  · refine xv_iload_n (q := 97) rfl dX7_costAt_96 rfl rfl ?_
    refine xv_iret dX7_costAt_97 rfl ?_
    exact xq_rfl
  · refine xv_iload_n (q := 22) rfl dX7_costAt_21 rfl rfl ?_
    refine xv_if_eq (q := 25) (t := 96) rfl rfl dX7_costAt_22 (fun _ => ?_) (fun z => absurd rfl z)
    refine xv_iload_n (q := 97) rfl dX7_costAt_96 rfl rfl ?_
    refine xv_iret dX7_costAt_97 rfl ?_
    exact xq_rfl
/-- but for steps and floors -/
def FRi (I J : XI) : Prop := (∀ k, k ≠ 61 → J k = I k) ∧ ∀ j, j ≠ 35 → j ≠ 36 → J 61 j = I 61 j
theorem MCw.mv {I J : XI} (h : MCw I n c dd) (zh1 : ∀ k, 65 ≤ k → k < 72 → J k = I k) (zh2 : J 61 15 = I 61 15) (zh3 : J 61 7 = I 61 7) : MCw J n c dd := ⟨fun w r hw hr => by rw [zh1 _ (by omega) (by omega)]; exact h.1 w r hw hr, zh2.trans h.2.1, h.2.2.1, zh3.trans h.2.2.2.1, h.2.2.2.2.1, h.2.2.2.2.2⟩
theorem FRi.cw {I J : XI} (h : FRi I J) (hc : MCw I n c dd) : MCw J n c dd := hc.mv (fun k zh1 _ => h.1 k (by omega)) (h.2 15 (by decide) (by decide)) (h.2 7 (by decide) (by decide))
theorem FRi.ga {I J : XI} (h : FRi I J) (hc : MGa I n c tv P) : MGa J n c tv P := fun o f w za1 za2 za3 za4 za5 => by rw [h.1 72 (by decide), h.1 73 (by decide)]; exact hc o f w za1 za2 za3 za4 za5
/-- what rides leaves -/
def QRi (c : CR) (n dd P : Nat) (tv : TV) (sh : XSh) (I : XI) (R : XRf) (L : XL) : XQ := fun v sh' J R' L' => v = some (.int (nI (rdc c n dd P tv))) ∧ sh' = sh ∧ R' = R ∧ L' = L ∧ FRi I J ∧ J 61 35 = nI (spk c n dd P 10) ∧ J 61 36 = nI (flk c n dd P 10)
theorem m_rides_loop (hg : XG sh R) (h : MCw I n c dd) (hP : I 61 34 = nI P) (hP32 : P < 32) (hG : MGa I n c tv P) : ∀ (k f : Nat) (J : XI) (l3 : Option Value), f ≤ 10 → 10 < f + k → FRi I J → J 61 35 = nI (spk c n dd P f) → J 61 36 = nI (flk c n dd P f) → XV E mX7_rides (d + 4) 0 0 (QRi c n dd P tv sh I R L) 0 0 14 [some (.ref 61), some (.int (nI (rdk c n dd P tv f))), some (.int (nI f)), l3] [] sh J R L := by
  intro k
  induction k with
  | zero => intro f J l3 zh1 zh2; exact absurd zh2 (by omega)
  | succ k ih =>
    intro f J l3 zh1 zh2 hF h35 h36
    have hPJ : J 61 34 = nI P := (hF.2 34 (by decide) (by decide)).trans hP
    have hn5 := h.2.2.1
    have hw32 := p5 (wso_lt c n dd P f) hn5
    refine xv_iload_n (q := 15) rfl dX7_rides_14 rfl rfl ?_
    refine xv_bipush (v := nI 10) (q := 17) rfl dX7_rides_15 rfl ?_
    refine xv_icmp_ge (q := 20) (t := 74) rfl rfl dX7_rides_17 (fun h17 => ?_) (fun h17 => ?_)
    · have h17 : f = 10 := by have := nIle h17 (by omega) (by omega); omega
      subst h17
      refine xv_iload_n (q := 75) rfl dX7_rides_74 rfl rfl ?_
      refine xv_iret dX7_rides_75 rfl ?_
      exact ⟨rfl, rfl, rfl, rfl, hF, h35, h36⟩
    · have h17 : f < 10 := nInle h17 (by omega) (by omega)
      refine xv_aload_n (q := 21) rfl dX7_rides_20 rfl rfl ?_
      refine xv_iload_n (q := 22) rfl dX7_rides_21 rfl rfl ?_
      refine xv_cV1 (z := mX7_stepsAt) (q := 25) rfl dX7_rides_22 l_X7_285 gX7_stepsAt (hg.1 _ _ rfl) rfl rfl rfl (m_steps (d := d) hg (hF.cw h) hPJ hP32 h17) (by omega) ?_
      refine xv_istore_n (q := 26) rfl dX7_rides_25 rfl rfl ?_
      refine xv_aload_n (q := 27) rfl dX7_rides_26 rfl rfl ?_
      refine xv_dup (q := 28) rfl dX7_rides_27 rfl ?_
      refine xv_geti (q := 31) rfl dX7_rides_28 f_X7_279 (hg.1 _ _ rfl) ?_
      rw [h35]
      refine xv_iload_n (q := 32) rfl dX7_rides_31 rfl rfl ?_
      refine xv_cS1 (z := mX7_bitsOf) (q := 35) rfl dX7_rides_32 l_X7_270 gX7_bitsOf rfl (m_bits (d := d) hw32) (by omega) ?_
      refine xv_iadd (q := 36) rfl dX7_rides_35 ?_
      refine xv_as (w := nI (spk c n dd P (f + 1))) (nI_add _ _) ?_
      refine xv_puti (q := 39) rfl dX7_rides_36 f_X7_279 (fun h => by cases h) (hg.1 _ _ rfl) ?_
      refine xv_aload_n (q := 40) rfl dX7_rides_39 rfl rfl ?_
      refine xv_dup (q := 41) rfl dX7_rides_40 rfl ?_
      refine xv_geti (q := 44) rfl dX7_rides_41 f_X7_282 (hg.1 _ _ rfl) ?_
      rw [xi_ne _ _ _ _ (by decide), h36]
      refine xv_iload_n (q := 45) rfl dX7_rides_44 rfl rfl ?_
      refine xv_if_eq (q := 48) (t := 52) rfl rfl dX7_rides_45 (fun h45 => ?_) (fun h45 => ?_)
      · have h45 : wso c n dd P f = 0 := (nI_eq (b := 0) (by omega) (by decide)).mp h45
        refine xv_iconst (v := nI 0) (q := 53) rfl dX7_rides_52 rfl ?_
        refine xv_iload_n (q := 54) rfl dX7_rides_53 rfl rfl ?_
        refine xv_ishl (q := 55) rfl dX7_rides_54 ?_
        refine xv_as (w := nI 0) (sh0 f h17) ?_
        refine xv_ior (q := 56) rfl dX7_rides_55 ?_
        refine xv_as (w := nI (flk c n dd P (f + 1))) ((nI_or _ _).trans (by rw [show flk c n dd P (f + 1) = flk c n dd P f ||| (if wso c n dd P f = 0 then 0 else 2 ^ f) from rfl, if_pos h45])) ?_
        refine xv_puti (q := 59) rfl dX7_rides_56 f_X7_282 (fun h => by cases h) (hg.1 _ _ rfl) ?_
        have hF2 : FRi I (xi (xi J 61 35 (nI (spk c n dd P (f + 1)))) 61 36 (nI (flk c n dd P (f + 1)))) := ⟨fun k hk => by rw [xi_off _ _ _ _ hk, xi_off _ _ _ _ hk]; exact hF.1 k hk, fun j zh1 zh2 => by rw [xi_ne _ _ _ _ (fun z => zh2 z.2), xi_ne _ _ _ _ (fun z => zh1 z.2)]; exact hF.2 j zh1 zh2⟩
        refine xv_iload_n (q := 60) rfl dX7_rides_59 rfl rfl ?_
        refine xv_aload_n (q := 61) rfl dX7_rides_60 rfl rfl ?_
        refine xv_iload_n (q := 62) rfl dX7_rides_61 rfl rfl ?_
        refine xv_iload_n (q := 63) rfl dX7_rides_62 rfl rfl ?_
        refine xv_cV2 (z := mX7_costAt) (q := 66) rfl dX7_rides_63 l_X7_288 gX7_costAt (hg.1 _ _ rfl) rfl rfl rfl (m_cost (d := d) hg (hF2.cw h) ((hF2.2 34 (by decide) (by decide)).trans hP) hP32 (hF2.ga hG) h17 hw32 (fun i hi zhb => wso_in h.2.2.2.2.2 hi zhb)) (by omega) ?_
        refine xv_iadd (q := 67) rfl dX7_rides_66 ?_
        refine xv_as (w := nI (rdk c n dd P tv (f + 1))) (nI_add _ _) ?_
        refine xv_istore_n (q := 68) rfl dX7_rides_67 rfl rfl ?_
        refine xv_iinc (q := 71) (v := nI 1) rfl dX7_rides_68 rfl rfl ?_
        refine xv_goto (t := 14) rfl dX7_rides_71 ?_
        rw [nI_add]
        exact ih (f + 1) _ _ (by omega) (by omega) hF2 (by rw [xi_ne _ _ _ _ (by decide), xi_eq]) (xi_eq _ _ _ _)
      · have h45 : ¬ wso c n dd P f = 0 := fun z => h45 (by rw [z]; rfl)
        refine xv_iconst (v := nI 1) (q := 49) rfl dX7_rides_48 rfl ?_
        refine xv_goto (t := 53) rfl dX7_rides_49 ?_
        refine xv_iload_n (q := 54) rfl dX7_rides_53 rfl rfl ?_
        refine xv_ishl (q := 55) rfl dX7_rides_54 ?_
        refine xv_as (w := nI (2 ^ f)) (sh1 f h17) ?_
        refine xv_ior (q := 56) rfl dX7_rides_55 ?_
        refine xv_as (w := nI (flk c n dd P (f + 1))) ((nI_or _ _).trans (by rw [show flk c n dd P (f + 1) = flk c n dd P f ||| (if wso c n dd P f = 0 then 0 else 2 ^ f) from rfl, if_neg h45])) ?_
        refine xv_puti (q := 59) rfl dX7_rides_56 f_X7_282 (fun h => by cases h) (hg.1 _ _ rfl) ?_
        have hF2 : FRi I (xi (xi J 61 35 (nI (spk c n dd P (f + 1)))) 61 36 (nI (flk c n dd P (f + 1)))) := ⟨fun k hk => by rw [xi_off _ _ _ _ hk, xi_off _ _ _ _ hk]; exact hF.1 k hk, fun j zh1 zh2 => by rw [xi_ne _ _ _ _ (fun z => zh2 z.2), xi_ne _ _ _ _ (fun z => zh1 z.2)]; exact hF.2 j zh1 zh2⟩
        refine xv_iload_n (q := 60) rfl dX7_rides_59 rfl rfl ?_
        refine xv_aload_n (q := 61) rfl dX7_rides_60 rfl rfl ?_
        refine xv_iload_n (q := 62) rfl dX7_rides_61 rfl rfl ?_
        refine xv_iload_n (q := 63) rfl dX7_rides_62 rfl rfl ?_
        refine xv_cV2 (z := mX7_costAt) (q := 66) rfl dX7_rides_63 l_X7_288 gX7_costAt (hg.1 _ _ rfl) rfl rfl rfl (m_cost (d := d) hg (hF2.cw h) ((hF2.2 34 (by decide) (by decide)).trans hP) hP32 (hF2.ga hG) h17 hw32 (fun i hi zhb => wso_in h.2.2.2.2.2 hi zhb)) (by omega) ?_
        refine xv_iadd (q := 67) rfl dX7_rides_66 ?_
        refine xv_as (w := nI (rdk c n dd P tv (f + 1))) (nI_add _ _) ?_
        refine xv_istore_n (q := 68) rfl dX7_rides_67 rfl rfl ?_
        refine xv_iinc (q := 71) (v := nI 1) rfl dX7_rides_68 rfl rfl ?_
        refine xv_goto (t := 14) rfl dX7_rides_71 ?_
        rw [nI_add]
        exact ih (f + 1) _ _ (by omega) (by omega) hF2 (by rw [xi_ne _ _ _ _ (by decide), xi_eq]) (xi_eq _ _ _ _)
theorem m_rides (hg : XG sh R) (h : MCw I n c dd) (hP : I 61 34 = nI P) (hP32 : P < 32) (hG : MGa I n c tv P) : XC E mX7_rides (d + 4) 0 0 [.ref 61] sh I R L (QRi c n dd P tv sh I R L) := by
  refine XC.of (by decide) rfl rfl ?_
  refine xv_iconst (v := nI 0) (q := 1) rfl dX7_rides_0 rfl ?_
  refine xv_istore_n (q := 2) rfl dX7_rides_1 rfl rfl ?_
  refine xv_aload_n (q := 3) rfl dX7_rides_2 rfl rfl ?_
  refine xv_iconst (v := nI 0) (q := 4) rfl dX7_rides_3 rfl ?_
  refine xv_puti (q := 7) rfl dX7_rides_4 f_X7_279 (fun h => by cases h) (hg.1 _ _ rfl) ?_
  refine xv_aload_n (q := 8) rfl dX7_rides_7 rfl rfl ?_
  refine xv_iconst (v := nI 0) (q := 9) rfl dX7_rides_8 rfl ?_
  refine xv_puti (q := 12) rfl dX7_rides_9 f_X7_282 (fun h => by cases h) (hg.1 _ _ rfl) ?_
  refine xv_iconst (v := nI 0) (q := 13) rfl dX7_rides_12 rfl ?_
  refine xv_istore_n (q := 14) rfl dX7_rides_13 rfl rfl ?_
  refine (m_rides_loop (E := E) (d := d) (I := I) (n := n) (c := c) (dd := dd) (P := P) (tv := tv) hg h hP hP32 hG 11 0 _ none (by omega) (by omega) ⟨fun k hk => by rw [xi_off _ _ _ _ hk, xi_off _ _ _ _ hk], fun j zh1 zh2 => by rw [xi_ne _ _ _ _ (fun z => zh2 z.2), xi_ne _ _ _ _ (fun z => zh1 z.2)]⟩ (by rw [xi_ne _ _ _ _ (by decide), xi_eq]; rfl) (by rw [xi_eq]; rfl))
end MSTEP

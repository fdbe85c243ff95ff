/-! the seeker -/
section SEEKER
variable {E : XE} {d : Nat} {sh : XSh} {I : XI} {R : XRf} {L : XL} {n dd u tc : Nat} {c : CR} {P : Nat} {tx : TXS} {tv : TV} {t : Nat}
theorem c_price2 (hg : XG sh R) (hT : TC I n c) (hK : KT sh I R t tv) (hr3 : R 23 1 = some t) (hTP : TP I n c P tv) {part r f ins : Nat} (zhp : part < 3) (hr : r < n) (hf : f < 10) (hins : ins = insp c n P part f) : XC E mX5_price (d + 1) 0 0 [.ref 23, .int (nI part), .int (nI r), .int (nI f), .int (nI ins)] sh I R L (QPr (prc c tv part r f (c 5 r / 2) ins) n c P tv sh I R L) := by
  obtain ⟨hm, hn, hn5, hw⟩ := id hT
  have hc5 := (hw r hr).2.2.2.2.2.1
  refine XC.of (by decide) rfl rfl ?_
  refine xv_aload_n (q := 1) rfl dX5_price_0 rfl rfl ?_
  refine xv_geto (q := 4) rfl dX5_price_1 f_X5_12 (hg.1 _ _ rfl) (hg.2 _ _ _ rfl) ?_
  refine xv_geta (q := 7) rfl dX5_price_4 f_X5_79 (hg.1 _ _ rfl) (hg.2 _ _ _ rfl) ?_
  refine xv_iload_n (q := 8) rfl dX5_price_7 rfl rfl ?_
  refine xv_iald (q := 9) rfl dX5_price_8 (hg.1 _ _ rfl) rfl (by omega) (by decide) ?_
  refine xv_as (w := nI (c 5 r)) (hm 5 r (by decide) hr) ?_
  refine xv_iconst (v := nI 1) (q := 10) rfl dX5_price_9 rfl ?_
  refine xv_ishr (q := 11) rfl dX5_price_10 ?_
  refine xv_as (w := nI (c 5 r / 2)) (pk_shrN (by omega) _ 1 (by decide)) ?_
  refine xv_istore (q := 13) rfl dX5_price_11 rfl ?_
  refine xv_iload_n (q := 14) rfl dX5_price_13 rfl rfl ?_
  refine xv_iconst (v := nI 5) (q := 15) rfl dX5_price_14 rfl ?_
  refine xv_imul (q := 16) rfl dX5_price_15 ?_
  refine xv_as (w := nI (part * 5)) (pk_mul _ _) ?_
  refine xv_iload_n (q := 17) rfl dX5_price_16 rfl rfl ?_
  refine xv_iadd (q := 18) rfl dX5_price_17 ?_
  refine xv_as (w := nI (part * 5 + r)) (nI_add _ _) ?_
  refine xv_bipush (v := nI 10) (q := 20) rfl dX5_price_18 rfl ?_
  refine xv_imul (q := 21) rfl dX5_price_20 ?_
  refine xv_as (w := nI ((part * 5 + r) * 10)) (pk_mul _ _) ?_
  refine xv_iload_n (q := 22) rfl dX5_price_21 rfl rfl ?_
  refine xv_iadd (q := 23) rfl dX5_price_22 ?_
  refine xv_as (w := nI ((part * 5 + r) * 10 + f)) (nI_add _ _) ?_
  refine xv_iconst (v := nI 3) (q := 24) rfl dX5_price_23 rfl ?_
  refine xv_imul (q := 25) rfl dX5_price_24 ?_
  refine xv_as (w := nI (((part * 5 + r) * 10 + f) * 3)) (pk_mul _ _) ?_
  refine xv_iload (q := 27) rfl dX5_price_25 rfl ?_
  refine xv_iadd (q := 28) rfl dX5_price_27 ?_
  refine xv_as (w := nI (((part * 5 + r) * 10 + f) * 3 + c 5 r / 2)) (nI_add _ _) ?_
  generalize hat : ((part * 5 + r) * 10 + f) * 3 + c 5 r / 2 = at_
  have hat4 : at_ < 450 := by omega
  refine xv_istore (q := 30) rfl dX5_price_28 rfl ?_
  refine xv_iload (q := 32) rfl dX5_price_30 rfl ?_
  refine xv_if_lt (q := 35) (t := 52) rfl rfl dX5_price_32 (fun h32 => ?_) (fun h32 => ?_)
  · exact absurd h32 (nI_pos (by omega))
  · refine xv_iload (q := 37) rfl dX5_price_35 rfl ?_
    refine xv_aload_n (q := 38) rfl dX5_price_37 rfl rfl ?_
    refine xv_geta (q := 41) rfl dX5_price_38 f_X5_34 (hg.1 _ _ rfl) (hg.2 _ _ _ rfl) ?_
    refine xv_alen (q := 42) rfl dX5_price_41 (hg.1 _ _ rfl) (by decide) ?_
    refine xv_icmp_ge (q := 45) (t := 52) rfl rfl dX5_price_42 (fun h42 => ?_) (fun h42 => ?_)
    · exact absurd (nIle h42 (by omega) (by omega)) (by omega)
    · refine xv_aload_n (q := 46) rfl dX5_price_45 rfl rfl ?_
      refine xv_geto (q := 49) rfl dX5_price_46 f_X5_49 (hg.1 _ _ rfl) hr3 ?_
      refine xv_ifnonnull (t := 54) rfl dX5_price_49 ?_
      refine xv_aload_n (q := 55) rfl dX5_price_54 rfl rfl ?_
      refine xv_geta (q := 58) rfl dX5_price_55 f_X5_34 (hg.1 _ _ rfl) (hg.2 _ _ _ rfl) ?_
      refine xv_iload (q := 60) rfl dX5_price_58 rfl ?_
      refine xv_iald (q := 61) rfl dX5_price_60 (hg.1 _ _ rfl) rfl (by omega) (by decide) ?_
      refine xv_iconst (v := (-1)) (q := 62) rfl dX5_price_61 rfl ?_
      refine xv_icmp_ne (q := 65) (t := 157) rfl rfl dX5_price_62 (fun h62 => ?_) (fun h62 => ?_)
      · have hv : I 37 at_ = nI (prc c tv part r f (c 5 r / 2) ins) := by
          have := hTP part r f (c 5 r / 2) zhp hr hf (by omega)
          rw [hat, ← hins] at this
          exact this.resolve_left h62
        refine xv_aload_n (q := 158) rfl dX5_price_157 rfl rfl ?_
        refine xv_geta (q := 161) rfl dX5_price_158 f_X5_34 (hg.1 _ _ rfl) (hg.2 _ _ _ rfl) ?_
        refine xv_iload (q := 163) rfl dX5_price_161 rfl ?_
        refine xv_iald (q := 164) rfl dX5_price_163 (hg.1 _ _ rfl) rfl (by omega) (by decide) ?_
        refine xv_as hv ?_
        refine xv_iret dX5_price_164 rfl ?_
        exact ⟨rfl, rfl, rfl, rfl, F9.rf, hTP⟩
      · refine xv_aload_n (q := 66) rfl dX5_price_65 rfl rfl ?_
        refine xv_geta (q := 69) rfl dX5_price_66 f_X5_39 (hg.1 _ _ rfl) (hg.2 _ _ _ rfl) ?_
        refine xv_iconst (v := nI 0) (q := 70) rfl dX5_price_69 rfl ?_
        refine xv_iload_n (q := 71) rfl dX5_price_70 rfl rfl ?_
        refine xv_iast (q := 72) rfl dX5_price_71 (hg.1 _ _ rfl) rfl (by omega) (by decide) ?_
        refine xv_aload_n (q := 73) rfl dX5_price_72 rfl rfl ?_
        refine xv_geta (q := 76) rfl dX5_price_73 f_X5_39 (hg.1 _ _ rfl) (hg.2 _ _ _ rfl) ?_
        refine xv_iconst (v := nI 1) (q := 77) rfl dX5_price_76 rfl ?_
        refine xv_iload_n (q := 78) rfl dX5_price_77 rfl rfl ?_
        refine xv_iast (q := 79) rfl dX5_price_78 (hg.1 _ _ rfl) rfl (by omega) (by decide) ?_
        refine xv_aload_n (q := 80) rfl dX5_price_79 rfl rfl ?_
        refine xv_geta (q := 83) rfl dX5_price_80 f_X5_39 (hg.1 _ _ rfl) (hg.2 _ _ _ rfl) ?_
        refine xv_iconst (v := nI 2) (q := 84) rfl dX5_price_83 rfl ?_
        refine xv_aload_n (q := 85) rfl dX5_price_84 rfl rfl ?_
        refine xv_geto (q := 88) rfl dX5_price_85 f_X5_12 (hg.1 _ _ rfl) (hg.2 _ _ _ rfl) ?_
        refine xv_geta (q := 91) rfl dX5_price_88 f_X5_82 (hg.1 _ _ rfl) (hg.2 _ _ _ rfl) ?_
        refine xv_iload_n (q := 92) rfl dX5_price_91 rfl rfl ?_
        refine xv_iald (q := 93) rfl dX5_price_92 (hg.1 _ _ rfl) rfl (by omega) (by decide) ?_
        refine xv_as (w := nI (c 2 r)) (hm 2 r (by decide) hr) ?_
        refine xv_iast (q := 94) rfl dX5_price_93 (hg.1 _ _ rfl) rfl (by omega) (by decide) ?_
        refine xv_aload_n (q := 95) rfl dX5_price_94 rfl rfl ?_
        refine xv_geta (q := 98) rfl dX5_price_95 f_X5_39 (hg.1 _ _ rfl) (hg.2 _ _ _ rfl) ?_
        refine xv_iconst (v := nI 3) (q := 99) rfl dX5_price_98 rfl ?_
        refine xv_iload (q := 101) rfl dX5_price_99 rfl ?_
        refine xv_iast (q := 102) rfl dX5_price_101 (hg.1 _ _ rfl) rfl (by omega) (by decide) ?_
        refine xv_aload_n (q := 103) rfl dX5_price_102 rfl rfl ?_
        refine xv_geta (q := 106) rfl dX5_price_103 f_X5_39 (hg.1 _ _ rfl) (hg.2 _ _ _ rfl) ?_
        refine xv_iconst (v := nI 4) (q := 107) rfl dX5_price_106 rfl ?_
        refine xv_aload_n (q := 108) rfl dX5_price_107 rfl rfl ?_
        refine xv_geto (q := 111) rfl dX5_price_108 f_X5_12 (hg.1 _ _ rfl) (hg.2 _ _ _ rfl) ?_
        refine xv_geta (q := 114) rfl dX5_price_111 f_X5_119 (hg.1 _ _ rfl) (hg.2 _ _ _ rfl) ?_
        refine xv_iload_n (q := 115) rfl dX5_price_114 rfl rfl ?_
        refine xv_iald (q := 116) rfl dX5_price_115 (hg.1 _ _ rfl) rfl (by omega) (by decide) ?_
        refine xv_as (w := nI (c 1 r)) (hm 1 r (by decide) hr) ?_
        refine xv_iast (q := 117) rfl dX5_price_116 (hg.1 _ _ rfl) rfl (by omega) (by decide) ?_
        refine xv_aload_n (q := 118) rfl dX5_price_117 rfl rfl ?_
        refine xv_geta (q := 121) rfl dX5_price_118 f_X5_39 (hg.1 _ _ rfl) (hg.2 _ _ _ rfl) ?_
        refine xv_iconst (v := nI 5) (q := 122) rfl dX5_price_121 rfl ?_
        refine xv_iload (q := 124) rfl dX5_price_122 rfl ?_
        refine xv_iast (q := 125) rfl dX5_price_124 (hg.1 _ _ rfl) rfl (by omega) (by decide) ?_
        generalize hJ : xi (xi (xi (xi (xi (xi I 38 0 (nI r)) 38 1 (nI f)) 38 2 (nI (c 2 r))) 38 3 (nI (c 5 r / 2))) 38 4 (nI (c 1 r))) 38 5 (nI ins) = J
        have hF : F9 I J := fun k zq1 zq2 zq3 => by rw [← hJ, xi_off _ _ _ _ zq2, xi_off _ _ _ _ zq2, xi_off _ _ _ _ zq2, xi_off _ _ _ _ zq2, xi_off _ _ _ _ zq2, xi_off _ _ _ _ zq2]
        have hJ37 : J 37 = I 37 := by rw [← hJ, xi_off _ _ _ _ (by decide), xi_off _ _ _ _ (by decide), xi_off _ _ _ _ (by decide), xi_off _ _ _ _ (by decide), xi_off _ _ _ _ (by decide), xi_off _ _ _ _ (by decide)]
        have hJ38 : ∀ j, j < 6 → J 38 j = nms c r f (c 5 r / 2) ins j := by
          intro j zhj
          rcases k6 zhj with rfl | rfl | rfl | rfl | rfl | rfl <;> (rw [← hJ]; simp [xi, upd, nms])
        obtain ⟨ht0, ca, ea, M, hX, hca, hea, hpp⟩ := hK.f9 hF
        obtain ⟨hdp, s, e, zhs, hse, he, heM, hcd, hrun⟩ := hpp part zhp
        obtain ⟨f', hf1, hf2⟩ := hrun (J 38) (J 39)
        have hv0 : f' 0 = tv part (nms c r f (c 5 r / 2) ins) := hf2.trans (hdp _ _ hJ38)
        refine xv_aload_n (q := 126) rfl dX5_price_125 rfl rfl ?_
        refine xv_geta (q := 129) rfl dX5_price_126 f_X5_34 (hg.1 _ _ rfl) (hg.2 _ _ _ rfl) ?_
        refine xv_iload (q := 131) rfl dX5_price_129 rfl ?_
        refine xv_iconst (v := nI 0) (q := 132) rfl dX5_price_131 rfl ?_
        refine xv_bipush (v := nI 99) (q := 134) rfl dX5_price_132 rfl ?_
        refine xv_aload_n (q := 135) rfl dX5_price_134 rfl rfl ?_
        refine xv_geto (q := 138) rfl dX5_price_135 f_X5_49 (hg.1 _ _ rfl) hr3 ?_
        refine xv_iload_n (q := 139) rfl dX5_price_138 rfl rfl ?_
        refine xv_aload_n (q := 140) rfl dX5_price_139 rfl rfl ?_
        refine xv_geta (q := 143) rfl dX5_price_140 f_X5_39 (hg.1 _ _ rfl) (hg.2 _ _ _ rfl) ?_
        refine xv_aload_n (q := 144) rfl dX5_price_143 rfl rfl ?_
        refine xv_geta (q := 147) rfl dX5_price_144 f_X5_42 (hg.1 _ _ rfl) (hg.2 _ _ _ rfl) ?_
        refine xv_cV3 (z := mX4_worth) (q := 150) rfl dX5_price_147 l_X5_122 gX4_worth hX.1 rfl rfl rfl (c_worth (d := d) hg hX zhp zhs hse he heM hcd hf1) (by omega) ?_
        refine xv_min (q := 153) rfl dX5_price_150 l_X5_126 rfl (by omega) ?_
        refine xv_max (q := 156) rfl dX5_price_153 l_X5_131 rfl (by omega) ?_
        rw [hv0]
        refine xv_as (w := nI (prc c tv part r f (c 5 r / 2) ins)) (clp_I _) ?_
        refine xv_iast (q := 157) rfl dX5_price_156 (hg.1 _ _ rfl) rfl (by omega) (by decide) ?_
        refine xv_aload_n (q := 158) rfl dX5_price_157 rfl rfl ?_
        refine xv_geta (q := 161) rfl dX5_price_158 f_X5_34 (hg.1 _ _ rfl) (hg.2 _ _ _ rfl) ?_
        refine xv_iload (q := 163) rfl dX5_price_161 rfl ?_
        refine xv_iald (q := 164) rfl dX5_price_163 (hg.1 _ _ rfl) rfl (by omega) (by decide) ?_
        refine xv_as (w := nI (prc c tv part r f (c 5 r / 2) ins)) (xi_eq _ _ _ _) ?_
        refine xv_iret dX5_price_164 rfl ?_
        have h37 : ∀ i, xi (xic J 39 f') 37 at_ (nI (prc c tv part r f (c 5 r / 2) ins)) 37 i = if i = at_ then nI (prc c tv part r f (c 5 r / 2) ins) else I 37 i := by
          intro i
          rw [xi_row]
          show (if i = at_ then _ else (xic J 39 f') 37 i) = _
          rw [xic_off _ _ _ (by decide), hJ37]
        refine ⟨rfl, rfl, rfl, rfl, fun k zq1 zq2 zq3 => by rw [xi_off _ _ _ _ zq1, xic_off _ _ _ zq3]; exact hF k zq1 zq2 zq3, fun part' r' f'' row' zk1 zk2 zk3 zk4 => ?_⟩
        rw [h37]
        split
        next e =>
          have hr5 : r' < 5 := by omega
          have hrow : c 5 r / 2 < 3 := by omega
          obtain ⟨rfl, rfl, rfl, rfl⟩ : part' = part ∧ r' = r ∧ f'' = f ∧ row' = c 5 r / 2 := by omega
          exact Or.inr (by rw [hins])
        next e => exact hTP part' r' f'' row' zk1 zk2 zk3 zk4
theorem c_move2 (hg : XG sh R) (hT : TC I n c) (hK : KT sh I R t tv) (hr3 : R 23 1 = some t) (hTP : TP I n c P tv) {r : Nat} (hr : r < n) : XC E mX5_costToMove (d + 2) 0 0 [.ref 23, .int (nI r)] sh I R L (QPr (prc c tv 2 r (c 3 r) (c 5 r / 2) 0) n c P tv sh I R L) := by
  obtain ⟨hm, hn, hn5, hw⟩ := id hT
  refine XC.of (by decide) rfl rfl ?_
  refine xv_aload_n (q := 1) rfl dX5_costToMove_0 rfl rfl ?_
  refine xv_iconst (v := nI 2) (q := 2) rfl dX5_costToMove_1 rfl ?_
  refine xv_iload_n (q := 3) rfl dX5_costToMove_2 rfl rfl ?_
  refine xv_aload_n (q := 4) rfl dX5_costToMove_3 rfl rfl ?_
  refine xv_geto (q := 7) rfl dX5_costToMove_4 f_X5_12 (hg.1 _ _ rfl) (hg.2 _ _ _ rfl) ?_
  refine xv_geta (q := 10) rfl dX5_costToMove_7 f_X5_67 (hg.1 _ _ rfl) (hg.2 _ _ _ rfl) ?_
  refine xv_iload_n (q := 11) rfl dX5_costToMove_10 rfl rfl ?_
  refine xv_iald (q := 12) rfl dX5_costToMove_11 (hg.1 _ _ rfl) rfl (by omega) (by decide) ?_
  refine xv_as (w := nI (c 3 r)) (hm 3 r (by decide) hr) ?_
  refine xv_iconst (v := nI 0) (q := 13) rfl dX5_costToMove_12 rfl ?_
  refine xv_rV4 (z := mX5_price) (q := 16) rfl dX5_costToMove_13 l_X5_102 gX5_price (hg.1 _ _ rfl) rfl rfl rfl (c_price2 (d := d) (ins := 0) hg hT hK hr3 hTP (show 2 < 3 by decide) hr (show c 3 r < 10 by have := (hw r hr).2.2.2.1; omega) rfl) (by omega) ?_
  rintro _ _ K _ _ ⟨rfl, rfl, rfl, rfl, zg1, zg2⟩
  refine xv_iret dX5_costToMove_16 rfl ?_
  exact ⟨rfl, rfl, rfl, rfl, zg1, zg2⟩
/-- the crew that was asked about (cell 41) -/
def KXa (I : XI) (n : Nat) (c : CR) (dd u : Nat) : Prop := XCm I 41 (ci c) n ∧ I 41 7 = nI n ∧ n ≤ 5 ∧ I 41 8 = nI dd ∧ (dd = 1 ∨ dd = 2) ∧ I 41 9 = nI u ∧ wfc c n
/-- the tried crew may be anywhere; the seeker's cells may have changed -/
def SGk (I J : XI) (n : Nat) (c x : CR) (dd P : Nat) (tv : TV) : Prop := (∀ k, (k < 24 ∨ (41 ≤ k ∧ k ≠ 49)) → J k = I k) ∧ (∀ j, j ≠ 2 → J 40 j = I 40 j) ∧ TW J n x dd ∧ SX c x ∧ TS J n c P ∧ P < 32 ∧ TP J n c P tv
/-- what is found so far -/
def SRl (J : XI) (n T0 : Nat) (S : ST) : Prop := J 40 2 = nI (clv T0 S) ∧ ∀ z, S = some z → z.1 < T0 → ∀ r, r < n → J 49 r = nI (z.2 r)
theorem SRl.mv {I J : XI} {T0 : Nat} {S : ST} (h : SRl I n T0 S) (zh1 : J 40 = I 40) (zh2 : J 49 = I 49) : SRl J n T0 S := ⟨by rw [zh1]; exact h.1, by rw [zh2]; exact h.2⟩
theorem SRl.pi {J : XI} {T0 : Nat} {S S' : ST} (h : SRl J n T0 S) (zhp : PIs T0 S S') : SRl J n T0 S' := by
  rcases zhp with rfl | ⟨⟨z, rfl, zhz⟩, zh2⟩
  · exact h
  · refine ⟨?_, fun y zhy hy2 => ?_⟩
    · rw [h.1, clv_hi zh2, clv_hi (Or.inr ⟨z, rfl, zhz⟩)]
    · cases zhy; omega
theorem SGk.mv {I J K : XI} {x : CR} (h : SGk I J n c x dd P tv) (hF : ∀ k, k ≠ 35 → k ≠ 36 → k ≠ 37 → k ≠ 38 → k ≠ 39 → K k = J k) (hP : TP K n c P tv) : SGk I K n c x dd P tv :=
  ⟨fun k hk => (hF k (by omega) (by omega) (by omega) (by omega) (by omega)).trans (h.1 k hk), fun j zhj => by rw [hF 40 (by decide) (by decide) (by decide) (by decide) (by decide)]; exact h.2.1 j zhj, h.2.2.1.mv (fun k zh1 zh2 => hF k (by omega) (by omega) (by omega) (by omega) (by omega)), h.2.2.2.1, h.2.2.2.2.1.f30 (fun k _ zk1 zk2 zk3 zk4 zk5 => hF k zk1 zk2 zk3 zk4 zk5), h.2.2.2.2.2.1, hP⟩
theorem SGk.put {I J : XI} {x : CR} {r p : Nat} (h : SGk I J n c x dd P tv) (zhp : p < 6) : SGk I (xi J 30 r (nI p)) n c (setr x 5 r p) dd P tv :=
  ⟨fun k hk => (xi_off _ _ _ _ (by omega)).trans (h.1 k hk), fun j zhj => by rw [xi_off _ _ _ _ (by decide)]; exact h.2.1 j zhj, h.2.2.1.put zhp, h.2.2.2.1.set, h.2.2.2.2.1.f30 (fun k zk1 _ _ _ _ _ => xi_off _ _ _ _ zk1), h.2.2.2.2.2.1, h.2.2.2.2.2.2.mv (xi_off _ _ _ _ (by decide))⟩
theorem SGk.least {I J : XI} {x : CR} {y : Int32} (h : SGk I J n c x dd P tv) : SGk I (xi J 40 2 y) n c x dd P tv :=
  ⟨fun k hk => (xi_off _ _ _ _ (by omega)).trans (h.1 k hk), fun j zhj => by rw [xi_ne _ _ _ _ (by omega)]; exact h.2.1 j zhj, h.2.2.1.mv (fun k zh1 zh2 => xi_off _ _ _ _ (by omega)), h.2.2.2.1, h.2.2.2.2.1.mv (xi_off _ _ _ _ (by decide)) (xi_off _ _ _ _ (by decide)) (xi_off _ _ _ _ (by decide)), h.2.2.2.2.2.1, h.2.2.2.2.2.2.mv (xi_off _ _ _ _ (by decide))⟩
theorem KT.sg {I J : XI} (h : KT sh I R t tv) (hF : ∀ k, (k < 24 ∨ (41 ≤ k ∧ k ≠ 49)) → J k = I k) : KT sh J R t tv := h.mv (fun k hk => hF k (by unfold txc at hk; omega)) (fun _ _ => rfl)
theorem bar_ag {q x : CR} {r i a : Nat} {b : Bool} (h : AG q x r) (hi : i < r) (ha : a < r) : bar x b i a = bar q b i a := by
  unfold bar lts ci
  rw [h.2 i hi, h.2 a ha, h.1 0 (by decide), h.1 1 (by decide), h.1 2 (by decide)]
theorem MK.ag {J : XI} {q x : CR} {r : Nat} (h : AG q x r) (hM : MK J x n r r) : MK J q n r r := by
  intro a ha
  obtain ⟨⟨y1, ze1, l1, zb1⟩, ⟨y2, ze2, l2, zb2⟩⟩ := hM a ha
  exact ⟨⟨y1, ze1, l1, fun i hi => (zb1 i hi).trans (bar_ag h hi ha)⟩, ⟨y2, ze2, l2, fun i hi => (zb2 i hi).trans (bar_ag h hi ha)⟩⟩
theorem MK.le {J : XI} {x : CR} {r k : Nat} (hM : MK J x n k k) (hr : r ≤ k) : MK J x n r r := by
  intro a ha
  obtain ⟨⟨y1, ze1, l1, zb1⟩, ⟨y2, ze2, l2, zb2⟩⟩ := hM a (by omega)
  exact ⟨⟨y1, ze1, l1, fun i hi => zb1 i (by omega)⟩, ⟨y2, ze2, l2, fun i hi => zb2 i (by omega)⟩⟩
theorem AG.symm {q x : CR} {r : Nat} (h : AG q x r) : AG x q r := ⟨h.1.symm, fun a ha => (h.2 a ha).symm⟩
theorem AG.le {q x : CR} {r k : Nat} (h : AG q x k) (hr : r ≤ k) : AG q x r := ⟨h.1, fun a ha => h.2 a (by omega)⟩
theorem AG.trans {q x y : CR} {r : Nat} (h : AG q x r) (zh2 : AG x y r) : AG q y r := ⟨h.1.trans zh2.1, fun a ha => (zh2.2 a ha).trans (h.2 a ha)⟩
theorem AG.set {q : CR} {r p : Nat} : AG q (setr q 5 r p) r := ⟨SX.rf.set, fun a ha => setr_ne (by omega)⟩
/-- what putFrom leaves -/
def QPf (S : ST) (n T0 r : Nat) (c q : CR) (dd P : Nat) (tv : TV) (I : XI) (sh : XSh) (R : XRf) (L : XL) : XQ := fun v sh' J R' L' => v = none ∧ sh' = sh ∧ R' = R ∧ L' = L ∧ SRl J n T0 S ∧ ∃ x, SGk I J n c x dd P tv ∧ AG q x r ∧ MK J x n r r
theorem mvs_le {q : CR} : ∀ r, mvs c q tv r ≤ 99 * r
  | 0 => Nat.zero_le _
  | r + 1 => by
    have zh1 := mvs_le (q := q) r
    have zh2 := prc_99 c tv 2 r (c 3 r) (q 5 r / 2) 0
    show mvs c q tv r + _ ≤ _
    split <;> omega
theorem clv_le {T0 : Nat} {S : ST} : clv T0 S ≤ T0 := by
  unfold clv
  cases S with
  | none => exact Nat.le_refl _
  | some z =>
    dsimp only
    split <;> omega
theorem c_put_loop (hg : XG sh R) (hK : KXa I n c dd u) (hKT : KT sh I R t tv) (hr3 : R 23 1 = some t) {T0 : Nat} (hT0 : T0 ≤ 10351) {m r : Nat} {q : CR} {S : ST} (hrn : r < n) (hXq : SX c q)
    (IH : ∀ (q : CR) (S : ST) (J : XI) (x : CR), SX c q → SGk I J n c x dd (aln n) tv → AG q x (r + 1) → MK J x n (r + 1) (r + 1) → SRl J n T0 S → XC E mX2_putFrom (d + 4 + m) 0 0 [.ref 40, .ref 23, .int (nI (r + 1)), .int (nI (mvs c q tv (r + 1)))] sh J R L (QPf (srch c n dd tv m (r + 1) q S) n T0 (r + 1) c q dd (aln n) tv I sh R L)) :
    ∀ (k p : Nat) (J : XI) (x : CR), p ≤ 6 → 6 < p + k → SGk I J n c x dd (aln n) tv → AG q x r → MK J x n r r → SRl J n T0 (itn (fun p S => if oks (ci (setr q 5 r p)) r r = true then srch c n dd tv m (r + 1) (setr q 5 r p) S else S) p S) →
      XV E mX2_putFrom (d + 4 + (m + 1)) 0 0 (QPf (srch c n dd tv (m + 1) r q S) n T0 r c q dd (aln n) tv I sh R L) 0 0 75 [some (.ref 40), some (.ref 23), some (.int (nI r)), some (.int (nI (mvs c q tv r))), some (.int (nI p))] [] sh J R L := by
  obtain ⟨hm, hn, hn5, hdd, hd2, hu, hwf⟩ := id hK
  intro k
  induction k with
  | zero => intro p J x zh1 zh2; exact absurd zh2 (by omega)
  | succ k ih =>
    intro p J x zh1 zh2 hG hA hM hS
    refine xv_iload (q := 77) rfl dX2_putFrom_75 rfl ?_
    refine xv_bipush (v := nI 6) (q := 79) rfl dX2_putFrom_77 rfl ?_
    refine xv_icmp_ge (q := 82) (t := 149) rfl rfl dX2_putFrom_79 (fun h79 => ?_) (fun h79 => ?_)
    · have zhp : p = 6 := by have := nIle h79 (by omega) (by omega); omega
      subst zhp
      refine xv_vret dX2_putFrom_149 rfl ?_
      exact ⟨rfl, rfl, rfl, rfl, hS, x, hG, hA, hM⟩
    · have zhp : p < 6 := nInle h79 (by omega) (by omega)
      have hG1 := hG.put (r := r) zhp
      have hXx := hG.2.2.2.1
      refine xv_aload_n (q := 83) rfl dX2_putFrom_82 rfl rfl ?_
      refine xv_geto (q := 86) rfl dX2_putFrom_83 f_X2_26 (hg.1 _ _ rfl) (hg.2 _ _ _ rfl) ?_
      refine xv_geta (q := 89) rfl dX2_putFrom_86 f_X2_58 (hg.1 _ _ rfl) (hg.2 _ _ _ rfl) ?_
      refine xv_iload_n (q := 90) rfl dX2_putFrom_89 rfl rfl ?_
      refine xv_iload (q := 92) rfl dX2_putFrom_90 rfl ?_
      refine xv_iast (q := 93) rfl dX2_putFrom_92 (hg.1 _ _ rfl) rfl (by omega) (by decide) ?_
      refine xv_aload_n (q := 94) rfl dX2_putFrom_93 rfl rfl ?_
      refine xv_geto (q := 97) rfl dX2_putFrom_94 f_X2_26 (hg.1 _ _ rfl) (hg.2 _ _ _ rfl) ?_
      refine xv_iload_n (q := 98) rfl dX2_putFrom_97 rfl rfl ?_
      refine xv_iload_n (q := 99) rfl dX2_putFrom_98 rfl rfl ?_
      refine xv_cV2 (z := mX0_canStand) (q := 102) rfl dX2_putFrom_99 l_X2_67 gX0_canStand (hg.1 _ _ rfl) rfl rfl rfl (c_canStand (d := d + 4) (xg_crew hg (a := 24) (Or.inr (Or.inr rfl))) hG1.2.2.1.1.1 hn5 (Nat.le_of_lt hrn) hrn) (by omega) ?_
      refine xv_if_eq (q := 105) (t := 143) rfl rfl dX2_putFrom_102 (fun h102 => ?_) (fun h102 => ?_)
      · have h102 := bIz h102
        rw [hA.oks] at h102
        refine xv_iinc (q := 146) (v := nI 1) rfl dX2_putFrom_143 rfl rfl ?_
        refine xv_goto (t := 75) rfl dX2_putFrom_146 ?_
        rw [nI_add]
        refine ih (p + 1) _ _ (by omega) (by omega) hG1 (hA.trans AG.set) (MK.ag (AG.symm AG.set) (fun a ha => by rw [xi_off _ _ _ _ (by decide), xi_off _ _ _ _ (by decide)]; exact hM a ha)) ?_
        show SRl _ n T0 (if _ then _ else _)
        rw [if_neg (by rw [h102]; decide)]
        exact hS.mv (xi_off _ _ _ _ (by decide)) (xi_off _ _ _ _ (by decide))
      · have h102 := bIn h102
        rw [hA.oks] at h102
        have hA1 : AG (setr q 5 r p) (setr x 5 r p) (r + 1) := hA.nx
        have hMx : MK (xi J 30 r (nI p)) (setr x 5 r p) n r r := MK.ag (AG.symm AG.set) (fun a ha => by rw [xi_off _ _ _ _ (by decide), xi_off _ _ _ _ (by decide)]; exact hM a ha)
        refine xv_aload_n (q := 106) rfl dX2_putFrom_105 rfl rfl ?_
        refine xv_iload_n (q := 107) rfl dX2_putFrom_106 rfl rfl ?_
        refine xv_rV1 (z := mX5_meet) (q := 110) rfl dX2_putFrom_107 l_X2_71 gX5_meet (hg.1 _ _ rfl) rfl rfl rfl (c_meet (d := d) hg hG1.2.2.1.1 hrn hMx) (by omega) ?_
        rintro _ sh K R L ⟨rfl, rfl, rfl, rfl, zk1, zk2⟩
        have hG2 : SGk I K n c (setr x 5 r p) dd (aln n) tv := hG1.mv (fun k ze1 ze2 _ _ _ => zk1 k ze1 ze2) (hG1.2.2.2.2.2.2.mv (zk1 _ (by decide) (by decide)))
        have hSK := (hS.mv (xi_off _ _ _ _ (show (40 : Nat) ≠ 30 by decide)) (xi_off _ _ _ _ (show (49 : Nat) ≠ 30 by decide)) : SRl (xi J 30 r (nI p)) n T0 _).mv (zk1 40 (by decide) (by decide)) (zk1 49 (by decide) (by decide))
        refine xv_aload_n (q := 111) rfl dX2_putFrom_110 rfl rfl ?_
        refine xv_aload_n (q := 112) rfl dX2_putFrom_111 rfl rfl ?_
        refine xv_iload_n (q := 113) rfl dX2_putFrom_112 rfl rfl ?_
        refine xv_iconst (v := nI 1) (q := 114) rfl dX2_putFrom_113 rfl ?_
        refine xv_iadd (q := 115) rfl dX2_putFrom_114 ?_
        refine xv_as (w := nI (r + 1)) (nI_add _ _) ?_
        refine xv_iload_n (q := 116) rfl dX2_putFrom_115 rfl rfl ?_
        refine xv_iload (q := 118) rfl dX2_putFrom_116 rfl ?_
        refine xv_aload_n (q := 119) rfl dX2_putFrom_118 rfl rfl ?_
        refine xv_geto (q := 122) rfl dX2_putFrom_119 f_X2_12 (hg.1 _ _ rfl) (hg.2 _ _ _ rfl) ?_
        refine xv_geta (q := 125) rfl dX2_putFrom_122 f_X2_58 (hg.1 _ _ rfl) (hg.2 _ _ _ rfl) ?_
        refine xv_iload_n (q := 126) rfl dX2_putFrom_125 rfl rfl ?_
        refine xv_iald (q := 127) rfl dX2_putFrom_126 (hg.1 _ _ rfl) rfl (by omega) (by decide) ?_
        refine xv_as (w := nI (c 5 r)) ((congrFun (hG2.1 47 (by decide)) r).trans (hm 5 r (by decide) hrn)) ?_
        refine xv_icmp_ne (q := 130) (t := 134) rfl rfl dX2_putFrom_127 (fun h127 => ?_) (fun h127 => ?_)
        · have h127 : ¬ p = c 5 r := fun q => h127 (by rw [← q])
          refine xv_aload_n (q := 135) rfl dX2_putFrom_134 rfl rfl ?_
          refine xv_iload_n (q := 136) rfl dX2_putFrom_135 rfl rfl ?_
          refine xv_rV1 (z := mX5_costToMove) (q := 139) rfl dX2_putFrom_136 l_X2_75 gX5_costToMove (hg.1 _ _ rfl) rfl rfl rfl (c_move2 (d := d) hg hG2.2.2.1.1 (hKT.sg hG2.1) hr3 (hG2.2.2.2.1.tp hG2.2.2.2.2.2.2) hrn) (by omega) ?_
          rintro _ sh K2 R L ⟨rfl, rfl, rfl, rfl, zm1, zm2⟩
          have hG3 : SGk I K2 n c (setr x 5 r p) dd (aln n) tv := hG2.mv (fun k _ _ ze3 ze4 ze5 => zm1 k ze3 ze4 ze5) (hG2.2.2.2.1.symm.tp zm2)
          have hM3 : MK K2 (setr x 5 r p) n (r + 1) (r + 1) := fun a ha => by rw [zm1 35 (by decide) (by decide) (by decide), zm1 36 (by decide) (by decide) (by decide)]; exact zk2 a ha
          have hS3 := hSK.mv (zm1 40 (by decide) (by decide) (by decide)) (zm1 49 (by decide) (by decide) (by decide))
          refine xv_iadd (q := 140) rfl dX2_putFrom_139 ?_
          refine xv_as (w := nI (mvs c (setr q 5 r p) tv (r + 1))) (by rw [nI_add, mvs_s, if_neg h127, setr_at, setr_ne (by omega), hXx.set.eprc, hXx 3 (by decide)]) ?_
          refine xv_rV3 (z := mX2_putFrom) (q := 143) rfl dX2_putFrom_140 l_X2_47 gX2_putFrom (hg.1 _ _ rfl) rfl rfl rfl (IH (setr q 5 r p) _ K2 _ hXq.set hG3 hA1 hM3 hS3) (by omega) ?_
          rintro _ sh M R L ⟨rfl, rfl, rfl, rfl, zb1, y, zb2, zb3, zb4⟩
          refine xv_iinc (q := 146) (v := nI 1) rfl dX2_putFrom_143 rfl rfl ?_
          refine xv_goto (t := 75) rfl dX2_putFrom_146 ?_
          rw [nI_add]
          refine ih (p + 1) M y (by omega) (by omega) zb2 (AG.set.trans (zb3.le (Nat.le_succ r))) (zb4.le (Nat.le_succ r)) ?_
          show SRl _ n T0 (if _ then _ else _)
          rw [if_pos h102]
          exact zb1
        · have h127 : p = c 5 r := nIe h127 (by omega) (by have := (hwf.1 r hrn).2.2.2.2.2.1; omega)
          refine xv_iconst (v := nI 0) (q := 131) rfl dX2_putFrom_130 rfl ?_
          refine xv_goto (t := 139) rfl dX2_putFrom_131 ?_
          refine xv_iadd (q := 140) rfl dX2_putFrom_139 ?_
          refine xv_as (w := nI (mvs c (setr q 5 r p) tv (r + 1))) (by rw [nI_add, mvs_s, if_pos h127]) ?_
          refine xv_rV3 (z := mX2_putFrom) (q := 143) rfl dX2_putFrom_140 l_X2_47 gX2_putFrom (hg.1 _ _ rfl) rfl rfl rfl (IH (setr q 5 r p) _ K _ hXq.set hG2 hA1 zk2 hSK) (by omega) ?_
          rintro _ sh M R L ⟨rfl, rfl, rfl, rfl, zb1, y, zb2, zb3, zb4⟩
          refine xv_iinc (q := 146) (v := nI 1) rfl dX2_putFrom_143 rfl rfl ?_
          refine xv_goto (t := 75) rfl dX2_putFrom_146 ?_
          rw [nI_add]
          refine ih (p + 1) M y (by omega) (by omega) zb2 (AG.set.trans (zb3.le (Nat.le_succ r))) (zb4.le (Nat.le_succ r)) ?_
          show SRl _ n T0 (if _ then _ else _)
          rw [if_pos h102]
          exact zb1
theorem rdk_mono {q : CR} {n' P' : Nat} : ∀ k, k ≤ 10 → rdk q n' dd P' tv k ≤ rdc q n' dd P' tv := by
  intro k hk
  have h : ∀ j, rdk q n' dd P' tv k ≤ rdk q n' dd P' tv (k + j) := by
    intro j
    induction j with
    | zero => exact Nat.le_refl _
    | succ j ih => exact Nat.le_trans ih (Nat.le_add_right _ _)
  have zh2 := h (10 - k)
  rw [Nat.add_sub_cancel' hk] at zh2
  exact zh2
theorem c_putFrom (hg : XG sh R) (hK : KXa I n c dd u) (hKT : KT sh I R t tv) (hr3 : R 23 1 = some t) {T0 : Nat} (hT0 : T0 ≤ 10351) : ∀ (m r : Nat) (q : CR) (S : ST) (J : XI) (x : CR), r + m = n → SX c q → SGk I J n c x dd (aln n) tv → AG q x r → MK J x n r r → SRl J n T0 S →
    XC E mX2_putFrom (d + 4 + m) 0 0 [.ref 40, .ref 23, .int (nI r), .int (nI (mvs c q tv r))] sh J R L (QPf (srch c n dd tv m r q S) n T0 r c q dd (aln n) tv I sh R L) := by
  obtain ⟨hm, hn, hn5, hdd, hd2, hu, hwf⟩ := id hK
  intro m
  induction m with
  | zero =>
    intro r q S J x hr hX hG hA hM hS
    obtain rfl : r = n := hr
    have hmv := mvs_le (c := c) (tv := tv) (q := q) r
    have hcl := clv_le (T0 := T0) (S := S)
    refine XC.of (by decide) rfl rfl ?_
    refine xv_iload_n (q := 1) rfl dX2_putFrom_0 rfl rfl ?_
    refine xv_aload_n (q := 2) rfl dX2_putFrom_1 rfl rfl ?_
    refine xv_geti (q := 5) rfl dX2_putFrom_2 f_X2_43 (hg.1 _ _ rfl) ?_
    rw [hS.1]
    refine xv_icmp_lt (q := 8) (t := 9) rfl rfl dX2_putFrom_5 (fun zh5 => ?_) (fun zh5 => ?_)
    · have zh5 := nIlt zh5 (by omega) (by omega)
      refine xv_iload_n (q := 10) rfl dX2_putFrom_9 rfl rfl ?_
      refine xv_aload_n (q := 11) rfl dX2_putFrom_10 rfl rfl ?_
      refine xv_geto (q := 14) rfl dX2_putFrom_11 f_X2_12 (hg.1 _ _ rfl) (hg.2 _ _ _ rfl) ?_
      refine xv_geti (q := 17) rfl dX2_putFrom_14 f_X2_51 (hg.1 _ _ rfl) ?_
      rw [show J 41 7 = nI r from (congrFun (hG.1 41 (by decide)) 7).trans hn]
      refine xv_icmp_ge (q := 20) (t := 25) rfl rfl dX2_putFrom_17 (fun h17 => ?_) (fun h17 => ?_)
      · refine xv_iload_n (q := 26) rfl dX2_putFrom_25 rfl rfl ?_
        refine xv_aload_n (q := 27) rfl dX2_putFrom_26 rfl rfl ?_
        refine xv_aload_n (q := 28) rfl dX2_putFrom_27 rfl rfl ?_
        refine xv_geti (q := 31) rfl dX2_putFrom_28 f_X2_43 (hg.1 _ _ rfl) ?_
        rw [hS.1]
        refine xv_iload_n (q := 32) rfl dX2_putFrom_31 rfl rfl ?_
        refine xv_isub (q := 33) rfl dX2_putFrom_32 ?_
        refine xv_as (w := nI (clv T0 S - mvs c q tv r)) (pk_sub (by omega)) ?_
        have hTR : TR J r x dd (aln r) := TR.of hG.2.2.1 hM.tb hG.2.2.2.1 hG.2.2.2.2.1 hG.2.2.2.2.2.1
        have hTq : TR J r q dd (aln r) := by
          have hW := AG.tw hA hG.2.2.1
          exact TR.of hW (MK.tb (hM.ag hA)) hX hG.2.2.2.2.1 hG.2.2.2.2.2.1
        refine xv_rV1 (z := mX5_costBelow) (q := 36) rfl dX2_putFrom_33 l_X2_54 gX5_costBelow (hg.1 _ _ rfl) rfl rfl rfl (c_below (d := d) hg hTq (hKT.sg hG.1) hr3 (hX.tp hG.2.2.2.2.2.2) (nI (clv T0 S - mvs c q tv r))) (by omega) ?_
        rintro _ sh K R L ⟨⟨k, zk1, rfl, zk2⟩, rfl, rfl, rfl, za1, za2⟩
        have hrd := rdk_le (dd := dd) (P := aln r) (tv := tv) (c := q) (n := r) (fun a ha => (hTq.1.2.2.2 a ha).2.2.1) hn5
        have hrk := hrd k
        have hG2 : SGk I K r c x dd (aln r) tv := hG.mv (fun k _ _ ze3 ze4 ze5 => za1 k ze3 ze4 ze5) (hX.symm.tp za2)
        have hM2 : MK K x r r r := fun a ha => by rw [za1 35 (by decide) (by decide) (by decide), za1 36 (by decide) (by decide) (by decide)]; exact hM a ha
        have hS2 := hS.mv (za1 40 (by decide) (by decide) (by decide)) (za1 49 (by decide) (by decide) (by decide))
        have hmono : rdk q r dd (aln r) tv k ≤ rdc q r dd (aln r) tv := rdk_mono k zk1
        refine xv_iadd (q := 37) rfl dX2_putFrom_36 ?_
        refine xv_as (w := nI (mvs c q tv r + rdk q r dd (aln r) tv k)) (nI_add _ _) ?_
        refine xv_istore (q := 39) rfl dX2_putFrom_37 rfl ?_
        refine xv_iload (q := 41) rfl dX2_putFrom_39 rfl ?_
        refine xv_aload_n (q := 42) rfl dX2_putFrom_41 rfl rfl ?_
        refine xv_geti (q := 45) rfl dX2_putFrom_42 f_X2_43 (hg.1 _ _ rfl) ?_
        rw [hS2.1]
        refine xv_icmp_ge (q := 48) (t := 71) rfl rfl dX2_putFrom_45 (fun h45 => ?_) (fun h45 => ?_)
        · have h45 := nIle h45 (by omega) (by omega)
          refine xv_vret dX2_putFrom_71 rfl ?_
          have zhb : clv T0 S ≤ rdc q r dd (aln r) tv + mvs c q tv r := by omega
          exact ⟨rfl, rfl, rfl, rfl, hS2.pi (lef_pi (Or.inl rfl) zhb), x, hG2, hA, hM2⟩
        · have h45 := nInle h45 (by omega) (by omega)
          have hk10 : k = 10 := zk2.resolve_right (fun z => by have := nIle z (by omega) (by omega); omega)
          subst hk10
          have hT : rdk q r dd (aln r) tv 10 = rdc q r dd (aln r) tv := rfl
          rw [hT] at h45 ⊢
          have hlf : lef c r dd tv q S = some (rdc q r dd (aln r) tv + mvs c q tv r, q 5) := by
            unfold lef
            cases S with
            | none => rfl
            | some w =>
              have hw : mvs c q tv r + rdc q r dd (aln r) tv < (if w.1 < T0 then w.1 else T0) := h45
              dsimp only
              rw [if_pos (by split at hw <;> omega)]
          have hG3 := hG2.least (y := nI (mvs c q tv r + rdc q r dd (aln r) tv))
          refine xv_aload_n (q := 49) rfl dX2_putFrom_48 rfl rfl ?_
          refine xv_iload (q := 51) rfl dX2_putFrom_49 rfl ?_
          refine xv_puti (q := 54) rfl dX2_putFrom_51 f_X2_43 (fun h => by cases h) (hg.1 _ _ rfl) ?_
          refine xv_aload_n (q := 55) rfl dX2_putFrom_54 rfl rfl ?_
          refine xv_geto (q := 58) rfl dX2_putFrom_55 f_X2_26 (hg.1 _ _ rfl) (hg.2 _ _ _ rfl) ?_
          refine xv_geta (q := 61) rfl dX2_putFrom_58 f_X2_58 (hg.1 _ _ rfl) (hg.2 _ _ _ rfl) ?_
          refine xv_iconst (v := nI 0) (q := 62) rfl dX2_putFrom_61 rfl ?_
          refine xv_aload_n (q := 63) rfl dX2_putFrom_62 rfl rfl ?_
          refine xv_geta (q := 66) rfl dX2_putFrom_63 f_X2_18 (hg.1 _ _ rfl) (hg.2 _ _ _ rfl) ?_
          refine xv_iconst (v := nI 0) (q := 67) rfl dX2_putFrom_66 rfl ?_
          refine xv_iconst (v := nI 5) (q := 68) rfl dX2_putFrom_67 rfl ?_
          refine xv_copy (a := 0) (b := 0) (n := 5) (q := 71) rfl dX2_putFrom_68 l_X2_61 (hg.1 30 _ rfl) (hg.1 49 _ rfl) rfl rfl rfl (by decide) (by decide) (by decide) (by decide) rfl (by omega) ?_
          refine xv_vret dX2_putFrom_71 rfl ?_
          have hTt : rdc q r dd (aln r) tv + mvs c q tv r < T0 := by omega
          refine ⟨rfl, rfl, rfl, rfl, ?_, x, ?_, hA, ?_⟩
          · show SRl _ r T0 (lef c r dd tv q S)
            rw [hlf]
            refine ⟨?_, fun z zhz hz2 a ha => ?_⟩
            · rw [xic_off _ _ _ (by decide), xi_eq, Nat.add_comm]
              show nI _ = nI (if _ then _ else _)
              rw [if_pos hTt]
            · cases zhz
              rw [xic_row, xi_off _ _ _ _ (by decide), cpy5, if_pos (by omega)]
              have zhx := hG2.2.2.1.1.1 5 a (by decide) ha
              rw [show 24 + 1 + 5 = 30 from rfl] at zhx
              rw [zhx]
              unfold ci
              rw [hA.2 a ha]
          · exact ⟨fun k hk => (xic_off _ _ _ (by omega)).trans (hG3.1 k hk), fun j zhj => by rw [xic_off _ _ _ (by decide)]; exact hG3.2.1 j zhj, hG3.2.2.1.mv (fun k zh1 zh2 => xic_off _ _ _ (by omega)), hG3.2.2.2.1, hG3.2.2.2.2.1.mv (xic_off _ _ _ (by decide)) (xic_off _ _ _ (by decide)) (xic_off _ _ _ (by decide)), hG3.2.2.2.2.2.1, hG3.2.2.2.2.2.2.mv (xic_off _ _ _ (by decide))⟩
          · intro a ha
            rw [xic_off _ _ _ (by decide), xic_off _ _ _ (by decide), xi_off _ _ _ _ (by decide), xi_off _ _ _ _ (by decide)]
            exact hM2 a ha
      · exact absurd (Int32.le_iff_toInt_le.mpr (Int.le_refl _)) h17
    · have zhb : clv T0 S ≤ mvs c q tv r := nInlt zh5 (by omega) (by omega)
      refine xv_vret dX2_putFrom_8 rfl ?_
      exact ⟨rfl, rfl, rfl, rfl, hS.pi (srch_pi _ r q S rfl zhb (Or.inl rfl)), x, hG, hA, hM⟩
  | succ m ihm =>
    intro r q S J x hr hX hG hA hM hS
    have hmv := mvs_le (c := c) (tv := tv) (q := q) r
    have hcl := clv_le (T0 := T0) (S := S)
    refine XC.of (by decide) rfl rfl ?_
    refine xv_iload_n (q := 1) rfl dX2_putFrom_0 rfl rfl ?_
    refine xv_aload_n (q := 2) rfl dX2_putFrom_1 rfl rfl ?_
    refine xv_geti (q := 5) rfl dX2_putFrom_2 f_X2_43 (hg.1 _ _ rfl) ?_
    rw [hS.1]
    refine xv_icmp_lt (q := 8) (t := 9) rfl rfl dX2_putFrom_5 (fun zh5 => ?_) (fun zh5 => ?_)
    · have zh5 := nIlt zh5 (by omega) (by omega)
      refine xv_iload_n (q := 10) rfl dX2_putFrom_9 rfl rfl ?_
      refine xv_aload_n (q := 11) rfl dX2_putFrom_10 rfl rfl ?_
      refine xv_geto (q := 14) rfl dX2_putFrom_11 f_X2_12 (hg.1 _ _ rfl) (hg.2 _ _ _ rfl) ?_
      refine xv_geti (q := 17) rfl dX2_putFrom_14 f_X2_51 (hg.1 _ _ rfl) ?_
      rw [show J 41 7 = nI n from (congrFun (hG.1 41 (by decide)) 7).trans hn]
      refine xv_icmp_ge (q := 20) (t := 25) rfl rfl dX2_putFrom_17 (fun h17 => ?_) (fun h17 => ?_)
      · exact absurd (nIle h17 (by omega) (by omega)) (by omega)
      · refine xv_iload_n (q := 21) rfl dX2_putFrom_20 rfl rfl ?_
        refine xv_iconst (v := nI 5) (q := 22) rfl dX2_putFrom_21 rfl ?_
        refine xv_icmp_lt (q := 25) (t := 72) rfl rfl dX2_putFrom_22 (fun h22 => ?_) (fun h22 => ?_)
        · refine xv_iconst (v := nI 0) (q := 73) rfl dX2_putFrom_72 rfl ?_
          refine xv_istore (q := 75) rfl dX2_putFrom_73 rfl ?_
          exact c_put_loop hg hK hKT hr3 hT0 (by omega) hX (fun q S J x zh1 zh2 zh3 zh4 zh5 => ihm (r + 1) q S J x (by omega) zh1 zh2 zh3 zh4 zh5) 7 0 J x (by omega) (by omega) hG hA hM hS
        · exact absurd (nI_lt (show r < 5 by omega) (by decide)) h22
    · have zhb : clv T0 S ≤ mvs c q tv r := nInlt zh5 (by omega) (by omega)
      refine xv_vret dX2_putFrom_8 rfl ?_
      exact ⟨rfl, rfl, rfl, rfl, hS.pi (srch_pi _ r q S hr zhb (Or.inl rfl)), x, hG, hA, hM⟩
end SEEKER

/-! the model: riders by a sheet -/
theorem sub2_toInt {a b e : Nat} (ha : a ≤ 40) (zhb : b ≤ 100) (he : e ≤ 100) : (nI a - nI b - nI e).toInt = (a : Int) - b - e := by
  rw [Int32.toInt_sub, sub_toInt ha (by omega), nI_toInt (by omega)]
  exact Int.bmod_eq_of_le (by omega) (by omega)
section MRS
variable {E : XE} {d : Nat} {sh : XSh} {I : XI} {R : XRf} {L : XL} {n dd u : Nat} {c : CR} {sg : SG}
theorem m_rid_loop (hg : XG sh R) {s ln N : Nat} {it : Nat → Int32} (zhs : s < 4) (hln : ln ≤ 40) (hN : N ≤ 5) (so f : Int32) (zh5 : I 80 s = nI ln) (zh6 : ∀ i, i < ln → I 81 (40 * s + i) = it i) :
    ∀ (k came : Nat) (n : Nat) (c : CR) (J : XI) (l7 : Option Value), k ≤ N → (N - k = 0 ∨ ∃ a, a + 3 * (N - k) ≤ ln ∧ f = nI a) → MKc J n c dd u → FMr I J 15 → XV E mX7_riders (d + 2) 0 0 (fun v sh' K R' L' => QMr (rdF ln it f N k came n c) dd u sh I R L v sh' K R' L') 0 0 75 [some (.ref 61), some (.int (nI s)), some (.int so), some (.int f), some (.int (nI N)), some (.int (nI came)), some (.int (nI (N - k))), l7] [] sh J R L := by
  intro k
  induction k with
  | zero =>
    intro came n c J l7 hk hfr hK hF
    rw [Nat.sub_zero]
    refine xv_iload (q := 77) rfl dX7_riders_75 rfl ?_
    refine xv_iload (q := 79) rfl dX7_riders_77 rfl ?_
    refine xv_icmp_ge (q := 82) (t := 167) rfl rfl dX7_riders_79 (fun h79 => ?_) (fun h79 => ?_)
    · refine xv_iload (q := 169) rfl dX7_riders_167 rfl ?_
      refine xv_iret dX7_riders_169 rfl ?_
      exact ⟨rfl, rfl, rfl, rfl, hK, hF⟩
    · exact absurd (nI_le (Nat.le_refl N) (by omega)) h79
  | succ k ih =>
    intro came n c J l7 hk hfr hK hF
    obtain ⟨M, hM⟩ : ∃ M, M = N - (k + 1) := ⟨_, rfl⟩
    have hk2 : N - k = M + 1 := by omega
    rw [← hM] at hfr ⊢
    have hJ5 : J 80 s = nI ln := by rw [hF.1 80 (by decide) (by decide)]; exact zh5
    have hJ6 : ∀ i, i < ln → J 81 (40 * s + i) = it i := fun i hi => by rw [hF.1 81 (by decide) (by decide)]; exact zh6 i hi
    have hM5 : M < 5 := by omega
    refine xv_iload (q := 77) rfl dX7_riders_75 rfl ?_
    refine xv_iload (q := 79) rfl dX7_riders_77 rfl ?_
    refine xv_icmp_ge (q := 82) (t := 167) rfl rfl dX7_riders_79 (fun h79 => ?_) (fun h79 => ?_)
    · exact absurd (nIle h79 (by omega) (by omega)) (by omega)
    · refine xv_iload_n (q := 83) rfl dX7_riders_82 rfl rfl ?_
      refine xv_if_lt (q := 86) (t := 103) rfl rfl dX7_riders_83 (fun h83 => ?_) (fun h83 => ?_)
      · have hbad : hld (nI ln) (f + nI 3 * nI (N - (k + 1))) (nI 3) = false := by
          rcases hfr with zh0 | ⟨a, ha0, rfl⟩
          · rw [← hM, zh0, show nI 3 * nI 0 = 0 by decide, Int32.add_zero]
            exact hld_f hln (fun ⟨a, b, zq1, zq2, zq3⟩ => nI_pos (n := a) (by omega) (zq2 ▸ h83))
          · exact absurd h83 (nI_pos (by omega))
        refine xv_bipush (v := (-12)) (q := 105) rfl dX7_riders_103 rfl ?_
        refine xv_iret dX7_riders_105 rfl ?_
        refine ⟨?_, rfl, rfl, rfl, ?_⟩
        · rw [rdF_o hbad]
        · rw [rdF_o hbad]; exact ⟨hK, hF⟩
      · refine xv_iload_n (q := 87) rfl dX7_riders_86 rfl rfl ?_
        refine xv_aload_n (q := 88) rfl dX7_riders_87 rfl rfl ?_
        refine xv_geta (q := 91) rfl dX7_riders_88 f_X7_75 (hg.1 _ _ rfl) (hg.2 _ _ _ rfl) ?_
        refine xv_iload_n (q := 92) rfl dX7_riders_91 rfl rfl ?_
        refine xv_iald (q := 93) rfl dX7_riders_92 (hg.1 _ _ rfl) rfl zhs (by decide) ?_
        rw [hJ5]
        refine xv_iconst (v := nI 3) (q := 94) rfl dX7_riders_93 rfl ?_
        refine xv_iload (q := 96) rfl dX7_riders_94 rfl ?_
        refine xv_imul (q := 97) rfl dX7_riders_96 ?_
        refine xv_as (w := nI (3 * M)) (pk_mul _ _) ?_
        refine xv_isub (q := 98) rfl dX7_riders_97 ?_
        refine xv_iconst (v := nI 3) (q := 99) rfl dX7_riders_98 rfl ?_
        refine xv_isub (q := 100) rfl dX7_riders_99 ?_
        refine xv_icmp_le (q := 103) (t := 106) rfl rfl dX7_riders_100 (fun h100 => ?_) (fun h100 => ?_)
        · obtain ⟨a, ha, rfl⟩ : ∃ a, a + 3 * M + 3 ≤ ln ∧ f = nI a := by
            obtain ⟨a, ha, rfl⟩ := nI_of h83
            have h100 := Int32.le_iff_toInt_le.mp h100
            rw [sub2_toInt hln (by omega) (by decide), nI_toInt ha] at h100
            exact ⟨a, by omega, rfl⟩
          have hfa : nI a + nI 3 * nI M = nI (a + 3 * M) := by rw [pk_mul, nI_add]
          refine xv_bipush (v := nI 40) (q := 108) rfl dX7_riders_106 rfl ?_
          refine xv_iload_n (q := 109) rfl dX7_riders_108 rfl rfl ?_
          refine xv_imul (q := 110) rfl dX7_riders_109 ?_
          refine xv_as (w := nI (40 * s)) (pk_mul _ _) ?_
          refine xv_iload_n (q := 111) rfl dX7_riders_110 rfl rfl ?_
          refine xv_iadd (q := 112) rfl dX7_riders_111 ?_
          refine xv_as (w := nI (40 * s + a)) (nI_add _ _) ?_
          refine xv_iconst (v := nI 3) (q := 113) rfl dX7_riders_112 rfl ?_
          refine xv_iload (q := 115) rfl dX7_riders_113 rfl ?_
          refine xv_imul (q := 116) rfl dX7_riders_115 ?_
          refine xv_as (w := nI (3 * M)) (pk_mul _ _) ?_
          refine xv_iadd (q := 117) rfl dX7_riders_116 ?_
          refine xv_as (w := nI (40 * s + a + 3 * M)) (nI_add _ _) ?_
          refine xv_istore (q := 119) rfl dX7_riders_117 rfl ?_
          refine xv_iload (q := 121) rfl dX7_riders_119 rfl ?_
          refine xv_aload_n (q := 122) rfl dX7_riders_121 rfl rfl ?_
          refine xv_aload_n (q := 123) rfl dX7_riders_122 rfl rfl ?_
          refine xv_geta (q := 126) rfl dX7_riders_123 f_X7_78 (hg.1 _ _ rfl) (hg.2 _ _ _ rfl) ?_
          refine xv_iload (q := 128) rfl dX7_riders_126 rfl ?_
          refine xv_iald (q := 129) rfl dX7_riders_128 (hg.1 _ _ rfl) rfl (by omega) (by decide) ?_
          refine xv_as (w := it (a + 3 * M)) (by rw [← hJ6 _ (show a + 3 * M < ln by omega)]; congr 1; omega) ?_
          refine xv_aload_n (q := 130) rfl dX7_riders_129 rfl rfl ?_
          refine xv_geta (q := 133) rfl dX7_riders_130 f_X7_78 (hg.1 _ _ rfl) (hg.2 _ _ _ rfl) ?_
          refine xv_iload (q := 135) rfl dX7_riders_133 rfl ?_
          refine xv_iconst (v := nI 1) (q := 136) rfl dX7_riders_135 rfl ?_
          refine xv_iadd (q := 137) rfl dX7_riders_136 ?_
          refine xv_as (w := nI (40 * s + a + 3 * M + 1)) (nI_add _ _) ?_
          refine xv_iald (q := 138) rfl dX7_riders_137 (hg.1 _ _ rfl) rfl (by omega) (by decide) ?_
          refine xv_as (w := it (a + 3 * M + 1)) (by rw [← hJ6 _ (show a + 3 * M + 1 < ln by omega)]; congr 1; omega) ?_
          refine xv_aload_n (q := 139) rfl dX7_riders_138 rfl rfl ?_
          refine xv_geta (q := 142) rfl dX7_riders_139 f_X7_78 (hg.1 _ _ rfl) (hg.2 _ _ _ rfl) ?_
          refine xv_iload (q := 144) rfl dX7_riders_142 rfl ?_
          refine xv_iconst (v := nI 2) (q := 145) rfl dX7_riders_144 rfl ?_
          refine xv_iadd (q := 146) rfl dX7_riders_145 ?_
          refine xv_as (w := nI (40 * s + a + 3 * M + 2)) (nI_add _ _) ?_
          refine xv_iald (q := 147) rfl dX7_riders_146 (hg.1 _ _ rfl) rfl (by omega) (by decide) ?_
          refine xv_as (w := it (a + 3 * M + 2)) (by rw [← hJ6 _ (show a + 3 * M + 2 < ln by omega)]; congr 1; omega) ?_
          refine xv_rV3 (z := mX7_rider) (q := 150) rfl dX7_riders_147 l_X7_362 gX7_rider (hg.1 _ _ rfl) rfl rfl rfl (y_rider (d := d) hg hK _ _ _) (by omega) ?_
          rintro _ sh K R L ⟨rfl, rfl, rfl, rfl, zq5, zq6⟩
          refine xv_if_lt (q := 153) (t := 157) rfl rfl dX7_riders_150 (fun h150 => ?_) (fun h150 => ?_)
          · refine xv_iconst (v := nI 0) (q := 158) rfl dX7_riders_157 rfl ?_
            refine xv_iadd (q := 159) rfl dX7_riders_158 ?_
            refine xv_as (w := nI came) (Int32.add_zero _) ?_
            refine xv_istore (q := 161) rfl dX7_riders_159 rfl ?_
            refine xv_iinc (q := 164) (v := nI 1) rfl dX7_riders_161 rfl rfl ?_
            refine xv_goto (t := 75) rfl dX7_riders_164 ?_
            rw [nI_add, ← hk2]
            have zhz := ih (came) _ _ K (some (.int (nI (40 * s + a + 3 * M)))) (by omega) (Or.inr ⟨a, by omega, rfl⟩) zq5 (hF.trans zq6)
            rw [rdF_s (by rw [← hM, hfa]; exact hld_t (by omega) hln) (by rw [← hM, hfa]) (by omega), if_pos h150]
            exact zhz
          · refine xv_iconst (v := nI 1) (q := 154) rfl dX7_riders_153 rfl ?_
            refine xv_goto (t := 158) rfl dX7_riders_154 ?_
            refine xv_iadd (q := 159) rfl dX7_riders_158 ?_
            refine xv_as (w := nI (came + 1)) (nI_add _ _) ?_
            refine xv_istore (q := 161) rfl dX7_riders_159 rfl ?_
            refine xv_iinc (q := 164) (v := nI 1) rfl dX7_riders_161 rfl rfl ?_
            refine xv_goto (t := 75) rfl dX7_riders_164 ?_
            rw [nI_add, ← hk2]
            have zhz := ih (came + 1) _ _ K (some (.int (nI (40 * s + a + 3 * M)))) (by omega) (Or.inr ⟨a, by omega, rfl⟩) zq5 (hF.trans zq6)
            rw [rdF_s (by rw [← hM, hfa]; exact hld_t (by omega) hln) (by rw [← hM, hfa]) (by omega), if_neg h150]
            exact zhz
        · have hbad : hld (nI ln) (f + nI 3 * nI (N - (k + 1))) (nI 3) = false := by
            have h100 : nI ln - nI (3 * M) - nI 3 < f := Int32.not_le.mp h100
            have h100 := Int32.lt_iff_toInt_lt.mp h100
            rw [sub2_toInt hln (by omega) (by decide)] at h100
            obtain ⟨a, ha, rfl⟩ := nI_of h83
            rw [nI_toInt ha] at h100
            rw [← hM]
            rcases hfr with zh0 | ⟨a', zq1, zq2⟩
            · rw [zh0, show nI 3 * nI 0 = 0 by decide, Int32.add_zero]
              refine hld_f hln (fun ⟨x, y, zq1, zq2, zq3⟩ => ?_)
              have zq3 : y = 3 := by
                by_cases zhy : y < 2 ^ 31
                · exact (nIe zq3 (by decide) zhy).symm
                · omega
              have := nIe zq2 ha (by omega)
              omega
            · have zq2 := nIe zq2 ha (by omega)
              subst zq2
              rw [pk_mul, nI_add]
              refine hld_f hln (fun ⟨x, y, zq1, zq2, zq3⟩ => ?_)
              have := nIe zq2 (by omega) (by omega)
              have := nIe zq3 (by decide) (by omega)
              omega
          refine xv_bipush (v := (-12)) (q := 105) rfl dX7_riders_103 rfl ?_
          refine xv_iret dX7_riders_105 rfl ?_
          refine ⟨?_, rfl, rfl, rfl, ?_⟩
          · rw [rdF_o hbad]
          · rw [rdF_o hbad]; exact ⟨hK, hF⟩
theorem y_riders (hg : XG sh R) (hK : MKc I n c dd u) (hS : KMs I sg) (x so f m : Int32) : XC E mX7_riders (d + 2) 0 0 [.ref 61, .int x, .int so, .int f, .int m] sh I R L (QMr (sp_riders sg n c x so f m) dd u sh I R L) := by
  refine XC.of (by decide) rfl rfl ?_
  refine xv_iload_n (q := 1) rfl dX7_riders_0 rfl rfl ?_
  refine xv_cS1 (z := mX7_isSheet) (q := 4) rfl dX7_riders_1 l_X7_329 gX7_isSheet rfl (m_isSh (d := d) x) (by omega) ?_
  refine xv_if_eq (q := 7) (t := 32) rfl rfl dX7_riders_4 (fun zh4 => ?_) (fun zh4 => ?_)
  · have zh4 := bIz zh4
    refine xv_bipush (v := (-2)) (q := 34) rfl dX7_riders_32 rfl ?_
    refine xv_iret dX7_riders_34 rfl ?_
    rw [show sp_riders sg n c x so f m = (-2, n, c) from if_pos (Or.inl zh4)]
    exact ⟨rfl, rfl, rfl, rfl, hK, FMr.rf⟩
  · have zh4 := bIn zh4
    refine xv_iload_n (q := 8) rfl dX7_riders_7 rfl rfl ?_
    refine xv_i2l (q := 9) rfl dX7_riders_8 ?_
    refine xv_lconst (v := lN 0) (q := 10) rfl dX7_riders_9 rfl ?_
    refine xv_ldc2 (q := 13) rfl dX7_riders_10 k_X7_108 ?_
    refine xv_cS3 (z := mX7_in) (q := 16) rfl dX7_riders_13 l_X7_91 gX7_in rfl (m_in (d := d + 1) _ _ _) (by omega) ?_
    rw [lin_0 (b := 2) rfl (by decide)]
    refine xv_if_eq (q := 19) (t := 32) rfl rfl dX7_riders_16 (fun h16 => ?_) (fun h16 => ?_)
    · have h16 := bIz h16
      refine xv_bipush (v := (-2)) (q := 34) rfl dX7_riders_32 rfl ?_
      refine xv_iret dX7_riders_34 rfl ?_
      rw [show sp_riders sg n c x so f m = (-2, n, c) from if_pos (by
        by_cases zh1 : so < 0
        · exact Or.inr (Or.inl zh1)
        · exact Or.inr (Or.inr (Or.inl (Decidable.not_not.mp (fun zh2 => isR_f h16 ⟨zh1, zh2⟩)))))]
      exact ⟨rfl, rfl, rfl, rfl, hK, FMr.rf⟩
    · have h16 := bIn h16
      refine xv_iload (q := 21) rfl dX7_riders_19 rfl ?_
      refine xv_i2l (q := 22) rfl dX7_riders_21 ?_
      refine xv_lconst (v := lN 0) (q := 23) rfl dX7_riders_22 rfl ?_
      refine xv_ldc2 (q := 26) rfl dX7_riders_23 k_X7_95 ?_
      refine xv_cS3 (z := mX7_in) (q := 29) rfl dX7_riders_26 l_X7_91 gX7_in rfl (m_in (d := d + 1) _ _ _) (by omega) ?_
      rw [lin_0 (b := 5) rfl (by decide)]
      refine xv_if_ne (q := 32) (t := 35) rfl rfl dX7_riders_29 (fun h29 => ?_) (fun h29 => ?_)
      · have h29 := bIn h29
        obtain ⟨s, hs4, rfl⟩ := isSh_of zh4
        obtain ⟨w, hw, rfl⟩ := isR_nI (by decide) h16
        obtain ⟨m, hm5, rfl⟩ := isR_nI (by decide) h29
        have hq0 : ¬ (isSh (nI s) = false ∨ nI w < 0 ∨ nI 3 ≤ nI w ∨ nI m < 0 ∨ ¬ nI m ≤ nI 5) := fun q => q.elim (fun q => by rw [zh4] at q; cases q) (fun q => q.elim (nI_pos (by omega)) (fun q => q.elim (fun q => absurd (nIle q (by decide) (by omega)) (by omega)) (fun q => q.elim (nI_pos (by omega)) (fun q => q (nI_le (by omega) (by decide))))))
        refine xv_aload_n (q := 36) rfl dX7_riders_35 rfl rfl ?_
        refine xv_geta (q := 39) rfl dX7_riders_36 f_X7_68 (hg.1 _ _ rfl) (hg.2 _ _ _ rfl) ?_
        refine xv_iload_n (q := 40) rfl dX7_riders_39 rfl rfl ?_
        refine xv_zald (q := 41) rfl dX7_riders_40 (hg.1 _ _ rfl) rfl hs4 (by decide) ?_
        refine xv_if_eq (q := 44) (t := 57) rfl rfl dX7_riders_41 (fun h41 => ?_) (fun h41 => ?_)
        · have hn : sg s = none := by
            rcases hS.miss hs4 with ⟨y, -⟩ | ⟨so, ln, it, e, zq1, zq2, zq3, -⟩
            · exact y
            · rw [h41] at zq3; exact absurd zq3 (by decide)
          refine xv_aload_n (q := 58) rfl dX7_riders_57 rfl rfl ?_
          refine xv_geta (q := 61) rfl dX7_riders_58 f_X7_68 (hg.1 _ _ rfl) (hg.2 _ _ _ rfl) ?_
          refine xv_iload_n (q := 62) rfl dX7_riders_61 rfl rfl ?_
          refine xv_zald (q := 63) rfl dX7_riders_62 (hg.1 _ _ rfl) rfl hs4 (by decide) ?_
          refine xv_if_ne (q := 66) (t := 69) rfl rfl dX7_riders_63 (fun h63 => ?_) (fun h63 => ?_)
          · exact absurd h41 h63
          · refine xv_bipush (v := (-11)) (q := 68) rfl dX7_riders_66 rfl ?_
            refine xv_iret dX7_riders_68 rfl ?_
            rw [sp_riders_n hq0 hs4 hn]
            exact ⟨rfl, rfl, rfl, rfl, hK, FMr.rf⟩
        · rcases hS.miss hs4 with ⟨-, y⟩ | ⟨so, ln, it, ze1, zq1, zq2, zq3, zq4, zq5, zq6⟩
          · exact absurd y h41
          have zhq := sp_riders_s (n := n) (c := c) (f := f) hq0 hs4 ze1
          rw [nI_clamp (n := m) (by omega)] at zhq
          refine xv_aload_n (q := 45) rfl dX7_riders_44 rfl rfl ?_
          refine xv_geta (q := 48) rfl dX7_riders_45 f_X7_72 (hg.1 _ _ rfl) (hg.2 _ _ _ rfl) ?_
          refine xv_iload_n (q := 49) rfl dX7_riders_48 rfl rfl ?_
          refine xv_iald (q := 50) rfl dX7_riders_49 (hg.1 _ _ rfl) rfl hs4 (by decide) ?_
          rw [zq4]
          refine xv_iload_n (q := 51) rfl dX7_riders_50 rfl rfl ?_
          refine xv_icmp_eq (q := 54) (t := 57) rfl rfl dX7_riders_51 (fun h51 => ?_) (fun h51 => ?_)
          · rw [zhq, if_neg (fun y => y h51)]
            refine xv_aload_n (q := 58) rfl dX7_riders_57 rfl rfl ?_
            refine xv_geta (q := 61) rfl dX7_riders_58 f_X7_68 (hg.1 _ _ rfl) (hg.2 _ _ _ rfl) ?_
            refine xv_iload_n (q := 62) rfl dX7_riders_61 rfl rfl ?_
            refine xv_zald (q := 63) rfl dX7_riders_62 (hg.1 _ _ rfl) rfl hs4 (by decide) ?_
            refine xv_if_ne (q := 66) (t := 69) rfl rfl dX7_riders_63 (fun h63 => ?_) (fun h63 => ?_)
            · refine xv_iconst (v := nI 0) (q := 70) rfl dX7_riders_69 rfl ?_
              refine xv_istore (q := 72) rfl dX7_riders_70 rfl ?_
              refine xv_iconst (v := nI 0) (q := 73) rfl dX7_riders_72 rfl ?_
              refine xv_istore (q := 75) rfl dX7_riders_73 rfl ?_
              have zhz := m_rid_loop (E := E) (d := d) (L := L) hg hs4 zq2 (show m ≤ 5 by omega) (nI w) f zq5 zq6 m 0 n c I none (Nat.le_refl m) (Or.inl (Nat.sub_self m)) hK FMr.rf
              rw [Nat.sub_self] at zhz
              exact zhz
            · exact absurd h63 h41
          · refine xv_bipush (v := (-13)) (q := 56) rfl dX7_riders_54 rfl ?_
            refine xv_iret dX7_riders_56 rfl ?_
            rw [zhq, if_pos h51]
            exact ⟨rfl, rfl, rfl, rfl, hK, FMr.rf⟩
      · have h29 := bIz h29
        refine xv_bipush (v := (-2)) (q := 34) rfl dX7_riders_32 rfl ?_
        refine xv_iret dX7_riders_34 rfl ?_
        rw [show sp_riders sg n c x so f m = (-2, n, c) from if_pos (by
          by_cases zh1 : m < 0
          · exact Or.inr (Or.inr (Or.inr (Or.inl zh1)))
          · refine Or.inr (Or.inr (Or.inr (Or.inr (fun zh2 => isR_f h29 ⟨zh1, fun zh3 => absurd (Int32.le_trans zh3 zh2) (by decide)⟩)))))]
        exact ⟨rfl, rfl, rfl, rfl, hK, FMr.rf⟩
end MRS

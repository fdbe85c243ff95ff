section RIDERS5
variable {E : XE} {d : Nat} {sh : XSh} {I : XI} {R : XRf} {L : XL} {n dd u : Nat} {c : CR}
theorem FXc.trans {I J K : XI} (h1 : FXc I J) (h2 : FXc J K) : FXc I K := fun k hk => (h2 k hk).trans (h1 k hk)
theorem rdF_o {ln N k came : Nat} {it : Nat → Int32} {f : Int32} (h : hld (nI ln) (f + nI 3 * nI (N - (k + 1))) (nI 3) = false) : rdF ln it f N (k + 1) came n c = (-12, n, c) := if_pos h
theorem rdF_s {ln N k came a : Nat} {it : Nat → Int32} {f : Int32} (h : hld (nI ln) (f + nI 3 * nI (N - (k + 1))) (nI 3) = true) (ha : f + nI 3 * nI (N - (k + 1)) = nI a) (ha2 : a < 2 ^ 31) : rdF ln it f N (k + 1) came n c = rdF ln it f N k (if (sp_rider n c (it a) (it (a + 1)) (it (a + 2))).1 < 0 then came else came + 1) (sp_rider n c (it a) (it (a + 1)) (it (a + 2))).2.1 (sp_rider n c (it a) (it (a + 1)) (it (a + 2))).2.2 := by
  have : ¬ hld (nI ln) (f + nI 3 * nI (N - (k + 1))) (nI 3) = false := by rw [h]; decide
  show (if _ then _ else _) = _
  rw [if_neg this]
  dsimp only
  rw [ha, nI_clamp ha2]
theorem c_riders_loop (hg : XG sh R) {s ln N n0 : Nat} {c0 : CR} {it : Nat → Int32} (hs : s < 4) (hln : ln ≤ 40) (hN : N ≤ 5) (x so f : Int32) (h1 : I (53 + 2 * s) 1 = nI ln) (h2 : ∀ i, i < ln → I (53 + 2 * s + 1) i = it i) :
    ∀ (k came : Nat) (n : Nat) (c : CR) (J : XI) (l8 : Option Value), k ≤ N → KXc J n c dd u → FXc I J → XV E mX6_riders (d + 3) 0 0 (QR (rdF ln it f N k came n c) n0 c0 dd u sh I R L) 0 0 67 [some (.ref 0), some (.int x), some (.int so), some (.int f), some (.int (nI N)), some (.ref (53 + 2 * s)), some (.int (nI came)), some (.int (nI (N - k))), l8] [] sh J R L := by
  obtain ⟨hsr, hst⟩ := xg_sheet hg hs
  intro k
  induction k with
  | zero =>
    intro came n c J l8 hk hK hF
    rw [Nat.sub_zero]
    refine xv_iload (q := 69) rfl dX6_riders_67 rfl ?_
    refine xv_iload (q := 71) rfl dX6_riders_69 rfl ?_
    refine xv_icmp_ge (q := 74) (t := 140) rfl rfl dX6_riders_71 (fun h71 => ?_) (fun h71 => ?_)
    · refine xv_iload (q := 142) rfl dX6_riders_140 rfl ?_
      refine xv_iret dX6_riders_142 rfl ?_
      exact ⟨rfl, rfl, rfl, rfl, hK, hF⟩
    · exact absurd (nI_le (Nat.le_refl N) (by omega)) h71
  | succ k ih =>
    intro came n c J l8 hk hK hF
    have hJ1 : J (53 + 2 * s) 1 = nI ln := by rw [hF _ (by omega)]; exact h1
    have hJ2 : ∀ i, i < ln → J (53 + 2 * s + 1) i = it i := fun i hi => by rw [hF _ (by omega)]; exact h2 i hi
    refine xv_iload (q := 69) rfl dX6_riders_67 rfl ?_
    refine xv_iload (q := 71) rfl dX6_riders_69 rfl ?_
    refine xv_icmp_ge (q := 74) (t := 140) rfl rfl dX6_riders_71 (fun h71 => ?_) (fun h71 => ?_)
    · exact absurd (nIle h71 (by omega) (by omega)) (by omega)
    · refine xv_iload_n (q := 75) rfl dX6_riders_74 rfl rfl ?_
      refine xv_iconst (v := nI 3) (q := 76) rfl dX6_riders_75 rfl ?_
      refine xv_iload (q := 78) rfl dX6_riders_76 rfl ?_
      refine xv_imul (q := 79) rfl dX6_riders_78 ?_
      refine xv_iadd (q := 80) rfl dX6_riders_79 ?_
      refine xv_istore (q := 82) rfl dX6_riders_80 rfl ?_
      refine xv_aload (q := 84) rfl dX6_riders_82 rfl ?_
      refine xv_iload (q := 86) rfl dX6_riders_84 rfl ?_
      refine xv_iconst (v := nI 3) (q := 87) rfl dX6_riders_86 rfl ?_
      refine xv_cV2 (z := mX3_holds) (q := 90) rfl dX6_riders_87 l_X6_256 gX3_holds hst.1 rfl rfl rfl (c_holds (d := d) hst (f + nI 3 * nI (N - (k + 1))) (nI 3)) (by omega) ?_
      rw [hJ1]
      refine xv_if_ne (q := 93) (t := 96) rfl rfl dX6_riders_90 (fun h90 => ?_) (fun h90 => ?_)
      · have h90 := bIn h90
        obtain ⟨a, b, g1, ea, eb⟩ := hld_of hln h90
        have hb3 : b = 3 := by
          rcases Nat.lt_or_ge b (2 ^ 31) with z | z
          · exact (nIe eb (by omega) z).symm
          · omega
        subst hb3
        rw [ea]
        refine xv_aload_n (q := 97) rfl dX6_riders_96 rfl rfl ?_
        refine xv_aload (q := 99) rfl dX6_riders_97 rfl ?_
        refine xv_geta (q := 102) rfl dX6_riders_99 f_X6_232 hst.1 hst.2.1 ?_
        refine xv_iload (q := 104) rfl dX6_riders_102 rfl ?_
        refine xv_iald (q := 105) rfl dX6_riders_104 hst.2.2 rfl (by omega) (by decide) ?_
        rw [hJ2 a (by omega)]
        refine xv_aload (q := 107) rfl dX6_riders_105 rfl ?_
        refine xv_geta (q := 110) rfl dX6_riders_107 f_X6_232 hst.1 hst.2.1 ?_
        refine xv_iload (q := 112) rfl dX6_riders_110 rfl ?_
        refine xv_iconst (v := nI 1) (q := 113) rfl dX6_riders_112 rfl ?_
        refine xv_iadd (q := 114) rfl dX6_riders_113 ?_
        refine xv_as (w := nI (a + 1)) (nI_add _ _) ?_
        refine xv_iald (q := 115) rfl dX6_riders_114 hst.2.2 rfl (by omega) (by decide) ?_
        rw [hJ2 (a + 1) (by omega)]
        refine xv_aload (q := 117) rfl dX6_riders_115 rfl ?_
        refine xv_geta (q := 120) rfl dX6_riders_117 f_X6_232 hst.1 hst.2.1 ?_
        refine xv_iload (q := 122) rfl dX6_riders_120 rfl ?_
        refine xv_iconst (v := nI 2) (q := 123) rfl dX6_riders_122 rfl ?_
        refine xv_iadd (q := 124) rfl dX6_riders_123 ?_
        refine xv_as (w := nI (a + 2)) (nI_add _ _) ?_
        refine xv_iald (q := 125) rfl dX6_riders_124 hst.2.2 rfl (by omega) (by decide) ?_
        rw [hJ2 (a + 2) (by omega)]
        refine xv_rV3 (z := mX6_comeIn) (q := 128) rfl dX6_riders_125 l_X6_60 gX6_comeIn (hg.1 _ _ rfl) rfl rfl rfl (x_comeIn (d := d + 1) hg hK (it a) (it (a + 1)) (it (a + 2))) (by omega) ?_
        rintro _ _ J2 _ _ ⟨rfl, rfl, rfl, rfl, q5, q6⟩
        refine xv_if_lt (q := 131) (t := 134) rfl rfl dX6_riders_128 (fun h128 => ?_) (fun h128 => ?_)
        · refine xv_iinc (q := 137) (v := nI 1) rfl dX6_riders_134 rfl rfl ?_
          refine xv_goto (t := 67) rfl dX6_riders_137 ?_
          rw [show nI (N - (k + 1)) + nI 1 = nI (N - k) by rw [nI_add]; congr 1; omega, rdF_s h90 ea (by omega)]
          rw [if_pos h128]
          exact ih _ _ _ _ _ (by omega) q5 (hF.trans q6)
        · refine xv_iinc (q := 134) (v := nI 1) rfl dX6_riders_131 rfl rfl ?_
          refine xv_iinc (q := 137) (v := nI 1) rfl dX6_riders_134 rfl rfl ?_
          refine xv_goto (t := 67) rfl dX6_riders_137 ?_
          rw [nI_add]
          rw [show nI (N - (k + 1)) + nI 1 = nI (N - k) by rw [nI_add]; congr 1; omega, rdF_s h90 ea (by omega)]
          rw [if_neg h128]
          exact ih _ _ _ _ _ (by omega) q5 (hF.trans q6)
      · have h90 := bIz h90
        refine xv_bipush (v := (-12)) (q := 95) rfl dX6_riders_93 rfl ?_
        refine xv_iret dX6_riders_95 rfl ?_
        rw [rdF_o h90]
        exact ⟨rfl, rfl, rfl, rfl, hK, hF⟩
theorem x_riders (hg : XG sh R) (hK : KXc I n c dd u) {sg : SG} (hS : KXs I sg) (x so f m : Int32) : XC E mX6_riders (d + 3) 0 0 [.ref 0, .int x, .int so, .int f, .int m] sh I R L (QR (sp_riders sg n c x so f m) n c dd u sh I R L) := by
  refine XC.of (by decide) rfl rfl ?_
  refine xv_iload_n (q := 1) rfl dX6_riders_0 rfl rfl ?_
  refine xv_cS1 (z := mX6_isSheet) (q := 4) rfl dX6_riders_1 l_X6_214 gX6_isSheet rfl (c_isSheet (d := d) x) (by omega) ?_
  refine xv_if_eq (q := 7) (t := 27) rfl rfl dX6_riders_4 (fun h4 => ?_) (fun h4 => ?_)
  · have h4 := bIz h4
    refine xv_bipush (v := (-2)) (q := 29) rfl dX6_riders_27 rfl ?_
    refine xv_iret dX6_riders_29 rfl ?_
    rw [show sp_riders sg n c x so f m = (-2, n, c) from if_pos (Or.inl h4)]
    exact QR.same hK
  · have h4 := bIn h4
    obtain ⟨s, hs4, rfl⟩ := isSh_of h4
    obtain ⟨hsr, hst⟩ := xg_sheet hg hs4
    refine xv_iload_n (q := 8) rfl dX6_riders_7 rfl rfl ?_
    refine xv_if_lt (q := 11) (t := 27) rfl rfl dX6_riders_8 (fun h8 => ?_) (fun h8 => ?_)
    · refine xv_bipush (v := (-2)) (q := 29) rfl dX6_riders_27 rfl ?_
      refine xv_iret dX6_riders_29 rfl ?_
      rw [show sp_riders sg n c (nI s) so f m = (-2, n, c) from if_pos (Or.inr (Or.inl h8))]
      exact QR.same hK
    · refine xv_iload_n (q := 12) rfl dX6_riders_11 rfl rfl ?_
      refine xv_iconst (v := nI 3) (q := 13) rfl dX6_riders_12 rfl ?_
      refine xv_icmp_ge (q := 16) (t := 27) rfl rfl dX6_riders_13 (fun h13 => ?_) (fun h13 => ?_)
      · refine xv_bipush (v := (-2)) (q := 29) rfl dX6_riders_27 rfl ?_
        refine xv_iret dX6_riders_29 rfl ?_
        rw [show sp_riders sg n c (nI s) so f m = (-2, n, c) from if_pos (Or.inr (Or.inr (Or.inl h13)))]
        exact QR.same hK
      · refine xv_iload (q := 18) rfl dX6_riders_16 rfl ?_
        refine xv_if_lt (q := 21) (t := 27) rfl rfl dX6_riders_18 (fun h18 => ?_) (fun h18 => ?_)
        · refine xv_bipush (v := (-2)) (q := 29) rfl dX6_riders_27 rfl ?_
          refine xv_iret dX6_riders_29 rfl ?_
          rw [show sp_riders sg n c (nI s) so f m = (-2, n, c) from if_pos (Or.inr (Or.inr (Or.inr (Or.inl h18))))]
          exact QR.same hK
        · refine xv_iload (q := 23) rfl dX6_riders_21 rfl ?_
          refine xv_iconst (v := nI 5) (q := 24) rfl dX6_riders_23 rfl ?_
          refine xv_icmp_le (q := 27) (t := 30) rfl rfl dX6_riders_24 (fun h24 => ?_) (fun h24 => ?_)
          · have hq : ¬ (isSh (nI s) = false ∨ so < 0 ∨ nI 3 ≤ so ∨ m < 0 ∨ ¬ m ≤ nI 5) := fun q => q.elim (fun q => by rw [h4] at q; cases q) (fun q => q.elim h8 (fun q => q.elim h13 (fun q => q.elim h18 (fun q => q h24))))
            obtain ⟨m, hm5, rfl⟩ := nI_of2 (n := 5) (M := nI 5) (by decide) h18 h24
            refine xv_aload_n (q := 31) rfl dX6_riders_30 rfl rfl ?_
            refine xv_geta (q := 34) rfl dX6_riders_31 f_X6_34 (hg.1 _ _ rfl) (hg.2 _ _ _ rfl) ?_
            refine xv_iload_n (q := 35) rfl dX6_riders_34 rfl rfl ?_
            refine xv_aald (q := 36) rfl dX6_riders_35 (hg.1 _ _ rfl) (by decide) rfl hs4 (by decide) hsr ?_
            refine xv_astore (q := 38) rfl dX6_riders_36 rfl ?_
            refine xv_aload (q := 40) rfl dX6_riders_38 rfl ?_
            refine xv_cV0 (z := mX3_isMissing) (q := 43) rfl dX6_riders_40 l_X6_245 gX3_isMissing hst.1 rfl rfl rfl (c_isMissing (d := d) hst) (by omega) ?_
            refine xv_if_eq (q := 46) (t := 49) rfl rfl dX6_riders_43 (fun h43 => ?_) (fun h43 => ?_)
            · have h43 := of_decide_eq_false (bIz h43)
              rcases hS.miss hs4 with ⟨-, q⟩ | ⟨a, ln, it, e1, q1, q2, q3, q4, q5⟩
              · exact absurd q h43
              rw [sp_riders_s hq hs4 e1]
              refine xv_aload (q := 51) rfl dX6_riders_49 rfl ?_
              refine xv_geti (q := 54) rfl dX6_riders_51 f_X6_253 hst.1 ?_
              rw [q3]
              refine xv_iload_n (q := 55) rfl dX6_riders_54 rfl rfl ?_
              refine xv_icmp_eq (q := 58) (t := 61) rfl rfl dX6_riders_55 (fun h55 => ?_) (fun h55 => ?_)
              · rw [if_neg (fun q => q h55)]
                refine xv_iconst (v := nI 0) (q := 62) rfl dX6_riders_61 rfl ?_
                refine xv_istore (q := 64) rfl dX6_riders_62 rfl ?_
                refine xv_iconst (v := nI 0) (q := 65) rfl dX6_riders_64 rfl ?_
                refine xv_istore (q := 67) rfl dX6_riders_65 rfl ?_
                rw [nI_clamp (n := m) (by omega)]
                have hl := c_riders_loop (E := E) (d := d) (L := L) (u := u) (dd := dd) (n0 := n) (c0 := c) hg hs4 q2 hm5 (nI s) so f q4 q5 m 0 n c I none (Nat.le_refl m) hK (fun _ _ => rfl)
                rw [Nat.sub_self] at hl
                exact hl
              · rw [if_pos h55]
                refine xv_bipush (v := (-13)) (q := 60) rfl dX6_riders_58 rfl ?_
                refine xv_iret dX6_riders_60 rfl ?_
                exact QR.same hK
            · have h43 := of_decide_eq_true (bIn h43)
              refine xv_bipush (v := (-11)) (q := 48) rfl dX6_riders_46 rfl ?_
              refine xv_iret dX6_riders_48 rfl ?_
              rcases hS.miss hs4 with ⟨q, -⟩ | ⟨a, ln, it, -, q1, -, q3, -⟩
              · rw [sp_riders_n hq hs4 q]
                exact QR.same hK
              · exact absurd (q3.symm.trans h43) (so_ne q1)
          · refine xv_bipush (v := (-2)) (q := 29) rfl dX6_riders_27 rfl ?_
            refine xv_iret dX6_riders_29 rfl ?_
            rw [show sp_riders sg n c (nI s) so f m = (-2, n, c) from if_pos (Or.inr (Or.inr (Or.inr (Or.inr h24))))]
            exact QR.same hK
end RIDERS5

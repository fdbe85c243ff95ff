/-! the model: drawn, chance -/
theorem dfi_ok {q : CR} {r f : Nat} : ∀ (m k : Nat), (∃ j, j < m ∧ oks (ci (setr q 5 r ((f + (k + j)) % 6))) r r = true) → oks (ci (setr q 5 r ((f + dfi q r f m k) % 6))) r r = true
  | 0, _, h => by obtain ⟨j, zhj, _⟩ := h; exact absurd zhj (Nat.not_lt_zero j)
  | m + 1, k, h => by
    by_cases ho : oks (ci (setr q 5 r ((f + k) % 6))) r r = true
    · rw [show dfi q r f (m + 1) k = k from if_pos ho]; exact ho
    · rw [show dfi q r f (m + 1) k = dfi q r f m (k + 1) from if_neg ho]
      obtain ⟨j, zhj, zhz⟩ := h
      cases j with
      | zero => exact absurd zhz ho
      | succ j => exact dfi_ok m (k + 1) ⟨j, by omega, by rw [show k + 1 + j = k + (j + 1) by omega]; exact zhz⟩
section MDRAW2
variable {E : XE} {d : Nat} {sh : XSh} {I : XI} {R : XRf} {L : XL} {n dd : Nat} {c : CR} {tc u : Nat} {tx : TXS} {tv : TV}
def QDw (v0 : Int32) (n : Nat) (c : CR) (dd : Nat) (tv : TV) (I : XI) (sh : XSh) (R : XRf) (L : XL) : XQ := fun v sh' J R' L' => v = some (.int v0) ∧ sh' = sh ∧ R' = R ∧ L' = L ∧ MSt I J n c c dd (aln n) tv
theorem m_drw_loop (hg : XG sh R) (hw : wfn c n) (hn5 : n ≤ 5) {zs0 z0 : Int32} : ∀ (k r : Nat) (J : XI) (x : CR), r ≤ n → n < r + k → MSt I J n c x dd (aln n) tv → AG (drq c z0 r).2 x r → aks (ci (drq c z0 r).2) r = true → (∀ o, o < r → (drq c z0 r).2 5 o < 6) → XV E mX7_draws (d + 6) 0 0 (QDw (nI (drc n c dd tv z0)) n c dd tv I sh R L) 0 0 16 [some (.ref 61), some (.int zs0), some (.int (drq c z0 r).1), some (.int (nI r))] [] sh J R L := by
  intro k
  induction k with
  | zero => intro r J x zh1 zh2; exact absurd zh2 (by omega)
  | succ k ih =>
    intro r J x zh1 zh2 hX hA hqa hq6
    refine xv_iload_n (q := 17) rfl dX7_draws_16 rfl rfl ?_
    refine xv_aload_n (q := 18) rfl dX7_draws_17 rfl rfl ?_
    refine xv_geti (q := 21) rfl dX7_draws_18 f_X7_88 (hg.1 _ _ rfl) ?_
    rw [hX.2.1.2.1]
    refine xv_icmp_ge (q := 24) (t := 83) rfl rfl dX7_draws_21 (fun h21 => ?_) (fun h21 => ?_)
    · have h21 := nIle h21 (by omega) (by omega)
      obtain rfl : r = n := by omega
      have hXq := hX.ag hA (drq_sx c z0 r)
      refine xv_aload_n (q := 84) rfl dX7_draws_83 rfl rfl ?_
      refine xv_rV0 (z := mX7_rides) (q := 87) rfl dX7_draws_84 l_X7_298 gX7_rides (hg.1 _ _ rfl) rfl rfl rfl (m_rides (d := d) hg hXq.2.1 hXq.2.2.2.1 (all_32 hn5) (hXq.2.2.2.2.1.sx hXq.2.2.1)) (by omega) ?_
      rintro _ _ J3 _ _ ⟨rfl, rfl, rfl, rfl, hF3, -, -⟩
      refine xv_istore_n (q := 88) rfl dX7_draws_87 rfl rfl ?_
      refine xv_aload_n (q := 89) rfl dX7_draws_88 rfl rfl ?_
      refine xv_rV0 (z := mX7_laysBack) (q := 92) rfl dX7_draws_89 l_X7_316 gX7_laysBack (hg.1 _ _ rfl) rfl rfl rfl (m_laysBack (d := d) hg) (by omega) ?_
      rintro _ _ J5 _ _ ⟨rfl, rfl, rfl, rfl, hk3, hk4⟩
      refine xv_iload_n (q := 93) rfl dX7_draws_92 rfl rfl ?_
      refine xv_iret dX7_draws_93 rfl ?_
      exact ⟨rfl, rfl, rfl, rfl, mst_b (hXq.ri hF3) hw hk3 hk4⟩
    · have h21 : r < n := nInle h21 (by omega) (by omega)
      refine xv_iload_n (q := 25) rfl dX7_draws_24 rfl rfl ?_
      refine xv_ldcw (q := 28) rfl dX7_draws_25 k_X7_344 ?_
      refine xv_imul (q := 29) rfl dX7_draws_28 ?_
      refine xv_sipush (v := nI 12345) (q := 32) rfl dX7_draws_29 rfl ?_
      refine xv_iadd (q := 33) rfl dX7_draws_32 ?_
      generalize zhz : (drq c z0 r).1 * 1103515245 + nI 12345 = z
      refine xv_istore_n (q := 34) rfl dX7_draws_33 rfl rfl ?_
      refine xv_aload_n (q := 35) rfl dX7_draws_34 rfl rfl ?_
      refine xv_geta (q := 38) rfl dX7_draws_35 f_X7_41 (hg.1 _ _ rfl) (hg.2 _ _ _ rfl) ?_
      refine xv_iload_n (q := 39) rfl dX7_draws_38 rfl rfl ?_
      refine xv_iload_n (q := 40) rfl dX7_draws_39 rfl rfl ?_
      refine xv_bipush (v := nI 9) (q := 42) rfl dX7_draws_40 rfl ?_
      refine xv_iushr (q := 43) rfl dX7_draws_42 ?_
      refine xv_as (w := nI (z.toBitVec.toNat / 512)) (zsh z) ?_
      refine xv_bipush (v := nI 6) (q := 45) rfl dX7_draws_43 rfl ?_
      refine xv_irem (q := 46) rfl dX7_draws_45 (by decide) ?_
      refine xv_as (w := nI (zf z)) (zf_I z) ?_
      refine xv_iast (q := 47) rfl dX7_draws_46 (hg.1 _ _ rfl) rfl (by omega) (by decide) ?_
      have hz6 := zf_6 z
      have hX1 := hX.put (r := r) (p := zf z) hz6
      obtain ⟨j, zhj, hjo⟩ := pg_ok (q := (drq c z0 r).2) (r := r) (f := zf z) (by omega) hq6 hz6
      have hdo := dfi_ok (q := (drq c z0 r).2) (r := r) (f := zf z) 5 0 ⟨j, zhj, by rw [Nat.zero_add]; exact hjo⟩
      have hz2 : (drq c z0 (r + 1)).2 = setr (drq c z0 r).2 5 r ((zf z + dfi (drq c z0 r).2 r (zf z) 5 0) % 6) := by rw [← zhz]; rfl
      refine m_drw_in (d := d) (tv := tv) (I := I) hg hn5 h21 hz6 hA hqa hq6 (fun K hK => ?_) 5 0 _ rfl rfl (fun j zhj => absurd zhj (Nat.not_lt_zero j)) (by rw [Nat.add_zero, Nat.mod_eq_of_lt hz6]; exact hX1)
      refine xv_iinc (q := 80) (v := nI 1) rfl dX7_draws_77 rfl rfl ?_
      refine xv_goto (t := 16) rfl dX7_draws_80 ?_
      rw [nI_add]
      have hzz := ih (r + 1) K _ (by omega) (by omega) hK (by rw [hz2]; exact hA.nx) (by
        rw [hz2]
        show (aks _ r && oks _ r r) = true
        rw [hdo, aks_cong (c := ci (drq c z0 r).2) (fun w a _ ha => by unfold ci; rw [setr_ne (by omega)]), hqa]; rfl) (fun o ho => by
        rw [hz2]
        by_cases e : o = r
        · rw [e, setr_at]; omega
        · rw [setr_ne (fun z => e z.2)]; exact hq6 o (by omega))
      rw [show (drq c z0 (r + 1)).1 = z from zhz] at hzz
      exact hzz
theorem m_draws (hg : XG sh R) {J : XI} {K : XL} (hF : FSt I J) (hC : MCw J n c dd) (hT : MTX J tc tx) (hu4 : J 61 4 = nI u) (hu : u < tc) (seed : Int32) : XC E mX7_draws (d + 46) 0 0 [.ref 61, .int seed] sh J R K (fun v sh' J' R' L' => v = some (.int (nI (drc n c dd (tvx tx u) seed))) ∧ sh' = sh ∧ R' = R ∧ FL K L' ∧ MSt J J' n c c dd (aln n) (tvx tx u)) := by
  refine XC.of (by decide) rfl rfl ?_
  refine xv_aload_n (q := 1) rfl dX7_draws_0 rfl rfl ?_
  refine xv_aload_n (q := 2) rfl dX7_draws_1 rfl rfl ?_
  refine xv_cV0 (z := mX7_allRiders) (q := 5) rfl dX7_draws_2 l_X7_291 gX7_allRiders (hg.1 _ _ rfl) rfl rfl rfl (m_all (d := d) hg hC.2.1 hC.2.2.1) (by omega) ?_
  refine xv_rV1 (z := mX7_gathers) (q := 8) rfl dX7_draws_5 l_X7_294 gX7_gathers (hg.1 _ _ rfl) rfl rfl rfl (m_gat (d := d) hg hC hT hu4 hu (all_32 hC.2.2.1)) (by omega) ?_
  rintro _ _ J1 _ L1 ⟨rfl, rfl, rfl, hF1, hL1, hP1, hG1, hM1⟩
  refine xv_aload_n (q := 9) rfl dX7_draws_8 rfl rfl ?_
  refine xv_rV0 (z := mX7_keeps) (q := 12) rfl dX7_draws_9 l_X7_313 gX7_keeps (hg.1 _ _ rfl) rfl rfl rfl (m_keeps (d := d) hg) (by omega) ?_
  rintro _ _ J2 _ _ ⟨rfl, rfl, rfl, rfl, hk1, hk2⟩
  have hS := mst_0 (P := aln n) hC hF1 hP1 hG1 hM1 hk1 hk2
  refine xv_iload_n (q := 13) rfl dX7_draws_12 rfl rfl ?_
  refine xv_istore_n (q := 14) rfl dX7_draws_13 rfl rfl ?_
  refine xv_iconst (v := nI 0) (q := 15) rfl dX7_draws_14 rfl ?_
  refine xv_istore_n (q := 16) rfl dX7_draws_15 rfl rfl ?_
  refine XV.imp (m_drw_loop (d := d + 40) (I := J) (tv := tvx tx u) (z0 := seed) hg hC.2.2.2.2.2 hC.2.2.1 (n + 1) 0 J2 c (by omega) (by omega) hS ⟨SX.rf, fun a ha => absurd ha (Nat.not_lt_zero a)⟩ rfl (fun o ho => absurd ho (Nat.not_lt_zero o))) ?_
  rintro _ _ J4 _ _ ⟨rfl, rfl, rfl, rfl, hX4⟩
  exact ⟨rfl, rfl, rfl, hL1, hX4⟩
theorem m_drawn (hg : XG sh R) (hK : MKc I n c dd u) (hT : MTX I tc tx) (hu : u < tc) (seed : Int32) : XC E mX7_drawn (d + 47) 0 0 [.ref 61, .int seed] sh I R L (QMq n (.int (sp_drawn n c dd (tvx tx u) seed)) sh I R L) := by
  refine XC.of (by decide) rfl rfl ?_
  refine xv_aload_n (q := 1) rfl dX7_drawn_0 rfl rfl ?_
  refine xv_iload_n (q := 2) rfl dX7_drawn_1 rfl rfl ?_
  refine xv_rV1 (z := mX7_draws) (q := 5) rfl dX7_drawn_2 l_X7_345 gX7_draws (hg.1 _ _ rfl) rfl rfl rfl (m_draws (d := d) (I := I) hg .rf hK.cw hT hK.2.2.2.2.2.1 hu seed) (by omega) ?_
  rintro _ _ J1 _ L1 ⟨rfl, rfl, rfl, hL1, hX1⟩
  refine xv_iret dX7_drawn_5 rfl ?_
  exact ⟨rfl, rfl, rfl, fmq_st hX1.1 (fun r hr => (hX1.2.1.1 5 r (by decide) hr).trans (hK.1 5 r (by decide) hr).symm), hL1⟩
end MDRAW2

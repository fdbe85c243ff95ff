/-! the model: landings, seen -/
section MSEEN
variable {E : XE} {d : Nat} {sh : XSh} {I : XI} {R : XRf} {L : XL} {n dd : Nat} {c : CR} {u : Nat} {sg : SG}
theorem m_unl_loop (hg : XG sh R) {P s ln : Nat} {it : Nat → Int32} (hC : MCw I n c dd) (hP : I 61 34 = nI P) (hP32 : P < 32) (zhs : s < 4) (hln : ln ≤ 10) (h72 : I 80 s = nI ln) (h73 : ∀ i, i < ln → I 81 (40 * s + i) = it i) {v : Int32} : ∀ (k f : Nat), ulf c n dd P ln it k f = v → 10 < f + k → f ≤ 10 → XV E mX7_unlikeAt (d + 4) 0 0 (xq (some (.int v)) sh I R L) 0 0 10 [some (.ref 61), some (.int (nI s)), some (.int (nI f))] [] sh I R L := by
  intro k
  induction k with
  | zero => intro f hv zh1 zh2; exact absurd zh1 (by omega)
  | succ k ih =>
    intro f hv zh1 zh2
    rw [show ulf c n dd P ln it (k + 1) f = (if ln ≤ f then -1 else if it f = nI (wso c n dd P f) then ulf c n dd P ln it k (f + 1) else nI f) from rfl] at hv
    refine xv_iload_n (q := 11) rfl dX7_unlikeAt_10 rfl rfl ?_
    refine xv_aload_n (q := 12) rfl dX7_unlikeAt_11 rfl rfl ?_
    refine xv_geta (q := 15) rfl dX7_unlikeAt_12 f_X7_75 (hg.1 _ _ rfl) (hg.2 _ _ _ rfl) ?_
    refine xv_iload_n (q := 16) rfl dX7_unlikeAt_15 rfl rfl ?_
    refine xv_iald (q := 17) rfl dX7_unlikeAt_16 (hg.1 _ _ rfl) rfl (by omega) (by decide) ?_
    rw [h72]
    refine xv_icmp_ge (q := 20) (t := 47) rfl rfl dX7_unlikeAt_17 (fun h17 => ?_) (fun h17 => ?_)
    · have h17 := nIle h17 (by omega) (by omega)
      rw [if_pos h17] at hv
      refine xv_iconst (v := (-1)) (q := 48) rfl dX7_unlikeAt_47 rfl ?_
      refine xv_iret dX7_unlikeAt_48 rfl ?_
      exact ⟨by rw [← hv], rfl, rfl, rfl, rfl⟩
    · have h17 := nInle h17 (by omega) (by omega)
      rw [if_neg (by omega)] at hv
      refine xv_aload_n (q := 21) rfl dX7_unlikeAt_20 rfl rfl ?_
      refine xv_iload_n (q := 22) rfl dX7_unlikeAt_21 rfl rfl ?_
      refine xv_cV1 (z := mX7_stepsAt) (q := 25) rfl dX7_unlikeAt_22 l_X7_285 gX7_stepsAt (hg.1 _ _ rfl) rfl rfl rfl (m_steps (d := d) hg hC hP hP32 (show f < 10 by omega)) (by omega) ?_
      refine xv_aload_n (q := 26) rfl dX7_unlikeAt_25 rfl rfl ?_
      refine xv_geta (q := 29) rfl dX7_unlikeAt_26 f_X7_78 (hg.1 _ _ rfl) (hg.2 _ _ _ rfl) ?_
      refine xv_bipush (v := nI 40) (q := 31) rfl dX7_unlikeAt_29 rfl ?_
      refine xv_iload_n (q := 32) rfl dX7_unlikeAt_31 rfl rfl ?_
      refine xv_imul (q := 33) rfl dX7_unlikeAt_32 ?_
      refine xv_as (w := nI (40 * s)) (pk_mul _ _) ?_
      refine xv_iload_n (q := 34) rfl dX7_unlikeAt_33 rfl rfl ?_
      refine xv_iadd (q := 35) rfl dX7_unlikeAt_34 ?_
      refine xv_as (w := nI (40 * s + f)) (nI_add _ _) ?_
      refine xv_iald (q := 36) rfl dX7_unlikeAt_35 (hg.1 _ _ rfl) rfl (by omega) (by decide) ?_
      rw [h73 f h17]
      refine xv_icmp_eq (q := 39) (t := 41) rfl rfl dX7_unlikeAt_36 (fun h36 => ?_) (fun h36 => ?_)
      · rw [if_pos h36.symm] at hv
        refine xv_iinc (q := 44) (v := nI 1) rfl dX7_unlikeAt_41 rfl rfl ?_
        refine xv_goto (t := 10) rfl dX7_unlikeAt_44 ?_
        rw [nI_add]
        exact ih (f + 1) hv (by omega) (by omega)
      · rw [if_neg (fun z => h36 z.symm)] at hv
        refine xv_iload_n (q := 40) rfl dX7_unlikeAt_39 rfl rfl ?_
        refine xv_iret dX7_unlikeAt_40 rfl ?_
        exact ⟨by rw [← hv], rfl, rfl, rfl, rfl⟩
theorem m_unl (hg : XG sh R) {s ln : Nat} {it : Nat → Int32} (hC : MCw I n c dd) (zhs : s < 4) (hln : ln ≤ 10) (h72 : I 80 s = nI ln) (h73 : ∀ i, i < ln → I 81 (40 * s + i) = it i) : XC E mX7_unlikeAt (d + 4) 0 0 [.ref 61, .int (nI s)] sh I R L (xq (some (.int (uln c n dd (aln n) ln it))) sh (xi I 61 34 (nI (aln n))) R L) := by
  refine XC.of (by decide) rfl rfl ?_
  refine xv_aload_n (q := 1) rfl dX7_unlikeAt_0 rfl rfl ?_
  refine xv_aload_n (q := 2) rfl dX7_unlikeAt_1 rfl rfl ?_
  refine xv_cV0 (z := mX7_allRiders) (q := 5) rfl dX7_unlikeAt_2 l_X7_291 gX7_allRiders (hg.1 _ _ rfl) rfl rfl rfl (m_all (d := d) hg hC.2.1 hC.2.2.1) (by omega) ?_
  refine xv_puti (q := 8) rfl dX7_unlikeAt_5 f_X7_254 (fun h => by cases h) (hg.1 _ _ rfl) ?_
  refine xv_iconst (v := nI 0) (q := 9) rfl dX7_unlikeAt_8 rfl ?_
  refine xv_istore_n (q := 10) rfl dX7_unlikeAt_9 rfl rfl ?_
  exact m_unl_loop (I := xi I 61 34 (nI (aln n))) hg (hC.mv (fun k zh1 _ => xi_off _ _ _ _ (by omega)) (xi_ne _ _ _ _ (by decide)) (xi_ne _ _ _ _ (by decide))) (xi_eq _ _ _ _) (all_32 hC.2.2.1) zhs hln (by rw [xi_off _ _ _ _ (by decide)]; exact h72) (fun i hi => by rw [xi_off _ _ _ _ (by decide)]; exact h73 i hi) 11 0 rfl (by omega) (by omega)
/-- what landingsBad answers -/
def lbd (sg : SG) (x : Int32) : Int32 := if isSh x = false then -2 else (rfs (sg x.toNatClampNeg)).2
theorem m_lbad (hg : XG sh R) (hK : KMs I sg) (x : Int32) : XC E mX7_landingsBad (d + 2) 0 0 [.ref 61, .int x] sh I R L (xq (some (.int (lbd sg x))) sh I R L) := by
  refine XC.of (by decide) rfl rfl ?_
  refine xv_iload_n (q := 1) rfl dX7_landingsBad_0 rfl rfl ?_
  refine xv_cS1 (z := mX7_isSheet) (q := 4) rfl dX7_landingsBad_1 l_X7_329 gX7_isSheet rfl (m_isSh (d := d) x) (by omega) ?_
  refine xv_if_ne (q := 7) (t := 10) rfl rfl dX7_landingsBad_4 (fun zh4 => ?_) (fun zh4 => ?_)
  · have zh4 := bIn zh4
    obtain ⟨s, zhs, rfl⟩ := isSh_of zh4
    rw [show lbd sg (nI s) = (rfs (sg s)).2 from (if_neg (by rw [zh4]; decide)).trans (by rw [nI_clamp (n := s) (by omega)])]
    rcases hK.miss zhs with ⟨e, h70⟩ | ⟨so, ln, it, e, hso, hln, h70, h71, h72, h73⟩
    rotate_left
    · rw [e]
      refine xv_aload_n (q := 11) rfl dX7_landingsBad_10 rfl rfl ?_
      refine xv_geta (q := 14) rfl dX7_landingsBad_11 f_X7_68 (hg.1 _ _ rfl) (hg.2 _ _ _ rfl) ?_
      refine xv_iload_n (q := 15) rfl dX7_landingsBad_14 rfl rfl ?_
      refine xv_zald (q := 16) rfl dX7_landingsBad_15 (hg.1 _ _ rfl) rfl (by omega) (by decide) ?_
      rw [h70]
      refine xv_if_ne (q := 19) (t := 22) rfl rfl dX7_landingsBad_16 (fun h16 => ?_) (fun h16 => ?_)
      · refine xv_aload_n (q := 23) rfl dX7_landingsBad_22 rfl rfl ?_
        refine xv_geta (q := 26) rfl dX7_landingsBad_23 f_X7_75 (hg.1 _ _ rfl) (hg.2 _ _ _ rfl) ?_
        refine xv_iload_n (q := 27) rfl dX7_landingsBad_26 rfl rfl ?_
        refine xv_iald (q := 28) rfl dX7_landingsBad_27 (hg.1 _ _ rfl) rfl (by omega) (by decide) ?_
        rw [h72]
        refine xv_bipush (v := nI 10) (q := 30) rfl dX7_landingsBad_28 rfl ?_
        refine xv_icmp_le (q := 33) (t := 38) rfl rfl dX7_landingsBad_30 (fun h30 => ?_) (fun h30 => ?_)
        · rw [show (rfs (some (so, ln, it))).2 = 0 from by unfold rfs; dsimp only; rw [if_pos h30]]
          refine xv_iconst (v := nI 0) (q := 39) rfl dX7_landingsBad_38 rfl ?_
          refine xv_iret dX7_landingsBad_39 rfl ?_
          exact xq_rfl
        · rw [show (rfs (some (so, ln, it))).2 = -2 from by unfold rfs; dsimp only; rw [if_neg h30]]
          refine xv_bipush (v := (-2)) (q := 35) rfl dX7_landingsBad_33 rfl ?_
          refine xv_goto (t := 39) rfl dX7_landingsBad_35 ?_
          refine xv_iret dX7_landingsBad_39 rfl ?_
          exact xq_rfl
      · exact absurd h16 (by decide)
    rw [e]
    refine xv_aload_n (q := 11) rfl dX7_landingsBad_10 rfl rfl ?_
    refine xv_geta (q := 14) rfl dX7_landingsBad_11 f_X7_68 (hg.1 _ _ rfl) (hg.2 _ _ _ rfl) ?_
    refine xv_iload_n (q := 15) rfl dX7_landingsBad_14 rfl rfl ?_
    refine xv_zald (q := 16) rfl dX7_landingsBad_15 (hg.1 _ _ rfl) rfl (by omega) (by decide) ?_
    rw [h70]
    refine xv_if_ne (q := 19) (t := 22) rfl rfl dX7_landingsBad_16 (fun h16 => ?_) (fun h16 => ?_)
    · exact absurd rfl h16
    · refine xv_bipush (v := (-11)) (q := 21) rfl dX7_landingsBad_19 rfl ?_
      refine xv_iret dX7_landingsBad_21 rfl ?_
      exact xq_rfl
  · have zh4 := bIz zh4
    rw [show lbd sg x = -2 from if_pos zh4]
    refine xv_bipush (v := (-2)) (q := 9) rfl dX7_landingsBad_7 rfl ?_
    refine xv_iret dX7_landingsBad_9 rfl ?_
    exact xq_rfl
theorem rfs_n {q : Option (Nat × Nat × (Nat → Int32))} (h : (rfs q).1 = none) : ¬ (rfs q).2 = 0 := by
  cases q with
  | none => exact (by decide : ¬ (-11 : Int32) = 0)
  | some z =>
    unfold rfs at h ⊢
    dsimp only at h ⊢
    split at h
    · cases h
    next hh => rw [if_neg hh]; exact (by decide : ¬ (-2 : Int32) = 0)
theorem rfs_s {q : Option (Nat × Nat × (Nat → Int32))} {z : Nat × (Nat → Int32)} (h : (rfs q).1 = some z) : (rfs q).2 = 0 ∧ ∃ so, q = some (so, z.1, z.2) ∧ nI z.1 ≤ nI 10 := by
  cases q with
  | none => cases h
  | some y =>
    unfold rfs at h ⊢
    dsimp only at h ⊢
    split at h
    next hh => cases h; rw [if_pos hh]; exact ⟨rfl, y.1, rfl, hh⟩
    · cases h
theorem kms_at (hK : KMs I sg) {s ln : Nat} {it : Nat → Int32} (zhs : s < 4) (h : (rfs (sg s)).1 = some (ln, it)) : ln ≤ 10 ∧ I 80 s = nI ln ∧ ∀ i, i < ln → I 81 (40 * s + i) = it i := by
  obtain ⟨-, so, e, h10⟩ := rfs_s h
  rcases hK.miss zhs with ⟨ze2, -⟩ | ⟨so2, ln2, it2, ze2, -, hln, -, -, h72, h73⟩
  · rw [e] at ze2; cases ze2
  · rw [e] at ze2
    cases ze2
    exact ⟨nIle h10 (by have : ln ≤ 40 := hln; show ln < _; omega) (by decide), h72, h73⟩
theorem fmq_34 {J : XI} {x : Int32} (h : J = xi I 61 34 x) : FMq n I J := by
  subst h
  exact ⟨fun k hk => xi_off _ _ _ _ (by omega), fun w r hw _ => by rw [xi_off _ _ _ _ (by omega)], fun j zhj => xi_ne _ _ _ _ (by omega)⟩
theorem m_landings (hg : XG sh R) (hK : MKc I n c dd u) (hS : KMs I sg) (x : Int32) : XC E mX7_landings (d + 5) 0 0 [.ref 61, .int x] sh I R L (QMq n (.int (sp_landings sg n c dd x)) sh I R L) := by
  refine XC.of (by decide) rfl rfl ?_
  refine xv_aload_n (q := 1) rfl dX7_landings_0 rfl rfl ?_
  refine xv_iload_n (q := 2) rfl dX7_landings_1 rfl rfl ?_
  refine xv_cV1 (z := mX7_landingsBad) (q := 5) rfl dX7_landings_2 l_X7_332 gX7_landingsBad (hg.1 _ _ rfl) rfl rfl rfl (m_lbad (d := d) hg hS x) (by omega) ?_
  refine xv_istore_n (q := 6) rfl dX7_landings_5 rfl rfl ?_
  refine xv_iload_n (q := 7) rfl dX7_landings_6 rfl rfl ?_
  refine xv_if_ne (q := 10) (t := 18) rfl rfl dX7_landings_7 (fun zh7 => ?_) (fun zh7 => ?_)
  · have hsp : sp_landings sg n c dd x = lbd sg x := by
      unfold sp_landings lbd
      by_cases zh0 : isSh x = false
      · rw [if_pos zh0, if_pos zh0]
      · rw [if_neg zh0, if_neg zh0]
        cases zhq : (rfs (sg x.toNatClampNeg)).1 with
        | none => rfl
        | some z =>
          have := (rfs_s zhq).1
          unfold lbd at zh7
          rw [if_neg zh0, this] at zh7
          exact absurd rfl zh7
    rw [hsp]
    refine xv_iload_n (q := 19) rfl dX7_landings_18 rfl rfl ?_
    refine xv_iret dX7_landings_19 rfl ?_
    exact QMq.rf
  · have zhx : ¬ isSh x = false := fun z => by
      unfold lbd at zh7
      rw [if_pos z] at zh7
      exact absurd zh7 (by decide)
    have hx1 : isSh x = true := by cases h : isSh x with | true => rfl | false => exact absurd h zhx
    obtain ⟨s, zhs, rfl⟩ := isSh_of hx1
    have h7b : (rfs (sg s)).2 = 0 := by
      unfold lbd at zh7
      rw [if_neg zhx, nI_clamp (n := s) (by omega)] at zh7
      exact zh7
    cases zhq : (rfs (sg s)).1 with
    | none => exact absurd h7b (rfs_n zhq)
    | some z =>
    have hsp : sp_landings sg n c dd (nI s) = uln c n dd (aln n) z.1 z.2 := by
      unfold sp_landings
      rw [if_neg zhx, nI_clamp (n := s) (by omega), zhq]
    rw [hsp]
    obtain ⟨zq1, zq2, zq3⟩ := kms_at hS zhs zhq
    refine xv_aload_n (q := 11) rfl dX7_landings_10 rfl rfl ?_
    refine xv_iload_n (q := 12) rfl dX7_landings_11 rfl rfl ?_
    refine xv_cV1 (z := mX7_unlikeAt) (q := 15) rfl dX7_landings_12 l_X7_335 gX7_unlikeAt (hg.1 _ _ rfl) rfl rfl rfl (m_unl (d := d) hg hK.cw zhs zq1 zq2 zq3) (by omega) ?_
    refine xv_goto (t := 19) rfl dX7_landings_15 ?_
    refine xv_iret dX7_landings_19 rfl ?_
    exact ⟨rfl, rfl, rfl, fmq_34 rfl, .rf⟩
end MSEEN

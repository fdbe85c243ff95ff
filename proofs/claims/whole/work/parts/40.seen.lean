/-! landings, seen, film -/
/-- the first floor from f on at which it is otherwise -/
def ulf (c : CR) (n dd P ln : Nat) (it : Nat → Int32) : Nat → Nat → Int32
  | 0, _ => -1
  | k + 1, f => if ln ≤ f then -1 else if it f = nI (wso c n dd P f) then ulf c n dd P ln it k (f + 1) else nI f
def uln (c : CR) (n dd P ln : Nat) (it : Nat → Int32) : Int32 := ulf c n dd P ln it 11 0
/-- what a sheet refuses: none, or its row -/
def rfs (q : Option (Nat × Nat × (Nat → Int32))) : Option (Nat × (Nat → Int32)) × Int32 := match q with
  | none => (none, -11)
  | some z => if nI z.2.1 ≤ nI 10 then (some (z.2.1, z.2.2), 0) else (none, -2)
def sp_landings (sg : SG) (n : Nat) (c : CR) (dd : Nat) (x : Int32) : Int32 := if isSh x = false then -2 else match (rfs (sg x.toNatClampNeg)).1 with
  | none => (rfs (sg x.toNatClampNeg)).2
  | some z => uln c n dd (aln n) z.1 z.2
/-- which numbers v of row w of r fit (k of them, from a on) -/
def wfb (c : CR) (n dd ln : Nat) (it : Nat → Int32) (w r a : Nat) : Nat → Nat
  | 0 => 0
  | k + 1 => wfb c n dd ln it w r a k ||| (if oks (ci (setr c w r (a + k))) r n = true ∧ uln (setr c w r (a + k)) n dd (aln n) ln it = -1 then 2 ^ (a + k) else 0)
def sp_seen (sg : SG) (n : Nat) (c : CR) (dd : Nat) (x y w : Int32) : Int32 := if isSh x = false ∨ isR n y = false ∨ w < 0 ∨ ¬ w ≤ nI 2 then -2 else match (rfs (sg x.toNatClampNeg)).1 with
  | none => (rfs (sg x.toNatClampNeg)).2
  | some z => if w = 0 then nI (wfb c n dd z.1 z.2 4 y.toNatClampNeg (c 3 y.toNatClampNeg + 1) (9 - c 3 y.toNatClampNeg)) else if w = nI 1 then nI (wfb c n dd z.1 z.2 5 y.toNatClampNeg 0 6) else nI (wfb c n dd z.1 z.2 0 y.toNatClampNeg 0 6)
def sp_film (sg : SG) (n : Nat) (c : CR) (dd : Nat) (x m : Int32) : Int32 × SG := if isSh x = false ∨ m < 0 ∨ ¬ m ≤ nI 10 then (-2, sg) else (m, va_up sg x.toNatClampNeg (some (0, m.toNatClampNeg, fun f => nI (wso c n dd (aln n) f))))
section SEEN
variable {E : XE} {d : Nat} {sh : XSh} {I : XI} {R : XRf} {L : XL} {n dd u tc : Nat} {c : CR} {tx : TXS} {tv : TV} {t : Nat} {sg : SG}
/-- a sheet at a with ln numbers -/
def XRow (J : XI) (a ln : Nat) (it : Nat → Int32) : Prop := J a 1 = nI ln ∧ ln ≤ 10 ∧ ∀ i, i < ln → J (a + 1) i = it i
theorem c_unl_loop (hg : XG sh R) {P a ln : Nat} {it : Nat → Int32} (hT : TR I n c dd P) (zhs : XSt sh R a) (hrow : XRow I a ln it) {v : Int32} : ∀ (k f : Nat), ulf c n dd P ln it k f = v → 10 < f + k → f ≤ 10 → XV E mX6_firstUnlike (d + 3) 0 0 (xq (some (.int v)) sh I R L) 0 0 2 [some (.ref 0), some (.ref a), some (.int (nI f))] [] sh I R L := by
  obtain ⟨hr1, hr2, hr3⟩ := hrow
  intro k
  induction k with
  | zero => intro f hv zh1 zh2; exact absurd zh1 (by omega)
  | succ k ih =>
    intro f hv zh1 zh2
    have hv : (if ln ≤ f then -1 else if it f = nI (wso c n dd P f) then ulf c n dd P ln it k (f + 1) else nI f) = v := hv
    refine xv_iload_n (q := 3) rfl dX6_firstUnlike_2 rfl rfl ?_
    refine xv_aload_n (q := 4) rfl dX6_firstUnlike_3 rfl rfl ?_
    refine xv_geti (q := 7) rfl dX6_firstUnlike_4 f_X6_248 zhs.1 ?_
    rw [hr1]
    refine xv_icmp_ge (q := 10) (t := 41) rfl rfl dX6_firstUnlike_7 (fun zh7 => ?_) (fun zh7 => ?_)
    · have zh7 : ln ≤ f := nIle zh7 (by omega) (by omega)
      rw [if_pos zh7] at hv
      refine xv_iconst (v := (-1)) (q := 42) rfl dX6_firstUnlike_41 rfl ?_
      refine xv_iret dX6_firstUnlike_42 rfl ?_
      rw [hv]
      exact xq_rfl
    · have zh7 : f < ln := nInle zh7 (by omega) (by omega)
      rw [if_neg (show ¬ ln ≤ f by omega)] at hv
      refine xv_iload_n (q := 11) rfl dX6_firstUnlike_10 rfl rfl ?_
      refine xv_bipush (v := nI 10) (q := 13) rfl dX6_firstUnlike_11 rfl ?_
      refine xv_icmp_ge (q := 16) (t := 41) rfl rfl dX6_firstUnlike_13 (fun h13 => ?_) (fun h13 => ?_)
      · exact absurd (nIle h13 (by omega) (by omega)) (by omega)
      · have h13 : f < 10 := nInle h13 (by omega) (by omega)
        refine xv_aload_n (q := 17) rfl dX6_firstUnlike_16 rfl rfl ?_
        refine xv_geta (q := 20) rfl dX6_firstUnlike_17 f_X6_232 zhs.1 zhs.2.1 ?_
        refine xv_iload_n (q := 21) rfl dX6_firstUnlike_20 rfl rfl ?_
        refine xv_iald (q := 22) rfl dX6_firstUnlike_21 zhs.2.2 rfl (by omega) (by decide) ?_
        refine xv_as (w := it f) (hr3 f zh7) ?_
        refine xv_aload_n (q := 23) rfl dX6_firstUnlike_22 rfl rfl ?_
        refine xv_geto (q := 26) rfl dX6_firstUnlike_23 f_X6_41 (hg.1 _ _ rfl) (hg.2 _ _ _ rfl) ?_
        refine xv_iload_n (q := 27) rfl dX6_firstUnlike_26 rfl rfl ?_
        refine xv_cV1 (z := mX5_whoStepsOut) (q := 30) rfl dX6_firstUnlike_27 l_X6_158 gX5_whoStepsOut (hg.1 _ _ rfl) rfl rfl rfl (c_wso (d := d) hg hT h13) (by omega) ?_
        refine xv_icmp_eq (q := 33) (t := 35) rfl rfl dX6_firstUnlike_30 (fun h30 => ?_) (fun h30 => ?_)
        · rw [if_pos h30] at hv
          refine xv_iinc (q := 38) (v := nI 1) rfl dX6_firstUnlike_35 rfl rfl ?_
          refine xv_goto (t := 2) rfl dX6_firstUnlike_38 ?_
          rw [nI_add]
          exact ih (f + 1) hv (by omega) (by omega)
        · rw [if_neg h30] at hv
          refine xv_iload_n (q := 34) rfl dX6_firstUnlike_33 rfl rfl ?_
          refine xv_iret dX6_firstUnlike_34 rfl ?_
          rw [hv]
          exact xq_rfl
theorem c_unl (hg : XG sh R) {P a ln : Nat} {it : Nat → Int32} (hT : TR I n c dd P) (zhs : XSt sh R a) (hrow : XRow I a ln it) : XC E mX6_firstUnlike (d + 3) 0 0 [.ref 0, .ref a] sh I R L (xq (some (.int (uln c n dd P ln it))) sh I R L) := by
  refine XC.of (by decide) rfl rfl ?_
  refine xv_iconst (v := nI 0) (q := 1) rfl dX6_firstUnlike_0 rfl ?_
  refine xv_istore_n (q := 2) rfl dX6_firstUnlike_1 rfl rfl ?_
  exact c_unl_loop hg hT zhs hrow 11 0 rfl (by omega) (by omega)
theorem c_rfs (hg : XG sh R) (hK : KXs I sg) {s : Nat} (hs4 : s < 4) : XC E mX6_refusalToRead (d + 1) 0 0 [.ref (53 + 2 * s)] sh I R L (xq (some (.int (rfs (sg s)).2)) sh I R L) := by
  obtain ⟨hsr, hst⟩ := xg_sheet hg hs4
  refine XC.of (by decide) rfl rfl ?_
  refine xv_aload_n (q := 1) rfl dX6_refusalToRead_0 rfl rfl ?_
  refine xv_cV0 (z := mX3_isMissing) (q := 4) rfl dX6_refusalToRead_1 l_X6_245 gX3_isMissing hst.1 rfl rfl rfl (c_isMissing (d := d) hst) (by omega) ?_
  refine xv_if_eq (q := 7) (t := 10) rfl rfl dX6_refusalToRead_4 (fun zh4 => ?_) (fun zh4 => ?_)
  · have zh4 := of_decide_eq_false (bIz zh4)
    rcases hK.miss hs4 with ⟨-, z⟩ | ⟨so, ln, it, e, zq1, zq2, zq3, zq4, zq5⟩
    · exact absurd z zh4
    rw [e]
    refine xv_aload_n (q := 11) rfl dX6_refusalToRead_10 rfl rfl ?_
    refine xv_geti (q := 14) rfl dX6_refusalToRead_11 f_X6_248 hst.1 ?_
    rw [zq4]
    refine xv_bipush (v := nI 10) (q := 16) rfl dX6_refusalToRead_14 rfl ?_
    refine xv_icmp_le (q := 19) (t := 24) rfl rfl dX6_refusalToRead_16 (fun h16 => ?_) (fun h16 => ?_)
    · refine xv_iconst (v := nI 0) (q := 25) rfl dX6_refusalToRead_24 rfl ?_
      refine xv_iret dX6_refusalToRead_25 rfl ?_
      exact ⟨by rw [show rfs (some (so, ln, it)) = (some (ln, it), 0) from if_pos h16]; rfl, rfl, rfl, rfl, rfl⟩
    · refine xv_bipush (v := (-2)) (q := 21) rfl dX6_refusalToRead_19 rfl ?_
      refine xv_goto (t := 25) rfl dX6_refusalToRead_21 ?_
      refine xv_iret dX6_refusalToRead_25 rfl ?_
      exact ⟨by rw [show rfs (some (so, ln, it)) = (none, -2) from if_neg h16], rfl, rfl, rfl, rfl⟩
  · have zh4 := of_decide_eq_true (bIn zh4)
    refine xv_bipush (v := (-11)) (q := 9) rfl dX6_refusalToRead_7 rfl ?_
    refine xv_iret dX6_refusalToRead_9 rfl ?_
    rcases hK.miss hs4 with ⟨z, -⟩ | ⟨so, ln, it, -, zq1, -, zq3, -⟩
    · rw [z]; exact xq_rfl
    · exact absurd (zq3.symm.trans zh4) (so_ne zq1)
theorem rfs_some {q : Option (Nat × Nat × (Nat → Int32))} {z : Nat × (Nat → Int32)} (h : (rfs q).1 = some z) : ∃ so, q = some (so, z.1, z.2) ∧ nI z.1 ≤ nI 10 ∧ (rfs q).2 = 0 := by
  cases q with
  | none => cases h
  | some y =>
    by_cases zhy : nI y.2.1 ≤ nI 10
    · have e : rfs (some y) = (some (y.2.1, y.2.2), 0) := if_pos zhy
      rw [e] at h ⊢
      cases h
      exact ⟨y.1, rfl, zhy, rfl⟩
    · have e : rfs (some y) = (none, -2) := if_neg zhy
      rw [e] at h
      cases h
theorem rfs_none {q : Option (Nat × Nat × (Nat → Int32))} (h : (rfs q).1 = none) : ¬ (rfs q).2 = 0 := by
  cases q with
  | none => exact (by decide : ¬ (-11 : Int32) = 0)
  | some y =>
    by_cases zhy : nI y.2.1 ≤ nI 10
    · have e : rfs (some y) = (some (y.2.1, y.2.2), 0) := if_pos zhy
      rw [e] at h
      cases h
    · have e : rfs (some y) = (none, -2) := if_neg zhy
      rw [e]
      exact (by decide : ¬ (-2 : Int32) = 0)
theorem KXs.row {s : Nat} (hK : KXs I sg) (zhs : s < 4) {J : XI} (hF : FT I J) {so : Nat} {z : Nat × (Nat → Int32)} (h : sg s = some (so, z.1, z.2)) (hl : nI z.1 ≤ nI 10) : XRow J (53 + 2 * s) z.1 z.2 := by
  have zh2 := hK s zhs
  rw [h] at zh2
  obtain ⟨zg1, zg2, zg3, zg4, zg5⟩ := zh2
  have zg2 : z.1 ≤ 40 := zg2
  refine ⟨by rw [hF _ (by omega)]; exact zg4, nIle hl (by omega) (by omega), fun i hi => by rw [hF _ (by omega)]; exact zg5 i hi⟩
theorem x_landings (hg : XG sh R) (hK : KXc I n c dd u) (hT : KTs sh I R tc tx) (hu : u < tc) (hSK : KXs I sg) (x : Int32) : XC E mX6_landings (d + 6) 0 0 [.ref 0, .int x] sh I R L (QTr (.int (sp_landings sg n c dd x)) sh I R L) := by
  obtain ⟨t, hst⟩ := c_start2 (E := E) (d := d) (L := L) hg hK hT hu
  refine XC.of (by decide) rfl rfl ?_
  refine xv_iload_n (q := 1) rfl dX6_landings_0 rfl rfl ?_
  refine xv_cS1 (z := mX6_isSheet) (q := 4) rfl dX6_landings_1 l_X6_214 gX6_isSheet rfl (c_isSheet (d := d + 4) x) (by omega) ?_
  refine xv_if_ne (q := 7) (t := 10) rfl rfl dX6_landings_4 (fun zh4 => ?_) (fun zh4 => ?_)
  · have zh4 := bIn zh4
    obtain ⟨s, hs4, rfl⟩ := isSh_of zh4
    obtain ⟨hsr, hst4⟩ := xg_sheet hg hs4
    have zhq : sp_landings sg n c dd (nI s) = _ := if_neg (by rw [zh4]; decide)
    rw [zhq, nI_clamp (n := s) (by omega)]
    refine xv_aload_n (q := 11) rfl dX6_landings_10 rfl rfl ?_
    refine xv_geta (q := 14) rfl dX6_landings_11 f_X6_34 (hg.1 _ _ rfl) (hg.2 _ _ _ rfl) ?_
    refine xv_iload_n (q := 15) rfl dX6_landings_14 rfl rfl ?_
    refine xv_aald (q := 16) rfl dX6_landings_15 (hg.1 _ _ rfl) (by decide) rfl hs4 (by decide) hsr ?_
    refine xv_cS1 (z := mX6_refusalToRead) (q := 19) rfl dX6_landings_16 l_X6_217 gX6_refusalToRead rfl (c_rfs (d := d + 3) hg hSK hs4) (by omega) ?_
    refine xv_istore_n (q := 20) rfl dX6_landings_19 rfl rfl ?_
    refine xv_iload_n (q := 21) rfl dX6_landings_20 rfl rfl ?_
    refine xv_if_eq (q := 24) (t := 26) rfl rfl dX6_landings_21 (fun h21 => ?_) (fun h21 => ?_)
    · obtain ⟨z, zhz⟩ : ∃ z, (rfs (sg s)).1 = some z := by
        cases zhz : (rfs (sg s)).1 with
        | none => exact absurd h21 (rfs_none zhz)
        | some z => exact ⟨z, rfl⟩
      obtain ⟨so, zg1, zg2, zg3⟩ := rfs_some zhz
      rw [zhz]
      refine xv_aload_n (q := 27) rfl dX6_landings_26 rfl rfl ?_
      refine xv_rV0 (z := mX6_setOut) (q := 30) rfl dX6_landings_27 l_X6_145 gX6_setOut (hg.1 _ _ rfl) rfl rfl rfl (hst) (by omega) ?_
      rintro _ sh J R' L ⟨rfl, rfl, rfl, za1, za2, za3, za4, za5, za6, za7⟩
      obtain ⟨hsr, hst4⟩ := xg_sheet za6 hs4
      refine xv_aload_n (q := 31) rfl dX6_landings_30 rfl rfl ?_
      refine xv_aload_n (q := 32) rfl dX6_landings_31 rfl rfl ?_
      refine xv_geta (q := 35) rfl dX6_landings_32 f_X6_34 (za6.1 _ _ rfl) (za6.2 _ _ _ rfl) ?_
      refine xv_iload_n (q := 36) rfl dX6_landings_35 rfl rfl ?_
      refine xv_aald (q := 37) rfl dX6_landings_36 (za6.1 _ _ rfl) (by decide) rfl hs4 (by decide) hsr ?_
      refine xv_cV1 (z := mX6_firstUnlike) (q := 40) rfl dX6_landings_37 l_X6_221 gX6_firstUnlike (hg.1 _ _ rfl) rfl rfl rfl (c_unl (d := d + 1) za6 za3 hst4 (hSK.row hs4 za2 zg1 zg2)) (by omega) ?_
      refine xv_iret dX6_landings_40 rfl ?_
      exact ⟨rfl, rfl, za1, rfl, za2⟩
    · have zhz : (rfs (sg s)).1 = none := by
        cases zhz : (rfs (sg s)).1 with
        | none => rfl
        | some z => exact absurd (rfs_some zhz).choose_spec.2.2 h21
      rw [zhz]
      refine xv_iload_n (q := 25) rfl dX6_landings_24 rfl rfl ?_
      refine xv_iret dX6_landings_25 rfl ?_
      exact QTr.rf
  · have zh4 := bIz zh4
    refine xv_bipush (v := (-2)) (q := 9) rfl dX6_landings_7 rfl ?_
    refine xv_iret dX6_landings_9 rfl ?_
    rw [show sp_landings sg n c dd x = -2 from if_pos zh4]
    exact QTr.rf
theorem TW.putw {J : XI} {q : CR} {w r v : Nat} (h : TW J n q dd) (hw : w < 7) (hf : wfn (setr q w r v) n) : TW (xi J (25 + w) r (nI v)) n (setr q w r v) dd := by
  refine ⟨⟨fun b a zhb ha => ?_, ?_, h.1.2.2.1, hf⟩, ?_, h.2.2⟩
  · by_cases e : b = w ∧ a = r
    · obtain ⟨rfl, rfl⟩ := e
      rw [show 24 + 1 + b = 25 + b from rfl, xi_eq]
      unfold ci
      rw [setr_at]
    · rw [xi_ne _ _ _ _ (by omega), h.1.1 b a zhb ha]
      unfold ci
      rw [setr_ne e]
  · rw [xi_off _ _ _ _ (by omega)]; exact h.1.2.1
  · rw [xi_off _ _ _ _ (by omega)]; exact h.2.1
theorem ior_2 {b v : Nat} (hv : v < 10) : nI b ||| nI 1 <<< (nI v &&& 31) = nI (b ||| 2 ^ v) := by rw [sh1 v hv, nI_or]
theorem c_fit_loop (hg : XG sh R) (hK : KXc I n c dd u) {s ln : Nat} {it : Nat → Int32} (zhs : XSt sh R (53 + 2 * s)) (hs4 : s < 4) (hrow : ∀ J, FT I J → XRow J (53 + 2 * s) ln it) {w r a m : Nat} (hw : w = 0 ∨ w = 4 ∨ w = 5) (hr : r < n) (hm : m < 10) (hfit : ∀ v, a ≤ v → v ≤ m → wfn (setr c w r v) n) {R0 : XRf} (hR0 : RT R0 R) :
    ∀ (k v : Nat) (J : XI) (v0 : Nat), a + v ≤ m + 1 → m + 1 < a + v + k → FT I J → TW J n (setr c w r v0) dd → XV E mX6_whichFit (d + 4) 0 0 (QTr (.int (nI (wfb c n dd ln it w r a (m + 1 - a)))) sh I R0 L) 0 0 7 [some (.ref 0), some (.ref (53 + 2 * s)), some (.ref (25 + w)), some (.int (nI r)), some (.int (nI a)), some (.int (nI m)), some (.int (nI (wfb c n dd ln it w r a v))), some (.int (nI (a + v)))] [] sh J R L := by
  obtain ⟨hm', hn, hn5, hdd, hd2, hu, hwf⟩ := id hK
  have hcr := xg_crew hg (a := 24) (Or.inr (Or.inr rfl))
  intro k
  induction k with
  | zero => intro v J v0 zh1 zh2; exact absurd zh2 (by omega)
  | succ k ih =>
    intro v J v0 zh1 zh2 hF hW
    refine xv_iload (q := 9) rfl dX6_whichFit_7 rfl ?_
    refine xv_iload (q := 11) rfl dX6_whichFit_9 rfl ?_
    refine xv_icmp_gt (q := 14) (t := 82) rfl rfl dX6_whichFit_11 (fun h11 => ?_) (fun h11 => ?_)
    · have h11 : m < a + v := nIlt h11 (by omega) (by omega)
      have hv : v = m + 1 - a := by omega
      subst hv
      refine xv_iload (q := 84) rfl dX6_whichFit_82 rfl ?_
      refine xv_iret dX6_whichFit_84 rfl ?_
      exact ⟨rfl, rfl, hR0, rfl, hF⟩
    · have h11 : a + v ≤ m := nInlt h11 (by omega) (by omega)
      refine xv_aload_n (q := 15) rfl dX6_whichFit_14 rfl rfl ?_
      refine xv_iload_n (q := 16) rfl dX6_whichFit_15 rfl rfl ?_
      refine xv_iload (q := 18) rfl dX6_whichFit_16 rfl ?_
      refine xv_iast (q := 19) rfl dX6_whichFit_18 (show sh[25 + w]? = some (8, 5) from (hcr.2 w (by omega)).2) rfl (by omega) (by decide) ?_
      have hG1 : TW (xi J (25 + w) r (nI (a + v))) n (setr c w r (a + v)) dd := by
        have := hW.putw (w := w) (r := r) (v := a + v) (by omega) (by rw [setr_setr]; exact hfit _ (by omega) h11)
        rwa [setr_setr] at this
      have hF1 : FT I (xi J (25 + w) r (nI (a + v))) := hF.trans (FT.xi (by omega) (by omega))
      refine xv_aload_n (q := 20) rfl dX6_whichFit_19 rfl rfl ?_
      refine xv_geto (q := 23) rfl dX6_whichFit_20 f_X6_41 (hg.1 _ _ rfl) (hg.2 _ _ _ rfl) ?_
      refine xv_geto (q := 26) rfl dX6_whichFit_23 f_X6_181 (hg.1 _ _ rfl) (hg.2 _ _ _ rfl) ?_
      refine xv_iload_n (q := 27) rfl dX6_whichFit_26 rfl rfl ?_
      refine xv_aload_n (q := 28) rfl dX6_whichFit_27 rfl rfl ?_
      refine xv_geto (q := 31) rfl dX6_whichFit_28 f_X6_10 (hg.1 _ _ rfl) (hg.2 _ _ _ rfl) ?_
      refine xv_geti (q := 34) rfl dX6_whichFit_31 f_X6_98 (hg.1 _ _ rfl) ?_
      rw [show xi J (25 + w) r (nI (a + v)) 1 7 = nI n from (congrFun (hF1 1 (by decide)) 7).trans hn]
      refine xv_cV2 (z := mX0_canStand) (q := 37) rfl dX6_whichFit_34 l_X6_119 gX0_canStand (hg.1 _ _ rfl) rfl rfl rfl (c_canStand (d := d + 3) hcr hG1.1.1 hn5 (Nat.le_refl n) hr) (by omega) ?_
      refine xv_if_eq (q := 40) (t := 76) rfl rfl dX6_whichFit_37 (fun h37 => ?_) (fun h37 => ?_)
      · have h37 := bIz h37
        refine xv_iinc (q := 79) (v := nI 1) rfl dX6_whichFit_76 rfl rfl ?_
        refine xv_goto (t := 7) rfl dX6_whichFit_79 ?_
        rw [nI_add]
        have zhz := ih (v + 1) _ (a + v) (by omega) (by omega) hF1 hG1
        rw [show wfb c n dd ln it w r a (v + 1) = wfb c n dd ln it w r a v from by show _ ||| (if _ then _ else _) = _; rw [if_neg (fun z => by rw [h37] at z; exact absurd z.1 (by decide))]; exact Nat.or_zero _, show a + (v + 1) = a + v + 1 from rfl] at zhz
        exact zhz
      · have h37 := bIn h37
        refine xv_aload_n (q := 41) rfl dX6_whichFit_40 rfl rfl ?_
        refine xv_geto (q := 44) rfl dX6_whichFit_41 f_X6_41 (hg.1 _ _ rfl) (hg.2 _ _ _ rfl) ?_
        refine xv_iconst (v := nI 1) (q := 45) rfl dX6_whichFit_44 rfl ?_
        refine xv_aload_n (q := 46) rfl dX6_whichFit_45 rfl rfl ?_
        refine xv_geto (q := 49) rfl dX6_whichFit_46 f_X6_10 (hg.1 _ _ rfl) (hg.2 _ _ _ rfl) ?_
        refine xv_geti (q := 52) rfl dX6_whichFit_49 f_X6_98 (hg.1 _ _ rfl) ?_
        rw [show xi J (25 + w) r (nI (a + v)) 1 7 = nI n from (congrFun (hF1 1 (by decide)) 7).trans hn]
        refine xv_ishl (q := 53) rfl dX6_whichFit_52 ?_
        refine xv_iconst (v := nI 1) (q := 54) rfl dX6_whichFit_53 rfl ?_
        refine xv_isub (q := 55) rfl dX6_whichFit_54 ?_
        refine xv_as (w := nI (aln n)) (all_sh n hn5) ?_
        refine xv_rV1 (z := mX5_gather) (q := 58) rfl dX6_whichFit_55 l_X6_203 gX5_gather (hg.1 _ _ rfl) rfl rfl rfl (c_gather (d := d) hg hG1.1 (all_32 hn5)) (by omega) ?_
        rintro _ sh K R L ⟨rfl, rfl, rfl, rfl, za1, za2, za3, za4⟩
        have hF2 : FT I K := hF1.trans (fun k hk => za1 k (by omega))
        have hW2 : TW K n (setr c w r (a + v)) dd := hG1.mv (fun k zh1 zh2 => za1 k (by omega))
        have hTR : TR K n (setr c w r (a + v)) dd (aln n) := TR.of hW2 za3 SX.rf za2 (all_32 hn5)
        refine xv_aload_n (q := 59) rfl dX6_whichFit_58 rfl rfl ?_
        refine xv_aload_n (q := 60) rfl dX6_whichFit_59 rfl rfl ?_
        refine xv_cV1 (z := mX6_firstUnlike) (q := 63) rfl dX6_whichFit_60 l_X6_221 gX6_firstUnlike (hg.1 _ _ rfl) rfl rfl rfl (c_unl (d := d) hg hTR zhs (hrow K hF2)) (by omega) ?_
        refine xv_iconst (v := (-1)) (q := 64) rfl dX6_whichFit_63 rfl ?_
        refine xv_icmp_ne (q := 67) (t := 76) rfl rfl dX6_whichFit_64 (fun h64 => ?_) (fun h64 => ?_)
        · refine xv_iinc (q := 79) (v := nI 1) rfl dX6_whichFit_76 rfl rfl ?_
          refine xv_goto (t := 7) rfl dX6_whichFit_79 ?_
          rw [nI_add]
          have zhz := ih (v + 1) K (a + v) (by omega) (by omega) hF2 hW2
          rw [show wfb c n dd ln it w r a (v + 1) = wfb c n dd ln it w r a v from by show _ ||| (if _ then _ else _) = _; rw [if_neg (fun z => h64 z.2)]; exact Nat.or_zero _, show a + (v + 1) = a + v + 1 from rfl] at zhz
          exact zhz
        · refine xv_iload (q := 69) rfl dX6_whichFit_67 rfl ?_
          refine xv_iconst (v := nI 1) (q := 70) rfl dX6_whichFit_69 rfl ?_
          refine xv_iload (q := 72) rfl dX6_whichFit_70 rfl ?_
          refine xv_ishl (q := 73) rfl dX6_whichFit_72 ?_
          refine xv_ior (q := 74) rfl dX6_whichFit_73 ?_
          refine xv_as (w := nI (wfb c n dd ln it w r a v ||| 2 ^ (a + v))) (ior_2 (by omega)) ?_
          refine xv_istore (q := 76) rfl dX6_whichFit_74 rfl ?_
          refine xv_iinc (q := 79) (v := nI 1) rfl dX6_whichFit_76 rfl rfl ?_
          refine xv_goto (t := 7) rfl dX6_whichFit_79 ?_
          rw [nI_add]
          have zhz := ih (v + 1) K (a + v) (by omega) (by omega) hF2 hW2
          rw [show wfb c n dd ln it w r a (v + 1) = wfb c n dd ln it w r a v ||| 2 ^ (a + v) from by show _ ||| (if _ then _ else _) = _; rw [if_pos ⟨h37, h64⟩], show a + (v + 1) = a + v + 1 from rfl] at zhz
          exact zhz
theorem c_fit (hg : XG sh R) (hK : KXc I n c dd u) {s ln : Nat} {it : Nat → Int32} (zhs : XSt sh R (53 + 2 * s)) (hs4 : s < 4) (hrow : ∀ J, FT I J → XRow J (53 + 2 * s) ln it) {w r a m : Nat} (hw : w = 0 ∨ w = 4 ∨ w = 5) (hr : r < n) (hm : m < 10) (ham : a ≤ m + 1) (hfit : ∀ v, a ≤ v → v ≤ m → wfn (setr c w r v) n) {R0 : XRf} (hR0 : RT R0 R) {J : XI} (hF : FT I J) (hW : TW J n c dd) : XC E mX6_whichFit (d + 4) 0 0 [.ref 0, .ref (53 + 2 * s), .ref (25 + w), .int (nI r), .int (nI a), .int (nI m)] sh J R L (QTr (.int (nI (wfb c n dd ln it w r a (m + 1 - a)))) sh I R0 L) := by
  refine XC.of (by decide) rfl rfl ?_
  refine xv_iconst (v := nI 0) (q := 1) rfl dX6_whichFit_0 rfl ?_
  refine xv_istore (q := 3) rfl dX6_whichFit_1 rfl ?_
  refine xv_iload (q := 5) rfl dX6_whichFit_3 rfl ?_
  refine xv_istore (q := 7) rfl dX6_whichFit_5 rfl ?_
  exact c_fit_loop hg hK zhs hs4 hrow hw hr hm hfit hR0 (m + 2) 0 J (c w r) (by omega) (by omega) hF (by rw [setr_self]; exact hW)
theorem wfn_to {r v : Nat} (h : wfn c n) (hv : c 3 r < v) (hv9 : v < 10) : wfn (setr c 4 r v) n := by
  intro a ha
  obtain ⟨zh1, zh2, zh3, zh4, zh5, zh6, zh7, zh8⟩ := h a ha
  have e : ∀ w, w ≠ 4 → setr c 4 r v w a = c w a := fun w hw => setr_ne (fun z => hw z.1)
  unfold wfr
  rw [e 0 (by decide), e 1 (by decide), e 2 (by decide), e 3 (by decide), e 5 (by decide), e 6 (by decide)]
  by_cases zh9 : a = r
  · subst zh9
    rw [setr_at]
    exact ⟨zh1, zh2, zh3, zh4, hv9, zh6, zh7, hv⟩
  · rw [setr_ne (fun z => zh9 z.2)]
    exact ⟨zh1, zh2, zh3, zh4, zh5, zh6, zh7, zh8⟩
theorem wfn_kind {r v : Nat} (h : wfn c n) (hv : v < 6) : wfn (setr c 0 r v) n := by
  intro a ha
  obtain ⟨zh1, zh2, zh3, zh4, zh5, zh6, zh7, zh8⟩ := h a ha
  have e : ∀ w, w ≠ 0 → setr c 0 r v w a = c w a := fun w hw => setr_ne (fun z => hw z.1)
  unfold wfr
  rw [e 1 (by decide), e 2 (by decide), e 3 (by decide), e 4 (by decide), e 5 (by decide), e 6 (by decide)]
  refine ⟨?_, zh2, zh3, zh4, zh5, zh6, zh7, zh8⟩
  unfold setr
  split <;> omega
theorem x_seen (hg : XG sh R) (hK : KXc I n c dd u) (hT : KTs sh I R tc tx) (hu : u < tc) (hSK : KXs I sg) (x y w : Int32) : XC E mX6_seen (d + 6) 0 0 [.ref 0, .int x, .int y, .int w] sh I R L (QTr (.int (sp_seen sg n c dd x y w)) sh I R L) := by
  obtain ⟨t, hst⟩ := c_start2 (E := E) (d := d) (L := L) hg hK hT hu
  obtain ⟨hm, hn, hn5, hdd, hd2, hu2, hwf⟩ := id hK
  refine XC.of (by decide) rfl rfl ?_
  refine xv_iload_n (q := 1) rfl dX6_seen_0 rfl rfl ?_
  refine xv_cS1 (z := mX6_isSheet) (q := 4) rfl dX6_seen_1 l_X6_214 gX6_isSheet rfl (c_isSheet (d := d + 4) x) (by omega) ?_
  refine xv_if_eq (q := 7) (t := 27) rfl rfl dX6_seen_4 (fun zh4 => ?_) (fun zh4 => ?_)
  · have zh4 := bIz zh4
    refine xv_bipush (v := (-2)) (q := 29) rfl dX6_seen_27 rfl ?_
    refine xv_iret dX6_seen_29 rfl ?_
    rw [show sp_seen sg n c dd x y w = -2 from if_pos (Or.inl zh4)]
    exact QTr.rf
  · have zh4 := bIn zh4
    refine xv_aload_n (q := 8) rfl dX6_seen_7 rfl rfl ?_
    refine xv_geto (q := 11) rfl dX6_seen_8 f_X6_10 (hg.1 _ _ rfl) (hg.2 _ _ _ rfl) ?_
    refine xv_iload_n (q := 12) rfl dX6_seen_11 rfl rfl ?_
    refine xv_cV1 (z := mX0_has) (q := 15) rfl dX6_seen_12 l_X6_68 gX0_has (hg.1 _ _ rfl) rfl rfl rfl (c_has' (d := d + 4) (xg_crew hg (a := 1) (Or.inl rfl)) hn hn5 y) (by omega) ?_
    refine xv_if_eq (q := 18) (t := 27) rfl rfl dX6_seen_15 (fun h15 => ?_) (fun h15 => ?_)
    · have h15 := bIz h15
      refine xv_bipush (v := (-2)) (q := 29) rfl dX6_seen_27 rfl ?_
      refine xv_iret dX6_seen_29 rfl ?_
      rw [show sp_seen sg n c dd x y w = -2 from if_pos (Or.inr (Or.inl h15))]
      exact QTr.rf
    · have h15 := bIn h15
      refine xv_iload_n (q := 19) rfl dX6_seen_18 rfl rfl ?_
      refine xv_if_lt (q := 22) (t := 27) rfl rfl dX6_seen_19 (fun h19 => ?_) (fun h19 => ?_)
      · refine xv_bipush (v := (-2)) (q := 29) rfl dX6_seen_27 rfl ?_
        refine xv_iret dX6_seen_29 rfl ?_
        rw [show sp_seen sg n c dd x y w = -2 from if_pos (Or.inr (Or.inr (Or.inl h19)))]
        exact QTr.rf
      · refine xv_iload_n (q := 23) rfl dX6_seen_22 rfl rfl ?_
        refine xv_iconst (v := nI 2) (q := 24) rfl dX6_seen_23 rfl ?_
        refine xv_icmp_le (q := 27) (t := 30) rfl rfl dX6_seen_24 (fun h24 => ?_) (fun h24 => ?_)
        · have zhq : sp_seen sg n c dd x y w = _ := if_neg (fun z => z.elim (fun z => by rw [zh4] at z; cases z) (fun z => z.elim (fun z => by rw [h15] at z; cases z) (fun z => z.elim h19 (fun z => z h24))))
          rw [zhq]
          obtain ⟨s, hs4, rfl⟩ := isSh_of zh4
          obtain ⟨hsr, hst4⟩ := xg_sheet hg hs4
          obtain ⟨r, hr, rfl⟩ := isR_of hn5 h15
          rw [nI_clamp (n := s) (by omega), nI_clamp (n := r) (by omega)]
          refine xv_aload_n (q := 31) rfl dX6_seen_30 rfl rfl ?_
          refine xv_geta (q := 34) rfl dX6_seen_31 f_X6_34 (hg.1 _ _ rfl) (hg.2 _ _ _ rfl) ?_
          refine xv_iload_n (q := 35) rfl dX6_seen_34 rfl rfl ?_
          refine xv_aald (q := 36) rfl dX6_seen_35 (hg.1 _ _ rfl) (by decide) rfl hs4 (by decide) hsr ?_
          refine xv_cS1 (z := mX6_refusalToRead) (q := 39) rfl dX6_seen_36 l_X6_217 gX6_refusalToRead rfl (c_rfs (d := d + 3) hg hSK hs4) (by omega) ?_
          refine xv_istore (q := 41) rfl dX6_seen_39 rfl ?_
          refine xv_iload (q := 43) rfl dX6_seen_41 rfl ?_
          refine xv_if_eq (q := 46) (t := 49) rfl rfl dX6_seen_43 (fun h43 => ?_) (fun h43 => ?_)
          · obtain ⟨z, zhz⟩ : ∃ z, (rfs (sg s)).1 = some z := by
              cases zhz : (rfs (sg s)).1 with
              | none => exact absurd h43 (rfs_none zhz)
              | some z => exact ⟨z, rfl⟩
            obtain ⟨so, zg1, zg2, zg3⟩ := rfs_some zhz
            rw [zhz]
            dsimp only
            refine xv_aload_n (q := 50) rfl dX6_seen_49 rfl rfl ?_
            refine xv_rV0 (z := mX6_setOut) (q := 53) rfl dX6_seen_50 l_X6_145 gX6_setOut (hg.1 _ _ rfl) rfl rfl rfl (hst) (by omega) ?_
            rintro _ sh J R' L ⟨rfl, rfl, rfl, za1, za2, za3, za4, za5, za6, za7⟩
            obtain ⟨hsr, hst4⟩ := xg_sheet za6 hs4
            refine xv_iload_n (q := 54) rfl dX6_seen_53 rfl rfl ?_
            refine xv_if_ne (q := 57) (t := 92) rfl rfl dX6_seen_54 (fun h57 => ?_) (fun h57 => ?_)
            · refine xv_iload_n (q := 93) rfl dX6_seen_92 rfl rfl ?_
              refine xv_iconst (v := nI 1) (q := 94) rfl dX6_seen_93 rfl ?_
              refine xv_icmp_ne (q := 97) (t := 121) rfl rfl dX6_seen_94 (fun h97 => ?_) (fun h97 => ?_)
              · refine xv_aload_n (q := 122) rfl dX6_seen_121 rfl rfl ?_
                refine xv_aload_n (q := 123) rfl dX6_seen_122 rfl rfl ?_
                refine xv_geta (q := 126) rfl dX6_seen_123 f_X6_34 (za6.1 _ _ rfl) (za6.2 _ _ _ rfl) ?_
                refine xv_iload_n (q := 127) rfl dX6_seen_126 rfl rfl ?_
                refine xv_aald (q := 128) rfl dX6_seen_127 (za6.1 _ _ rfl) (by decide) rfl hs4 (by decide) hsr ?_
                refine xv_aload_n (q := 129) rfl dX6_seen_128 rfl rfl ?_
                refine xv_geto (q := 132) rfl dX6_seen_129 f_X6_41 (za6.1 _ _ rfl) (za6.2 _ _ _ rfl) ?_
                refine xv_geto (q := 135) rfl dX6_seen_132 f_X6_181 (za6.1 _ _ rfl) (za6.2 _ _ _ rfl) ?_
                refine xv_geta (q := 138) rfl dX6_seen_135 f_X6_101 (za6.1 _ _ rfl) (za6.2 _ _ _ rfl) ?_
                refine xv_iload_n (q := 139) rfl dX6_seen_138 rfl rfl ?_
                refine xv_iconst (v := nI 0) (q := 140) rfl dX6_seen_139 rfl ?_
                refine xv_iconst (v := nI 5) (q := 141) rfl dX6_seen_140 rfl ?_
                refine xv_rV5 (z := mX6_whichFit) (q := 144) rfl dX6_seen_141 l_X6_224 gX6_whichFit (hg.1 _ _ rfl) rfl rfl rfl (c_fit (d := d) (w := 0) za6 hK hst4 hs4 (fun K hK2 => hSK.row hs4 hK2 zg1 zg2) (Or.inl rfl) hr (by decide) (by omega) (fun v zh1 zh2 => wfn_kind hwf.1 (by omega)) za1 za2 za3.tw) (by omega) ?_
                rintro _ sh K R' L ⟨rfl, rfl, zk1, rfl, zk2⟩
                refine xv_iret dX6_seen_144 rfl ?_
                exact ⟨by rw [if_neg h57, if_neg h97], rfl, zk1, rfl, zk2⟩
              · refine xv_aload_n (q := 98) rfl dX6_seen_97 rfl rfl ?_
                refine xv_aload_n (q := 99) rfl dX6_seen_98 rfl rfl ?_
                refine xv_geta (q := 102) rfl dX6_seen_99 f_X6_34 (za6.1 _ _ rfl) (za6.2 _ _ _ rfl) ?_
                refine xv_iload_n (q := 103) rfl dX6_seen_102 rfl rfl ?_
                refine xv_aald (q := 104) rfl dX6_seen_103 (za6.1 _ _ rfl) (by decide) rfl hs4 (by decide) hsr ?_
                refine xv_aload_n (q := 105) rfl dX6_seen_104 rfl rfl ?_
                refine xv_geto (q := 108) rfl dX6_seen_105 f_X6_41 (za6.1 _ _ rfl) (za6.2 _ _ _ rfl) ?_
                refine xv_geto (q := 111) rfl dX6_seen_108 f_X6_181 (za6.1 _ _ rfl) (za6.2 _ _ _ rfl) ?_
                refine xv_geta (q := 114) rfl dX6_seen_111 f_X6_113 (za6.1 _ _ rfl) (za6.2 _ _ _ rfl) ?_
                refine xv_iload_n (q := 115) rfl dX6_seen_114 rfl rfl ?_
                refine xv_iconst (v := nI 0) (q := 116) rfl dX6_seen_115 rfl ?_
                refine xv_iconst (v := nI 5) (q := 117) rfl dX6_seen_116 rfl ?_
                refine xv_rV5 (z := mX6_whichFit) (q := 120) rfl dX6_seen_117 l_X6_224 gX6_whichFit (hg.1 _ _ rfl) rfl rfl rfl (c_fit (d := d) (w := 5) za6 hK hst4 hs4 (fun K hK2 => hSK.row hs4 hK2 zg1 zg2) (Or.inr (Or.inr rfl)) hr (by decide) (by omega) (fun v zh1 zh2 => wfn_place hwf.1 (by omega)) za1 za2 za3.tw) (by omega) ?_
                rintro _ sh K R' L ⟨rfl, rfl, zk1, rfl, zk2⟩
                refine xv_iret dX6_seen_120 rfl ?_
                exact ⟨by rw [if_neg h57, if_pos h97], rfl, zk1, rfl, zk2⟩
            · refine xv_aload_n (q := 58) rfl dX6_seen_57 rfl rfl ?_
              refine xv_aload_n (q := 59) rfl dX6_seen_58 rfl rfl ?_
              refine xv_geta (q := 62) rfl dX6_seen_59 f_X6_34 (za6.1 _ _ rfl) (za6.2 _ _ _ rfl) ?_
              refine xv_iload_n (q := 63) rfl dX6_seen_62 rfl rfl ?_
              refine xv_aald (q := 64) rfl dX6_seen_63 (za6.1 _ _ rfl) (by decide) rfl hs4 (by decide) hsr ?_
              refine xv_aload_n (q := 65) rfl dX6_seen_64 rfl rfl ?_
              refine xv_geto (q := 68) rfl dX6_seen_65 f_X6_41 (za6.1 _ _ rfl) (za6.2 _ _ _ rfl) ?_
              refine xv_geto (q := 71) rfl dX6_seen_68 f_X6_181 (za6.1 _ _ rfl) (za6.2 _ _ _ rfl) ?_
              refine xv_geta (q := 74) rfl dX6_seen_71 f_X6_110 (za6.1 _ _ rfl) (za6.2 _ _ _ rfl) ?_
              refine xv_iload_n (q := 75) rfl dX6_seen_74 rfl rfl ?_
              refine xv_aload_n (q := 76) rfl dX6_seen_75 rfl rfl ?_
              refine xv_geto (q := 79) rfl dX6_seen_76 f_X6_10 (za6.1 _ _ rfl) (za6.2 _ _ _ rfl) ?_
              refine xv_geta (q := 82) rfl dX6_seen_79 f_X6_107 (za6.1 _ _ rfl) (za6.2 _ _ _ rfl) ?_
              refine xv_iload_n (q := 83) rfl dX6_seen_82 rfl rfl ?_
              refine xv_iald (q := 84) rfl dX6_seen_83 (za6.1 _ _ rfl) rfl (by omega) (by decide) ?_
              refine xv_as (w := nI (c 3 r)) ((congrFun (za2 5 (by decide)) r).trans (hm 3 r (by decide) hr)) ?_
              refine xv_iconst (v := nI 1) (q := 85) rfl dX6_seen_84 rfl ?_
              refine xv_iadd (q := 86) rfl dX6_seen_85 ?_
              refine xv_as (w := nI (c 3 r + 1)) (nI_add _ _) ?_
              refine xv_bipush (v := nI 9) (q := 88) rfl dX6_seen_86 rfl ?_
              refine xv_rV5 (z := mX6_whichFit) (q := 91) rfl dX6_seen_88 l_X6_224 gX6_whichFit (hg.1 _ _ rfl) rfl rfl rfl (c_fit (d := d) (w := 4) za6 hK hst4 hs4 (fun K hK2 => hSK.row hs4 hK2 zg1 zg2) (Or.inr (Or.inl rfl)) hr (by decide) (by have := (hwf.1 r hr).2.2.2.1; omega) (fun v zh1 zh2 => wfn_to hwf.1 (by omega) (by omega)) za1 za2 za3.tw) (by omega) ?_
              rintro _ sh K R' L ⟨rfl, rfl, zk1, rfl, zk2⟩
              refine xv_iret dX6_seen_91 rfl ?_
              exact ⟨by rw [if_pos h57, show 9 + 1 - (c 3 r + 1) = 9 - c 3 r by omega], rfl, zk1, rfl, zk2⟩
          · have zhz : (rfs (sg s)).1 = none := by
              cases zhz : (rfs (sg s)).1 with
              | none => rfl
              | some z => exact absurd (rfs_some zhz).choose_spec.2.2 h43
            rw [zhz]
            refine xv_iload (q := 48) rfl dX6_seen_46 rfl ?_
            refine xv_iret dX6_seen_48 rfl ?_
            exact QTr.rf
        · refine xv_bipush (v := (-2)) (q := 29) rfl dX6_seen_27 rfl ?_
          refine xv_iret dX6_seen_29 rfl ?_
          rw [show sp_seen sg n c dd x y w = -2 from if_pos (Or.inr (Or.inr (Or.inr h24)))]
          exact QTr.rf
/-- film's cells: the trip's, and the sheets' -/
def FS (I J : XI) : Prop := ∀ k, (k < 24 ∨ 40 ≤ k) → (k < 53 ∨ 61 ≤ k) → J k = I k
def QFi (q : Int32 × SG) (sh : XSh) (I : XI) (R : XRf) (L : XL) : XQ := fun v sh' J R' L' => v = some (.int q.1) ∧ sh' = sh ∧ RT R R' ∧ L' = L ∧ KXs J q.2 ∧ FS I J
theorem c_film_loop (hg : XG sh R) {s m : Nat} (zhs : XSt sh R (53 + 2 * s)) (hs4 : s < 4) (hsr : R 22 s = some (53 + 2 * s)) (hm : m ≤ 10) {P : Nat} {Q : XQ} (KK : ∀ J : XI, (∀ k, k ≠ 54 + 2 * s → J k = I k) → (∀ f, f < m → J (54 + 2 * s) f = nI (wso c n dd P f)) → XV E mX6_film (d + 6) 0 0 Q 0 0 67 [some (.ref 0), some (.int (nI s)), some (.int (nI m)), some (.int (nI m))] [] sh J R L) (hT : TR I n c dd P) :
    ∀ (k f : Nat) (J : XI), f ≤ m → m < f + k → (∀ k, k ≠ 54 + 2 * s → J k = I k) → (∀ g, g < f → J (54 + 2 * s) g = nI (wso c n dd P g)) → XV E mX6_film (d + 6) 0 0 Q 0 0 37 [some (.ref 0), some (.int (nI s)), some (.int (nI m)), some (.int (nI f))] [] sh J R L := by
  intro k
  induction k with
  | zero => intro f J zh1 zh2; exact absurd zh2 (by omega)
  | succ k ih =>
    intro f J zh1 zh2 hF hI
    have zhq : ∀ k, k < 40 → J k = I k := fun k hk => hF k (by omega)
    have hTJ : TR J n c dd P := ⟨hT.1.mv (fun k zh1 zh2 => zhq k (by omega)), by rw [zhq 24 (by decide)]; exact hT.2.1, hT.2.2.1, hT.2.2.2.1.mv (zhq _ (by decide)) (zhq _ (by decide)), hT.2.2.2.2.1.mv (zhq _ (by decide)) (zhq _ (by decide)) (zhq _ (by decide)), hT.2.2.2.2.2⟩
    refine xv_iload_n (q := 38) rfl dX6_film_37 rfl rfl ?_
    refine xv_iload_n (q := 39) rfl dX6_film_38 rfl rfl ?_
    refine xv_icmp_ge (q := 42) (t := 67) rfl rfl dX6_film_39 (fun h42 => ?_) (fun h42 => ?_)
    · have hf : f = m := by have := nIle h42 (by omega) (by omega); omega
      subst hf
      exact KK J hF hI
    · have hf : f < m := nInle h42 (by omega) (by omega)
      refine xv_aload_n (q := 43) rfl dX6_film_42 rfl rfl ?_
      refine xv_geta (q := 46) rfl dX6_film_43 f_X6_34 (hg.1 _ _ rfl) (hg.2 _ _ _ rfl) ?_
      refine xv_iload_n (q := 47) rfl dX6_film_46 rfl rfl ?_
      refine xv_aald (q := 48) rfl dX6_film_47 (hg.1 _ _ rfl) (by decide) rfl hs4 (by decide) hsr ?_
      refine xv_geta (q := 51) rfl dX6_film_48 f_X6_232 zhs.1 zhs.2.1 ?_
      refine xv_iload_n (q := 52) rfl dX6_film_51 rfl rfl ?_
      refine xv_aload_n (q := 53) rfl dX6_film_52 rfl rfl ?_
      refine xv_geto (q := 56) rfl dX6_film_53 f_X6_41 (hg.1 _ _ rfl) (hg.2 _ _ _ rfl) ?_
      refine xv_iload_n (q := 57) rfl dX6_film_56 rfl rfl ?_
      refine xv_cV1 (z := mX5_whoStepsOut) (q := 60) rfl dX6_film_57 l_X6_158 gX5_whoStepsOut (hg.1 _ _ rfl) rfl rfl rfl (c_wso (d := d + 2) hg hTJ (show f < 10 by omega)) (by omega) ?_
      refine xv_iast (q := 61) rfl dX6_film_60 zhs.2.2 rfl (by omega) (by decide) ?_
      refine xv_iinc (q := 64) (v := nI 1) rfl dX6_film_61 rfl rfl ?_
      refine xv_goto (t := 37) rfl dX6_film_64 ?_
      rw [nI_add]
      refine ih (f + 1) _ (by omega) (by omega) (fun k hk => (xi_off _ _ _ _ (by omega)).trans (hF k hk)) (fun g hg2 => ?_)
      rw [show 53 + 2 * s + 1 = 54 + 2 * s by omega]
      by_cases e : g = f
      · subst e; rw [xi_eq]
      · rw [xi_ne _ _ _ _ (by omega)]; exact hI g (by omega)
theorem x_film (hg : XG sh R) (hK : KXc I n c dd u) (hT : KTs sh I R tc tx) (hu : u < tc) (hSK : KXs I sg) (x m : Int32) : XC E mX6_film (d + 6) 0 0 [.ref 0, .int x, .int m] sh I R L (QFi (sp_film sg n c dd x m) sh I R L) := by
  obtain ⟨t, hst⟩ := c_start2 (E := E) (d := d) (L := L) hg hK hT hu
  refine XC.of (by decide) rfl rfl ?_
  refine xv_iload_n (q := 1) rfl dX6_film_0 rfl rfl ?_
  refine xv_cS1 (z := mX6_isSheet) (q := 4) rfl dX6_film_1 l_X6_214 gX6_isSheet rfl (c_isSheet (d := d + 4) x) (by omega) ?_
  refine xv_if_eq (q := 7) (t := 17) rfl rfl dX6_film_4 (fun zh4 => ?_) (fun zh4 => ?_)
  · have zh4 := bIz zh4
    refine xv_bipush (v := (-2)) (q := 19) rfl dX6_film_17 rfl ?_
    refine xv_iret dX6_film_19 rfl ?_
    rw [show sp_film sg n c dd x m = (-2, sg) from if_pos (Or.inl zh4)]
    exact ⟨rfl, rfl, RT.rf, rfl, hSK, fun _ _ _ => rfl⟩
  · have zh4 := bIn zh4
    refine xv_iload_n (q := 8) rfl dX6_film_7 rfl rfl ?_
    refine xv_if_lt (q := 11) (t := 17) rfl rfl dX6_film_8 (fun zh8 => ?_) (fun zh8 => ?_)
    · refine xv_bipush (v := (-2)) (q := 19) rfl dX6_film_17 rfl ?_
      refine xv_iret dX6_film_19 rfl ?_
      rw [show sp_film sg n c dd x m = (-2, sg) from if_pos (Or.inr (Or.inl zh8))]
      exact ⟨rfl, rfl, RT.rf, rfl, hSK, fun _ _ _ => rfl⟩
    · refine xv_iload_n (q := 12) rfl dX6_film_11 rfl rfl ?_
      refine xv_bipush (v := nI 10) (q := 14) rfl dX6_film_12 rfl ?_
      refine xv_icmp_le (q := 17) (t := 20) rfl rfl dX6_film_14 (fun h14 => ?_) (fun h14 => ?_)
      · have zhq : sp_film sg n c dd x m = _ := if_neg (fun z => z.elim (fun z => by rw [zh4] at z; cases z) (fun z => z.elim zh8 (fun z => z h14)))
        rw [zhq]
        obtain ⟨s, hs4, rfl⟩ := isSh_of zh4
        obtain ⟨m, hm10, rfl⟩ := nI_of2 (n := 10) (M := nI 10) (by decide) zh8 h14
        rw [nI_clamp (n := s) (by omega), nI_clamp (n := m) (by omega)]
        refine xv_aload_n (q := 21) rfl dX6_film_20 rfl rfl ?_
        refine xv_rV0 (z := mX6_setOut) (q := 24) rfl dX6_film_21 l_X6_145 gX6_setOut (hg.1 _ _ rfl) rfl rfl rfl (hst) (by omega) ?_
        rintro _ sh J R' L ⟨rfl, rfl, rfl, za1, za2, za3, za4, za5, za6, za7⟩
        obtain ⟨hsr, hst4⟩ := xg_sheet za6 hs4
        have hK2 : KXs J sg := hSK.cong (fun k zh1 zh2 => za2 k (by omega))
        refine xv_aload_n (q := 25) rfl dX6_film_24 rfl rfl ?_
        refine xv_geta (q := 28) rfl dX6_film_25 f_X6_34 (za6.1 _ _ rfl) (za6.2 _ _ _ rfl) ?_
        refine xv_iload_n (q := 29) rfl dX6_film_28 rfl rfl ?_
        refine xv_aald (q := 30) rfl dX6_film_29 (za6.1 _ _ rfl) (by decide) rfl hs4 (by decide) hsr ?_
        refine xv_iconst (v := nI 0) (q := 31) rfl dX6_film_30 rfl ?_
        refine xv_iload_n (q := 32) rfl dX6_film_31 rfl rfl ?_
        refine xv_cV2 (z := mX3_become) (q := 35) rfl dX6_film_32 l_X6_228 gX3_become hst4.1 rfl rfl rfl (c_sbecome (d := d + 3) hst4 (nI 0) (nI m)) (by omega) ?_
        refine xv_iconst (v := nI 0) (q := 36) rfl dX6_film_35 rfl ?_
        refine xv_istore_n (q := 37) rfl dX6_film_36 rfl rfl ?_
        generalize hJJ : xic (xi (xi J (53 + 2 * s) 2 (nI 0)) (53 + 2 * s) 1 (nI m)) (53 + 2 * s + 1) (fil (J (53 + 2 * s + 1)) (nI 0) 40) = J2
        have hJo : ∀ k, k ≠ 53 + 2 * s → k ≠ 54 + 2 * s → J2 k = J k := fun k zk1 zk2 => by rw [← hJJ, xic_off _ _ _ (by omega), xi_off _ _ _ _ zk1, xi_off _ _ _ _ zk1]
        have hJ1 : J2 (53 + 2 * s) 2 = nI 0 ∧ J2 (53 + 2 * s) 1 = nI m := by
          rw [← hJJ, xic_off _ _ _ (by omega)]
          exact ⟨by rw [xi_ne _ _ _ _ (by omega), xi_eq], xi_eq _ _ _ _⟩
        have hTJ : TR J2 n c dd (aln n) := by
          have zhq : ∀ k, k < 40 → J2 k = J k := fun k hk => hJo k (by omega) (by omega)
          exact ⟨za3.1.mv (fun k zh1 zh2 => zhq k (by omega)), by rw [zhq 24 (by decide)]; exact za3.2.1, za3.2.2.1, za3.2.2.2.1.mv (zhq _ (by decide)) (zhq _ (by decide)), za3.2.2.2.2.1.mv (zhq _ (by decide)) (zhq _ (by decide)) (zhq _ (by decide)), za3.2.2.2.2.2⟩
        refine c_film_loop (I := J2) za6 hst4 hs4 hsr hm10 (fun K zb1 zb2 => ?_) hTJ (m + 1) 0 J2 (by omega) (by omega) (fun _ _ => rfl) (fun g hg2 => absurd hg2 (Nat.not_lt_zero g))
        refine xv_iload_n (q := 68) rfl dX6_film_67 rfl rfl ?_
        refine xv_iret dX6_film_68 rfl ?_
        refine ⟨rfl, rfl, za1, rfl, ?_, fun k zk1 zk2 => ?_⟩
        · refine hK2.put ⟨show 0 < 3 by decide, show m ≤ 40 by omega, ?_, ?_, fun i hi => ?_⟩ (fun k zk1 zk2 zk3 zk4 => ?_)
          · rw [zb1 _ (by omega)]; exact hJ1.1
          · rw [zb1 _ (by omega)]; exact hJ1.2
          · rw [show 53 + 2 * s + 1 = 54 + 2 * s by omega]; exact zb2 i hi
          · rw [zb1 k (by omega), hJo k (by omega) (by omega)]
        · rw [zb1 k (by omega), hJo k (by omega) (by omega)]; exact za2 k zk1
      · refine xv_bipush (v := (-2)) (q := 19) rfl dX6_film_17 rfl ?_
        refine xv_iret dX6_film_19 rfl ?_
        rw [show sp_film sg n c dd x m = (-2, sg) from if_pos (Or.inr (Or.inr h14))]
        exact ⟨rfl, rfl, RT.rf, rfl, hSK, fun _ _ _ => rfl⟩
end SEEN

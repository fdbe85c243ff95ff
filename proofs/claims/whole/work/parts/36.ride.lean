/-! the class's answers about rides -/
/-- all but the places are as in c -/
def SX (c q : CR) : Prop := ∀ w, w ≠ 5 → q w = c w
theorem SX.rf {c : CR} : SX c c := fun _ _ => rfl
theorem SX.set {c q : CR} {r v : Nat} (h : SX c q) : SX c (setr q 5 r v) := fun w hw => by
  rw [← h w hw]
  funext a
  exact if_neg (fun z => hw z.1)
theorem SX.trans {c q z : CR} (h : SX c q) (h2 : SX q z) : SX c z := fun w hw => (h2 w hw).trans (h w hw)
theorem SX.symm {c q : CR} (h : SX c q) : SX q c := fun w hw => (h w hw).symm
theorem SX.esty {c q : CR} (h : SX c q) (n P f : Nat) : sty q n P f = sty c n P f := by unfold sty stp; rw [h 3 (by decide), h 4 (by decide)]
theorem SX.egou {c q : CR} (h : SX c q) (n P f : Nat) : gou q n P f = gou c n P f := by unfold gou gop; rw [h 4 (by decide)]
theorem SX.egin {c q : CR} (h : SX c q) (n P f : Nat) : gin q n P f = gin c n P f := by unfold gin gip; rw [h 3 (by decide)]
theorem SX.eprc {c q : CR} (h : SX c q) (tv : TV) (part r f row ins : Nat) : prc q tv part r f row ins = prc c tv part r f row ins := by unfold prc nms; rw [h 1 (by decide), h 2 (by decide)]
theorem SX.einsp {c q : CR} (h : SX c q) (n P part f : Nat) : insp q n P part f = insp c n P part f := by unfold insp insd; rw [h.esty, h.egou]
theorem SX.ts {c q : CR} (h : SX c q) {J : XI} {n P : Nat} (hS : TS J n c P) : TS J n q P := fun f hf => by
  unfold TS1; rw [h.esty, h.egou, h.egin]; exact hS f hf
theorem SX.tp {c q : CR} (h : SX c q) {J : XI} {n P : Nat} {tv : TV} (hS : TP J n c P tv) : TP J n q P tv := fun part r f row h1 h2 h3 h4 => by
  rw [h.eprc, h.einsp]; exact hS part r f row h1 h2 h3 h4
theorem setr_at {c : CR} {w r v : Nat} : setr c w r v w r = v := if_pos ⟨rfl, rfl⟩
theorem setr_ne {c : CR} {w r v a b : Nat} (h : ¬ (a = w ∧ b = r)) : setr c w r v a b = c a b := if_neg h
theorem setr_setr {c : CR} {w r v x : Nat} : setr (setr c w r v) w r x = setr c w r x := by
  funext a b
  unfold setr
  by_cases h : a = w ∧ b = r
  · rw [if_pos h, if_pos h]
  · rw [if_neg h, if_neg h, if_neg h]
theorem setr_self {c : CR} {w r : Nat} : setr c w r (c w r) = c := by
  funext a b
  unfold setr
  split
  next h => rw [h.1, h.2]
  · rfl
theorem wfn_place {c : CR} {n r p : Nat} (h : wfn c n) (hp : p < 6) : wfn (setr c 5 r p) n := by
  intro a ha
  obtain ⟨h1, h2, h3, h4, h5, h6, h7, h8⟩ := h a ha
  have e : ∀ w, w ≠ 5 → setr c 5 r p w a = c w a := fun w hw => setr_ne (fun z => hw z.1)
  unfold wfr
  rw [e 0 (by decide), e 1 (by decide), e 2 (by decide), e 3 (by decide), e 4 (by decide), e 6 (by decide)]
  refine ⟨h1, h2, h3, h4, h5, ?_, h7, h8⟩
  unfold setr
  split <;> omega
/-- the tried crew is q, with dd doors -/
def TW (J : XI) (n : Nat) (q : CR) (dd : Nat) : Prop := TC J n q ∧ J 24 8 = nI dd ∧ (dd = 1 ∨ dd = 2)
theorem TW.mv {I J : XI} {n dd : Nat} {q : CR} (h : TW I n q dd) (hJ : ∀ k, 24 ≤ k → k < 32 → J k = I k) : TW J n q dd := ⟨h.1.mv hJ, by rw [hJ 24 (by decide) (by decide)]; exact h.2.1, h.2.2⟩
theorem TW.put {J : XI} {n dd r p : Nat} {q : CR} (h : TW J n q dd) (hp : p < 6) : TW (xi J 30 r (nI p)) n (setr q 5 r p) dd := by
  refine ⟨⟨fun w a hw ha => ?_, ?_, h.1.2.2.1, wfn_place h.1.2.2.2 hp⟩, ?_, h.2.2⟩
  · by_cases e : w = 5 ∧ a = r
    · obtain ⟨rfl, rfl⟩ := e
      rw [show 24 + 1 + 5 = 30 from rfl, xi_eq]
      unfold ci
      rw [setr_at]
    · rw [xi_ne _ _ _ _ (by omega), h.1.1 w a hw ha]
      unfold ci
      rw [setr_ne e]
  · rw [xi_off _ _ _ _ (by decide)]; exact h.1.2.1
  · rw [xi_off _ _ _ _ (by decide)]; exact h.2.1
theorem TR.of {J : XI} {n dd P : Nat} {c q : CR} (h : TW J n q dd) (hB : TB J n q) (hX : SX c q) (hS : TS J n c P) (hP : P < 32) : TR J n q dd P := ⟨h.1, h.2.1, h.2.2, hB, hX.ts hS, hP⟩
theorem TR.tw {J : XI} {n dd P : Nat} {q : CR} (h : TR J n q dd P) : TW J n q dd := ⟨h.1, h.2.1, h.2.2.1⟩
theorem TS.f30 {I J : XI} {n P : Nat} {c : CR} (h : TS I n c P) (hJ : ∀ k, k ≠ 30 → k ≠ 35 → k ≠ 36 → k ≠ 37 → k ≠ 38 → k ≠ 39 → J k = I k) : TS J n c P := h.mv (hJ _ (by decide) (by decide) (by decide) (by decide) (by decide) (by decide)) (hJ _ (by decide) (by decide) (by decide) (by decide) (by decide) (by decide)) (hJ _ (by decide) (by decide) (by decide) (by decide) (by decide) (by decide))
theorem TP.mv {I J : XI} {n P : Nat} {c : CR} {tv : TV} (h : TP I n c P tv) (hJ : J 37 = I 37) : TP J n c P tv := fun part r f row h1 h2 h3 h4 => by rw [hJ]; exact h part r f row h1 h2 h3 h4
/-- but for the trip's cells -/
def FT (I J : XI) : Prop := ∀ k, (k < 24 ∨ 40 ≤ k) → J k = I k
theorem FT.rf {I : XI} : FT I I := fun _ _ => rfl
theorem FT.trans {I J K : XI} (h : FT I J) (h2 : FT J K) : FT I K := fun k hk => (h2 k hk).trans (h k hk)
theorem F9.ft {I J : XI} (h : F9 I J) : FT I J := fun k hk => h k (by omega) (by omega) (by omega)
theorem FT.xi {I : XI} {k j : Nat} {x : Int32} (h : 24 ≤ k) (h2 : k < 40) : FT I (xi I k j x) := fun a ha => xi_off _ _ _ _ (by omega)
/-- but for the trip's rule -/
def RT (R R' : XRf) : Prop := ∀ k j, ¬ (k = 23 ∧ j = 1) → R' k j = R k j
theorem RT.rf {R : XRf} : RT R R := fun _ _ _ => rfl
theorem RT.x {R : XRf} {t : Nat} : RT R (xr R 23 1 (some t)) := fun k j h => by
  by_cases e : k = 23
  · subst e
    have e2 : ¬ j = 1 := fun z => h ⟨rfl, z⟩
    simp [xr, va_up, e2]
  · simp [xr, e]
theorem RT.row {R R' : XRf} (h : RT R R') {k : Nat} (hk : k ≠ 23) : R' k = R k := funext fun j => h k j (fun z => hk z.1)
theorem RT.trans {R R' R'' : XRf} (h : RT R R') (h2 : RT R' R'') : RT R R'' := fun k j z => (h2 k j z).trans (h k j z)
theorem xg_rt {sh : XSh} {R R' : XRf} (hg : XG sh R) (h : RT R R') : XG sh R' := ⟨hg.1, fun k j a q => by
  rw [h k j (fun z => by rw [z.1, z.2] at q; cases q)]; exact hg.2 k j a q⟩
def QTr (v0 : Value) (sh : XSh) (I : XI) (R : XRf) (L : XL) : XQ := fun v sh' J R' L' => v = some v0 ∧ sh' = sh ∧ RT R R' ∧ L' = L ∧ FT I J
theorem QTr.rf {v0 : Value} {sh : XSh} {I : XI} {R : XRf} {L : XL} : QTr v0 sh I R L (some v0) sh I R L := ⟨rfl, rfl, RT.rf, rfl, FT.rf⟩
abbrev aln (n : Nat) : Nat := 2 ^ n - 1
section ANS
variable {E : XE} {d : Nat} {sh : XSh} {I : XI} {R : XRf} {L : XL} {n dd u tc : Nat} {c : CR} {tx : TXS}
/-- started: all is tried as it is -/
def QS2 (n : Nat) (c : CR) (dd t : Nat) (tv : TV) (sh : XSh) (I : XI) (R : XRf) (L : XL) : XQ := fun v sh' J R' L' => v = none ∧ sh' = sh ∧ L' = L ∧ RT R R' ∧ FT I J ∧ TR J n c dd (aln n) ∧ TP J n c (aln n) tv ∧ KT sh J R' t tv ∧ XG sh R' ∧ R' 23 1 = some t
theorem c_start3 (hg : XG sh R) (hK : KXc I n c dd u) (hT : KTs sh I R tc tx) (hu : u < tc) : ∃ t, XC E mX6_setOut (d + 5) 0 0 [.ref 0] sh I R L (fun v sh' J R' L' => QS2 n c dd t (tvx tx u) sh I R L v sh' J R' L' ∧ J 24 9 = nI u) := by
  obtain ⟨htc, h6, hT3⟩ := hT
  obtain ⟨t, ht, hKT⟩ := hT3 u hu
  obtain ⟨hm, hn, hn5, hdd, hd2, hu2, hwf⟩ := id hK
  refine ⟨t, ?_⟩
  refine XC.of (by decide) rfl rfl ?_
  refine xv_aload_n (q := 1) rfl dX6_setOut_0 rfl rfl ?_
  refine xv_geto (q := 4) rfl dX6_setOut_1 f_X6_10 (hg.1 _ _ rfl) (hg.2 _ _ _ rfl) ?_
  refine xv_geti (q := 7) rfl dX6_setOut_4 f_X6_142 (hg.1 _ _ rfl) ?_
  rw [hu2]
  refine xv_if_lt (q := 10) (t := 28) rfl rfl dX6_setOut_7 (fun h7 => ?_) (fun h7 => ?_)
  · exact absurd h7 (nI_pos (by omega))
  · refine xv_aload_n (q := 11) rfl dX6_setOut_10 rfl rfl ?_
    refine xv_geto (q := 14) rfl dX6_setOut_11 f_X6_10 (hg.1 _ _ rfl) (hg.2 _ _ _ rfl) ?_
    refine xv_geti (q := 17) rfl dX6_setOut_14 f_X6_142 (hg.1 _ _ rfl) ?_
    rw [hu2]
    refine xv_aload_n (q := 18) rfl dX6_setOut_17 rfl rfl ?_
    refine xv_geti (q := 21) rfl dX6_setOut_18 f_X6_55 (hg.1 _ _ rfl) ?_
    rw [htc]
    refine xv_icmp_ge (q := 24) (t := 28) rfl rfl dX6_setOut_21 (fun h21 => ?_) (fun h21 => ?_)
    · exact absurd (nIle h21 (by omega) (by omega)) (by omega)
    · refine xv_iconst (v := nI 1) (q := 25) rfl dX6_setOut_24 rfl ?_
      refine xv_goto (t := 29) rfl dX6_setOut_25 ?_
      refine xv_istore_n (q := 30) rfl dX6_setOut_29 rfl rfl ?_
      refine xv_aload_n (q := 31) rfl dX6_setOut_30 rfl rfl ?_
      refine xv_geto (q := 34) rfl dX6_setOut_31 f_X6_41 (hg.1 _ _ rfl) (hg.2 _ _ _ rfl) ?_
      refine xv_aload_n (q := 35) rfl dX6_setOut_34 rfl rfl ?_
      refine xv_geto (q := 38) rfl dX6_setOut_35 f_X6_10 (hg.1 _ _ rfl) (hg.2 _ _ _ rfl) ?_
      refine xv_iload_n (q := 39) rfl dX6_setOut_38 rfl rfl ?_
      refine xv_if_eq (q := 42) (t := 57) rfl rfl dX6_setOut_39 (fun h39 => ?_) (fun h39 => ?_)
      · exact absurd h39 (by decide)
      · refine xv_aload_n (q := 43) rfl dX6_setOut_42 rfl rfl ?_
        refine xv_geta (q := 46) rfl dX6_setOut_43 f_X6_28 (hg.1 _ _ rfl) (hg.2 _ _ _ rfl) ?_
        refine xv_aload_n (q := 47) rfl dX6_setOut_46 rfl rfl ?_
        refine xv_geto (q := 50) rfl dX6_setOut_47 f_X6_10 (hg.1 _ _ rfl) (hg.2 _ _ _ rfl) ?_
        refine xv_geti (q := 53) rfl dX6_setOut_50 f_X6_142 (hg.1 _ _ rfl) ?_
        rw [hu2]
        refine xv_aald (q := 54) rfl dX6_setOut_53 (hg.1 _ _ rfl) (by decide) rfl (show u < 6 by omega) (by decide) ht ?_
        refine xv_goto (t := 58) rfl dX6_setOut_54 ?_
        refine xv_rV2 (z := mX5_start) (q := 61) rfl dX6_setOut_58 l_X6_167 gX5_start (hg.1 _ _ rfl) rfl rfl rfl (c_start (d := d) hg hK t) (by omega) ?_
        rintro _ _ J _ _ ⟨rfl, rfl, rfl, rfl, a1, a2, a3, a3b, a4, a5, a6⟩
        refine xv_vret dX6_setOut_61 rfl ?_
        refine ⟨⟨rfl, rfl, rfl, RT.x, fun k hk => a1 k (by omega), ⟨a2, by rw [a3, a1 1 (by decide)]; exact hdd, hd2, a5, a4, all_32 hn5⟩, fun part r f row h1 h2 h3 h4 => Or.inl (a6 _ (by omega)), ?_, xg_xr hg t, ?_⟩, by rw [a3b, a1 1 (by decide)]; exact hu2⟩
        · exact hKT.mv (fun k hk => a1 k (by unfold txc at hk; omega)) (fun k hk => RT.x.row (by unfold txc at hk; omega))
        · simp [xr, va_up]
theorem c_start2 (hg : XG sh R) (hK : KXc I n c dd u) (hT : KTs sh I R tc tx) (hu : u < tc) : ∃ t, XC E mX6_setOut (d + 5) 0 0 [.ref 0] sh I R L (QS2 n c dd t (tvx tx u) sh I R L) := by
  obtain ⟨t, ht⟩ := c_start3 (E := E) (d := d) (L := L) hg hK hT hu
  exact ⟨t, ht.imp (fun _ _ _ _ _ q => q.1)⟩
/-- settled -/
theorem c_settle2 {P : Nat} {q : CR} {tv : TV} (hg : XG sh R) (hW : TW I n q dd) (hX : SX c q) (hS : TS I n c P) (hP : P < 32) (hTP : TP I n c P tv) : XC E mX5_settle (d + 2) 0 0 [.ref 23] sh I R L (fun v sh' J R' L' => v = none ∧ sh' = sh ∧ R' = R ∧ L' = L ∧ (∀ k, k ≠ 35 → k ≠ 36 → J k = I k) ∧ TR J n q dd P ∧ TS J n c P ∧ TP J n c P tv) := by
  refine (c_settle (d := d) hg hW.1).imp ?_
  rintro _ _ J _ _ ⟨rfl, rfl, rfl, rfl, a1, a2⟩
  have hS2 : TS J n c P := hS.mv (a1 _ (by decide) (by decide)) (a1 _ (by decide) (by decide)) (a1 _ (by decide) (by decide))
  exact ⟨rfl, rfl, rfl, rfl, a1, TR.of (hW.mv (fun k h1 h2 => a1 k (by omega) (by omega))) a2 hX hS2 hP, hS2, hTP.mv (a1 _ (by decide) (by decide))⟩
def sp_ride (n : Nat) (c : CR) (dd : Nat) (tv : TV) (what : Int32) : Int32 := if what < 0 ∨ ¬ what ≤ nI 2 then -2 else if what = 0 then nI (rdc c n dd (aln n) tv) else if what = nI 1 then nI (spk c n dd (aln n) 10) else nI (flk c n dd (aln n) 10)
def sp_floor (n : Nat) (c : CR) (dd : Nat) (tv : TV) (f what : Int32) : Int32 := if f < 0 ∨ ¬ f < nI 10 ∨ what < 0 ∨ ¬ what ≤ nI 2 then -2 else if what = 0 then nI (wso c n dd (aln n) f.toNatClampNeg) else if what = nI 1 then nI (cta c n (aln n) f.toNatClampNeg tv (wso c n dd (aln n) f.toNatClampNeg)) else nI (sty c n (aln n) f.toNatClampNeg ||| gin c n (aln n) f.toNatClampNeg)
theorem x_ride (hg : XG sh R) (hK : KXc I n c dd u) (hT : KTs sh I R tc tx) (hu : u < tc) (w : Int32) : XC E mX6_ride (d + 6) 0 0 [.ref 0, .int w] sh I R L (QTr (.int (sp_ride n c dd (tvx tx u) w)) sh I R L) := by
  obtain ⟨t, hst⟩ := c_start2 (E := E) (d := d) (L := L) hg hK hT hu
  refine XC.of (by decide) rfl rfl ?_
  refine xv_iload_n (q := 1) rfl dX6_ride_0 rfl rfl ?_
  refine xv_if_lt (q := 4) (t := 9) rfl rfl dX6_ride_1 (fun h1 => ?_) (fun h1 => ?_)
  · refine xv_bipush (v := (-2)) (q := 11) rfl dX6_ride_9 rfl ?_
    refine xv_iret dX6_ride_11 rfl ?_
    rw [show sp_ride n c dd (tvx tx u) w = -2 from if_pos (Or.inl h1)]
    exact QTr.rf
  · refine xv_iload_n (q := 5) rfl dX6_ride_4 rfl rfl ?_
    refine xv_iconst (v := nI 2) (q := 6) rfl dX6_ride_5 rfl ?_
    refine xv_icmp_le (q := 9) (t := 12) rfl rfl dX6_ride_6 (fun h6 => ?_) (fun h6 => ?_)
    · refine xv_aload_n (q := 13) rfl dX6_ride_12 rfl rfl ?_
      refine xv_rV0 (z := mX6_setOut) (q := 16) rfl dX6_ride_13 l_X6_145 gX6_setOut (hg.1 _ _ rfl) rfl rfl rfl (hst) (by omega) ?_
      rintro _ sh J R' L ⟨rfl, rfl, rfl, a1, a2, a3, a4, a5, a6, a7⟩
      refine xv_iload_n (q := 17) rfl dX6_ride_16 rfl rfl ?_
      refine xv_if_ne (q := 20) (t := 28) rfl rfl dX6_ride_17 (fun h20 => ?_) (fun h20 => ?_)
      · refine xv_iload_n (q := 29) rfl dX6_ride_28 rfl rfl ?_
        refine xv_iconst (v := nI 1) (q := 30) rfl dX6_ride_29 rfl ?_
        refine xv_icmp_ne (q := 33) (t := 43) rfl rfl dX6_ride_30 (fun h33 => ?_) (fun h33 => ?_)
        · refine xv_aload_n (q := 44) rfl dX6_ride_43 rfl rfl ?_
          refine xv_geto (q := 47) rfl dX6_ride_44 f_X6_41 (a6.1 _ _ rfl) (a6.2 _ _ _ rfl) ?_
          refine xv_cV0 (z := mX5_floorsWithSteps) (q := 50) rfl dX6_ride_47 l_X6_155 gX5_floorsWithSteps (hg.1 _ _ rfl) rfl rfl rfl (c_flo (d := d + 1) a6 a3) (by omega) ?_
          refine xv_iret dX6_ride_50 rfl ?_
          exact ⟨by rw [show sp_ride n c dd (tvx tx u) w = _ from (if_neg (fun z => z.elim h1 (fun z => z h6))).trans ((if_neg h20).trans (if_neg h33))], rfl, a1, rfl, a2⟩
        · refine xv_aload_n (q := 34) rfl dX6_ride_33 rfl rfl ?_
          refine xv_geto (q := 37) rfl dX6_ride_34 f_X6_41 (a6.1 _ _ rfl) (a6.2 _ _ _ rfl) ?_
          refine xv_cV0 (z := mX5_steps) (q := 40) rfl dX6_ride_37 l_X6_152 gX5_steps (hg.1 _ _ rfl) rfl rfl rfl (c_steps (d := d + 1) a6 a3) (by omega) ?_
          refine xv_goto (t := 50) rfl dX6_ride_40 ?_
          refine xv_iret dX6_ride_50 rfl ?_
          exact ⟨by rw [show sp_ride n c dd (tvx tx u) w = _ from (if_neg (fun z => z.elim h1 (fun z => z h6))).trans ((if_neg h20).trans (if_pos h33))], rfl, a1, rfl, a2⟩
      · refine xv_aload_n (q := 21) rfl dX6_ride_20 rfl rfl ?_
        refine xv_geto (q := 24) rfl dX6_ride_21 f_X6_41 (a6.1 _ _ rfl) (a6.2 _ _ _ rfl) ?_
        refine xv_rV0 (z := mX5_cost) (q := 27) rfl dX6_ride_24 l_X6_148 gX5_cost (hg.1 _ _ rfl) rfl rfl rfl (c_cost (d := d) a6 a3 a5 a7 a4) (by omega) ?_
        rintro _ sh K R' L ⟨rfl, rfl, rfl, rfl, b1, b2⟩
        refine xv_iret dX6_ride_27 rfl ?_
        exact ⟨by rw [show sp_ride n c dd (tvx tx u) w = _ from (if_neg (fun z => z.elim h1 (fun z => z h6))).trans (if_pos h20)], rfl, a1, rfl, a2.trans b1.ft⟩
    · refine xv_bipush (v := (-2)) (q := 11) rfl dX6_ride_9 rfl ?_
      refine xv_iret dX6_ride_11 rfl ?_
      rw [show sp_ride n c dd (tvx tx u) w = -2 from if_pos (Or.inr h6)]
      exact QTr.rf
theorem x_floor (hg : XG sh R) (hK : KXc I n c dd u) (hT : KTs sh I R tc tx) (hu : u < tc) (f w : Int32) : XC E mX6_floor (d + 6) 0 0 [.ref 0, .int f, .int w] sh I R L (QTr (.int (sp_floor n c dd (tvx tx u) f w)) sh I R L) := by
  obtain ⟨t, hst⟩ := c_start2 (E := E) (d := d) (L := L) hg hK hT hu
  refine XC.of (by decide) rfl rfl ?_
  refine xv_iload_n (q := 1) rfl dX6_floor_0 rfl rfl ?_
  refine xv_if_lt (q := 4) (t := 19) rfl rfl dX6_floor_1 (fun h1 => ?_) (fun h1 => ?_)
  · refine xv_bipush (v := (-2)) (q := 21) rfl dX6_floor_19 rfl ?_
    refine xv_iret dX6_floor_21 rfl ?_
    rw [show sp_floor n c dd (tvx tx u) f w = -2 from if_pos (Or.inl h1)]
    exact QTr.rf
  · refine xv_iload_n (q := 5) rfl dX6_floor_4 rfl rfl ?_
    refine xv_bipush (v := nI 10) (q := 7) rfl dX6_floor_5 rfl ?_
    refine xv_icmp_ge (q := 10) (t := 19) rfl rfl dX6_floor_7 (fun h7 => ?_) (fun h7 => ?_)
    · refine xv_bipush (v := (-2)) (q := 21) rfl dX6_floor_19 rfl ?_
      refine xv_iret dX6_floor_21 rfl ?_
      rw [show sp_floor n c dd (tvx tx u) f w = -2 from if_pos (Or.inr (Or.inl (ilen h7)))]
      exact QTr.rf
    · refine xv_iload_n (q := 11) rfl dX6_floor_10 rfl rfl ?_
      refine xv_if_lt (q := 14) (t := 19) rfl rfl dX6_floor_11 (fun h11 => ?_) (fun h11 => ?_)
      · refine xv_bipush (v := (-2)) (q := 21) rfl dX6_floor_19 rfl ?_
        refine xv_iret dX6_floor_21 rfl ?_
        rw [show sp_floor n c dd (tvx tx u) f w = -2 from if_pos (Or.inr (Or.inr (Or.inl h11)))]
        exact QTr.rf
      · refine xv_iload_n (q := 15) rfl dX6_floor_14 rfl rfl ?_
        refine xv_iconst (v := nI 2) (q := 16) rfl dX6_floor_15 rfl ?_
        refine xv_icmp_le (q := 19) (t := 22) rfl rfl dX6_floor_16 (fun h16 => ?_) (fun h16 => ?_)
        · have hq : sp_floor n c dd (tvx tx u) f w = _ := if_neg (fun z => z.elim h1 (fun z => z.elim (fun z => z (ile h7)) (fun z => z.elim h11 (fun z => z h16))))
          rw [hq]
          obtain ⟨f, hf, rfl⟩ : ∃ j, j < 10 ∧ f = nI j := by
            rcases pk_ix f (n := 10) (by decide) with z | z | z
            · exact absurd z h1
            · exact absurd z h7
            · exact z
          rw [nI_clamp (n := f) (by omega)]
          refine xv_aload_n (q := 23) rfl dX6_floor_22 rfl rfl ?_
          refine xv_rV0 (z := mX6_setOut) (q := 26) rfl dX6_floor_23 l_X6_145 gX6_setOut (hg.1 _ _ rfl) rfl rfl rfl (hst) (by omega) ?_
          rintro _ sh J R' L ⟨rfl, rfl, rfl, a1, a2, a3, a4, a5, a6, a7⟩
          refine xv_iload_n (q := 27) rfl dX6_floor_26 rfl rfl ?_
          refine xv_if_ne (q := 30) (t := 39) rfl rfl dX6_floor_27 (fun h30 => ?_) (fun h30 => ?_)
          · refine xv_iload_n (q := 40) rfl dX6_floor_39 rfl rfl ?_
            refine xv_iconst (v := nI 1) (q := 41) rfl dX6_floor_40 rfl ?_
            refine xv_icmp_ne (q := 44) (t := 63) rfl rfl dX6_floor_41 (fun h44 => ?_) (fun h44 => ?_)
            · refine xv_aload_n (q := 64) rfl dX6_floor_63 rfl rfl ?_
              refine xv_geto (q := 67) rfl dX6_floor_64 f_X6_41 (a6.1 _ _ rfl) (a6.2 _ _ _ rfl) ?_
              refine xv_iload_n (q := 68) rfl dX6_floor_67 rfl rfl ?_
              refine xv_cV1 (z := mX5_whoGoesOn) (q := 71) rfl dX6_floor_68 l_X6_164 gX5_whoGoesOn (hg.1 _ _ rfl) rfl rfl rfl (c_goes (d := d) a6 a3 hf) (by omega) ?_
              refine xv_iret dX6_floor_71 rfl ?_
              exact ⟨by rw [if_neg h30, if_neg h44], rfl, a1, rfl, a2⟩
            · refine xv_aload_n (q := 45) rfl dX6_floor_44 rfl rfl ?_
              refine xv_geto (q := 48) rfl dX6_floor_45 f_X6_41 (a6.1 _ _ rfl) (a6.2 _ _ _ rfl) ?_
              refine xv_iload_n (q := 49) rfl dX6_floor_48 rfl rfl ?_
              refine xv_aload_n (q := 50) rfl dX6_floor_49 rfl rfl ?_
              refine xv_geto (q := 53) rfl dX6_floor_50 f_X6_41 (a6.1 _ _ rfl) (a6.2 _ _ _ rfl) ?_
              refine xv_iload_n (q := 54) rfl dX6_floor_53 rfl rfl ?_
              refine xv_cV1 (z := mX5_whoStepsOut) (q := 57) rfl dX6_floor_54 l_X6_158 gX5_whoStepsOut (hg.1 _ _ rfl) rfl rfl rfl (c_wso (d := d + 2) a6 a3 hf) (by omega) ?_
              refine xv_rV2 (z := mX5_costAt) (q := 60) rfl dX6_floor_57 l_X6_161 gX5_costAt (hg.1 _ _ rfl) rfl rfl rfl (c_costAt (d := d + 2) a6 a3 a5 a7 a4 hf (p5 (wso_lt c n dd _ f) a3.1.2.2.1)) (by omega) ?_
              rintro _ sh K R' L ⟨rfl, rfl, rfl, rfl, b1, b2⟩
              refine xv_goto (t := 71) rfl dX6_floor_60 ?_
              refine xv_iret dX6_floor_71 rfl ?_
              exact ⟨by rw [if_neg h30, if_pos h44], rfl, a1, rfl, a2.trans b1.ft⟩
          · refine xv_aload_n (q := 31) rfl dX6_floor_30 rfl rfl ?_
            refine xv_geto (q := 34) rfl dX6_floor_31 f_X6_41 (a6.1 _ _ rfl) (a6.2 _ _ _ rfl) ?_
            refine xv_iload_n (q := 35) rfl dX6_floor_34 rfl rfl ?_
            refine xv_cV1 (z := mX5_whoStepsOut) (q := 38) rfl dX6_floor_35 l_X6_158 gX5_whoStepsOut (hg.1 _ _ rfl) rfl rfl rfl (c_wso (d := d + 2) a6 a3 hf) (by omega) ?_
            refine xv_iret dX6_floor_38 rfl ?_
            exact ⟨by rw [if_pos h30], rfl, a1, rfl, a2⟩
        · refine xv_bipush (v := (-2)) (q := 21) rfl dX6_floor_19 rfl ?_
          refine xv_iret dX6_floor_21 rfl ?_
          rw [show sp_floor n c dd (tvx tx u) f w = -2 from if_pos (Or.inr (Or.inr (Or.inr h16)))]
          exact QTr.rf
end ANS

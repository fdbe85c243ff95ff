/-! text -/
/-- texts: their sizes, their bytes -/
abbrev TXS : Type := Nat → Nat × (Nat → Nat)
def tvx (tx : TXS) (i : Nat) : TV := ptv (tx i).2 (tx i).1
/-- the class's Texts -/
def KTs (sh : XSh) (I : XI) (R : XRf) (tc : Nat) (tx : TXS) : Prop := I 0 5 = nI tc ∧ tc ≤ 6 ∧ ∀ i, i < tc → ∃ t, R 21 i = some t ∧ KT sh I R t (tvx tx i)
/-- sh' is sh, and perhaps more -/
def XGe (sh sh' : XSh) : Prop := ∀ (k : Nat) (q : Nat × Nat), sh[k]? = some q → sh'[k]? = some q
theorem XGe.rf {sh : XSh} : XGe sh sh := fun _ _ h => h
theorem XGe.app {sh z : XSh} : XGe sh (sh ++ z) := fun _ _ h => app_at h
theorem xlt {sh : XSh} {k : Nat} {q : Nat × Nat} (h : sh[k]? = some q) : k < sh.length := (List.getElem?_eq_some_iff.mp h).1
theorem KT.mvx {sh sh' : XSh} {I J : XI} {R R' : XRf} {t : Nat} {tv : TV} (h : KT sh I R t tv) (hsh : XGe sh sh') (hJ : ∀ k, k < sh.length → txc k → J k = I k) (hR : ∀ k, k < sh.length → txc k → R' k = R k) : KT sh' J R' t tv := by
  obtain ⟨h0, ca, ea, M, h1, h2, h3, h4⟩ := h
  obtain ⟨x1, x2, x3, x4, x5, x6, x7, x8⟩ := id h1
  have e1 : J ca = I ca := hJ ca (xlt x4) (by unfold txc; omega)
  have e2 : J ea = I ea := hJ ea (xlt x5) (by unfold txc; omega)
  have e3 : R' t = R t := hR t (xlt x1) (by unfold txc; omega)
  refine ⟨h0, ca, ea, M, ⟨hsh _ _ x1, by rw [e3]; exact x2, by rw [e3]; exact x3, hsh _ _ x4, hsh _ _ x5, x6, x7, x8⟩, h2, h3, fun part hp => ?_⟩
  rw [e1, e2]; exact h4 part hp
theorem KTs.mvx {sh sh' : XSh} {I J : XI} {R R' : XRf} {tc : Nat} {tx : TXS} (h : KTs sh I R tc tx) (hsh : XGe sh sh') (h0 : J 0 5 = I 0 5) (hJ : ∀ k, k < sh.length → txc k → J k = I k) (hR : ∀ k, k < sh.length → txc k → R' k = R k) (h21 : ∀ i, i < tc → R' 21 i = R 21 i) : KTs sh' J R' tc tx := by
  refine ⟨h0.trans h.1, h.2.1, fun i hi => ?_⟩
  obtain ⟨t, h1, h2⟩ := h.2.2 i hi
  exact ⟨t, (h21 i hi).trans h1, h2.mvx hsh hJ hR⟩
/-- a TEXT's laid code says it -/
theorem KT.of {sh : XSh} {I : XI} {R : XRf} {t ca ea : Nat} {tp : Nat → Nat} {n : Nat} (hn : n ≤ 160) (hok : pok tp n = true) (ht : 82 ≤ t) (hca : 82 ≤ ca) (hea : 82 ≤ ea) (hX : XTx sh R t ca ea (pcd tp n 3).length) (hc : ∀ i, i < (pcd tp n 3).length → I ca i = (pcd tp n 3).getD i 0) (he : ∀ j, j < 3 → I ea j = nI (pcd tp n (j + 1)).length) : KT sh I R t (ptv tp n) := by
  have h3 : (pt tp n 3).1 = true := (Bool.and_eq_true_iff.mp hok).1
  have hp := (pt_ok hn 3 h3).2.2
  have hpref : ∀ k, k ≤ 3 → ∃ z, pcd tp n 3 = pcd tp n k ++ z := by
    intro k hk
    rcases (show k = 3 ∨ k = 2 ∨ k = 1 ∨ k = 0 by omega) with rfl | rfl | rfl | rfl
    · exact ⟨[], (List.append_nil _).symm⟩
    · exact ⟨_, rfl⟩
    · exact ⟨_, by show (pcd tp n 1 ++ _) ++ _ = _; rw [List.append_assoc]⟩
    · exact ⟨_, (List.nil_append _).symm⟩
  refine ⟨Or.inr ht, ca, ea, _, hX, Or.inr hca, Or.inr hea, fun part hpt => ?_⟩
  have hk : (pt tp n part).1 = true := by
    by_cases e : part = 0
    · subst e; rfl
    · exact hp part hpt
  have hk1 : (pt tp n (part + 1)).1 = true := by
    by_cases e : part = 2
    · subst e; exact h3
    · exact hp (part + 1) (by omega)
  have hkk := hk1
  rw [pt_s hk] at hkk
  obtain ⟨-, -, hev, hdp⟩ := ppa_ok hn (pt_ok hn part hk).1 hkk
  have hs : pcd tp n (part + 1) = pcd tp n part ++ (ppa tp n part (pt tp n part).2).2.2.1 := rfl
  obtain ⟨z, hz⟩ := hpref (part + 1) (by omega)
  have hlen : (pcd tp n (part + 1)).length = (pcd tp n part).length + (ppa tp n part (pt tp n part).2).2.2.1.length := by rw [hs, List.length_append]
  have hle : (pcd tp n (part + 1)).length ≤ (pcd tp n 3).length := by rw [hz, List.length_append]; omega
  have hcode : ∀ j, j < (ppa tp n part (pt tp n part).2).2.2.1.length → I ca ((pcd tp n part).length + j) = (ppa tp n part (pt tp n part).2).2.2.1.getD j 0 := by
    intro j hj
    rw [hc _ (by omega), hz, hs, List.getD_eq_getElem?_getD, List.getD_eq_getElem?_getD, List.append_assoc, List.getElem?_append_right (by omega), Nat.add_sub_cancel_left, List.getElem?_append_left hj]
  refine ⟨hdp, (pcd tp n part).length, (pcd tp n (part + 1)).length, ?_, by omega, he part hpt, hle, fun i hi => ?_, fun nm f => ?_⟩
  · split
    next e => subst e; rfl
    next e =>
      have := he (part - 1) (by omega)
      rwa [show part - 1 + 1 = part by omega] at this
  · -- no number below -15
    have hall : ∀ k, k ≤ 3 → ∀ x, x ∈ pcd tp n k → ¬ x < -15 := by
      intro k
      induction k with
      | zero => intro _ x hx; cases hx
      | succ k ih =>
        intro hk3 x hx
        rcases List.mem_append.mp (show x ∈ pcd tp n k ++ (ppa tp n k (pt tp n k).2).2.2.1 from hx) with q | q
        · exact ih (by omega) x q
        · have a1 : (pt tp n k).1 = true := hp k (by omega)
          have a2 : (pt tp n (k + 1)).1 = true := by
            by_cases e : k = 2
            · subst e; exact h3
            · exact hp (k + 1) (by omega)
          rw [pt_s a1] at a2
          exact (ppa_ok hn (pt_ok hn k a1).1 a2).2.2.1.1 x q
    have hi3 : i < (pcd tp n 3).length := by omega
    rw [hc i hi3]
    refine hall 3 (Nat.le_refl 3) _ ?_
    rw [List.getD_eq_getElem?_getD, List.getElem?_eq_getElem hi3]
    exact List.getElem_mem hi3
  · obtain ⟨f', q1, q2, -⟩ := hev.2 nm 0 f (by omega)
    refine ⟨f', ?_, q2⟩
    rw [hlen, Nat.add_sub_cancel_left, wrun_l nm (I ca) _ _ _ hcode]
    exact q1
def sp_text (tc tl : Nat) (tp : Nat → Nat) : Int32 := if 6 ≤ tc then -4 else if pok tp tl = true then nI tc else -100 - nI (pfa tp tl)
def tcn (tc tl : Nat) (tp : Nat → Nat) : Nat := if 6 ≤ tc then tc else if pok tp tl = true then tc + 1 else tc
def txn (tc tl : Nat) (tp : Nat → Nat) (tx : TXS) : TXS := if 6 ≤ tc then tx else if pok tp tl = true then (fun i => if i = tc then (tl, tp) else tx i) else tx
def tln (tc tl : Nat) : Nat := if 6 ≤ tc then tl else 0
section TEXT
variable {E : XE} {d : Nat} {sh : XSh} {I : XI} {R : XRf} {L : XL} {tp : Nat → Nat} {tl tc : Nat} {tx : TXS}
def QTe (tc tl : Nat) (tp : Nat → Nat) (tx : TXS) (sh : XSh) (I : XI) (R : XRf) (L : XL) : XQ := fun v sh' J R' L' => v = some (.int (sp_text tc tl tp)) ∧ L' = L ∧ XG sh' R' ∧ XGe sh sh' ∧ KTs sh' J R' (tcn tc tl tp) (txn tc tl tp tx) ∧ KXp J (tln tc tl) tp ∧ (∀ k, k < sh.length → k ≠ 0 → k ≠ 17 → k ≠ 19 → k ≠ 20 → J k = I k) ∧ (∀ j, j ≠ 5 → J 0 j = I 0 j) ∧ ∀ k, k < sh.length → k ≠ 21 → R' k = R k
theorem x_text (hg : XG sh R) (hK : KXp I tl tp) (hT : KTs sh I R tc tx) : XC E mX6_text (d + 47) 3 170 [.ref 0] sh I R L (QTe tc tl tp tx sh I R L) := by
  have htc := hT.2.1
  have hl160 := hK.2.1
  refine XC.of (by decide) rfl rfl ?_
  refine xv_aload_n (q := 1) rfl dX6_text_0 rfl rfl ?_
  refine xv_geti (q := 4) rfl dX6_text_1 f_X6_55 (hg.1 _ _ rfl) ?_
  rw [hT.1]
  refine xv_bipush (v := nI 6) (q := 6) rfl dX6_text_4 rfl ?_
  refine xv_icmp_lt (q := 9) (t := 12) rfl rfl dX6_text_6 (fun h6 => ?_) (fun h6 => ?_)
  · have h6 : tc < 6 := nIlt h6 (by omega) (by omega)
    refine xv_aload_n (q := 13) rfl dX6_text_12 rfl rfl ?_
    refine xv_geto (q := 16) rfl dX6_text_13 f_X6_22 (hg.1 _ _ rfl) (hg.2 _ _ _ rfl) ?_
    refine xv_rV0 (z := mX1_reads) (q := 19) rfl dX6_text_16 l_X6_131 gX1_reads (hg.1 _ _ rfl) rfl rfl rfl (c_reads (d := d) hg (show RdT I tp tl from hK)) (by omega) ?_
    rintro _ sh J R L ⟨rfl, rfl, rfl, rfl, a1, a2, a3⟩
    refine xv_istore_n (q := 20) rfl dX6_text_19 rfl rfl ?_
    refine xv_aload_n (q := 21) rfl dX6_text_20 rfl rfl ?_
    refine xv_geto (q := 24) rfl dX6_text_21 f_X6_22 (hg.1 _ _ rfl) (hg.2 _ _ _ rfl) ?_
    refine xv_iconst (v := nI 0) (q := 25) rfl dX6_text_24 rfl ?_
    refine xv_puti (q := 28) rfl dX6_text_25 f_X6_125 (fun h => by cases h) (hg.1 _ _ rfl) ?_
    refine xv_iload_n (q := 29) rfl dX6_text_28 rfl rfl ?_
    refine xv_if_ne (q := 32) (t := 43) rfl rfl dX6_text_29 (fun h29 => ?_) (fun h29 => ?_)
    · have hok := bIn h29
      obtain ⟨b1, b2, b3⟩ := a3 hok
      have hpt := pt_ok hl160 3 (Bool.and_eq_true_iff.mp hok).1
      refine xv_aload_n (q := 44) rfl dX6_text_43 rfl rfl ?_
      refine xv_geta (q := 47) rfl dX6_text_44 f_X6_28 (hg.1 _ _ rfl) (hg.2 _ _ _ rfl) ?_
      refine xv_aload_n (q := 48) rfl dX6_text_47 rfl rfl ?_
      refine xv_geti (q := 51) rfl dX6_text_48 f_X6_55 (hg.1 _ _ rfl) ?_
      rw [show xi J 17 1 (nI 0) 0 5 = nI tc from (congrFun (xi_off _ _ _ _ (by decide)) 5).trans ((congrFun (a1 0 (by decide) (by decide) (by decide)) 5).trans hT.1)]
      refine xv_aload_n (q := 52) rfl dX6_text_51 rfl rfl ?_
      refine xv_geto (q := 55) rfl dX6_text_52 f_X6_22 (hg.1 _ _ rfl) (hg.2 _ _ _ rfl) ?_
      refine xv_callV (z := mX1_whatWasRead) (kc' := 0) (ks' := 0) (as := []) (q := 58) rfl dX6_text_55 l_X6_138 gX1_whatWasRead (hg.1 _ _ rfl) rfl (by decide) rfl rfl (Nat.le_of_ble_eq_true rfl) (c_wwr (d := d) hg ((xi_ne _ _ _ _ (by decide)).trans b1) (by omega)) (by omega) (by omega) (by omega) ?_
      rintro _ sh' K R' L ⟨rfl, rfl, rfl, rfl, w1, w2, w3⟩
      have hlen := xg_len hg
      have hga := xg_app hg [(4, 2), (8, (pcd tp tl 3).length), (8, 3)]
      refine xv_aast (ci := 4) (q := 59) rfl dX6_text_58 (hga.1 21 _ rfl) rfl h6 (by decide) (by decide) rfl (by decide) rfl (by simp) ?_
      refine xv_aload_n (q := 60) rfl dX6_text_59 rfl rfl ?_
      refine xv_dup (q := 61) rfl dX6_text_60 rfl ?_
      refine xv_geti (q := 64) rfl dX6_text_61 f_X6_55 (hga.1 0 _ rfl) ?_
      rw [show K 0 5 = nI tc from (congrFun (w1 0 (by omega)) 5).trans ((congrFun (xi_off _ _ _ _ (by decide)) 5).trans ((congrFun (a1 0 (by decide) (by decide) (by decide)) 5).trans hT.1))]
      refine xv_iconst (v := nI 1) (q := 65) rfl dX6_text_64 rfl ?_
      refine xv_iadd (q := 66) rfl dX6_text_65 ?_
      refine xv_as (w := nI (tc + 1)) (nI_add _ _) ?_
      refine xv_puti (q := 69) rfl dX6_text_66 f_X6_55 (fun h => by cases h) (hga.1 0 _ rfl) ?_
      refine xv_aload_n (q := 70) rfl dX6_text_69 rfl rfl ?_
      refine xv_geti (q := 73) rfl dX6_text_70 f_X6_55 (hga.1 0 _ rfl) ?_
      rw [xi_eq]
      refine xv_iconst (v := nI 1) (q := 74) rfl dX6_text_73 rfl ?_
      refine xv_isub (q := 75) rfl dX6_text_74 ?_
      refine xv_as (w := nI tc) (nI_dec1 tc) ?_
      refine xv_iret dX6_text_75 rfl ?_
      have q0 : ¬ 6 ≤ tc := by omega
      generalize hR' : xr (xr (xr R sh.length 0 (some (sh.length + 1))) sh.length 1 (some (sh.length + 2))) 21 tc (some sh.length) = R'
      have hRo : ∀ k, k ≠ 21 → k ≠ sh.length → R' k = R k := fun k k1 k2 => by rw [← hR', xr_off _ _ _ _ k1, xr_off _ _ _ _ k2, xr_off _ _ _ _ k2]
      have hR21 : ∀ j, R' 21 j = if j = tc then some sh.length else R 21 j := fun j => by rw [← hR', xr_row]; unfold va_up; rw [xr_off _ _ _ _ (by omega), xr_off _ _ _ _ (by omega)]
      have hRn : R' sh.length 0 = some (sh.length + 1) ∧ R' sh.length 1 = some (sh.length + 2) := by rw [← hR', xr_off _ _ _ _ (by omega)]; simp [xr, va_up]
      have e0 : ∀ k, k < sh.length → k ≠ 0 → xi K 0 5 (nI (tc + 1)) k = xi J 17 1 (nI 0) k := fun k hk k0 => (xi_off _ _ _ _ k0).trans (w1 k hk)
      have hgR : XG (sh ++ [(4, 2), (8, (pcd tp tl 3).length), (8, 3)]) R' := ⟨hga.1, fun k j a h => by
        by_cases k1 : k = 21
        · subst k1; cases h
        · rw [hRo k k1 (fun q => by
            have hk74 : k < 62 := by
              unfold RW at h
              split at h <;> first | omega | cases h
            omega)]
          exact hg.2 k j a h⟩
      refine ⟨by unfold sp_text; rw [if_neg q0, if_pos hok], rfl, hgR, XGe.app, ?_, ?_, fun k hk k1 k2 k3 k4 => ?_, fun j hj => ?_, fun k hk k1 => hRo k k1 (by omega)⟩
      · unfold tcn txn; rw [if_neg q0, if_pos hok, if_neg q0, if_pos hok]
        refine ⟨xi_eq _ _ _ _, by omega, fun i hi => ?_⟩
        by_cases e : i = tc
        · subst e
          refine ⟨sh.length, (hR21 _).trans (if_pos rfl), ?_⟩
          show KT _ _ _ _ (ptv (if i = i then (tl, tp) else tx i).2 (if i = i then (tl, tp) else tx i).1)
          rw [if_pos rfl]
          show KT _ _ _ _ (ptv tp tl)
          refine KT.of (ca := sh.length + 1) (ea := sh.length + 2) hl160 hok (by omega) (by omega) (by omega) ⟨by simp, hRn.1, hRn.2, by simp, by simp, by omega, by omega, by omega⟩ (fun j hj => ?_) (fun j hj => ?_)
          · rw [xi_off _ _ _ _ (by omega), w2 j hj, xi_off _ _ _ _ (by decide)]; exact b2 j hj
          · rw [xi_off _ _ _ _ (by omega), w3 j hj, xi_off _ _ _ _ (by decide)]; exact b3 j hj
        · obtain ⟨t, t1, t2⟩ := hT.2.2 i (by omega)
          refine ⟨t, (hR21 _).trans ((if_neg e).trans t1), ?_⟩
          rw [show tvx (fun i => if i = tc then (tl, tp) else tx i) i = tvx tx i from (by show ptv (if i = tc then (tl, tp) else tx i).2 (if i = tc then (tl, tp) else tx i).1 = _; rw [if_neg e]; rfl)]
          exact t2.mvx XGe.app (fun k hk hk2 => by unfold txc at hk2; rw [e0 k hk (by omega), xi_off _ _ _ _ (by omega)]; exact a1 k (by omega) (by omega) (by omega)) (fun k hk hk2 => hRo k (by unfold txc at hk2; omega) (by omega))
      · unfold tln; rw [if_neg q0]
        exact ⟨by rw [e0 17 (by omega) (by decide), xi_eq], Nat.zero_le _, fun i hi => absurd hi (Nat.not_lt_zero i)⟩
      · rw [e0 k hk k1, xi_off _ _ _ _ k2]; exact a1 k k2 k3 k4
      · rw [xi_ne _ _ _ _ (by omega), w1 0 (by omega), xi_off _ _ _ _ (by decide), a1 0 (by decide) (by decide) (by decide)]
    · have hok := bIz h29
      refine xv_bipush (v := (-100)) (q := 34) rfl dX6_text_32 rfl ?_
      refine xv_aload_n (q := 35) rfl dX6_text_34 rfl rfl ?_
      refine xv_geto (q := 38) rfl dX6_text_35 f_X6_22 (hg.1 _ _ rfl) (hg.2 _ _ _ rfl) ?_
      refine xv_geti (q := 41) rfl dX6_text_38 f_X6_135 (hg.1 _ _ rfl) ?_
      rw [xi_ne _ _ _ _ (by decide), a2 hok]
      refine xv_isub (q := 42) rfl dX6_text_41 ?_
      refine xv_iret dX6_text_42 rfl ?_
      have q0 : ¬ 6 ≤ tc := by omega
      have q1 : ¬ pok tp tl = true := by rw [hok]; decide
      have e0 : xi J 17 1 (nI 0) 0 = I 0 := by
        rw [xi_off _ _ _ _ (by decide)]
        exact a1 0 (by decide) (by decide) (by decide)
      refine ⟨by unfold sp_text; rw [if_neg q0, if_neg q1], rfl, hg, XGe.rf, ?_, ?_, fun k _ k1 k2 k3 k4 => (xi_off _ _ _ _ k2).trans (a1 k k2 k3 k4), fun j _ => by rw [e0], fun _ _ _ => rfl⟩
      · unfold tcn txn; rw [if_neg q0, if_neg q1, if_neg q0, if_neg q1]
        exact hT.mvx XGe.rf (by rw [e0]) (fun k _ hk => by unfold txc at hk; rw [xi_off _ _ _ _ (by omega)]; exact a1 k (by omega) (by omega) (by omega)) (fun _ _ _ => rfl) (fun _ _ => rfl)
      · unfold tln; rw [if_neg q0]
        exact ⟨xi_eq _ _ _ _, Nat.zero_le _, fun i hi => absurd hi (Nat.not_lt_zero i)⟩
  · have h6 : 6 ≤ tc := nInlt h6 (by omega) (by omega)
    refine xv_bipush (v := (-4)) (q := 11) rfl dX6_text_9 rfl ?_
    refine xv_iret dX6_text_11 rfl ?_
    refine ⟨by unfold sp_text; rw [if_pos h6], rfl, hg, XGe.rf, ?_, ?_, fun _ _ _ _ _ _ => rfl, fun _ _ => rfl, fun _ _ _ => rfl⟩
    · unfold tcn txn; rw [if_pos h6, if_pos h6]; exact hT
    · unfold tln; rw [if_pos h6]; exact hK
end TEXT

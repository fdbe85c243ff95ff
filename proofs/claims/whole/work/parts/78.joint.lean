/-! the class's cells, the model's cells, in one state -/
def JC (sh : XSh) (I : XI) (R : XRf) (n : Nat) (c : CR) (dd u : Nat) (im : Option CG) (sg : SG) (tl : Nat) (tp : Nat → Nat) (tc : Nat) (tx : TXS) : Prop := XG sh R ∧ KXc I n c dd u ∧ KXi I im ∧ KXp I tl tp ∧ KXs I sg ∧ KTs sh I R tc tx ∧ KF I tc tx
def JM (I : XI) (n : Nat) (c : CR) (dd u : Nat) (im : Option CG) (sg : SG) (tl : Nat) (tp : Nat → Nat) (tc : Nat) (tx : TXS) : Prop := MKc I n c dd u ∧ KMi I im ∧ KMp I tl tp ∧ KMs I sg ∧ MTX I tc tx
def JW (n : Nat) (c : CR) (u : Nat) (im : Option CG) (tc : Nat) : Prop := u < tc ∧ IMk im n c ∧ ∀ q, im = some q → q.2.2.2 < tc
/-- an operation of the class leaves the model's cells; one of the model the class's -/
def CFr (I J : XI) : Prop := ∀ k, 61 ≤ k → k < 82 → J k = I k
def MFr (I J : XI) : Prop := ∀ k, (k < 61 ∨ 82 ≤ k) → J k = I k
section JOINT
variable {sh sh' : XSh} {I J : XI} {R R' : XRf} {n n' dd dd' u u' tl tl' tc : Nat} {c c' : CR} {im : Option CG} {sg sg' : SG} {tp tp' : Nat → Nat} {tx : TXS} {tv : TV}
theorem KXc.mvj (h : KXc I n c dd u) (hJ : ∀ k, 1 ≤ k → k < 9 → J k = I k) : KXc J n c dd u := ⟨fun w r hw hr => by rw [hJ _ (by omega) (by omega)]; exact h.1 w r hw hr, by rw [hJ 1 (by decide) (by decide)]; exact h.2.1, h.2.2.1, by rw [hJ 1 (by decide) (by decide)]; exact h.2.2.2.1, h.2.2.2.2.1, by rw [hJ 1 (by decide) (by decide)]; exact h.2.2.2.2.2.1, h.2.2.2.2.2.2⟩
theorem KXi.mvj (h : KXi I im) (zh0 : J 0 2 = I 0 2) (hJ : ∀ k, 9 ≤ k → k < 17 → J k = I k) : KXi J im := by
  cases im with
  | none => exact zh0.trans h
  | some q => exact ⟨zh0.trans h.1, fun w r hw hr => by rw [hJ _ (by omega) (by omega)]; exact h.2.1 w r hw hr, by rw [hJ 9 (by decide) (by decide)]; exact h.2.2.1, h.2.2.2.1, by rw [hJ 9 (by decide) (by decide)]; exact h.2.2.2.2.1, h.2.2.2.2.2.1, by rw [hJ 9 (by decide) (by decide)]; exact h.2.2.2.2.2.2.1, h.2.2.2.2.2.2.2⟩
theorem KXp.mvj (h : KXp I tl tp) (h17 : J 17 = I 17) (h18 : J 18 = I 18) : KXp J tl tp := ⟨by rw [h17]; exact h.1, h.2.1, fun i hi => by rw [h18]; exact h.2.2 i hi⟩
theorem KXs.mvj (h : KXs I sg) (hJ : ∀ k, 53 ≤ k → k < 61 → J k = I k) : KXs J sg := by
  intro s zhs
  have := h s zhs
  cases zhq : sg s with
  | none =>
    rw [zhq] at this
    show J (53 + 2 * s) 2 = -1
    rw [hJ _ (by omega) (by omega)]; exact this
  | some q =>
    rw [zhq] at this
    obtain ⟨za1, za2, za3, za4, za5⟩ := this
    exact ⟨za1, za2, by rw [hJ _ (by omega) (by omega)]; exact za3, by rw [hJ _ (by omega) (by omega)]; exact za4, fun i hi => by rw [hJ _ (by omega) (by omega)]; exact za5 i hi⟩
theorem KTs.mvj (h : KTs sh I R tc tx) (zh0 : J 0 = I 0) (hJ : ∀ k, (k = 50 ∨ k = 51 ∨ k = 52 ∨ 82 ≤ k) → J k = I k) (hR : ∀ k, (k = 21 ∨ k = 50 ∨ k = 51 ∨ k = 52 ∨ 82 ≤ k) → R' k = R k) : KTs sh J R' tc tx := h.mvx XGe.rf (by rw [zh0]) (fun k _ hk => hJ k hk) (fun k _ hk => hR k (Or.inr hk)) (fun i _ => by rw [hR 21 (Or.inl rfl)])
/-- the model's work leaves the class's state -/
theorem JC.mv (h : JC sh I R n c dd u im sg tl tp tc tx) (hJ : MFr I J) : JC sh J R n c dd u im sg tl tp tc tx := ⟨h.1, h.2.1.mvj (fun k _ _ => hJ k (by omega)), h.2.2.1.mvj (by rw [hJ 0 (by decide)]) (fun k _ _ => hJ k (by omega)), h.2.2.2.1.mvj (hJ 17 (by decide)) (hJ 18 (by decide)), h.2.2.2.2.1.mvj (fun k _ _ => hJ k (by omega)), h.2.2.2.2.2.1.mvj (hJ 0 (by decide)) (fun k hk => hJ k (by omega)) (fun _ _ => rfl), h.2.2.2.2.2.2.mv (fun k _ _ => hJ k (by omega))⟩
theorem KMi.mvj (h : KMi I im) (zh1 : ∀ j, 42 ≤ j → J 61 j = I 61 j) (h69 : J 77 = I 77) : KMi J im := by
  cases im with
  | none => exact (zh1 42 (by decide)).trans h
  | some q =>
    obtain ⟨za1, za2, za3, za4, za5, za6, za7⟩ := h
    exact ⟨(zh1 42 (by decide)).trans za1, za2, (zh1 43 (by decide)).trans za3, za4, (zh1 44 (by decide)).trans za5, za6, fun r hr => by rw [h69]; exact za7 r hr⟩
theorem KMs.mvj (h : KMs I sg) (hJ : ∀ k, 78 ≤ k → k < 82 → J k = I k) : KMs J sg := by
  intro s zhs
  have := h s zhs
  cases zhq : sg s with
  | none => rw [zhq] at this; show J 78 s = nI 0; rw [hJ 78 (by decide) (by decide)]; exact this
  | some q =>
    rw [zhq] at this
    obtain ⟨za1, za2, za3, za4, za5, za6⟩ := this
    exact ⟨za1, za2, by rw [hJ 78 (by decide) (by decide)]; exact za3, by rw [hJ 79 (by decide) (by decide)]; exact za4, by rw [hJ 80 (by decide) (by decide)]; exact za5, fun i hi => by rw [hJ 81 (by decide) (by decide)]; exact za6 i hi⟩
theorem KMp.mvj (h : KMp I tl tp) (zh6 : J 61 6 = I 61 6) (h56 : J 64 = I 64) : KMp J tl tp := ⟨zh6.trans h.1, h.2.1, fun i hi => by rw [h56]; exact h.2.2 i hi⟩
theorem JM.mv (h : JM I n c dd u im sg tl tp tc tx) (hJ : CFr I J) : JM J n c dd u im sg tl tp tc tx := by
  obtain ⟨⟨zb1, zb2, zb3, zb4, zb5, zb6, zb7⟩, zh2, zh3, zh4, zh5⟩ := h
  have e : J 61 = I 61 := hJ 61 (by decide) (by decide)
  exact ⟨⟨fun w r hw hr => by rw [hJ _ (by omega) (by omega)]; exact zb1 w r hw hr, by rw [e]; exact zb2, zb3, by rw [e]; exact zb4, zb5, by rw [e]; exact zb6, zb7⟩, zh2.mvj (fun j _ => by rw [e]) (hJ 77 (by decide) (by decide)), zh3.mvj (by rw [e]) (hJ 64 (by decide) (by decide)), zh4.mvj (fun k _ _ => hJ k (by omega) (by omega)), zh5.mv (by rw [e]) (hJ 62 (by decide) (by decide)) (hJ 63 (by decide) (by decide))⟩
/-! operations of the class -/
theorem JC.fxc (h : JC sh I R n c dd u im sg tl tp tc tx) (hK : KXc J n' c' dd' u') (hJ : FXc I J) : JC sh J R n' c' dd' u' im sg tl tp tc tx ∧ CFr I J :=
  ⟨⟨h.1, hK, h.2.2.1.mvj (by rw [hJ 0 (by decide)]) (fun k _ _ => hJ k (by omega)), h.2.2.2.1.mvj (hJ 17 (by decide)) (hJ 18 (by decide)), h.2.2.2.2.1.mvj (fun k _ _ => hJ k (by omega)), h.2.2.2.2.2.1.mvj (hJ 0 (by decide)) (fun k hk => hJ k (by omega)) (fun _ _ => rfl), h.2.2.2.2.2.2.mv (fun k _ _ => hJ k (by omega))⟩, fun k _ _ => hJ k (by omega)⟩
/-- a sheet -/
theorem JC.fx (h : JC sh I R n c dd u im sg tl tp tc tx) (hK : KXs J sg') (hF : FX I J 53 61) : JC sh J R n c dd u im sg' tl tp tc tx ∧ CFr I J :=
  ⟨⟨h.1, h.2.1.mvj (fun k _ _ => hF k (by omega)), h.2.2.1.mvj (by rw [hF 0 (by decide)]) (fun k _ _ => hF k (by omega)), h.2.2.2.1.mvj (hF 17 (by decide)) (hF 18 (by decide)), hK, h.2.2.2.2.2.1.mvj (hF 0 (by decide)) (fun k hk => hF k (by omega)) (fun _ _ => rfl), h.2.2.2.2.2.2.mv (fun k _ _ => hF k (by omega))⟩, fun k _ _ => hF k (by omega)⟩
/-- a trip -/
theorem JC.ft (h : JC sh I R n c dd u im sg tl tp tc tx) (hF : FT I J) (hR : RT R R') : JC sh J R' n c dd u im sg tl tp tc tx ∧ CFr I J :=
  ⟨⟨xg_rt h.1 hR, h.2.1.mvj (fun k _ _ => hF k (by omega)), h.2.2.1.mvj (by rw [hF 0 (by decide)]) (fun k _ _ => hF k (by omega)), h.2.2.2.1.mvj (hF 17 (by decide)) (hF 18 (by decide)), h.2.2.2.2.1.mvj (fun k _ _ => hF k (by omega)), h.2.2.2.2.2.1.mvj (hF 0 (by decide)) (fun k hk => hF k (by omega)) (fun k hk => hR.row (by omega)), h.2.2.2.2.2.2.mv (fun k _ _ => hF k (by omega))⟩, fun k _ _ => hF k (by omega)⟩
/-- a film -/
theorem JC.fs (h : JC sh I R n c dd u im sg tl tp tc tx) (hK : KXs J sg') (hF : FS I J) (hR : RT R R') : JC sh J R' n c dd u im sg' tl tp tc tx ∧ CFr I J :=
  ⟨⟨xg_rt h.1 hR, h.2.1.mvj (fun k _ _ => hF k (by omega) (by omega)), h.2.2.1.mvj (by rw [hF 0 (by decide) (by decide)]) (fun k _ _ => hF k (by omega) (by omega)), h.2.2.2.1.mvj (hF 17 (by decide) (by decide)) (hF 18 (by decide) (by decide)), hK, h.2.2.2.2.2.1.mvj (hF 0 (by decide) (by decide)) (fun k hk => hF k (by omega) (by omega)) (fun k hk => hR.row (by omega)), h.2.2.2.2.2.2.mv (fun k _ _ => hF k (by omega) (by omega))⟩, fun k _ _ => hF k (by omega) (by omega)⟩
/-- a search -/
theorem JC.f42 (h : JC sh I R n c dd u im sg tl tp tc tx) (hK : KF J tc tx) (hF : F42 I J) (hR : RT R R') : JC sh J R' n c dd u im sg tl tp tc tx ∧ CFr I J :=
  ⟨⟨xg_rt h.1 hR, h.2.1.mvj (fun k _ _ => hF k (by omega)), h.2.2.1.mvj (by rw [hF 0 (by decide)]) (fun k _ _ => hF k (by omega)), h.2.2.2.1.mvj (hF 17 (by decide)) (hF 18 (by decide)), h.2.2.2.2.1.mvj (fun k _ _ => hF k (by omega)), h.2.2.2.2.2.1.mvj (hF 0 (by decide)) (fun k hk => hF k (by omega)) (fun k hk => hR.row (by omega)), hK⟩, fun k _ _ => hF k (by omega)⟩
/-- all change -/
theorem JC.stands (h : JC sh I R n c dd u im sg tl tp tc tx) (hK : KXc J n c' dd u) (hH : KF J tc tx) (hF : ∀ k, (k < 24 ∨ 50 ≤ k) → k ≠ 7 → J k = I k) (hR : RT R R') : JC sh J R' n c' dd u im sg tl tp tc tx ∧ CFr I J :=
  ⟨⟨xg_rt h.1 hR, hK, h.2.2.1.mvj (by rw [hF 0 (by decide) (by decide)]) (fun k _ _ => hF k (by omega) (by omega)), h.2.2.2.1.mvj (hF 17 (by decide) (by decide)) (hF 18 (by decide) (by decide)), h.2.2.2.2.1.mvj (fun k _ _ => hF k (by omega) (by omega)), h.2.2.2.2.2.1.mvj (hF 0 (by decide) (by decide)) (fun k hk => hF k (by omega) (by omega)) (fun k hk => hR.row (by omega)), hH⟩, fun k _ _ => hF k (by omega) (by omega)⟩
theorem JC.image (h : JC sh I R n c dd u im sg tl tp tc tx) (hK : KXi J (some (n, c, dd, u))) (hF : ∀ k, (k < 9 ∨ 17 ≤ k) → k ≠ 0 → J k = I k) (zh0 : ∀ j, j ≠ 2 → J 0 j = I 0 j) : JC sh J R n c dd u (some (n, c, dd, u)) sg tl tp tc tx ∧ CFr I J :=
  ⟨⟨h.1, h.2.1.mvj (fun k _ _ => hF k (by omega) (by omega)), hK, h.2.2.2.1.mvj (hF 17 (by decide) (by decide)) (hF 18 (by decide) (by decide)), h.2.2.2.2.1.mvj (fun k _ _ => hF k (by omega) (by omega)), h.2.2.2.2.2.1.mvx XGe.rf (zh0 5 (by decide)) (fun k _ hk => hF k (by unfold txc at hk; omega) (by unfold txc at hk; omega)) (fun _ _ _ => rfl) (fun _ _ => rfl), h.2.2.2.2.2.2.mv (fun k _ _ => hF k (by omega) (by omega))⟩, fun k _ _ => hF k (by omega) (by omega)⟩
theorem JC.feed (h : JC sh I R n c dd u im sg tl tp tc tx) (hK : KXp J tl' tp') (hF : ∀ k, k ≠ 17 → k ≠ 18 → J k = I k) : JC sh J R n c dd u im sg tl' tp' tc tx ∧ CFr I J :=
  ⟨⟨h.1, h.2.1.mvj (fun k _ _ => hF k (by omega) (by omega)), h.2.2.1.mvj (by rw [hF 0 (by decide) (by decide)]) (fun k _ _ => hF k (by omega) (by omega)), hK, h.2.2.2.2.1.mvj (fun k _ _ => hF k (by omega) (by omega)), h.2.2.2.2.2.1.mvj (hF 0 (by decide) (by decide)) (fun k hk => hF k (by omega) (by omega)) (fun _ _ => rfl), h.2.2.2.2.2.2.mv (fun k _ _ => hF k (by omega) (by omega))⟩, fun k _ _ => hF k (by omega) (by omega)⟩
theorem txn_u (hu : u < tc) : tvx (txn tc tl tp tx) u = tvx tx u := by
  unfold tvx txn
  split
  · rfl
  · split
    · show ptv (if u = tc then (tl, tp) else tx u).2 (if u = tc then (tl, tp) else tx u).1 = _
      rw [if_neg (by omega)]
    · rfl
theorem tcn_le : tc ≤ tcn tc tl tp := by unfold tcn; split <;> (try split) <;> omega
theorem KF.text (h : KF I tc tx) : KF I (tcn tc tl tp) (txn tc tl tp tx) := by
  rcases h with h | ⟨n, c, dd, u, hu, zh1, zh2, zh3⟩
  · exact Or.inl h
  · exact Or.inr ⟨n, c, dd, u, Nat.lt_of_lt_of_le hu tcn_le, zh1, zh2, by rw [txn_u hu]; exact zh3⟩
theorem JC.text (h : JC sh I R n c dd u im sg tl tp tc tx) {v : Option Value} {L L' : XL} (hQ : QTe tc tl tp tx sh I R L v sh' J R' L') : JC sh' J R' n c dd u im sg (tln tc tl) tp (tcn tc tl tp) (txn tc tl tp tx) ∧ CFr I J := by
  obtain ⟨-, -, zq1, zq2, zq3, zq4, zq5, zq6, zq7⟩ := hQ
  have hlen := xg_len h.1
  have hF : ∀ k, k < 82 → k ≠ 0 → k ≠ 17 → k ≠ 19 → k ≠ 20 → J k = I k := fun k hk => zq5 k (by omega)
  refine ⟨⟨zq1, h.2.1.mvj (fun k _ _ => hF k (by omega) (by omega) (by omega) (by omega) (by omega)), h.2.2.1.mvj (zq6 2 (by decide)) (fun k _ _ => hF k (by omega) (by omega) (by omega) (by omega) (by omega)), zq4, h.2.2.2.2.1.mvj (fun k _ _ => hF k (by omega) (by omega) (by omega) (by omega) (by omega)), zq3, (h.2.2.2.2.2.2.mv (fun k _ _ => hF k (by omega) (by omega) (by omega) (by omega) (by omega))).text⟩, fun k _ _ => hF k (by omega) (by omega) (by omega) (by omega) (by omega)⟩
/-! nothing but riders is numbered -/
def nc (n : Nat) (c : CR) : CR := fun w r => if w < 7 ∧ r < n then c w r else 0
theorem nc_at {w r : Nat} (hw : w < 7) (hr : r < n) : nc n c w r = c w r := if_pos ⟨hw, hr⟩
theorem nrm_nc : nrm n (nc n c) := fun w r h => if_neg h
theorem xcm_nc {a : Nat} (h : XCm I a (ci c) n) : XCm I a (ci (nc n c)) n := fun w r hw hr => (h w r hw hr).trans (by unfold ci; rw [nc_at hw hr])
theorem wfc_nc (h : wfc c n) : wfc (nc n c) n := by
  refine ⟨fun r hr => ?_, ?_⟩
  · have zh1 := h.1 r hr
    unfold wfr at zh1 ⊢
    rw [nc_at (by decide) hr, nc_at (by decide) hr, nc_at (by decide) hr, nc_at (by decide) hr, nc_at (by decide) hr, nc_at (by decide) hr, nc_at (by decide) hr]
    exact zh1
  · rw [aks_cong (c := ci c) (c' := ci (nc n c)) (fun w o hw ho => by unfold ci; rw [nc_at hw ho])]
    exact h.2
theorem JC.nc (h : JC sh I R n c dd u im sg tl tp tc tx) : JC sh I R n (nc n c) dd u im sg tl tp tc tx :=
  ⟨h.1, ⟨xcm_nc h.2.1.1, h.2.1.2.1, h.2.1.2.2.1, h.2.1.2.2.2.1, h.2.1.2.2.2.2.1, h.2.1.2.2.2.2.2.1, wfc_nc h.2.1.2.2.2.2.2.2⟩, h.2.2⟩
theorem JM.nc (h : JM I n c dd u im sg tl tp tc tx) : JM I n (nc n c) dd u im sg tl tp tc tx :=
  ⟨⟨xcm_nc h.1.1, h.1.2.1, h.1.2.2.1, h.1.2.2.2.1, h.1.2.2.2.2.1, h.1.2.2.2.2.2.1, wfc_nc h.1.2.2.2.2.2.2⟩, h.2⟩
/-! operations of the model -/
theorem JM.fmr {f : Nat} (h : JM I n c dd u im sg tl tp tc tx) (hK : MKc J n' c' dd' u') (hF : FMr I J f) (hf : f = 4 ∨ f = 7 ∨ f = 15) : JM J n' c' dd' u' im sg tl tp tc tx ∧ MFr I J :=
  ⟨⟨hK, h.2.1.mvj (fun j zhj => hF.2 j (by omega)) (hF.1 77 (by decide) (by decide)), h.2.2.1.mvj (hF.2 6 (by omega)) (hF.1 64 (by decide) (by decide)), h.2.2.2.1.mvj (fun k _ _ => hF.1 k (by omega) (by omega)), h.2.2.2.2.mv (hF.2 3 (by omega)) (hF.1 62 (by decide) (by decide)) (hF.1 63 (by decide) (by decide))⟩, fun k hk => hF.1 k (by omega) (by omega)⟩
theorem JM.back (h : JM I n c dd u im sg tl tp tc tx) (hK : MKc J n' c' dd' u') (zh1 : ∀ k, k ≠ 61 → (k < 65 ∨ 72 ≤ k) → J k = I k) (zh2 : ∀ j, j ≠ 15 → j ≠ 7 → j ≠ 4 → J 61 j = I 61 j) : JM J n' c' dd' u' im sg tl tp tc tx ∧ MFr I J :=
  ⟨⟨hK, h.2.1.mvj (fun j zhj => zh2 j (by omega) (by omega) (by omega)) (zh1 77 (by decide) (by decide)), h.2.2.1.mvj (zh2 6 (by omega) (by omega) (by omega)) (zh1 64 (by decide) (by decide)), h.2.2.2.1.mvj (fun k _ _ => zh1 k (by omega) (by omega)), h.2.2.2.2.mv (zh2 3 (by omega) (by omega) (by omega)) (zh1 62 (by decide) (by decide)) (zh1 63 (by decide) (by decide))⟩, fun k hk => zh1 k (by omega) (by omega)⟩
theorem JM.fmq (h : JM I n c dd u im sg tl tp tc tx) (hF : FMq n I J) : JM J n c dd u im sg tl tp tc tx ∧ MFr I J := by
  obtain ⟨⟨zb1, zb2, zb3, zb4, zb5, zb6, zb7⟩, zh2, zh3, zh4, zh5⟩ := h
  obtain ⟨zg1, zg2, zg3⟩ := hF
  refine ⟨⟨⟨fun w r hw hr => ?_, (zg3 15 (by decide)).trans zb2, zb3, (zg3 7 (by decide)).trans zb4, zb5, (zg3 4 (by decide)).trans zb6, zb7⟩, zh2.mvj (fun j zhj => zg3 j (by omega)) (zg1 77 (by decide)), zh3.mvj (zg3 6 (by decide)) (zg1 64 (by decide)), zh4.mvj (fun k _ _ => zg1 k (by omega)), zh5.mv (zg3 3 (by decide)) (zg1 62 (by decide)) (zg1 63 (by decide))⟩, fun k hk => zg1 k (by omega)⟩
  rw [show 64 + 1 + w = 65 + w by omega, zg2 w r hw hr, show 65 + w = 64 + 1 + w by omega]; exact zb1 w r hw hr
theorem JM.fmf (h : JM I n c dd u im sg tl tp tc tx) (hK : MKc J n c' dd u) (hF : FMf I J) : JM J n c' dd u im sg tl tp tc tx ∧ MFr I J := by
  obtain ⟨-, zh2, zh3, zh4, zh5⟩ := h
  obtain ⟨zg1, zg3⟩ := hF
  exact ⟨⟨hK, zh2.mvj (fun j zhj => zg3 j (by omega)) (zg1 77 (by decide)), zh3.mvj (zg3 6 (by decide)) (zg1 64 (by decide)), zh4.mvj (fun k _ _ => zg1 k (by omega)), zh5.mv (zg3 3 (by decide)) (zg1 62 (by decide)) (zg1 63 (by decide))⟩, fun k hk => zg1 k (by omega)⟩
theorem JM.feed (h : JM I n c dd u im sg tl tp tc tx) (hK : KMp J tl' tp') (zh1 : ∀ k, k ≠ 61 → k ≠ 64 → J k = I k) (zh2 : ∀ j, j ≠ 6 → J 61 j = I 61 j) : JM J n c dd u im sg tl' tp' tc tx ∧ MFr I J := by
  obtain ⟨⟨zb1, zb2, zb3, zb4, zb5, zb6, zb7⟩, zg2, zg3, zg4, zg5⟩ := h
  exact ⟨⟨⟨fun w r hw hr => by rw [zh1 _ (by omega) (by omega)]; exact zb1 w r hw hr, (zh2 15 (by decide)).trans zb2, zb3, (zh2 7 (by decide)).trans zb4, zb5, (zh2 4 (by decide)).trans zb6, zb7⟩, zg2.mvj (fun j zhj => zh2 j (by omega)) (zh1 77 (by decide) (by decide)), hK, zg4.mvj (fun k _ _ => zh1 k (by omega) (by omega)), zg5.mv (zh2 3 (by decide)) (zh1 62 (by decide) (by decide)) (zh1 63 (by decide) (by decide))⟩, fun k hk => zh1 k (by omega) (by omega)⟩
theorem JM.image (h : JM I n c dd u im sg tl tp tc tx) (hK : KMi J (some (n, c, dd, u))) (zh1 : ∀ k, k ≠ 61 → k ≠ 77 → J k = I k) (zh2 : ∀ j, j ≠ 42 → j ≠ 43 → j ≠ 44 → J 61 j = I 61 j) : JM J n c dd u (some (n, c, dd, u)) sg tl tp tc tx ∧ MFr I J := by
  obtain ⟨⟨zb1, zb2, zb3, zb4, zb5, zb6, zb7⟩, zg2, zg3, zg4, zg5⟩ := h
  exact ⟨⟨⟨fun w r hw hr => by rw [zh1 _ (by omega) (by omega)]; exact zb1 w r hw hr, (zh2 15 (by decide) (by decide) (by decide)).trans zb2, zb3, (zh2 7 (by decide) (by decide) (by decide)).trans zb4, zb5, (zh2 4 (by decide) (by decide) (by decide)).trans zb6, zb7⟩, hK, zg3.mvj (zh2 6 (by decide) (by decide) (by decide)) (zh1 64 (by decide) (by decide)), zg4.mvj (fun k _ _ => zh1 k (by omega) (by omega)), zg5.mv (zh2 3 (by decide) (by decide) (by decide)) (zh1 62 (by decide) (by decide)) (zh1 63 (by decide) (by decide))⟩, fun k hk => zh1 k (by omega) (by omega)⟩
theorem JM.fms (h : JM I n c dd u im sg tl tp tc tx) (hK : KMs J sg') (hF : FMs I J) : JM J n c dd u im sg' tl tp tc tx ∧ MFr I J := by
  obtain ⟨⟨zb1, zb2, zb3, zb4, zb5, zb6, zb7⟩, zg2, zg3, zg4, zg5⟩ := h
  have e : ∀ k, k < 78 → J k = I k := fun k hk => hF k (by omega) (by omega) (by omega) (by omega)
  exact ⟨⟨⟨fun w r hw hr => by rw [e _ (by omega)]; exact zb1 w r hw hr, by rw [e 61 (by decide)]; exact zb2, zb3, by rw [e 61 (by decide)]; exact zb4, zb5, by rw [e 61 (by decide)]; exact zb6, zb7⟩, zg2.mvj (fun j zhj => by rw [e 61 (by decide)]) (e 77 (by decide)), zg3.mvj (by rw [e 61 (by decide)]) (e 64 (by decide)), hK, zg5.mv (by rw [e 61 (by decide)]) (e 62 (by decide)) (e 63 (by decide))⟩, fun k hk => hF k (by omega) (by omega) (by omega) (by omega)⟩
theorem JM.fmm (h : JM I n c dd u im sg tl tp tc tx) (hK : KMs J sg') (hF : FMm I J) : JM J n c dd u im sg' tl tp tc tx ∧ MFr I J := by
  obtain ⟨⟨zb1, zb2, zb3, zb4, zb5, zb6, zb7⟩, zg2, zg3, zg4, zg5⟩ := h
  obtain ⟨zh1, zh2⟩ := hF
  exact ⟨⟨⟨fun w r hw hr => by rw [zh1 _ (by omega) (by omega)]; exact zb1 w r hw hr, (zh2 15 (by decide)).trans zb2, zb3, (zh2 7 (by decide)).trans zb4, zb5, (zh2 4 (by decide)).trans zb6, zb7⟩, zg2.mvj (fun j zhj => zh2 j (by omega)) (zh1 77 (by decide) (by decide)), zg3.mvj (zh2 6 (by decide)) (zh1 64 (by decide) (by decide)), hK, zg5.mv (zh2 3 (by decide)) (zh1 62 (by decide) (by decide)) (zh1 63 (by decide) (by decide))⟩, fun k hk => zh1 k (by omega) (by omega)⟩
theorem JM.text (h : JM I n c dd u im sg tl tp tc tx) {v : Option Value} {L L' : XL} (hQ : QMte tc tl tp tx sh I R L v sh' J R' L') : JM J n c dd u im sg (tln tc tl) tp (tcn tc tl tp) (txn tc tl tp tx) ∧ MFr I J := by
  obtain ⟨⟨zb1, zb2, zb3, zb4, zb5, zb6, zb7⟩, zg2, zg3, zg4, zg5⟩ := h
  obtain ⟨-, -, -, zq3, zq4, zh1, zh2, -⟩ := hQ
  exact ⟨⟨⟨fun w r hw hr => by rw [zh1 _ (by omega) (by omega) (by omega)]; exact zb1 w r hw hr, (zh2 15 (by decide) (by decide) (by decide)).trans zb2, zb3, (zh2 7 (by decide) (by decide) (by decide)).trans zb4, zb5, (zh2 4 (by decide) (by decide) (by decide)).trans zb6, zb7⟩, zg2.mvj (fun j zhj => zh2 j (by omega) (by omega) (by omega)) (zh1 77 (by decide) (by decide) (by decide)), zq4, zg4.mvj (fun k _ _ => zh1 k (by omega) (by omega) (by omega)), zq3⟩, fun k hk => zh1 k (by omega) (by omega) (by omega)⟩
/-! what both keep to -/
theorem imk_of {q : CG} : IMk (some q) q.1 q.2.1 := fun z zhz => by cases zhz; exact ⟨Nat.le_refl _, fun _ _ => ⟨rfl, rfl⟩⟩
theorem IMk.grow (h : IMk im n c) (hn : n ≤ n') (hc : ∀ r, r < n → c' 0 r = c 0 r ∧ c' 3 r = c 3 r) : IMk im n' c' := fun q zhq => ⟨Nat.le_trans (h q zhq).1 hn, fun r hr => by
  have zh1 := hc r (Nat.lt_of_lt_of_le hr (h q zhq).1)
  have zh2 := (h q zhq).2 r hr
  exact ⟨zh1.1.trans zh2.1, zh1.2.trans zh2.2⟩⟩
def GRW (n : Nat) (c : CR) (n' : Nat) (c' : CR) : Prop := n ≤ n' ∧ ∀ w r, r < n → c' w r = c w r
theorem GRW.rf : GRW n c n c := ⟨Nat.le_refl n, fun _ _ _ => rfl⟩
theorem GRW.trans {n2 : Nat} {zc2 : CR} (h : GRW n c n' c') (zh2 : GRW n' c' n2 zc2) : GRW n c n2 zc2 := ⟨Nat.le_trans h.1 zh2.1, fun w r hr => (zh2.2 w r (Nat.lt_of_lt_of_le hr h.1)).trans (h.2 w r hr)⟩
theorem rider_grw (k w y : Int32) : GRW n c (sp_rider n c k w y).2.1 (sp_rider n c k w y).2.2 := by
  unfold sp_rider
  split
  · split
    · exact GRW.rf
    · split
      · exact ⟨Nat.le_succ n, fun w r hr => putr_lt hr⟩
      · exact GRW.rf
  · exact GRW.rf
theorem rdF_grw (ln : Nat) (it : Nat → Int32) (f : Int32) (N : Nat) : ∀ (k came n : Nat) (c : CR), GRW n c (rdF ln it f N k came n c).2.1 (rdF ln it f N k came n c).2.2
  | 0, _, n, c => GRW.rf
  | k + 1, came, n, c => by
    unfold rdF
    split
    · exact GRW.rf
    · exact (rider_grw _ _ _).trans (rdF_grw ln it f N k _ _ _)
theorem riders_grw (x so f m : Int32) : GRW n c (sp_riders sg n c x so f m).2.1 (sp_riders sg n c x so f m).2.2 := by
  unfold sp_riders
  split
  · exact GRW.rf
  · split
    · exact GRW.rf
    · split
      · exact GRW.rf
      · exact rdF_grw _ _ _ _ _ _ _ _
theorem JW.grow (h : JW n c u im tc) (hG : GRW n c n' c') : JW n' c' u im tc := ⟨h.1, h.2.1.grow hG.1 (fun r hr => ⟨hG.2 0 r hr, hG.2 3 r hr⟩), h.2.2⟩
theorem set_row {v : Nat} (hv : 0 < v ∧ v < 6) : rwo v ≠ 0 ∧ rwo v ≠ 3 := by
  have : v = 1 ∨ v = 2 ∨ v = 3 ∨ v = 4 ∨ v = 5 := by omega
  rcases this with rfl | rfl | rfl | rfl | rfl <;> decide
theorem JW.set (h : JW n c u im tc) (what of_ v : Int32) : JW n (sp_set n c dd what of_ v).2.1 u im tc := by
  refine ⟨h.1, h.2.1.grow (Nat.le_refl n) (fun r hr => ?_), h.2.2⟩
  unfold sp_set
  split
  · unfold sp_doors; split <;> exact ⟨rfl, rfl⟩
  · split
    · exact ⟨rfl, rfl⟩
    next q =>
      split
      · exact ⟨rfl, rfl⟩
      · split
        · have hw : 0 < what.toNatClampNeg ∧ what.toNatClampNeg < 6 := by
            rcases pk_ix what (n := 6) (by decide) with z | z | ⟨s, zhs, rfl⟩
            · exact absurd (Or.inl (Int32.lt_trans z (by decide))) q
            · exact absurd (Or.inr (Or.inl (Int32.lt_of_lt_of_le (by decide) z))) q
            · rw [nI_clamp (by omega)]
              refine ⟨Nat.pos_of_ne_zero (fun e => ?_), zhs⟩
              subst e
              exact q (Or.inl (by decide))
          have hr := set_row hw
          exact ⟨if_neg (fun z => hr.1 z.1.symm), if_neg (fun z => hr.2 z.1.symm)⟩
        · exact ⟨rfl, rfl⟩
theorem JW.nc (h : JW n c u im tc) : JW n (nc n c) u im tc := ⟨h.1, h.2.1.grow (Nat.le_refl n) (fun r hr => ⟨nc_at (by decide) hr, nc_at (by decide) hr⟩), h.2.2⟩
theorem JW.force (h : JW n c u im tc) (ht : tc ≤ 6) (t : Int32) : JW n c (sp_force tc u t).2 im tc := by
  refine ⟨?_, h.2.1, h.2.2⟩
  unfold sp_force
  split
  · exact h.1
  next q =>
    rcases pk_ix t (n := tc) (by omega) with z | z | ⟨s, zhs, rfl⟩
    · exact absurd (Or.inl z) q
    · exact absurd (Or.inr (fun k => absurd z (Int32.not_le.mpr k))) q
    · show (nI s).toNatClampNeg < tc
      rw [nI_clamp (by omega)]; exact zhs
theorem JW.image (h : JW n c u im tc) : JW n c u (some (n, c, dd, u)) tc := ⟨h.1, imk_of (q := (n, c, dd, u)), fun q zhq => by cases zhq; exact h.1⟩
theorem JW.back (h : JW n c u im tc) : JW (sp_back (n, c, dd, u) im).2.1 (sp_back (n, c, dd, u) im).2.2.1 (sp_back (n, c, dd, u) im).2.2.2.2 im tc := by
  cases im with
  | none => exact h
  | some q => exact ⟨h.2.2 q rfl, imk_of, h.2.2⟩
theorem JW.text (h : JW n c u im tc) : JW n c u im (tcn tc tl tp) := by
  have hle : tc ≤ tcn tc tl tp := by unfold tcn; split <;> (try split) <;> omega
  exact ⟨Nat.lt_of_lt_of_le h.1 hle, h.2.1, fun q zhq => Nat.lt_of_lt_of_le (h.2.2 q zhq) hle⟩
theorem JW.stands (h : JW n c u im tc) (pl : Nat → Nat) : JW n (stc c n pl) u im tc := ⟨h.1, h.2.1.grow (Nat.le_refl n) (fun r hr => ⟨if_neg (fun z => by cases z.1), if_neg (fun z => by cases z.1)⟩), h.2.2⟩
end JOINT

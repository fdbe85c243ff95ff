/-! where all should stand -/
abbrev ST : Type := Option (Nat × (Nat → Nat))
def itn (f : Nat → ST → ST) : Nat → ST → ST
  | 0, S => S
  | p + 1, S => f p (itn f p S)
/-- moves of the first r -/
def mvs (c q : CR) (tv : TV) : Nat → Nat
  | 0 => 0
  | r + 1 => mvs c q tv r + (if q 5 r = c 5 r then 0 else prc c tv 2 r (c 3 r) (q 5 r / 2) 0)
def lef (c : CR) (n dd : Nat) (tv : TV) (q : CR) (S : ST) : ST := match S with
  | none => some (rdc q n dd (aln n) tv + mvs c q tv n, q 5)
  | some z => if rdc q n dd (aln n) tv + mvs c q tv n < z.1 then some (rdc q n dd (aln n) tv + mvs c q tv n, q 5) else some z
def srch (c : CR) (n dd : Nat) (tv : TV) : Nat → Nat → CR → ST → ST
  | 0, _, q, S => lef c n dd tv q S
  | m + 1, r, q, S => itn (fun p S => if oks (ci (setr q 5 r p)) r r = true then srch c n dd tv m (r + 1) (setr q 5 r p) S else S) 6 S
def sres (c : CR) (n dd : Nat) (tv : TV) : ST := srch c n dd tv n 0 c none
def sct (c : CR) (n dd : Nat) (tv : TV) : Nat := match sres c n dd tv with
  | none => 0
  | some z => z.1
def spl (c : CR) (n dd : Nat) (tv : TV) : Nat → Nat := match sres c n dd tv with
  | none => fun _ => 0
  | some z => z.2
/-- what the class has found: the bound T0, or what is better -/
def clv (T0 : Nat) (S : ST) : Nat := match S with
  | none => T0
  | some z => if z.1 < T0 then z.1 else T0
/-- nothing better than the bound came -/
def PIs (T0 : Nat) (S S' : ST) : Prop := S' = S ∨ ((∃ z, S' = some z ∧ T0 ≤ z.1) ∧ (S = none ∨ ∃ w, S = some w ∧ T0 ≤ w.1))
theorem clv_hi {T0 : Nat} {S : ST} (h : S = none ∨ ∃ w, S = some w ∧ T0 ≤ w.1) : clv T0 S = T0 := by
  rcases h with rfl | ⟨w, rfl, hw⟩
  · rfl
  · exact if_neg (by omega)
theorem lef_pi {c : CR} {n dd T0 : Nat} {tv : TV} {q : CR} {S S' : ST} (h : PIs T0 S S') (zhb : clv T0 S ≤ rdc q n dd (aln n) tv + mvs c q tv n) : PIs T0 S (lef c n dd tv q S') := by
  generalize hT : rdc q n dd (aln n) tv + mvs c q tv n = T at zhb
  rcases h with rfl | ⟨⟨z, rfl, zhz⟩, zh2⟩
  · cases S' with
    | none =>
      refine Or.inr ⟨⟨(T, q 5), ?_, zhb⟩, Or.inl rfl⟩
      show some _ = _
      rw [hT]
    | some w =>
      have zhb : (if w.1 < T0 then w.1 else T0) ≤ T := zhb
      unfold lef
      dsimp only
      rw [hT]
      by_cases zh1 : T < w.1
      · rw [if_pos zh1]
        by_cases zh2 : w.1 < T0
        · rw [if_pos zh2] at zhb; omega
        · rw [if_neg zh2] at zhb
          exact Or.inr ⟨⟨_, rfl, zhb⟩, Or.inr ⟨w, rfl, by omega⟩⟩
      · rw [if_neg zh1]; exact Or.inl rfl
  · rw [clv_hi zh2] at zhb
    unfold lef
    dsimp only
    rw [hT]
    split
    · exact Or.inr ⟨⟨_, rfl, zhb⟩, zh2⟩
    · exact Or.inr ⟨⟨_, rfl, zhz⟩, zh2⟩
theorem itn_pi {T0 : Nat} {S : ST} {f : Nat → ST → ST} (h : ∀ p S', PIs T0 S S' → PIs T0 S (f p S')) : ∀ p S', PIs T0 S S' → PIs T0 S (itn f p S')
  | 0, _, hS => hS
  | p + 1, S', hS => h p _ (itn_pi h p S' hS)
theorem mvs_set {c q : CR} {tv : TV} {r p : Nat} : ∀ k, k ≤ r → mvs c (setr q 5 r p) tv k = mvs c q tv k
  | 0, _ => rfl
  | k + 1, hk => by
    show mvs c (setr q 5 r p) tv k + _ = mvs c q tv k + _
    rw [mvs_set k (by omega), setr_ne (show ¬ (5 = 5 ∧ k = r) by omega)]
theorem mvs_s {c q : CR} {tv : TV} {r p : Nat} : mvs c (setr q 5 r p) tv (r + 1) = mvs c q tv r + (if p = c 5 r then 0 else prc c tv 2 r (c 3 r) (p / 2) 0) := by
  show mvs c (setr q 5 r p) tv r + _ = _
  rw [mvs_set r (Nat.le_refl r), setr_at]
theorem srch_pi {c : CR} {n dd T0 : Nat} {tv : TV} {S : ST} : ∀ (m r : Nat) (q : CR) (S' : ST), r + m = n → clv T0 S ≤ mvs c q tv r → PIs T0 S S' → PIs T0 S (srch c n dd tv m r q S')
  | 0, r, q, S', hr, zhb, h => by
    obtain rfl : r = n := hr
    exact lef_pi h (by omega)
  | m + 1, r, q, S', hr, zhb, h => by
    refine itn_pi (fun p S'' hS => ?_) 6 S' h
    split
    · exact srch_pi m (r + 1) _ _ (by omega) (by rw [mvs_s]; omega) hS
    · exact hS
theorem itn_c {f g : Nat → ST → ST} (h : ∀ p S, f p S = g p S) : ∀ p S, itn f p S = itn g p S
  | 0, _ => rfl
  | p + 1, S => by show f p _ = g p _; rw [itn_c h p S, h]
/-- T at most -/
def leS (S : ST) (T : Nat) : Prop := ∃ z, S = some z ∧ z.1 ≤ T
theorem lef_le {c : CR} {n dd T : Nat} {tv : TV} {q : CR} {S : ST} (h : leS S T) : leS (lef c n dd tv q S) T := by
  obtain ⟨z, rfl, zhz⟩ := h
  unfold lef
  dsimp only
  split
  · exact ⟨_, rfl, by show rdc q n dd (aln n) tv + mvs c q tv n ≤ T; omega⟩
  · exact ⟨_, rfl, zhz⟩
theorem itn_le {T : Nat} {f : Nat → ST → ST} (h : ∀ p S, leS S T → leS (f p S) T) : ∀ p S, leS S T → leS (itn f p S) T
  | 0, _, hS => hS
  | p + 1, S, hS => h p _ (itn_le h p S hS)
theorem srch_le {c : CR} {n dd T : Nat} {tv : TV} : ∀ (m r : Nat) (q : CR) (S : ST), leS S T → leS (srch c n dd tv m r q S) T
  | 0, r, q, S, h => lef_le h
  | m + 1, r, q, S, h => by
    refine itn_le (fun p S' hS => ?_) 6 S h
    split
    · exact srch_le m (r + 1) _ _ hS
    · exact hS
theorem itn_hit {T p0 : Nat} {f : Nat → ST → ST} (h : ∀ p S, leS S T → leS (f p S) T) (zh0 : ∀ S, leS (f p0 S) T) : ∀ p S, p0 < p → leS (itn f p S) T
  | 0, _, zhp => absurd zhp (Nat.not_lt_zero _)
  | p + 1, S, zhp => by
    by_cases e : p0 = p
    · subst e; exact zh0 _
    · exact h p _ (itn_hit h zh0 p S (by omega))
theorem mvs_self {c : CR} {tv : TV} : ∀ r, mvs c c tv r = 0
  | 0 => rfl
  | r + 1 => by show mvs c c tv r + (if c 5 r = c 5 r then 0 else _) = 0; rw [mvs_self r, if_pos rfl]
theorem aks_oks {c : XI} {n r : Nat} (h : aks c n = true) (hr : r < n) : oks c r r = true := by
  cases zhq : oks c r r with
  | true => rfl
  | false =>
    have : aks c (r + 1) = false := by show (aks c r && oks c r r) = false; rw [zhq, Bool.and_false]
    rw [aks_le this (by omega)] at h; cases h
theorem srch_hit {c : CR} {n dd : Nat} {tv : TV} (hw : wfn c n) (ha : aks (ci c) n = true) : ∀ (m r : Nat) (S : ST), r + m = n → leS (srch c n dd tv m r c S) (rdc c n dd (aln n) tv)
  | 0, r, S, hr => by
    show leS (lef c n dd tv c S) _
    unfold lef
    rw [mvs_self]
    cases S with
    | none => exact ⟨_, rfl, Nat.le_refl _⟩
    | some z =>
      dsimp only
      split
      · exact ⟨_, rfl, Nat.le_refl _⟩
      next h => exact ⟨_, rfl, by omega⟩
  | m + 1, r, S, hr => by
    refine itn_hit (p0 := c 5 r) (fun p S' hS => ?_) (fun S' => ?_) 6 S (hw r (by omega)).2.2.2.2.2.1
    · split
      · exact srch_le m (r + 1) _ _ hS
      · exact hS
    · rw [setr_self, if_pos (aks_oks ha (by omega))]
      exact srch_hit hw ha m (r + 1) S' (by omega)
theorem sres_some {c : CR} {n dd : Nat} {tv : TV} (hw : wfn c n) (ha : aks (ci c) n = true) : ∃ z, sres c n dd tv = some z ∧ z.1 ≤ rdc c n dd (aln n) tv ∧ sct c n dd tv = z.1 ∧ spl c n dd tv = z.2 := by
  obtain ⟨z, zh1, zh2⟩ := srch_hit (dd := dd) (tv := tv) hw ha n 0 none (by omega)
  have zh1 : sres c n dd tv = some z := zh1
  exact ⟨z, zh1, zh2, by unfold sct; rw [zh1], by unfold spl; rw [zh1]⟩
/-- what was found can stand -/
def SVs (c : CR) (n : Nat) (S : ST) : Prop := ∀ z, S = some z → ∃ q, SX c q ∧ z.2 = q 5 ∧ aks (ci q) n = true ∧ ∀ r, r < n → q 5 r < 6
theorem itn_sv {c : CR} {n : Nat} {f : Nat → ST → ST} : ∀ p, (∀ k S, k < p → SVs c n S → SVs c n (f k S)) → ∀ S, SVs c n S → SVs c n (itn f p S)
  | 0, _, _, hS => hS
  | p + 1, h, S, hS => h p _ (Nat.lt_succ_self p) (itn_sv p (fun k S hk => h k S (by omega)) S hS)
theorem srch_sv {c : CR} {n dd : Nat} {tv : TV} : ∀ (m r : Nat) (q : CR) (S : ST), r + m = n → SX c q → aks (ci q) r = true → (∀ a, a < r → q 5 a < 6) → SVs c n S → SVs c n (srch c n dd tv m r q S)
  | 0, r, q, S, hr, hX, ha, zh6, hS => by
    obtain rfl : r = n := hr
    show SVs c r (lef c r dd tv q S)
    unfold lef
    cases S with
    | none => intro z zhz; cases zhz; exact ⟨q, hX, rfl, ha, zh6⟩
    | some w =>
      dsimp only
      split
      · intro z zhz; cases zhz; exact ⟨q, hX, rfl, ha, zh6⟩
      · exact hS
  | m + 1, r, q, S, hr, hX, ha, zh6, hS => by
    refine itn_sv 6 (fun p S' zhp hS' => ?_) S hS
    split
    next ho =>
      refine srch_sv m (r + 1) _ _ (by omega) hX.set ?_ (fun a ha2 => ?_) hS'
      · show (aks (ci (setr q 5 r p)) r && oks (ci (setr q 5 r p)) r r) = true
        rw [ho, aks_cong (c := ci q) (fun w a _ ha2 => by unfold ci; rw [setr_ne (by omega)]), ha]
        rfl
      · by_cases e : a = r
        · subst e; rw [setr_at]; exact zhp
        · rw [setr_ne (by omega)]; exact zh6 a (by omega)
    · exact hS'
/-- all stand so -/
def stc (c : CR) (n : Nat) (pl : Nat → Nat) : CR := fun w r => if w = 5 ∧ r < n then pl r else c w r
theorem stc_wf {c : CR} {n dd : Nat} {tv : TV} (hw : wfc c n) : wfc (stc c n (spl c n dd tv)) n := by
  obtain ⟨z, zh1, zh2, zh3, zh4⟩ := sres_some (dd := dd) (tv := tv) hw.1 hw.2
  obtain ⟨q, zg1, zg2, zg3, zg4⟩ := srch_sv (dd := dd) (tv := tv) n 0 c none (by omega) SX.rf rfl (fun a ha => absurd ha (Nat.not_lt_zero a)) (fun z zhz => by cases zhz) z zh1
  have e : ∀ w a, a < n → stc c n (spl c n dd tv) w a = q w a := by
    intro w a ha
    unfold stc
    by_cases zh5 : w = 5
    · subst zh5; rw [if_pos ⟨rfl, ha⟩, zh4, zg2]
    · rw [if_neg (fun y => zh5 y.1)]; exact (congrFun (zg1 w zh5) a).symm
  refine ⟨fun r hr => ?_, ?_⟩
  · have zhx := hw.1 r hr
    unfold wfr at zhx ⊢
    rw [e 0 r hr, e 1 r hr, e 2 r hr, e 3 r hr, e 4 r hr, e 5 r hr, e 6 r hr, zg1 0 (by decide), zg1 1 (by decide), zg1 2 (by decide), zg1 3 (by decide), zg1 4 (by decide), zg1 6 (by decide)]
    have := zg4 r hr
    exact ⟨zhx.1, zhx.2.1, zhx.2.2.1, zhx.2.2.2.1, zhx.2.2.2.2.1, this, zhx.2.2.2.2.2.2⟩
  · rw [aks_cong (c := ci q) (fun w a _ ha => by unfold ci; rw [e w a ha])]; exact zg3
/-- how many stood elsewhere -/
def mvd (c : CR) (pl : Nat → Nat) : Nat → Nat
  | 0 => 0
  | r + 1 => mvd c pl r + (if c 5 r = pl r then 0 else 1)
def sp_stand (n : Nat) (c : CR) (dd : Nat) (tv : TV) (w : Int32) : Int32 := if w ≠ -1 ∧ isR n w = false then -100 else if w = -1 then nI (sct c n dd tv) else nI (spl c n dd tv w.toNatClampNeg)
def sp_stands (n : Nat) (c : CR) (dd : Nat) (tv : TV) : Int32 × CR := (nI (mvd c (spl c n dd tv) n), stc c n (spl c n dd tv))

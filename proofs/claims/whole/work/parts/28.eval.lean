/-! the laid code, run, says the text's number -/
def lrn (nm : Nat → Int32) : List Int32 → WS → Option WS
  | [], p => some p
  | c :: s, p => (wst nm c p).bind (lrn nm s)
theorem lrn_app (nm : Nat → Int32) : ∀ (s t : List Int32) (p : WS), lrn nm (s ++ t) p = (lrn nm s p).bind (lrn nm t)
  | [], t, p => rfl
  | c :: s, t, p => by
    show (wst nm c p).bind (lrn nm (s ++ t)) = ((wst nm c p).bind (lrn nm s)).bind (lrn nm t)
    cases wst nm c p with
    | none => rfl
    | some q => exact lrn_app nm s t q
theorem wrun_l (nm : Nat → Int32) (cd : Nat → Int32) : ∀ (s : List Int32) (i : Nat) (p : WS), (∀ j, j < s.length → cd (i + j) = s.getD j 0) → wrun nm cd s.length i p = lrn nm s p
  | [], i, p, _ => rfl
  | c :: s, i, p, h => by
    have h0 : cd i = c := h 0 (Nat.succ_pos _)
    show (wst nm (cd i) p).bind (wrun nm cd s.length (i + 1)) = (wst nm c p).bind (lrn nm s)
    rw [h0]
    cases wst nm c p with
    | none => rfl
    | some q =>
      refine wrun_l nm cd s (i + 1) q (fun j hj => ?_)
      have := h (j + 1) (Nat.succ_lt_succ hj)
      rw [show i + 1 + j = i + (j + 1) by omega]
      exact this
/-- the code s says v with room for b numbers -/
def EV (v : PV) (s : List Int32) (b : Nat) : Prop := (∀ c, c ∈ s → ¬ c < -15) ∧ ∀ (nm : Nat → Int32) (len : Nat) (f : Nat → Int32), len + b ≤ 31 → ∃ f', lrn nm s (len, f) = some (len + 1, f') ∧ f' len = v nm ∧ ∀ j, j < len → f' j = f j
theorem EV.mono {v : PV} {s : List Int32} {b b' : Nat} (h : EV v s b) (hb : b ≤ b') : EV v s b' := ⟨h.1, fun nm len f hl => h.2 nm len f (by omega)⟩
theorem EV.leaf {c : Int32} {v : PV} (h7 : ¬ c ≤ -7) (hv : ∀ nm a b, wop nm c a b = v nm) : EV v [c] 1 := by
  refine ⟨fun x hx => ?_, fun nm len f hl => ⟨upd f len (v nm), ?_, if_pos rfl, fun j hj => if_neg (by omega)⟩⟩
  · have : x = c := by simpa using hx
    subst this
    intro q
    exact h7 (Int32.le_trans (Int32.le_of_lt q) (by decide))
  · have hw : wlen c len = len + 1 := if_pos h7
    show (wst nm c (len, f)).bind (lrn nm []) = _
    rw [show wst nm c (len, f) = some (len + 1, upd f len (v nm)) from by
      unfold wst
      dsimp only
      rw [hw, if_neg (by omega), Nat.add_sub_cancel, hv]]
    rfl
theorem EV.un {c : Int32} {v : PV} {s : List Int32} {b : Nat} (h : EV v s b) (hb1 : 1 ≤ b) (h14 : c ≤ -14) (h15 : ¬ c < -15) (hu : ∀ nm a x y, wop nm c a x = wop nm c a y) : EV (fun nm => wop nm c (v nm) 0) (s ++ [c]) b := by
  refine ⟨fun x hx => ?_, fun nm len f hl => ?_⟩
  · rcases List.mem_append.mp hx with q | q
    · exact h.1 x q
    · have : x = c := by simpa using q
      subst this; exact h15
  · obtain ⟨f', h1, h2, h3⟩ := h.2 nm len f hl
    refine ⟨upd f' len (wop nm c (v nm) 0), ?_, if_pos rfl, fun j hj => (if_neg (by omega)).trans (h3 j hj)⟩
    rw [lrn_app, h1]
    show (wst nm c (len + 1, f')).bind (lrn nm []) = _
    have h7 : c ≤ -7 := Int32.le_trans h14 (by decide)
    have hw : wlen c (len + 1) = len + 1 := (if_neg (fun q => q h7)).trans (if_neg (fun q => q h14))
    by_cases hb : len + 1 < 32
    · rw [show wst nm c (len + 1, f') = some (len + 1, upd f' len (wop nm c (v nm) 0)) from by
        unfold wst
        dsimp only
        rw [hw, if_neg (by omega), Nat.add_sub_cancel, h2, hu nm (v nm) (f' (len + 1)) 0]]
      rfl
    · omega
theorem EV.bin {c : Int32} {v w : PV} {s t : List Int32} {b e : Nat} (h : EV v s b) (h' : EV w t e) (h7 : c ≤ -7) (h14 : ¬ c ≤ -14) (hb : b ≤ e + 1) : EV (fun nm => wop nm c (v nm) (w nm)) (s ++ t ++ [c]) (e + 1) := by
  refine ⟨fun x hx => ?_, fun nm len f hl => ?_⟩
  · rcases List.mem_append.mp hx with q | q
    · rcases List.mem_append.mp q with q | q
      · exact h.1 x q
      · exact h'.1 x q
    · have : x = c := by simpa using q
      subst this
      intro z
      exact h14 (Int32.le_trans (Int32.le_of_lt z) (by decide))
  · obtain ⟨f1, h1, h2, h3⟩ := h.2 nm len f (by omega)
    obtain ⟨f2, g1, g2, g3⟩ := h'.2 nm (len + 1) f1 (by omega)
    refine ⟨upd f2 len (wop nm c (v nm) (w nm)), ?_, if_pos rfl, fun j hj => ((if_neg (by omega)).trans (g3 j (by omega))).trans (h3 j hj)⟩
    rw [lrn_app, lrn_app, h1]
    show ((lrn nm t (len + 1, f1))).bind (lrn nm [c]) = _
    rw [g1]
    show (wst nm c (len + 1 + 1, f2)).bind (lrn nm []) = _
    have hw : wlen c (len + 1 + 1) = len + 1 := (if_neg (fun q => q h7)).trans (if_pos h14)
    rw [show wst nm c (len + 1 + 1, f2) = some (len + 1, upd f2 len (wop nm c (v nm) (w nm))) from by
      unfold wst
      dsimp only
      rw [hw, if_neg (by omega), Nat.add_sub_cancel, g3 len (by omega), h2, g2]]
    rfl
section EVAL
variable {tp : Nat → Nat} {n p : Nat}
theorem kno_le (s e : Nat) : ∀ w, kno tp s e w < w ∨ kno tp s e w = 12
  | 0 => Or.inr rfl
  | w + 1 => by
    unfold kno
    split
    · exact Or.inl (Nat.lt_succ_self w)
    · rcases kno_le s e w with h | h
      · exact Or.inl (Nat.lt_succ_of_lt h)
      · exact Or.inr h
theorem scn_q {q : Nat → Bool} : ∀ {k p i : Nat}, p ≤ i → i < scn q n k p → q i = true
  | 0, p, i, h1, h2 => absurd h2 (Nat.not_lt.mpr h1)
  | k + 1, p, i, h1, h2 => by
    by_cases h : p < n ∧ q p = true
    · have e : scn q n (k + 1) p = scn q n k (p + 1) := if_pos h
      rw [e] at h2
      by_cases hi : i = p
      · subst hi; exact h.2
      · exact scn_q (by omega) h2
    · have e : scn q n (k + 1) p = p := if_neg h
      omega
theorem dgv_lt {s : Nat} : ∀ k, (∀ i, i < k → dgt tp (s + i) = true) → dgv tp s k < 10 ^ k
  | 0, _ => Nat.one_pos
  | k + 1, h => by
    have h1 := dgv_lt k (fun i hi => h i (by omega))
    have h2 := dgt_of (h k (Nat.lt_succ_self k))
    show dgv tp s k * 10 + tp (s + k) - 48 < 10 ^ (k + 1)
    rw [Nat.pow_succ]
    omega
theorem tok_3 (h : tok tp n p = 3) : vlu tp n p < 6 := by
  unfold tok at h
  unfold vlu
  split at h
  · omega
  · split at h
    next hl =>
      rw [if_pos hl]
      unfold wtk at h
      split at h
      · assumption
      · split at h <;> omega
    next hl =>
      split at h
      · split at h <;> omega
      · split at h
        next hs => rw [h] at hs; exact absurd hs (by decide)
        · omega
theorem tok_2 (h : tok tp n p = 2) : vlu tp n p < 10000 := by
  unfold tok at h
  unfold vlu
  split at h
  · omega
  · split at h
    next hl =>
      unfold wtk at h
      split at h
      · omega
      · split at h <;> omega
    next hl =>
      rw [if_neg hl]
      split at h
      next hd =>
        split at h
        · omega
        next h4 =>
          have := dgv_lt (tp := tp) (s := sta tp n p) (den tp n (sta tp n p) - sta tp n p) (fun i hi => scn_q (n := n) (k := n) (p := sta tp n p) (by omega) (by show _ < den tp n (sta tp n p); omega))
          exact Nat.lt_of_lt_of_le this (Nat.pow_le_pow_right (by omega) (show den tp n (sta tp n p) - sta tp n p ≤ 4 by omega))
      · split at h
        next hs => rw [h] at hs; exact absurd hs (by decide)
        · omega
theorem wop_num {x : Nat} (h : x < 10000) : ∀ nm a b, wop nm (nI x) a b = nI x := by
  intro nm a b
  have h0 : ¬ nI x < 0 := nI_pos (by omega)
  have hne : ∀ k : Int32, k < 0 → ¬ nI x = k := fun k hk q => h0 (by rw [q]; exact hk)
  unfold wop
  rw [if_neg (hne _ (by decide)), if_neg (hne _ (by decide)), if_neg (hne _ (by decide)), if_neg (hne _ (by decide)), if_neg (hne _ (by decide)), if_neg (hne _ (by decide)), if_neg (hne _ (by decide)), if_neg (hne _ (by decide)), if_neg (hne _ (by decide)), if_neg h0]
theorem num_7 {x : Nat} (h : x < 10000) : ¬ nI x ≤ -7 := fun q => nI_pos (n := x) (by omega) (Int32.lt_of_le_of_lt q (by decide))
theorem wop_nam {x : Nat} (h : x < 6) : ∀ nm a b, wop nm (-1 - nI x) a b = nm x := by
  intro nm a b
  rcases (show x = 0 ∨ x = 1 ∨ x = 2 ∨ x = 3 ∨ x = 4 ∨ x = 5 by omega) with rfl | rfl | rfl | rfl | rfl | rfl <;> rfl
theorem wop_14 (nm : Nat → Int32) (a x y : Int32) : wop nm (-14) a x = wop nm (-14) a y := by
  unfold wop
  repeat (first | rw [if_pos rfl] | rw [if_neg (by decide)])
theorem wop_15 (nm : Nat → Int32) (a x y : Int32) : wop nm (-15) a x = wop nm (-15) a y := by
  unfold wop
  repeat (first | rw [if_pos rfl] | rw [if_neg (by decide)])
theorem nam_7 : ∀ x, x < 6 → ¬ (-1 - nI x) ≤ -7 := by decide
theorem cdo_7 {t : Nat} : cdo t ≤ -7 := by unfold cdo; (repeat' split) <;> decide
theorem cdo_14 {t : Nat} : ¬ cdo t ≤ -14 := by unfold cdo; (repeat' split) <;> decide
/-- how many numbers may wait -/
def ndd (tag lv op : Nat) : Nat := 1 + 5 * (5 - op) + (if tag = 4 then 0 else if tag = 3 then 3 else if tag = 0 then (if lv = 0 then 4 else if lv = 1 then 3 else if lv = 2 then 1 else 0) else (if lv = 0 then 5 else if lv = 1 then 4 else if lv = 2 then 2 else 1))
theorem ndd_01 {op : Nat} : ndd 3 0 op ≤ ndd 0 1 op := by unfold ndd; simp
theorem ndd_03 {op : Nat} : ndd 4 0 op ≤ ndd 0 3 op := by unfold ndd; simp
theorem ndd_0 {lv op : Nat} (h : lv = 0 ∨ lv = 2) : ndd 1 (lv + 1) op ≤ ndd 0 lv op := by rcases h with rfl | rfl <;> (unfold ndd; simp)
theorem ndd_1 {lv op : Nat} (h : lv < 4) : ndd 0 lv op + 1 = ndd 1 lv op ∧ ndd 2 lv op = ndd 1 lv op := by rcases (show lv = 0 ∨ lv = 1 ∨ lv = 2 ∨ lv = 3 by omega) with rfl | rfl | rfl | rfl <;> (unfold ndd; simp)
theorem ndd_3 {op : Nat} : ndd 1 2 op + 1 = ndd 3 0 op := by unfold ndd; simp
theorem ndd_4 {op : Nat} (h : op < 5) : ndd 1 0 (op + 1) ≤ ndd 4 0 op ∧ ndd 4 0 (op + 1) ≤ ndd 4 0 op ∧ ndd 3 0 (op + 1) ≤ ndd 3 0 op := by unfold ndd; simp; omega
theorem ndd_p {tag lv op : Nat} : 1 ≤ ndd tag lv op := by unfold ndd; omega
theorem prs_ev : ∀ (f tag lv op p : Nat) (sg : List Int32) (v : PV) (r : PR), tag < 5 → lv < 4 → (tag = 2 → EV v sg (ndd 2 lv op)) → prs tp n f tag lv op p sg v = some r → r.1 = true → EV r.2.2.2 r.2.2.1 (ndd tag lv op) := by
  intro f
  induction f with
  | zero => intro tag lv op p sg v r _ _ _ h; cases h
  | succ f ih =>
    intro tag lv op p sg v r htag hlv hsg h hr
    rcases (show tag = 0 ∨ tag = 1 ∨ tag = 2 ∨ tag = 3 ∨ tag = 4 by omega) with rfl | rfl | rfl | rfl | rfl
    · rw [prs_0] at h
      split at h
      next e => subst e; exact (ih 3 0 op p [] v r (by omega) (by omega) (fun q => by omega) h hr).mono ndd_01
      next e =>
        split at h
        next e3 => subst e3; exact (ih 4 0 op p [] v r (by omega) (by omega) (fun q => by omega) h hr).mono ndd_03
        next e3 => exact (ih 1 (lv + 1) op p [] v r (by omega) (by omega) (fun q => by omega) h hr).mono (ndd_0 (by omega))
    · rw [prs_1] at h
      obtain ⟨a, ha, h⟩ := bnd h
      split at h
      next e => cases h; rw [e] at hr; cases hr
      next e =>
        have g1 := ih 0 lv op p [] v a (by omega) hlv (fun q => by omega) ha (bT e)
        have hn := ndd_1 (op := op) hlv
        have := ih 2 lv op a.2.1 a.2.2.1 a.2.2.2 r (by omega) hlv (fun _ => g1.mono (by omega)) h hr
        exact this.mono (by omega)
    · rw [prs_2] at h
      split at h
      · cases h; exact hsg rfl
      next hl =>
        obtain ⟨a, ha, h⟩ := bnd h
        split at h
        next e => cases h; rw [e] at hr; cases hr
        next e =>
          have g1 := ih 0 lv op (nxt tp n p) [] v a (by omega) hlv (fun q => by omega) ha (bT e)
          have hn := ndd_1 (op := op) hlv
          exact ih 2 lv op a.2.1 _ _ r (by omega) hlv (fun _ => ((hsg rfl).bin g1 cdo_7 cdo_14 (by omega)).mono (by omega)) h hr
    · rw [prs_3] at h
      split at h
      next ht =>
        split at h
        · cases h; cases hr
        next h5 =>
          obtain ⟨a, ha, h⟩ := bnd h
          split at h
          next e => cases h; rw [e] at hr; cases hr
          next e =>
            have g1 := ih 3 0 (op + 1) (nxt tp n p) [] v a (by omega) (by omega) (fun q => by omega) ha (bT e)
            cases h
            refine (EV.un (c := -14) g1 ndd_p (by decide) (by decide) wop_14).mono ?_
            have : ndd 3 lv op = ndd 3 0 op := rfl
            have := (ndd_4 (op := op) (by omega)).2.2
            omega
      next ht =>
        obtain ⟨a, ha, h⟩ := bnd h
        have e3 : ndd 3 lv op = ndd 3 0 op := rfl
        have hn3 := ndd_3 (op := op)
        split at h
        next e => cases h; rw [e] at hr; cases hr
        next e =>
          have g1 := ih 1 2 op p [] v a (by omega) (by omega) (fun q => by omega) ha (bT e)
          split at h
          next ht2 =>
            obtain ⟨b, hb, h⟩ := bnd h
            split at h
            next e2 => cases h; rw [e2] at hr; cases hr
            next e2 =>
              have g2 := ih 1 2 op _ [] v b (by omega) (by omega) (fun q => by omega) hb (bT e2)
              cases h
              exact (g1.bin g2 cdo_7 cdo_14 (by omega)).mono (by omega)
          · cases h; exact g1.mono (by omega)
    · rw [prs_4] at h
      have e4 : ndd 4 lv op = ndd 4 0 op := rfl
      split at h
      next ht => cases h; exact (EV.leaf (num_7 (tok_2 ht)) (wop_num (tok_2 ht))).mono ndd_p
      next =>
        split at h
        next ht => cases h; exact (EV.leaf (nam_7 _ (tok_3 ht)) (wop_nam (tok_3 ht))).mono ndd_p
        next =>
          split at h
          · cases h; cases hr
          next ht =>
            have hn4 := ndd_4 (op := op) (by omega)
            split at h
            next =>
              obtain ⟨a, ha, h⟩ := bnd h
              split at h
              next e => cases h; rw [e] at hr; cases hr
              next e =>
                have g1 := ih 4 0 (op + 1) (nxt tp n p) [] v a (by omega) (by omega) (fun q => by omega) ha (bT e)
                cases h
                exact (EV.un (c := -15) g1 ndd_p (by decide) (by decide) wop_15).mono (by omega)
            next =>
              obtain ⟨a, ha, h⟩ := bnd h
              split at h
              next e => cases h; rw [e] at hr; cases hr
              next e =>
                have g1 := ih 1 0 (op + 1) (nxt tp n p) [] v a (by omega) (by omega) (fun q => by omega) ha (bT e)
                split at h
                · cases h; exact g1.mono (by omega)
                · cases h; cases hr
/-! it comes to an end -/
def rnk (tag lv : Nat) : Nat := if tag = 4 then 1 else if tag = 3 then 6 else if tag = 2 then 1 else if tag = 1 then (if lv = 0 then 10 else if lv = 1 then 8 else if lv = 2 then 5 else 3) else (if lv = 0 then 9 else if lv = 1 then 7 else if lv = 2 then 4 else 2)
theorem rnk_le {tag lv : Nat} : rnk tag lv ≤ 10 := by unfold rnk; (repeat' split) <;> omega
theorem rnk_0 {lv : Nat} (h : lv = 0 ∨ lv = 2) : rnk 0 lv = rnk 1 (lv + 1) + 1 := by rcases h with rfl | rfl <;> rfl
theorem rnk_1 {lv : Nat} (h : lv < 4) : rnk 1 lv = rnk 0 lv + 1 := by rcases (show lv = 0 ∨ lv = 1 ∨ lv = 2 ∨ lv = 3 by omega) with rfl | rfl | rfl | rfl <;> rfl
theorem prs_end : ∀ (f tag lv op p : Nat) (sg : List Int32) (v : PV), tag < 5 → lv < 4 → (tag ≠ 2 → sg = []) → p ≤ n → 11 * (n - p) + rnk tag lv ≤ f → ∃ r, prs tp n f tag lv op p sg v = some r := by
  intro f
  induction f with
  | zero =>
    intro tag lv op p sg v htag _ _ _ h
    exfalso
    have : 1 ≤ rnk tag lv := by unfold rnk; (repeat' split) <;> omega
    omega
  | succ f ih =>
    intro tag lv op p sg v htag hlv hsg hp hf
    rcases (show tag = 0 ∨ tag = 1 ∨ tag = 2 ∨ tag = 3 ∨ tag = 4 by omega) with rfl | rfl | rfl | rfl | rfl
    · rw [prs_0]
      split
      next e => subst e; exact ih 3 0 op p [] v (by omega) (by omega) (fun _ => rfl) hp (by have : rnk 0 1 = 7 := rfl; have : rnk 3 0 = 6 := rfl; omega)
      next e =>
        split
        next e3 => subst e3; exact ih 4 0 op p [] v (by omega) (by omega) (fun _ => rfl) hp (by have : rnk 0 3 = 2 := rfl; have : rnk 4 0 = 1 := rfl; omega)
        next e3 => exact ih 1 (lv + 1) op p [] v (by omega) (by omega) (fun _ => rfl) hp (by have := rnk_0 (lv := lv) (by omega); omega)
    · rw [prs_1]
      have hk := rnk_1 hlv
      obtain ⟨a, ha⟩ := ih 0 lv op p [] v (by omega) hlv (fun _ => rfl) hp (by omega)
      have hpos := prs_pos f 0 lv op p [] v a hlv (fun _ => rfl) hp ha
      rw [ha]
      show ∃ r, (if a.1 = false then some a else _) = some r
      split
      · exact ⟨_, rfl⟩
      next e =>
        have := (hpos.2.2 (bT e)).2 (by omega)
        have h2 := hpos.2.1
        exact ih 2 lv op a.2.1 _ _ (by omega) hlv (fun q => absurd rfl q) hpos.2.1 (by have : rnk 2 lv = 1 := rfl; omega)
    · rw [prs_2]
      split
      · exact ⟨_, rfl⟩
      next hl =>
        have hl : lvo (tok tp n p) = lv := Decidable.not_not.mp hl
        have hng := nxt_gt (tp := tp) (n := n) (p := p) (lvo_ne hl hlv)
        have hnl := nxt_le (tp := tp) hp
        have hk := rnk_le (tag := 0) (lv := lv)
        obtain ⟨a, ha⟩ := ih 0 lv op (nxt tp n p) [] v (by omega) hlv (fun _ => rfl) hnl (by omega)
        have hpos := prs_pos f 0 lv op (nxt tp n p) [] v a hlv (fun _ => rfl) hnl ha
        rw [ha]
        show ∃ r, (if a.1 = false then some a else _) = some r
        split
        · exact ⟨_, rfl⟩
        next e =>
          have := hpos.1
          have h2 := hpos.2.1
          exact ih 2 lv op a.2.1 _ _ (by omega) hlv (fun q => absurd rfl q) hpos.2.1 (by have : rnk 2 lv = 1 := rfl; omega)
    · rw [prs_3]
      have hk3 : rnk 3 lv = 6 := rfl
      split
      next ht =>
        split
        · exact ⟨_, rfl⟩
        next h5 =>
          have hng := nxt_gt (tp := tp) (n := n) (p := p) (by omega)
          have hnl := nxt_le (tp := tp) hp
          obtain ⟨a, ha⟩ := ih 3 0 (op + 1) (nxt tp n p) [] v (by omega) (by omega) (fun _ => rfl) hnl (by have : rnk 3 0 = 6 := rfl; omega)
          rw [ha]
          show ∃ r, (if a.1 = false then some a else _) = some r
          split <;> exact ⟨_, rfl⟩
      next ht =>
        obtain ⟨a, ha⟩ := ih 1 2 op p [] v (by omega) (by omega) (fun _ => rfl) hp (by have : rnk 1 2 = 5 := rfl; omega)
        have hpos := prs_pos f 1 2 op p [] v a (by omega) (fun _ => rfl) hp ha
        rw [ha]
        show ∃ r, (if a.1 = false then some a else _) = some r
        split
        · exact ⟨_, rfl⟩
        next e =>
          split
          next ht2 =>
            have hng := nxt_gt (tp := tp) (n := n) (p := a.2.1) (by omega)
            have hnl := nxt_le (tp := tp) hpos.2.1
            have := hpos.1
            obtain ⟨b, hb⟩ := ih 1 2 op (nxt tp n a.2.1) [] v (by omega) (by omega) (fun _ => rfl) hnl (by have : rnk 1 2 = 5 := rfl; omega)
            rw [hb]
            show ∃ r, (if b.1 = false then some b else _) = some r
            split <;> exact ⟨_, rfl⟩
          · exact ⟨_, rfl⟩
    · rw [prs_4]
      split
      · exact ⟨_, rfl⟩
      next =>
        split
        · exact ⟨_, rfl⟩
        next =>
          split
          · exact ⟨_, rfl⟩
          next ht =>
            have hng := nxt_gt (tp := tp) (n := n) (p := p) (by omega)
            have hnl := nxt_le (tp := tp) hp
            split
            next =>
              obtain ⟨a, ha⟩ := ih 4 0 (op + 1) (nxt tp n p) [] v (by omega) (by omega) (fun _ => rfl) hnl (by have : rnk 4 0 = 1 := rfl; omega)
              rw [ha]
              show ∃ r, (if a.1 = false then some a else _) = some r
              split <;> exact ⟨_, rfl⟩
            next =>
              obtain ⟨a, ha⟩ := ih 1 0 (op + 1) (nxt tp n p) [] v (by omega) (by omega) (fun _ => rfl) hnl (by have : rnk 1 0 = 10 := rfl; omega)
              rw [ha]
              show ∃ r, (if a.1 = false then some a else _) = some r
              split
              · exact ⟨_, rfl⟩
              · split <;> exact ⟨_, rfl⟩
end EVAL

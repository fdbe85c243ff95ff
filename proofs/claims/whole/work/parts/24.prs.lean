/-! the parser: what it reads, the code that it lays, the number that the code says by names -/
abbrev PV : Type := (Nat → Int32) → Int32
abbrev PR : Type := Bool × Nat × List Int32 × PV
def lvo (t : Nat) : Nat := if t = 7 then 0 else if t = 8 then 1 else if t = 43 ∨ t = 45 then 2 else if t = 42 then 3 else 9
def cdo (t : Nat) : Int32 := if t = 7 then -7 else if t = 8 then -8 else if t = 60 then -9 else if t = 61 then -10 else if t = 43 then -11 else if t = 45 then -12 else -13
/-- tags: 0 what a level joins, 1 a level's chain, 2 the rest of a chain, 3 NOT, 4 ONE -/
def prs (tp : Nat → Nat) (n : Nat) : Nat → Nat → Nat → Nat → Nat → List Int32 → PV → Option PR
  | 0, _, _, _, _, _, _ => none
  | f + 1, tag, lv, op, p, sg, v =>
    if tag = 0 then (if lv = 1 then prs tp n f 3 0 op p [] v else if lv = 3 then prs tp n f 4 0 op p [] v else prs tp n f 1 (lv + 1) op p [] v)
    else if tag = 1 then (prs tp n f 0 lv op p [] v).bind (fun r => if r.1 = false then some r else prs tp n f 2 lv op r.2.1 r.2.2.1 r.2.2.2)
    else if tag = 2 then
      (if ¬ lvo (tok tp n p) = lv then some (true, p, sg, v)
      else (prs tp n f 0 lv op (nxt tp n p) [] v).bind (fun r => if r.1 = false then some r else prs tp n f 2 lv op r.2.1 (sg ++ r.2.2.1 ++ [cdo (tok tp n p)]) (fun nm => wop nm (cdo (tok tp n p)) (v nm) (r.2.2.2 nm))))
    else if tag = 3 then
      (if tok tp n p = 9 then
        (if 5 ≤ op then some (false, p, [], v)
        else (prs tp n f 3 0 (op + 1) (nxt tp n p) [] v).bind (fun r => if r.1 = false then some r else some (true, r.2.1, r.2.2.1 ++ [-14], fun nm => wop nm (-14) (r.2.2.2 nm) 0)))
      else (prs tp n f 1 2 op p [] v).bind (fun r => if r.1 = false then some r
        else if tok tp n r.2.1 = 60 ∨ tok tp n r.2.1 = 61 then (prs tp n f 1 2 op (nxt tp n r.2.1) [] v).bind (fun r2 => if r2.1 = false then some r2 else some (true, r2.2.1, r.2.2.1 ++ r2.2.2.1 ++ [cdo (tok tp n r.2.1)], fun nm => wop nm (cdo (tok tp n r.2.1)) (r.2.2.2 nm) (r2.2.2.2 nm)))
        else some r))
    else
      (if tok tp n p = 2 then some (true, nxt tp n p, [nI (vlu tp n p)], fun _ => nI (vlu tp n p))
      else if tok tp n p = 3 then some (true, nxt tp n p, [-1 - nI (vlu tp n p)], fun nm => nm (vlu tp n p))
      else if (tok tp n p ≠ 45 ∧ tok tp n p ≠ 40) ∨ 5 ≤ op then some (false, p, [], v)
      else if tok tp n p = 45 then (prs tp n f 4 0 (op + 1) (nxt tp n p) [] v).bind (fun r => if r.1 = false then some r else some (true, r.2.1, r.2.2.1 ++ [-15], fun nm => wop nm (-15) (r.2.2.2 nm) 0))
      else (prs tp n f 1 0 (op + 1) (nxt tp n p) [] v).bind (fun r => if r.1 = false then some r else if tok tp n r.2.1 = 41 then some (true, nxt tp n r.2.1, r.2.2.1, r.2.2.2) else some (false, r.2.1, [], v)))
section PRS
variable {tp : Nat → Nat} {n f lv op p : Nat} {sg : List Int32} {v : PV}
theorem prs_0 : prs tp n (f + 1) 0 lv op p sg v = if lv = 1 then prs tp n f 3 0 op p [] v else if lv = 3 then prs tp n f 4 0 op p [] v else prs tp n f 1 (lv + 1) op p [] v := rfl
theorem prs_1 : prs tp n (f + 1) 1 lv op p sg v = (prs tp n f 0 lv op p [] v).bind (fun r => if r.1 = false then some r else prs tp n f 2 lv op r.2.1 r.2.2.1 r.2.2.2) := rfl
theorem prs_2 : prs tp n (f + 1) 2 lv op p sg v = if ¬ lvo (tok tp n p) = lv then some (true, p, sg, v) else (prs tp n f 0 lv op (nxt tp n p) [] v).bind (fun r => if r.1 = false then some r else prs tp n f 2 lv op r.2.1 (sg ++ r.2.2.1 ++ [cdo (tok tp n p)]) (fun nm => wop nm (cdo (tok tp n p)) (v nm) (r.2.2.2 nm))) := rfl
theorem prs_3 : prs tp n (f + 1) 3 lv op p sg v = if tok tp n p = 9 then
        (if 5 ≤ op then some (false, p, [], v)
        else (prs tp n f 3 0 (op + 1) (nxt tp n p) [] v).bind (fun r => if r.1 = false then some r else some (true, r.2.1, r.2.2.1 ++ [-14], fun nm => wop nm (-14) (r.2.2.2 nm) 0)))
      else (prs tp n f 1 2 op p [] v).bind (fun r => if r.1 = false then some r
        else if tok tp n r.2.1 = 60 ∨ tok tp n r.2.1 = 61 then (prs tp n f 1 2 op (nxt tp n r.2.1) [] v).bind (fun r2 => if r2.1 = false then some r2 else some (true, r2.2.1, r.2.2.1 ++ r2.2.2.1 ++ [cdo (tok tp n r.2.1)], fun nm => wop nm (cdo (tok tp n r.2.1)) (r.2.2.2 nm) (r2.2.2.2 nm)))
        else some r) := rfl
theorem prs_4 : prs tp n (f + 1) 4 lv op p sg v = if tok tp n p = 2 then some (true, nxt tp n p, [nI (vlu tp n p)], fun _ => nI (vlu tp n p))
      else if tok tp n p = 3 then some (true, nxt tp n p, [-1 - nI (vlu tp n p)], fun nm => nm (vlu tp n p))
      else if (tok tp n p ≠ 45 ∧ tok tp n p ≠ 40) ∨ 5 ≤ op then some (false, p, [], v)
      else if tok tp n p = 45 then (prs tp n f 4 0 (op + 1) (nxt tp n p) [] v).bind (fun r => if r.1 = false then some r else some (true, r.2.1, r.2.2.1 ++ [-15], fun nm => wop nm (-15) (r.2.2.2 nm) 0))
      else (prs tp n f 1 0 (op + 1) (nxt tp n p) [] v).bind (fun r => if r.1 = false then some r else if tok tp n r.2.1 = 41 then some (true, nxt tp n r.2.1, r.2.2.1, r.2.2.2) else some (false, r.2.1, [], v)) := rfl
theorem bnd {α β : Type} {x : Option α} {g : α → Option β} {b : β} (h : x.bind g = some b) : ∃ a, x = some a ∧ g a = some b := by
  cases x with
  | none => cases h
  | some a => exact ⟨a, rfl, h⟩
/-- where it comes to, how much code it has laid -/
def PPo (n tag p : Nat) (sg : List Int32) (r : PR) : Prop := p ≤ r.2.1 ∧ r.2.1 ≤ n ∧ (r.1 = true → r.2.2.1.length + p ≤ r.2.1 + sg.length ∧ (tag ≠ 2 → p < r.2.1))
theorem lvo_ne {t : Nat} {lv : Nat} (h : lvo t = lv) (hl : lv < 4) : t ≠ 0 := by
  rintro rfl
  rw [show lvo 0 = 9 by decide] at h
  omega
theorem prs_pos : ∀ (f tag lv op p : Nat) (sg : List Int32) (v : PV) (r : PR), lv < 4 → (tag ≠ 2 → sg = []) → p ≤ n → prs tp n f tag lv op p sg v = some r → PPo n tag p sg r := by
  intro f
  induction f with
  | zero => intro tag lv op p sg v r _ _ _ h; cases h
  | succ f ih =>
    intro tag lv op p sg v r hlv hsg hp h
    by_cases t0 : tag = 0
    · subst t0
      obtain rfl := hsg (by omega)
      rw [prs_0] at h
      split at h
      · have := ih 3 0 op p [] v r (by omega) (fun _ => rfl) hp h
        exact ⟨this.1, this.2.1, fun q => ⟨(this.2.2 q).1, fun _ => (this.2.2 q).2 (by omega)⟩⟩
      · split at h
        · have := ih 4 0 op p [] v r (by omega) (fun _ => rfl) hp h
          exact ⟨this.1, this.2.1, fun q => ⟨(this.2.2 q).1, fun _ => (this.2.2 q).2 (by omega)⟩⟩
        · have := ih 1 (lv + 1) op p [] v r (by omega) (fun _ => rfl) hp h
          exact ⟨this.1, this.2.1, fun q => ⟨(this.2.2 q).1, fun _ => (this.2.2 q).2 (by omega)⟩⟩
    · by_cases t1 : tag = 1
      · subst t1
        obtain rfl := hsg (by omega)
        rw [prs_1] at h
        obtain ⟨a, h1, h2⟩ := bnd h
        have g1 := ih 0 lv op p [] v a hlv (fun _ => rfl) hp h1
        split at h2
        next e => cases h2; exact ⟨g1.1, g1.2.1, fun q => absurd q (by rw [e]; decide)⟩
        next e =>
          have ea : a.1 = true := by cases hh : a.1 with | false => exact absurd hh e | true => rfl
          have g2 := ih 2 lv op a.2.1 a.2.2.1 a.2.2.2 r hlv (fun q => absurd rfl q) g1.2.1 h2
          have g3 := g1.2.2 ea
          refine ⟨Nat.le_trans g1.1 g2.1, g2.2.1, fun q => ?_⟩
          have g4 := g2.2.2 q
          have g5 := g3.2 (by omega)
          have g6 := g2.1
          refine ⟨?_, fun _ => by omega⟩
          have := g3.1
          simp at this ⊢
          omega
      · by_cases t2 : tag = 2
        · subst t2
          rw [prs_2] at h
          split at h
          · cases h; exact ⟨Nat.le_refl p, hp, fun _ => ⟨Nat.le_of_eq (Nat.add_comm _ _), fun q => absurd rfl q⟩⟩
          next hl =>
            have hl : lvo (tok tp n p) = lv := Decidable.not_not.mp hl
            have hn := nxt_gt (lvo_ne hl hlv)
            obtain ⟨a, h1, h2⟩ := bnd h
            have g1 := ih 0 lv op (nxt tp n p) [] v a hlv (fun _ => rfl) (nxt_le hp) h1
            split at h2
            next e => cases h2; exact ⟨by have := g1.1; omega, g1.2.1, fun q => absurd q (by rw [e]; decide)⟩
            next e =>
              have ea : a.1 = true := by cases hh : a.1 with | false => exact absurd hh e | true => rfl
              have g2 := ih 2 lv op a.2.1 _ _ r hlv (fun q => absurd rfl q) g1.2.1 h2
              have g3 := (g1.2.2 ea).1
              refine ⟨by have := g1.1; have := g2.1; omega, g2.2.1, fun q => ⟨?_, fun q => absurd rfl q⟩⟩
              have g4 := (g2.2.2 q).1
              simp at g3 g4 ⊢
              omega
        · by_cases t3 : tag = 3
          · subst t3
            obtain rfl := hsg (by omega)
            rw [prs_3] at h
            split at h
            next ht =>
              split at h
              · cases h; exact ⟨Nat.le_refl p, hp, fun q => by cases q⟩
              · have hn := nxt_gt (tp := tp) (n := n) (p := p) (by omega)
                obtain ⟨a, h1, h2⟩ := bnd h
                have g1 := ih 3 0 (op + 1) (nxt tp n p) [] v a (by omega) (fun _ => rfl) (nxt_le hp) h1
                split at h2
                next e => cases h2; exact ⟨by have := g1.1; omega, g1.2.1, fun q => absurd q (by rw [e]; decide)⟩
                next e =>
                  have ea : a.1 = true := by cases hh : a.1 with | false => exact absurd hh e | true => rfl
                  cases h2
                  have g3 := (g1.2.2 ea).1
                  have g4 := g1.1
                  refine ⟨by show p ≤ a.2.1; omega, g1.2.1, fun q => ⟨?_, fun _ => by show p < a.2.1; omega⟩⟩
                  simp at g3 ⊢
                  omega
            next ht =>
              obtain ⟨a, h1, h2⟩ := bnd h
              have g1 := ih 1 2 op p [] v a (by omega) (fun _ => rfl) hp h1
              split at h2
              next e => cases h2; exact ⟨g1.1, g1.2.1, fun q => absurd q (by rw [e]; decide)⟩
              next e =>
                have ea : a.1 = true := by cases hh : a.1 with | false => exact absurd hh e | true => rfl
                split at h2
                next ht2 =>
                  have hn := nxt_gt (tp := tp) (n := n) (p := a.2.1) (by omega)
                  obtain ⟨b, h3, h4⟩ := bnd h2
                  have g2 := ih 1 2 op (nxt tp n a.2.1) [] v b (by omega) (fun _ => rfl) (nxt_le g1.2.1) h3
                  split at h4
                  next e2 => cases h4; exact ⟨by have := g1.1; have := g2.1; omega, g2.2.1, fun q => absurd q (by rw [e2]; decide)⟩
                  next e2 =>
                    have eb : b.1 = true := by cases hh : b.1 with | false => exact absurd hh e2 | true => rfl
                    cases h4
                    have g3 := (g1.2.2 ea).1
                    have g4 := (g2.2.2 eb).1
                    have g5 := g1.1
                    have g6 := g2.1
                    refine ⟨by show p ≤ b.2.1; omega, g2.2.1, fun q => ⟨?_, fun _ => by show p < b.2.1; omega⟩⟩
                    simp at g3 g4 ⊢
                    omega
                next ht2 =>
                  cases h2
                  exact ⟨g1.1, g1.2.1, fun q => ⟨(g1.2.2 q).1, fun _ => (g1.2.2 q).2 (by omega)⟩⟩
          · obtain rfl := hsg t2
            have h : (if tok tp n p = 2 then some (true, nxt tp n p, [nI (vlu tp n p)], fun _ => nI (vlu tp n p))
      else if tok tp n p = 3 then some (true, nxt tp n p, [-1 - nI (vlu tp n p)], fun nm => nm (vlu tp n p))
      else if (tok tp n p ≠ 45 ∧ tok tp n p ≠ 40) ∨ 5 ≤ op then some (false, p, [], v)
      else if tok tp n p = 45 then (prs tp n f 4 0 (op + 1) (nxt tp n p) [] v).bind (fun r => if r.1 = false then some r else some (true, r.2.1, r.2.2.1 ++ [-15], fun nm => wop nm (-15) (r.2.2.2 nm) 0))
      else (prs tp n f 1 0 (op + 1) (nxt tp n p) [] v).bind (fun r => if r.1 = false then some r else if tok tp n r.2.1 = 41 then some (true, nxt tp n r.2.1, r.2.2.1, r.2.2.2) else some (false, r.2.1, [], v))) = some r := by
              have h' := h
              unfold prs at h'
              rw [if_neg t0, if_neg t1, if_neg t2, if_neg t3] at h'
              exact h'
            split at h
            next ht =>
              have hn := nxt_gt (tp := tp) (n := n) (p := p) (by omega)
              cases h
              exact ⟨by show p ≤ nxt tp n p; omega, nxt_le hp, fun _ => ⟨by simp; omega, fun _ => hn⟩⟩
            next ht2 =>
              split at h
              next ht =>
                have hn := nxt_gt (tp := tp) (n := n) (p := p) (by omega)
                cases h
                exact ⟨by show p ≤ nxt tp n p; omega, nxt_le hp, fun _ => ⟨by simp; omega, fun _ => hn⟩⟩
              next ht3 =>
                split at h
                · cases h; exact ⟨Nat.le_refl p, hp, fun q => by cases q⟩
                next ht4 =>
                  have hn := nxt_gt (tp := tp) (n := n) (p := p) (by omega)
                  split at h
                  next =>
                    obtain ⟨a, h1, h2⟩ := bnd h
                    have g1 := ih 4 0 (op + 1) (nxt tp n p) [] v a (by omega) (fun _ => rfl) (nxt_le hp) h1
                    split at h2
                    next e => cases h2; exact ⟨by have := g1.1; omega, g1.2.1, fun q => absurd q (by rw [e]; decide)⟩
                    next e =>
                      have ea : a.1 = true := by cases hh : a.1 with | false => exact absurd hh e | true => rfl
                      cases h2
                      have g3 := (g1.2.2 ea).1
                      have g4 := g1.1
                      refine ⟨by show p ≤ a.2.1; omega, g1.2.1, fun q => ⟨?_, fun _ => by show p < a.2.1; omega⟩⟩
                      simp at g3 ⊢
                      omega
                  next =>
                    obtain ⟨a, h1, h2⟩ := bnd h
                    have g1 := ih 1 0 (op + 1) (nxt tp n p) [] v a (by omega) (fun _ => rfl) (nxt_le hp) h1
                    split at h2
                    next e => cases h2; exact ⟨by have := g1.1; omega, g1.2.1, fun q => absurd q (by rw [e]; decide)⟩
                    next e =>
                      have ea : a.1 = true := by cases hh : a.1 with | false => exact absurd hh e | true => rfl
                      have g3 := (g1.2.2 ea).1
                      have g4 := g1.1
                      split at h2
                      · cases h2
                        have g5 := nxt_ge tp n a.2.1
                        refine ⟨by show p ≤ nxt tp n a.2.1; omega, nxt_le g1.2.1, fun q => ⟨?_, fun _ => by show p < nxt tp n a.2.1; omega⟩⟩
                        simp at g3 ⊢
                        omega
                      · cases h2
                        exact ⟨by show p ≤ a.2.1; omega, g1.2.1, fun q => by cases q⟩
end PRS

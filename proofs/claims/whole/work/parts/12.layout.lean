/-! Crew.become -/
theorem cpy5 (f g : Nat → Int32) (j : Nat) : va_cpy f g 0 0 5 j = if j < 5 then f j else g j := by
  unfold va_cpy
  by_cases h : j < 5
  · rw [if_pos ⟨Nat.zero_le j, by omega⟩, if_pos h]; simp
  · rw [if_neg (fun z => h (by omega)), if_neg h]
/-- the rows w' < w (by the numbers of told()) of a are those of b; nothing else has changed -/
def BCI (I J : XI) (a b w : Nat) : Prop := (∀ v r, v < w → r < 5 → J (a + 1 + rwo v) r = I (b + 1 + rwo v) r) ∧ (∀ k, (k < a + 1 ∨ a + 8 ≤ k) → J k = I k) ∧ ∀ v, w ≤ v → v < 7 → J (a + 1 + rwo v) = I (a + 1 + rwo v)
theorem rwo_lt {k : Nat} (h : k < 7) : rwo k < 7 := by unfold rwo; split <;> (try split) <;> omega
theorem rwo_inj {k j : Nat} (h : k < 7) (h2 : j < 7) (e : rwo k = rwo j) : k = j := by
  rcases w7 h with rfl | rfl | rfl | rfl | rfl | rfl | rfl <;> rcases w7 h2 with rfl | rfl | rfl | rfl | rfl | rfl | rfl <;> first | rfl | (exact absurd e (by decide))
theorem rwo_sur {w : Nat} (h : w < 7) : ∃ k, k < 7 ∧ rwo k = w := by
  rcases w7 h with rfl | rfl | rfl | rfl | rfl | rfl | rfl
  · exact ⟨0, by decide, rfl⟩
  · exact ⟨1, by decide, rfl⟩
  · exact ⟨2, by decide, rfl⟩
  · exact ⟨6, by decide, rfl⟩
  · exact ⟨3, by decide, rfl⟩
  · exact ⟨4, by decide, rfl⟩
  · exact ⟨5, by decide, rfl⟩
/-- what become leaves -/
def BCQ (I : XI) (a b : Nat) (sh : XSh) (R : XRf) (L : XL) : XQ := fun v sh' I' R' L' => v = none ∧ sh' = sh ∧ R' = R ∧ L' = L ∧ (∀ w r, w < 7 → r < 5 → I' (a + 1 + w) r = I (b + 1 + w) r) ∧ I' a 7 = I b 7 ∧ I' a 8 = I b 8 ∧ I' a 9 = I b 9 ∧ (∀ k, (k < a ∨ a + 8 ≤ k) → I' k = I k)
section BECOME
variable {E : XE} {d a b : Nat} {sh : XSh} {I : XI} {R : XRf} {L : XL}
theorem c_become_loop (ha : XCr sh R a) (hb : XCr sh R b) (hab : a + 8 ≤ b ∨ b + 8 ≤ a) : ∀ (k w : Nat) (J : XI), w ≤ 7 → 7 < w + k → BCI I J a b w → XV E mX0_become (d + 1) 0 0 (BCQ I a b sh R L) 0 0 2 [some (.ref a), some (.ref b), some (.int (nI w))] [] sh J R L := by
  intro k
  induction k with
  | zero => intro w J h1 h2; exact absurd h2 (by omega)
  | succ k ih =>
    intro w J h1 h2 hJ
    refine xv_iload_n (q := 3) rfl dX0_become_2 rfl rfl ?_
    refine xv_bipush (v := nI 6) (q := 5) rfl dX0_become_3 rfl ?_
    refine xv_icmp_gt (q := 8) (t := 30) rfl rfl dX0_become_5 (fun h5 => ?_) (fun h5 => ?_)
    · have hw7 : w = 7 := by have := nIlt h5 (by omega) (by omega); omega
      refine xv_aload_n (q := 31) rfl dX0_become_30 rfl rfl ?_
      refine xv_aload_n (q := 32) rfl dX0_become_31 rfl rfl ?_
      refine xv_geti (q := 35) rfl dX0_become_32 f_X0_47 hb.1 ?_
      refine xv_puti (q := 38) rfl dX0_become_35 f_X0_47 (fun h => by cases h) ha.1 ?_
      refine xv_aload_n (q := 39) rfl dX0_become_38 rfl rfl ?_
      refine xv_aload_n (q := 40) rfl dX0_become_39 rfl rfl ?_
      refine xv_geti (q := 43) rfl dX0_become_40 f_X0_33 hb.1 ?_
      refine xv_puti (q := 46) rfl dX0_become_43 f_X0_33 (fun h => by cases h) ha.1 ?_
      refine xv_aload_n (q := 47) rfl dX0_become_46 rfl rfl ?_
      refine xv_aload_n (q := 48) rfl dX0_become_47 rfl rfl ?_
      refine xv_geti (q := 51) rfl dX0_become_48 f_X0_50 hb.1 ?_
      refine xv_puti (q := 54) rfl dX0_become_51 f_X0_50 (fun h => by cases h) ha.1 ?_
      refine xv_vret dX0_become_54 rfl ?_
      subst hw7
      have e7 : J b = I b := hJ.2.1 b (by omega)
      refine ⟨rfl, rfl, rfl, rfl, fun w r hw hr => ?_, ?_, ?_, ?_, fun k hk => ?_⟩
      · obtain ⟨v, hv, rfl⟩ := rwo_sur hw
        have := rwo_lt hv
        rw [xi_ne _ _ _ _ (by omega), xi_ne _ _ _ _ (by omega), xi_ne _ _ _ _ (by omega)]
        exact hJ.1 v r hv hr
      · rw [xi_ne _ _ _ _ (by omega), xi_ne _ _ _ _ (by omega), xi_eq, e7]
      · rw [xi_ne _ _ _ _ (by omega), xi_eq, xi_ne _ _ _ _ (by omega), e7]
      · rw [xi_eq, xi_ne _ _ _ _ (by omega), xi_ne _ _ _ _ (by omega), e7]
      · rw [xi_off _ _ _ _ (by omega), xi_off _ _ _ _ (by omega), xi_off _ _ _ _ (by omega)]
        exact hJ.2.1 k (by omega)
    · have hw7 : w < 7 := by have := nInlt h5 (by omega) (by omega); omega
      refine xv_aload_n (q := 9) rfl dX0_become_8 rfl rfl ?_
      refine xv_iload_n (q := 10) rfl dX0_become_9 rfl rfl ?_
      refine xv_cV1 (z := mX0_rowOf) (q := 13) rfl dX0_become_10 l_X0_37 gX0_rowOf hb.1 rfl rfl rfl (c_rowOf (d := d) hb hw7) (by omega) ?_
      refine xv_iconst (v := nI 0) (q := 14) rfl dX0_become_13 rfl ?_
      refine xv_aload_n (q := 15) rfl dX0_become_14 rfl rfl ?_
      refine xv_iload_n (q := 16) rfl dX0_become_15 rfl rfl ?_
      refine xv_cV1 (z := mX0_rowOf) (q := 19) rfl dX0_become_16 l_X0_37 gX0_rowOf ha.1 rfl rfl rfl (c_rowOf (d := d) ha hw7) (by omega) ?_
      refine xv_iconst (v := nI 0) (q := 20) rfl dX0_become_19 rfl ?_
      refine xv_iconst (v := nI 5) (q := 21) rfl dX0_become_20 rfl ?_
      refine xv_copy (a := 0) (b := 0) (n := 5) (q := 24) rfl dX0_become_21 l_X0_41 (hb.2 _ (rwo_lt hw7)).2 (ha.2 _ (rwo_lt hw7)).2 rfl rfl rfl (by decide) (by decide) (by decide) (by decide) rfl (by omega) ?_
      refine xv_iinc (q := 27) (v := nI 1) rfl dX0_become_24 rfl rfl ?_
      refine xv_goto (t := 2) rfl dX0_become_27 ?_
      rw [nI_add]
      refine ih (w + 1) _ (by omega) (by omega) ⟨fun v r hv hr => ?_, fun k hk => ?_, fun v hv hv7 => ?_⟩
      · by_cases e : v = w
        · subst e
          rw [xic_row, cpy5, if_pos hr, hJ.2.1 _ (by have := rwo_lt hw7; omega)]
        · rw [xic_off _ _ _ (fun z => e (rwo_inj (by omega) hw7 (by omega)))]
          exact hJ.1 v r (by omega) hr
      · rw [xic_off _ _ _ (by have := rwo_lt hw7; omega)]
        exact hJ.2.1 k hk
      · rw [xic_off _ _ _ (fun z => absurd (rwo_inj hv7 hw7 (by omega)) (by omega))]
        exact hJ.2.2 v (by omega) hv7
/-- become(other) -/
theorem c_become (ha : XCr sh R a) (hb : XCr sh R b) (hab : a + 8 ≤ b ∨ b + 8 ≤ a) : XC E mX0_become (d + 1) 0 0 [.ref a, .ref b] sh I R L (BCQ I a b sh R L) := by
  refine XC.of (by decide) rfl rfl ?_
  refine xv_iconst (v := nI 0) (q := 1) rfl dX0_become_0 rfl ?_
  refine xv_istore_n (q := 2) rfl dX0_become_1 rfl rfl ?_
  exact c_become_loop ha hb hab 8 0 I (by omega) (by omega) ⟨fun _ _ h => absurd h (Nat.not_lt_zero _), fun _ _ => rfl, fun _ _ _ => rfl⟩
end BECOME
/-! where everything lies -/
def SHL : XSh := [(6, 9), (0, 10), (8, 5), (8, 5), (8, 5), (8, 5), (8, 5), (8, 5), (8, 5), (0, 10), (8, 5), (8, 5), (8, 5), (8, 5), (8, 5), (8, 5), (8, 5), (1, 9), (8, 160), (8, 160), (8, 3), (10, 6), (11, 4), (5, 10), (0, 10), (8, 5), (8, 5), (8, 5), (8, 5), (8, 5), (8, 5), (8, 5), (8, 10), (8, 10), (8, 10), (8, 5), (8, 5), (8, 450), (8, 6), (8, 32), (2, 4), (0, 10), (8, 5), (8, 5), (8, 5), (8, 5), (8, 5), (8, 5), (8, 5), (8, 5), (4, 2), (8, 3), (8, 3), (3, 3), (8, 40), (3, 3), (8, 40), (3, 3), (8, 40), (3, 3), (8, 40), (7, 49), (8, 960), (8, 6), (8, 160), (8, 5), (8, 5), (8, 5), (8, 5), (8, 5), (8, 5), (8, 5), (8, 150), (8, 150), (8, 15), (8, 5), (8, 5), (8, 25), (9, 4), (8, 4), (8, 4), (8, 160)]
def RW : Nat → Nat → Option Nat := fun k j => match k, j with
  | 0, 0 => some 1
  | 0, 1 => some 9
  | 0, 3 => some 17
  | 0, 4 => some 21
  | 0, 6 => some 22
  | 0, 7 => some 23
  | 0, 8 => some 40
  | 1, 0 => some 2
  | 1, 1 => some 3
  | 1, 2 => some 4
  | 1, 3 => some 5
  | 1, 4 => some 6
  | 1, 5 => some 7
  | 1, 6 => some 8
  | 9, 0 => some 10
  | 9, 1 => some 11
  | 9, 2 => some 12
  | 9, 3 => some 13
  | 9, 4 => some 14
  | 9, 5 => some 15
  | 9, 6 => some 16
  | 17, 0 => some 18
  | 17, 6 => some 19
  | 17, 8 => some 20
  | 22, 0 => some 53
  | 22, 1 => some 55
  | 22, 2 => some 57
  | 22, 3 => some 59
  | 23, 0 => some 24
  | 23, 2 => some 32
  | 23, 3 => some 33
  | 23, 4 => some 34
  | 23, 5 => some 35
  | 23, 6 => some 36
  | 23, 7 => some 37
  | 23, 8 => some 38
  | 23, 9 => some 39
  | 24, 0 => some 25
  | 24, 1 => some 26
  | 24, 2 => some 27
  | 24, 3 => some 28
  | 24, 4 => some 29
  | 24, 5 => some 30
  | 24, 6 => some 31
  | 40, 0 => some 41
  | 40, 3 => some 49
  | 41, 0 => some 42
  | 41, 1 => some 43
  | 41, 2 => some 44
  | 41, 3 => some 45
  | 41, 4 => some 46
  | 41, 5 => some 47
  | 41, 6 => some 48
  | 50, 0 => some 51
  | 50, 1 => some 52
  | 53, 0 => some 54
  | 55, 0 => some 56
  | 57, 0 => some 58
  | 59, 0 => some 60
  | 61, 1 => some 62
  | 61, 2 => some 63
  | 61, 5 => some 64
  | 61, 8 => some 65
  | 61, 9 => some 66
  | 61, 10 => some 67
  | 61, 11 => some 68
  | 61, 12 => some 69
  | 61, 13 => some 70
  | 61, 14 => some 71
  | 61, 31 => some 72
  | 61, 32 => some 73
  | 61, 33 => some 74
  | 61, 37 => some 75
  | 61, 38 => some 76
  | 61, 41 => some 77
  | 61, 45 => some 78
  | 61, 46 => some 79
  | 61, 47 => some 80
  | 61, 48 => some 81
  | _, _ => none
def XG (sh : XSh) (R : XRf) : Prop := (∀ (k : Nat) (q : Nat × Nat), SHL[k]? = some q → sh[k]? = some q) ∧ ∀ k j a, RW k j = some a → R k j = some a
theorem xg_crew {sh : XSh} {R : XRf} (hg : XG sh R) {a : Nat} (ha : a = 1 ∨ a = 9 ∨ a = 24) : XCr sh R a := by
  rcases ha with rfl | rfl | rfl
  · exact ⟨hg.1 _ _ rfl, fun w hw => by rcases w7 hw with rfl | rfl | rfl | rfl | rfl | rfl | rfl <;> exact ⟨hg.2 _ _ _ rfl, hg.1 _ _ rfl⟩⟩
  · exact ⟨hg.1 _ _ rfl, fun w hw => by rcases w7 hw with rfl | rfl | rfl | rfl | rfl | rfl | rfl <;> exact ⟨hg.2 _ _ _ rfl, hg.1 _ _ rfl⟩⟩
  · exact ⟨hg.1 _ _ rfl, fun w hw => by rcases w7 hw with rfl | rfl | rfl | rfl | rfl | rfl | rfl <;> exact ⟨hg.2 _ _ _ rfl, hg.1 _ _ rfl⟩⟩
/-- what is asked about -/
theorem xg_asked {sh : XSh} {R : XRf} (hg : XG sh R) : XCr sh R 41 := ⟨hg.1 _ _ rfl, fun w hw => by rcases w7 hw with rfl | rfl | rfl | rfl | rfl | rfl | rfl <;> exact ⟨hg.2 _ _ _ rfl, hg.1 _ _ rfl⟩⟩

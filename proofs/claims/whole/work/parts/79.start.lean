/-! what holds behind both constructors -/
theorem ppa_num {tp : Nat → Nat} {n k p q r z v : Nat} (h : tok tp n p = 4 + k) (ze1 : nxt tp n p = q) (zh2 : tok tp n q = 2) (ze2 : nxt tp n q = r) (zh3 : tok tp n r = 59) (ze3 : nxt tp n r = z) (ze4 : vlu tp n q = v) : ppa tp n k p = (true, z, [nI v], fun _ => nI v) := by
  subst ze1; subst ze2; subst ze3; subst ze4
  unfold ppa
  rw [if_neg (fun w => w h), pe_num zh2 zh3, if_neg (fun w => by cases w)]
  exact if_pos zh3
set_option maxRecDepth 20000 in
theorem ppa0_0 : ppa tp0 32 0 0 = (true, 9, [nI 5], fun _ => nI 5) := ppa_num (q := 5) (r := 7) (by decide +kernel) (by decide +kernel) (by decide +kernel) (by decide +kernel) (by decide +kernel) (by decide +kernel) (by decide +kernel)
set_option maxRecDepth 20000 in
theorem ppa0_1 : ppa tp0 32 1 9 = (true, 18, [nI 1], fun _ => nI 1) := ppa_num (q := 14) (r := 16) (by decide +kernel) (by decide +kernel) (by decide +kernel) (by decide +kernel) (by decide +kernel) (by decide +kernel) (by decide +kernel)
set_option maxRecDepth 20000 in
theorem ppa0_2 : ppa tp0 32 2 18 = (true, 28, [nI 3], fun _ => nI 3) := ppa_num (q := 24) (r := 26) (by decide +kernel) (by decide +kernel) (by decide +kernel) (by decide +kernel) (by decide +kernel) (by decide +kernel) (by decide +kernel)
theorem pt0_1 : pt tp0 32 1 = (true, 9) := by rw [pt_s (k := 0) rfl]; show ((ppa tp0 32 0 0).1, (ppa tp0 32 0 0).2.1) = _; rw [ppa0_0]
theorem pt0_2 : pt tp0 32 2 = (true, 18) := by rw [pt_s (k := 1) (by rw [pt0_1]), pt0_1]; show ((ppa tp0 32 1 9).1, (ppa tp0 32 1 9).2.1) = _; rw [ppa0_1]
theorem pt0_3 : pt tp0 32 3 = (true, 28) := by rw [pt_s (k := 2) (by rw [pt0_2]), pt0_2]; show ((ppa tp0 32 2 18).1, (ppa tp0 32 2 18).2.1) = _; rw [ppa0_2]
theorem pok0 : pok tp0 32 = true := by
  have h : tok tp0 32 28 = 0 := by decide +kernel
  unfold pok
  rw [pt0_3]
  show (true && decide (tok tp0 32 28 = 0)) = true
  rw [h]; rfl
theorem ptv0_0 : ptv tp0 32 0 = fun _ => nI 5 := by show (ppa tp0 32 0 0).2.2.2 = _; rw [ppa0_0]
theorem ptv0_1 : ptv tp0 32 1 = fun _ => nI 1 := by show (ppa tp0 32 1 (pt tp0 32 1).2).2.2.2 = _; rw [pt0_1]; show (ppa tp0 32 1 9).2.2.2 = _; rw [ppa0_1]
theorem ptv0_2 : ptv tp0 32 2 = fun _ => nI 3 := by show (ppa tp0 32 2 (pt tp0 32 2).2).2.2.2 = _; rw [pt0_2]; show (ppa tp0 32 2 18).2.2.2 = _; rw [ppa0_2]
theorem wrun_1 {cd : Nat → Int32} {i x : Nat} (h : cd i = nI x) (zh2 : x < 10000) (nm : Nat → Int32) (f : Nat → Int32) : ∃ f', wrun nm cd 1 i (0, f) = some (1, f') ∧ f' 0 = nI x := by
  refine ⟨upd f 0 (nI x), ?_, by simp [upd]⟩
  show (wst nm (cd i) (0, f)).bind (wrun nm cd 0 (i + 1)) = _
  have hl : wlen (nI x) 0 = 1 := if_pos (fun q => by
    rw [Int32.le_iff_toInt_le, nI_toInt (by omega), show (-7 : Int32).toInt = -7 by decide] at q
    omega)
  rw [h]
  unfold wst
  show (if wlen (nI x) 0 = 0 ∨ 32 ≤ wlen (nI x) 0 then none else some (wlen (nI x) 0, upd f (wlen (nI x) 0 - 1) (wop nm (nI x) (f (wlen (nI x) 0 - 1)) (f (wlen (nI x) 0))))).bind (wrun nm cd 0 (i + 1)) = _
  rw [hl, if_neg (by decide), wop_num zh2]
  rfl
set_option maxRecDepth 20000 in
theorem ib_all : ([(1, 7, nI 0), (1, 8, nI 1), (1, 9, nI 0), (0, 2, nI 0), (17, 1, nI 0), (53, 2, -1), (55, 2, -1), (57, 2, -1), (59, 2, -1), (0, 5, nI 1), (40, 1, nI 0), (51, 0, nI 5), (51, 1, nI 1), (51, 2, nI 3), (52, 0, nI 1), (52, 1, nI 2), (52, 2, nI 3), (61, 15, nI 0), (61, 7, nI 1), (61, 4, nI 0), (61, 42, -1), (61, 6, nI 0), (78, 0, nI 0), (78, 1, nI 0), (78, 2, nI 0), (78, 3, nI 0), (61, 3, nI 1), (63, 0, nI 32)] : List (Nat × Nat × Int32)).all (fun q => IB q.1 q.2.1 == q.2.2) = true := by decide +kernel
theorem ib_at {k j : Nat} {x : Int32} (h : (k, j, x) ∈ ([(1, 7, nI 0), (1, 8, nI 1), (1, 9, nI 0), (0, 2, nI 0), (17, 1, nI 0), (53, 2, -1), (55, 2, -1), (57, 2, -1), (59, 2, -1), (0, 5, nI 1), (40, 1, nI 0), (51, 0, nI 5), (51, 1, nI 1), (51, 2, nI 3), (52, 0, nI 1), (52, 1, nI 2), (52, 2, nI 3), (61, 15, nI 0), (61, 7, nI 1), (61, 4, nI 0), (61, 42, -1), (61, 6, nI 0), (78, 0, nI 0), (78, 1, nI 0), (78, 2, nI 0), (78, 3, nI 0), (61, 3, nI 1), (63, 0, nI 32)] : List (Nat × Nat × Int32))) : IB k j = x := eq_of_beq (List.all_eq_true.mp ib_all _ h)
set_option maxRecDepth 20000 in
theorem ib_by : (List.range 32).all (fun i => IB 62 i == nI (tp0 i) && decide (tp0 i < 256)) = true := by decide +kernel
set_option maxRecDepth 20000 in
theorem rb_at : RB 21 0 = some 50 ∧ RB 50 0 = some 51 ∧ RB 50 1 = some 52 := by decide +kernel
theorem kt0 : KT SHL IB RB 50 (tvx tx0 0) := by
  refine ⟨Or.inl rfl, 51, 52, 3, ⟨rfl, rb_at.2.1, rb_at.2.2, rfl, rfl, by decide, by decide, by decide⟩, Or.inl rfl, Or.inl rfl, fun part zhp => ?_⟩
  have zc0 : IB 51 0 = nI 5 := ib_at (by decide)
  have zc1 : IB 51 1 = nI 1 := ib_at (by decide)
  have zc2 : IB 51 2 = nI 3 := ib_at (by decide)
  have d0 : IB 52 0 = nI 1 := ib_at (by decide)
  have d1 : IB 52 1 = nI 2 := ib_at (by decide)
  have d2 : IB 52 2 = nI 3 := ib_at (by decide)
  have hc : ∀ i, i < 3 → ¬ IB 51 i < -15 := by
    intro i hi
    rcases (show i = 0 ∨ i = 1 ∨ i = 2 by omega) with rfl | rfl | rfl
    · rw [zc0]; decide
    · rw [zc1]; decide
    · rw [zc2]; decide
  rcases (show part = 0 ∨ part = 1 ∨ part = 2 by omega) with rfl | rfl | rfl
  · rw [show tvx tx0 0 0 = ptv tp0 32 0 from rfl, ptv0_0]
    exact ⟨fun _ _ _ => rfl, 0, 1, rfl, by decide, d0, by decide, fun i hi => hc i (by omega), wrun_1 zc0 (by decide)⟩
  · rw [show tvx tx0 0 1 = ptv tp0 32 1 from rfl, ptv0_1]
    exact ⟨fun _ _ _ => rfl, 1, 2, d0, by decide, d1, by decide, fun i hi => hc i (by omega), wrun_1 zc1 (by decide)⟩
  · rw [show tvx tx0 0 2 = ptv tp0 32 2 from rfl, ptv0_2]
    exact ⟨fun _ _ _ => rfl, 2, 3, d1, by decide, d2, by decide, fun i hi => hc i (by omega), wrun_1 zc2 (by decide)⟩
def cr0 : CR := fun _ _ => 0
def sg0 : SG := fun _ => none
def tz0 : Nat → Nat := fun _ => 0
theorem jc_start : JC SHL IB RB 0 cr0 1 0 none sg0 0 tz0 1 tx0 := by
  refine ⟨xg_start, ⟨fun w r _ hr => absurd hr (Nat.not_lt_zero r), ib_at (by decide), by decide, ib_at (by decide), Or.inl rfl, ib_at (by decide), fun r hr => absurd hr (Nat.not_lt_zero r), rfl⟩, ib_at (by decide), ⟨ib_at (by decide), by decide, fun i hi => absurd hi (Nat.not_lt_zero i)⟩, fun s zhs => ?_, ⟨ib_at (by decide), by decide, fun i hi => ?_⟩, Or.inl (ib_at (by decide))⟩
  · show IB (53 + 2 * s) 2 = -1
    rcases s4 zhs with rfl | rfl | rfl | rfl <;> exact ib_at (by decide)
  · have : i = 0 := by omega
    subst this
    exact ⟨50, rb_at.1, kt0⟩
theorem jm_start : JM IB 0 cr0 1 0 none sg0 0 tz0 1 tx0 := by
  refine ⟨⟨fun w r _ hr => absurd hr (Nat.not_lt_zero r), ib_at (by decide), by decide, ib_at (by decide), Or.inl rfl, ib_at (by decide), fun r hr => absurd hr (Nat.not_lt_zero r), rfl⟩, ib_at (by decide), ⟨ib_at (by decide), by decide, fun i hi => absurd hi (Nat.not_lt_zero i)⟩, fun s zhs => ?_, ⟨ib_at (by decide), by decide, fun t ht => ?_⟩⟩
  · show IB 78 s = nI 0
    rcases s4 zhs with rfl | rfl | rfl | rfl <;> exact ib_at (by decide)
  · have : t = 0 := by omega
    subst this
    refine ⟨ib_at (by decide), by decide, fun i hi => ?_, pok0⟩
    have := List.all_eq_true.mp ib_by i (List.mem_range.mpr hi)
    rw [Bool.and_eq_true] at this
    refine ⟨?_, of_decide_eq_true this.2⟩
    rw [show 160 * 0 + i = i by omega]
    exact eq_of_beq this.1
theorem jw_start : JW 0 cr0 0 none 1 := ⟨by decide, fun q zhq => (by cases zhq), fun q zhq => (by cases zhq)⟩

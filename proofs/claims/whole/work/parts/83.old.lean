/-! what the old heap says at the start -/
set_option maxRecDepth 20000 in
theorem tb_1 {w : Cond} (i : Nat) (h : tables_1_1[i]? = some w) : w ∈ lw_tbl := List.mem_append_right _ (show w ∈ tables_1_1 ++ (tables_1_2 ++ (tables_1_3 ++ (tables_1_4 ++ tables_1_5))) from List.mem_append_left _ (List.mem_of_getElem? h))
set_option maxRecDepth 20000 in
theorem tb_2 {w : Cond} (i : Nat) (h : tables_1_2[i]? = some w) : w ∈ lw_tbl := List.mem_append_right _ (show w ∈ tables_1_1 ++ (tables_1_2 ++ (tables_1_3 ++ (tables_1_4 ++ tables_1_5))) from List.mem_append_right _ (List.mem_append_left _ (List.mem_of_getElem? h)))
set_option maxRecDepth 20000 in
theorem tb_3 {w : Cond} (i : Nat) (h : tables_1_3[i]? = some w) : w ∈ lw_tbl := List.mem_append_right _ (show w ∈ tables_1_1 ++ (tables_1_2 ++ (tables_1_3 ++ (tables_1_4 ++ tables_1_5))) from List.mem_append_right _ (List.mem_append_right _ (List.mem_append_left _ (List.mem_of_getElem? h))))
set_option maxRecDepth 20000 in
theorem tb_4 {w : Cond} (i : Nat) (h : tables_1_4[i]? = some w) : w ∈ lw_tbl := List.mem_append_right _ (show w ∈ tables_1_1 ++ (tables_1_2 ++ (tables_1_3 ++ (tables_1_4 ++ tables_1_5))) from List.mem_append_right _ (List.mem_append_right _ (List.mem_append_right _ (List.mem_append_left _ (List.mem_of_getElem? h)))))
set_option maxRecDepth 20000 in
theorem tb_5 {w : Cond} (i : Nat) (h : tables_1_5[i]? = some w) : w ∈ lw_tbl := List.mem_append_right _ (show w ∈ tables_1_1 ++ (tables_1_2 ++ (tables_1_3 ++ (tables_1_4 ++ tables_1_5))) from List.mem_append_right _ (List.mem_append_right _ (List.mem_append_right _ (List.mem_append_right _ (List.mem_of_getElem? h)))))
def FL0 : List Cond := flatC (Jvm.Cond.and given_1 narrow_1)
def sT (i : Nat) : Term := .string "GetsOutFirst$Reader" (104 + 2 * i)
def sV (i : Nat) : Term := .field (sT i) "java/lang/String" "value" "[B"
def aT : Term := .static "GetsOutFirst" "ABOVE" "[I"
def sbs : List Nat := [34, 43, 53, 63, 73, 87, 102, 117, 132, 149, 164, 181]
set_option maxRecDepth 20000 in
theorem fl_ex : ∀ i, i < 12 → FL0[sbs.getD i 0]? = some (Cond.exactly (sT i) "java/lang/String") := by decide +kernel
set_option maxRecDepth 20000 in
theorem fl_co : ∀ i, i < 12 → FL0[sbs.getD i 0 + 1]? = some (Cond.eq (.field (sT i) "java/lang/String" "coder" "B") (.int 0)) := by decide +kernel
set_option maxRecDepth 20000 in
theorem fl_ar : ∀ i, i < 12 → FL0[sbs.getD i 0 + 2]? = some (Cond.arrayOf (sV i) .byte) := by decide +kernel
set_option maxRecDepth 20000 in
theorem fl_le : ∀ i, i < 12 → FL0[sbs.getD i 0 + 3]? = some (Cond.eq (.length (sV i)) (.int (Int32.ofNat (xwl.getD i 0)))) := by decide +kernel
set_option maxRecDepth 20000 in
theorem fl_el : ∀ i, i < 12 → ∀ j, j < xwl.getD i 0 → FL0[sbs.getD i 0 + 4 + j]? = some (Cond.eq (.elem (sV i) (.int (Int32.ofNat j))) (.int ((xwb.getD i []).getD j 0))) := by decide +kernel
set_option maxRecDepth 20000 in
theorem fl_ne : ∀ j, j < 12 → ∀ i, i < j → FL0[sbs.getD j 0 + 4 + xwl.getD j 0 + i]? = some (Cond.not (Cond.eq (sT i) (sT j))) := by decide +kernel
set_option maxRecDepth 20000 in
theorem fl_ab : ∀ j, j < 6 → FL0[12 + j]? = some (Cond.eq (.elem aT (.int (Int32.ofNat j))) (.int (xab.getD j 0))) := by decide +kernel
set_option maxRecDepth 20000 in
theorem fl_a : FL0[4]? = some (Cond.eq (.static "java/lang/String" "COMPACT_STRINGS" "Z") (.int 1)) ∧ FL0[5]? = some (Cond.isRef (.static "jdk/internal/util/Preconditions" "SIOOBE_FORMATTER" "Ljava/util/function/BiFunction;")) ∧ FL0[10]? = some (Cond.arrayOf aT .int) ∧ FL0[11]? = some (Cond.eq (.length aT) (.int 6)) := by decide +kernel
theorem xs_start {s : State} {qb : Nat} (hts : ∀ w ∈ lw_tbl, w.before #[Value.ref qb] s = true) (hgv : (Jvm.Cond.and given_1 narrow_1).before #[Value.ref qb] s = true) : ∃ xp0 : Nat → Nat, ∀ (l : Launch) (D : va_G) (xk0 : Nat → ClassId), XS (l, s.heap, D, xk0, xp0) s := by
  have zhs := flat_of_before _ hgv
  have ha : ∀ {i : Nat} {w : Cond}, FL0[i]? = some w → w.before #[Value.ref qb] s = true := fun h => zhs _ (List.mem_of_getElem? h)
  have hA : ∀ a : Nat, a < s.heap.size → ¬ (fun q => s.heap.size ≤ q) a := fun a h => Nat.not_le.mpr h
  have hxl : ∀ i, i < 12 → xwl.getD i 0 < 2 ^ 31 := by decide
  obtain ⟨adK, adV, hS, hev⟩ := vk_Sof (s := s) (args := #[Value.ref qb]) (N := 12) (tm := sT) (len := xwl) (byt := xwb) (A := fun q => s.heap.size ≤ q) hxl (fun i hi => ha (fl_ex i hi)) (fun i hi => ha (fl_co i hi)) (fun i hi => ha (fl_ar i hi)) (fun i hi => ha (fl_le i hi)) (fun i hi j zhj => ha (fl_el i hi j zhj)) (fun i j hi zhj hij => by
    rcases Nat.lt_or_ge i j with h | h
    · exact Or.inl (ha (fl_ne j zhj i h))
    · exact Or.inr (ha (fl_ne i hi j (by omega)))) hA
  obtain ⟨t, ht, hT⟩ := va_Tof (s := s) (args := #[Value.ref qb]) (tm := aT) (ty := .int) (N := 6) (f := fun j => .int (xab.getD j 0)) (A := fun q => s.heap.size ≤ q) (by decide) (ha fl_a.2.2.1) (va_eqt (ha fl_a.2.2.2)) (fun j zhj => va_eqt (ha (fl_ab j zhj))) hA
  refine ⟨fun k => if k = 0 then t else if k < 100 then adK (k - 1) else adV (k - 101), fun l D xk0 => ?_⟩
  have ze1 : (fun i => (fun k => if k = 0 then t else if k < 100 then adK (k - 1) else adV (k - 101)) (101 + i)) = adV := funext fun i => by
    show (if 101 + i = 0 then t else if 101 + i < 100 then adK (101 + i - 1) else adV (101 + i - 101)) = adV i
    rw [if_neg (by omega), if_neg (by omega), Nat.add_sub_cancel_left]
  have ze0 : ∀ i, i < 12 → (fun k => if k = 0 then t else if k < 100 then adK (k - 1) else adV (k - 101)) (1 + i) = adK i := fun i hi => by
    show (if 1 + i = 0 then t else if 1 + i < 100 then adK (1 + i - 1) else adV (1 + i - 101)) = adK i
    rw [if_neg (by omega), if_pos (by omega), Nat.add_sub_cancel_left]
  refine ⟨va_AO.of (hts _ (tb_1 120 rfl)), va_AO.of (hts _ (tb_1 122 rfl)), fun q zhq => ?_, ?_, fun i hi => ?_, ?_, ?_, ?_, ?_, hT⟩
  · simp only [xnest, List.mem_cons, List.not_mem_nil, or_false] at zhq
    rcases zhq with rfl | rfl | rfl | rfl | rfl | rfl | rfl
    · exact va_tabs rfl rfl (hts _ (tb_1 27 rfl))
    · exact va_tabs rfl rfl (hts _ (tb_1 84 rfl))
    · exact va_tabs rfl rfl (hts _ (tb_1 130 rfl))
    · exact va_tabs rfl rfl (hts _ (tb_1 200 rfl))
    · exact va_tabs rfl rfl (hts _ (tb_1 125 rfl))
    · exact va_tabs rfl rfl (hts _ (tb_1 166 rfl))
    · exact va_tabs rfl rfl (hts _ (tb_1 171 rfl))
  · exact va_tabs rfl rfl (hts _ (tb_2 192 rfl))
  · show vk_R "GetsOutFirst$Reader" (104 + 2 * i) (xwd.getD i "") ((fun k => if k = 0 then t else if k < 100 then adK (k - 1) else adV (k - 101)) (1 + i)) s
    rw [ze0 i hi]
    refine vk_R.of (A := #[Value.ref qb]) ?_ (hev i hi)
    rcases i12 hi with rfl | rfl | rfl | rfl | rfl | rfl | rfl | rfl | rfl | rfl | rfl | rfl
    · exact hts _ (tb_2 82 rfl)
    · exact hts _ (tb_2 83 rfl)
    · exact hts _ (tb_2 84 rfl)
    · exact hts _ (tb_2 85 rfl)
    · exact hts _ (tb_2 86 rfl)
    · exact hts _ (tb_2 87 rfl)
    · exact hts _ (tb_2 88 rfl)
    · exact hts _ (tb_2 89 rfl)
    · exact hts _ (tb_2 90 rfl)
    · exact hts _ (tb_2 91 rfl)
    · exact hts _ (tb_2 92 rfl)
    · exact hts _ (tb_2 93 rfl)
  · show vk_S 12 xwl xwb (fun i => (fun k => if k = 0 then t else if k < 100 then adK (k - 1) else adV (k - 101)) (1 + i)) (fun i => (fun k => if k = 0 then t else if k < 100 then adK (k - 1) else adV (k - 101)) (101 + i)) (fun q => s.heap.size ≤ q) s s.heap
    rw [ze1]
    exact ⟨fun i hi => by
      show va_O "java/lang/String" ((fun k => if k = 0 then t else if k < 100 then adK (k - 1) else adV (k - 101)) (1 + i)) _ s s.heap ∧ va_OF "java/lang/String" "coder" "B" (.int 0) ((fun k => if k = 0 then t else if k < 100 then adK (k - 1) else adV (k - 101)) (1 + i)) _ s s.heap ∧ va_OF "java/lang/String" "value" "[B" (.ref (adV i)) ((fun k => if k = 0 then t else if k < 100 then adK (k - 1) else adV (k - 101)) (1 + i)) _ s s.heap ∧ _
      rw [ze0 i hi]; exact hS.1 i hi, fun i j hi zhj h => by
      have h : (fun k => if k = 0 then t else if k < 100 then adK (k - 1) else adV (k - 101)) (1 + i) = (fun k => if k = 0 then t else if k < 100 then adK (k - 1) else adV (k - 101)) (1 + j) := h
      rw [ze0 i hi, ze0 j zhj] at h
      exact hS.2 i j hi zhj h⟩
  · exact va_Zof (args := #[Value.ref qb]) (hts _ (tb_2 107 rfl)) (hts _ (tb_1 9 rfl)) (va_eqt (ha fl_a.1)) hA
  · exact va_Zqof (args := #[Value.ref qb]) (hts _ (tb_2 123 rfl)) (hts _ (tb_1 11 rfl)) (ha fl_a.2.1) hA
  · exact va_Zref (args := #[Value.ref qb]) (hts _ (tb_3 228 rfl)) (hts _ (tb_1 1 rfl)) ht hA

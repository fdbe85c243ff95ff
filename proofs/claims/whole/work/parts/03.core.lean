/-! THE SMALL MACHINE. Everything that the law makes lies in cells that are numbered from 0 in the order in which they are made: cell k is the real cell (base + k). A small heap is: shapes (a list: tag, size), ints I k j, references R k j, longs L k j of cell k at place j. XV: from this frame and small heap the method ends, its answer and the small heap then keep Q. -/
abbrev XE : Type := Launch × Heap × va_G × (Nat → ClassId) × (Nat → Nat)
def xN (E : XE) : Nat := E.2.1.size
def xA (E : XE) : Nat → Prop := fun q => xN E ≤ q
def xD (E : XE) : va_G := E.2.2.1
def xk (E : XE) : Nat → ClassId := E.2.2.2.1
def xp (E : XE) : Nat → Nat := E.2.2.2.2
/-- a small value as a real one; .float w stands for the old cell xp w (a String constant, a static array) -/
def sv (E : XE) : Value → Value
  | .ref k => .ref (xN E + k)
  | .float w => .ref (xp E w.toNat)
  | .retAddr k => .ref k
  | v => v
theorem sv_cat (E : XE) (v : Value) : (sv E v).category = v.category := by cases v <;> rfl
theorem sv_cats (E : XE) (st : List Value) : ((st.map (sv E)).map fun v => v.category).sum = (st.map fun v => v.category).sum := by
  rw [List.map_map]; congr 1; exact List.map_congr_left fun v _ => sv_cat E v
abbrev XSh : Type := List (Nat × Nat)
abbrev XI : Type := Nat → Nat → Int32
abbrev XRf : Type := Nat → Nat → Option Nat
abbrev XL : Type := Nat → Nat → Int64
def xft : Nat → Nat → FieldType
  | 0 => tyX0
  | 1 => tyX1
  | 2 => tyX2
  | 3 => tyX3
  | 4 => tyX4
  | 5 => tyX5
  | 6 => tyX6
  | _ => tyX7
def xrf (E : XE) (r : Option Nat) : Option Nat := r.map (fun a => xN E + a)
def xfv (E : XE) (ty : FieldType) (I : XI) (R : XRf) (L : XL) (k j : Nat) : Value := match ty with
  | .long => .long (L k j)
  | .object _ => va_rf (xrf E (R k j))
  | .array _ => va_rf (xrf E (R k j))
  | _ => .int (I k j)
def xce (E : XE) (q : Nat × Nat) (k : Nat) (I : XI) (R : XRf) (L : XL) : va_E :=
  if q.1 < 8 then .inr (q.1, (List.range q.2).map (fun j => xfv E (xft q.1 j) I R L k j))
  else if q.1 < 10 then .inl (xk E (q.1 - 8), q.2, .inl (I k))
  else .inl (xk E (q.1 - 8), q.2, .inr (.inr (.inr (.inr (fun j => xrf E (R k j))))))
def xw (E : XE) (sh : XSh) (I : XI) (R : XRf) (L : XL) : va_W := (List.range sh.length).map (fun k => (xN E + k, xce E (sh.getD k (0, 0)) k I R L))
def xty (E : XE) : List (ClassId × FieldType) := [(xk E 0, .int), (xk E 1, .boolean), (xk E 2, .object "GetsOutFirst$Text"), (xk E 3, .object "GetsOutFirst$Sheet")]
theorem xw_len (E : XE) (sh : XSh) (I : XI) (R : XRf) (L : XL) : (xw E sh I R L).length = sh.length := by simp [xw]
theorem xw_at {E : XE} {sh : XSh} {I : XI} {R : XRf} {L : XL} {k : Nat} {q : Nat × Nat} (h : sh[k]? = some q) : (xw E sh I R L)[k]? = some (xN E + k, xce E q k I R L) := by
  have hk : k < sh.length := (List.getElem?_eq_some_iff.mp h).1
  have hq : sh[k] = q := (List.getElem?_eq_some_iff.mp h).2
  simp [xw, hk, List.getD, hq]
theorem xce_cong {E : XE} {q : Nat × Nat} {k : Nat} {I I' : XI} {R R' : XRf} {L L' : XL} (hI : I' k = I k) (hR : R' k = R k) (hL : L' k = L k) : xce E q k I' R' L' = xce E q k I R L := by
  unfold xce xfv
  rw [hI, hR, hL]
theorem xw_set {E : XE} {sh : XSh} {I I' : XI} {R R' : XRf} {L L' : XL} {k : Nat} {q : Nat × Nat} {e : va_E} (h : sh[k]? = some q) (he : e = xce E q k I' R' L') (hI : ∀ a, a ≠ k → I' a = I a) (hR : ∀ a, a ≠ k → R' a = R a) (hL : ∀ a, a ≠ k → L' a = L a) :
    (xw E sh I R L).set k (xN E + k, e) = xw E sh I' R' L' := by
  have hk : k < sh.length := (List.getElem?_eq_some_iff.mp h).1
  apply List.ext_getElem?
  intro a
  by_cases ha : a = k
  · subst ha
    rw [List.getElem?_set_self (by rw [xw_len]; exact hk), xw_at h, he]
  · rw [List.getElem?_set_ne (Ne.symm ha)]
    by_cases hl : a < sh.length
    · obtain ⟨z, hz⟩ : ∃ z, sh[a]? = some z := ⟨_, List.getElem?_eq_getElem hl⟩
      rw [xw_at hz, xw_at hz, xce_cong (hI a ha) (hR a ha) (hL a ha)]
    · rw [List.getElem?_eq_none (by rw [xw_len]; omega), List.getElem?_eq_none (by rw [xw_len]; omega)]
theorem xw_push {E : XE} {sh : XSh} {I : XI} {R : XRf} {L : XL} (q : Nat × Nat) : xw E (sh ++ [q]) I R L = xw E sh I R L ++ [(xN E + sh.length, xce E q sh.length I R L)] := by
  apply List.ext_getElem?
  intro a
  by_cases hl : a < sh.length
  · obtain ⟨z, hz⟩ : ∃ z, sh[a]? = some z := ⟨_, List.getElem?_eq_getElem hl⟩
    rw [List.getElem?_append_left (by rw [xw_len]; exact hl), xw_at hz, xw_at (q := z) (by rw [List.getElem?_append_left hl]; exact hz)]
  · by_cases he : a = sh.length
    · subst he
      rw [xw_at (q := q) (by simp), List.getElem?_append_right (by rw [xw_len]; exact Nat.le_refl _), xw_len]
      simp
    · rw [List.getElem?_eq_none (by rw [xw_len, List.length_append]; simp; omega), List.getElem?_eq_none (by rw [List.length_append, xw_len]; simp; omega)]
/-- updates -/
def xi (I : XI) (k j : Nat) (x : Int32) : XI := fun a => if a = k then upd (I k) j x else I a
def xr (R : XRf) (k j : Nat) (v : Option Nat) : XRf := fun a => if a = k then va_up (R k) j v else R a
def xg (L : XL) (k j : Nat) (x : Int64) : XL := fun a => if a = k then vp_updL (L k) j x else L a
/-- a whole row put -/
def xic (I : XI) (k : Nat) (f : Nat → Int32) : XI := fun a => if a = k then f else I a
theorem xi_row (I : XI) (k j : Nat) (x : Int32) : xi I k j x k = upd (I k) j x := by simp [xi]
theorem xi_off (I : XI) (k j : Nat) (x : Int32) {a : Nat} (h : a ≠ k) : xi I k j x a = I a := by simp [xi, h]
theorem xr_row (R : XRf) (k j : Nat) (v : Option Nat) : xr R k j v k = va_up (R k) j v := by simp [xr]
theorem xr_off (R : XRf) (k j : Nat) (v : Option Nat) {a : Nat} (h : a ≠ k) : xr R k j v a = R a := by simp [xr, h]
theorem xg_row (L : XL) (k j : Nat) (x : Int64) : xg L k j x k = vp_updL (L k) j x := by simp [xg]
theorem xg_off (L : XL) (k j : Nat) (x : Int64) {a : Nat} (h : a ≠ k) : xg L k j x a = L a := by simp [xg, h]
theorem xic_row (I : XI) (k : Nat) (f : Nat → Int32) : xic I k f k = f := by simp [xic]
theorem xic_off (I : XI) (k : Nat) (f : Nat → Int32) {a : Nat} (h : a ≠ k) : xic I k f a = I a := by simp [xic, h]
theorem xi_eq (I : XI) (k j : Nat) (x : Int32) : xi I k j x k j = x := by simp [xi, upd]
theorem xi_ne (I : XI) (k j : Nat) (x : Int32) {a b : Nat} (h : ¬ (a = k ∧ b = j)) : xi I k j x a b = I a b := by
  by_cases ha : a = k
  · subst ha
    have hb : ¬ b = j := fun z => h ⟨rfl, z⟩
    simp [xi, upd, hb]
  · simp [xi, ha]
/-! the words -/
def GT : List Cond := lw_tbl.filter goodWord
theorem gt_in {w : Cond} (h : w ∈ lw_tbl) (hg : goodWord w = true) : w ∈ GT := List.mem_filter.mpr ⟨h, hg⟩
theorem gt_tb {w : Cond} (i : Nat) (h : tables_1[i]? = some w) (hg : goodWord w = true) : w ∈ GT := gt_in (List.mem_append_right _ (List.mem_of_getElem? h)) hg
theorem gt_good {w : Cond} (h : w ∈ GT) : (w.onTables && w.keeps) = true ∨ ∃ ty, w = .arrayClass ty := good_of_word (List.mem_filter.mp h).2
theorem gt_sub {ws : List Cond} (h : ∀ w ∈ ws, w ∈ GT) (x : Cond) : GoodIn (x :: GT) ws := fun w hw => ⟨List.mem_cons_of_mem _ (h w hw), gt_good (h w hw)⟩
/-- name, bytes, locals, answer's type -/
abbrev XM : Type := MethodName × ByteArray × Nat × Option FieldType
def xws (y : XM) : List Cond := Cond.code y.1 y.2.1 y.2.2.1 y.2.2.2 :: GT
def xrm (d mc ms : Nat) : Room := { frames := d, cells := mc, slots := ms, locals := 64 * d }
/-! what the old heap says: String constants, statics -/
def xwd : List String := ["rider", "floor", "size", "row", "number", "inside", "steps", "late", "moves", "or", "and", "not"]
def xwl : List Nat := [5, 5, 4, 3, 6, 6, 5, 4, 5, 2, 3, 3]
def xwb : List (List Int32) := [[114, 105, 100, 101, 114], [102, 108, 111, 111, 114], [115, 105, 122, 101], [114, 111, 119], [110, 117, 109, 98, 101, 114], [105, 110, 115, 105, 100, 101], [115, 116, 101, 112, 115], [108, 97, 116, 101], [109, 111, 118, 101, 115], [111, 114], [97, 110, 100], [110, 111, 116]]
def xab : List Int32 := [-1, 0, 0, 1, 2, 1]
def xnest : List (String × Nat × MethodName × String) := [("GetsOutFirst", 9, ⟨"GetsOutFirst$Crew", "<init>", "()V"⟩, "GetsOutFirst"), ("GetsOutFirst", 21, ⟨"GetsOutFirst$Reader", "<init>", "()V"⟩, "GetsOutFirst"), ("GetsOutFirst$Trip", 11, ⟨"GetsOutFirst$Crew", "<init>", "()V"⟩, "GetsOutFirst"), ("GetsOutFirst", 59, ⟨"GetsOutFirst$Sheet", "<init>", "()V"⟩, "GetsOutFirst"), ("GetsOutFirst", 40, ⟨"GetsOutFirst$Trip", "<init>", "()V"⟩, "GetsOutFirst"), ("GetsOutFirst", 47, ⟨"GetsOutFirst$Seeker", "<init>", "()V"⟩, "GetsOutFirst"), ("GetsOutFirst$Seeker", 11, ⟨"GetsOutFirst$Crew", "<init>", "()V"⟩, "GetsOutFirst")]
def XS (E : XE) (U : State) : Prop :=
  va_AO "GetsOutFirst$Text" U ∧ va_AO "GetsOutFirst$Sheet" U ∧ (∀ q ∈ xnest, va_Nw (.methodLinkNest q.1 q.2.1 q.2.2.1 q.2.2.2) U) ∧ va_Nw (.castable "[I" "java/lang/Cloneable") U
  ∧ (∀ i, i < 12 → vk_R "GetsOutFirst$Reader" (104 + 2 * i) (xwd.getD i "") (xp E (1 + i)) U) ∧ vk_S 12 xwl xwb (fun i => xp E (1 + i)) (fun i => xp E (101 + i)) (xA E) U E.2.1
  ∧ va_Z "java/lang/String" "COMPACT_STRINGS" "Z" (.int 1) (xA E) U E.2.1 ∧ va_Zq "jdk/internal/util/Preconditions" "SIOOBE_FORMATTER" "Ljava/util/function/BiFunction;" (xA E) U E.2.1
  ∧ va_Z "GetsOutFirst" "ABOVE" "[I" (.ref (xp E 0)) (xA E) U E.2.1 ∧ va_T .int (xp E 0) 6 (fun j => .int (xab.getD j 0)) (xA E) U E.2.1
theorem XS.warm {E : XE} {s U : State} (hW : s.WarmedH U.vm) (h : XS E s) : XS E U := by
  obtain ⟨h1, h2, h3, h4, h5, h6, h7, h8, h9, h10⟩ := h
  exact ⟨h1.moved hW.alike, h2.moved hW.alike, fun q hq => (h3 q hq).warmM hW, h4.warmC hW, fun i hi => (h5 i hi).warm hW, h6.moved hW.alike, h7.moved hW.alike, h8.moved hW.alike, h9.moved hW.alike, h10.moved hW.alike⟩
def XZ (sh : XSh) (I : XI) (R : XRf) (L : XL) : Prop := ∀ a, sh.length ≤ a → I a = (fun _ => 0) ∧ R a = (fun _ => none) ∧ L a = (fun _ => 0)
/-- the heap H holds the small heap; the tables are those of the state s -/
def XR (E : XE) (sh : XSh) (I : XI) (R : XRf) (L : XL) (s : State) (H : Heap) : Prop :=
  va_P (xD E) vwCl (xw E sh I R L) H ∧ va_K (xD E) vwCl (xty E) s ∧ va_D (xA E) (xw E sh I R L) ∧ H.size = xN E + sh.length ∧ (∀ q, q < xN E → H[q]? = E.2.1[q]?) ∧ XZ sh I R L ∧ XS E s
theorem XR.warm {E : XE} {sh : XSh} {I : XI} {R : XRf} {L : XL} {s U : State} {H : Heap} (hW : s.WarmedH U.vm) (h : XR E sh I R L s H) : XR E sh I R L U H := by
  obtain ⟨h1, h2, h3, h4, h5, h6, h7⟩ := h
  exact ⟨h1, h2.moved hW.alike, h3, h4, h5, h6, h7.warm hW⟩
abbrev XQ : Type := Option Value → XSh → XI → XRf → XL → Prop
def xQc (E : XE) (Q : XQ) : Array Value → State → Outcome → State → Prop := fun _ st oc t =>
  (∃ (v : Option Value) (sh : XSh) (I : XI) (R : XRf) (L : XL), oc = .returned (v.map (sv E)) ∧ Q v sh I R L ∧ XR E sh I R L t t.heap) ∧ st.heap.size ≤ t.heap.size
/-- a method's contract: room for d frames, mc cells of ms slots -/
def XC (E : XE) (y : XM) (d mc ms : Nat) (as : List Value) (sh : XSh) (I : XI) (R : XRf) (L : XL) (Q : XQ) : Prop :=
  Met E.1 y.1 (xws y) (xrm d mc ms) (va_Pc (as.map (sv E)) (fun U => XR E sh I R L U U.heap)) (xQc E Q) mc ms (xA E)
/-! locals -/
def lg : List (Option Value) → Nat → Option Value
  | [], _ => none
  | x :: _, 0 => x
  | _ :: xs, n + 1 => lg xs n
def lnl : Option Value → Option Value
  | some (.long _) => none
  | some (.double _) => none
  | x => x
/-- an entry of one slot is stored -/
def ls1 : List (Option Value) → Nat → Value → List (Option Value)
  | [], _, _ => []
  | _ :: xs, 0, v => some v :: xs
  | x :: xs, 1, v => lnl x :: ls1 xs 0 v
  | x :: xs, n + 2, v => x :: ls1 xs (n + 1) v
def ln1 : List (Option Value) → List (Option Value)
  | [] => []
  | _ :: xs => none :: xs
/-- an entry of two slots is stored -/
def ls2 : List (Option Value) → Nat → Value → List (Option Value)
  | [], _, _ => []
  | _ :: xs, 0, v => some v :: ln1 xs
  | x :: xs, 1, v => lnl x :: ls2 xs 0 v
  | x :: xs, n + 2, v => x :: ls2 xs (n + 1) v
def lmask : List Bool → List (Option Value) → List (Option Value)
  | true :: bs, x :: xs => x :: lmask bs xs
  | false :: bs, _ :: xs => none :: lmask bs xs
  | _, xs => xs
theorem lg_ls1 (v : Value) : ∀ (ls : List (Option Value)) (i j : Nat), lg (ls1 ls i v) j = if j = i then (if i < ls.length then some v else none) else if j + 1 = i then lnl (lg ls j) else lg ls j
  | [], i, j => by simp [ls1, lg, lnl]
  | x :: xs, 0, j => by cases j <;> simp [ls1, lg]
  | x :: xs, 1, j => by
    cases j with
    | zero => simp [ls1, lg]
    | succ j =>
      have h := lg_ls1 v xs 0 j
      simp only [ls1, lg, h]
      simp
  | x :: xs, n + 2, j => by
    cases j with
    | zero => simp [ls1, lg]
    | succ j =>
      have h := lg_ls1 v xs (n + 1) j
      simp only [ls1, lg, h]
      have e : (n + 2 < xs.length + 1) ↔ (n + 1 < xs.length) := by omega
      simp [e]
theorem lg_ln1 (xs : List (Option Value)) (j : Nat) : lg (ln1 xs) j = if j = 0 then none else lg xs j := by
  cases xs <;> cases j <;> simp [ln1, lg]
theorem lg_ls2 (v : Value) : ∀ (ls : List (Option Value)) (i j : Nat), lg (ls2 ls i v) j = if j = i then (if i < ls.length then some v else none) else if j = i + 1 then none else if j + 1 = i then lnl (lg ls j) else lg ls j
  | [], i, j => by simp [ls2, lg, lnl]
  | x :: xs, 0, j => by cases j <;> simp [ls2, lg, lg_ln1]
  | x :: xs, 1, j => by
    cases j with
    | zero => simp [ls2, lg]
    | succ j =>
      have h := lg_ls2 v xs 0 j
      simp only [ls2, lg, h]
      simp
  | x :: xs, n + 2, j => by
    cases j with
    | zero => simp [ls2, lg]
    | succ j =>
      have h := lg_ls2 v xs (n + 1) j
      simp only [ls2, lg, h]
      have e : (n + 2 < xs.length + 1) ↔ (n + 1 < xs.length) := by omega
      simp [e]
theorem ls1_len (v : Value) : ∀ (ls : List (Option Value)) (i : Nat), (ls1 ls i v).length = ls.length
  | [], i => by simp [ls1]
  | x :: xs, 0 => by simp [ls1]
  | x :: xs, 1 => by simp [ls1, ls1_len v xs 0]
  | x :: xs, n + 2 => by simp [ls1, ls1_len v xs (n + 1)]
theorem ln1_len (xs : List (Option Value)) : (ln1 xs).length = xs.length := by cases xs <;> simp [ln1]
theorem ls2_len (v : Value) : ∀ (ls : List (Option Value)) (i : Nat), (ls2 ls i v).length = ls.length
  | [], i => by simp [ls2]
  | x :: xs, 0 => by simp [ls2, ln1_len]
  | x :: xs, 1 => by simp [ls2, ls2_len v xs 0]
  | x :: xs, n + 2 => by simp [ls2, ls2_len v xs (n + 1)]
theorem lmask_len : ∀ (bs : List Bool) (ls : List (Option Value)), (lmask bs ls).length = ls.length
  | [], ls => by cases ls <;> simp [lmask]
  | true :: bs, [] => by simp [lmask]
  | false :: bs, [] => by simp [lmask]
  | true :: bs, x :: xs => by simp [lmask, lmask_len bs xs]
  | false :: bs, x :: xs => by simp [lmask, lmask_len bs xs]
theorem lg_lmask : ∀ (bs : List Bool) (ls : List (Option Value)) (j : Nat) (v : Value), lg (lmask bs ls) j = some v → lg ls j = some v
  | [], ls, j, v, h => by cases ls <;> exact h
  | true :: bs, [], j, v, h => h
  | false :: bs, [], j, v, h => h
  | true :: bs, x :: xs, 0, v, h => h
  | false :: bs, x :: xs, 0, v, h => by simp [lmask, lg] at h
  | true :: bs, x :: xs, j + 1, v, h => lg_lmask bs xs j v h
  | false :: bs, x :: xs, j + 1, v, h => lg_lmask bs xs j v h
theorem lg_lt : ∀ (ls : List (Option Value)) (j : Nat) (v : Value), lg ls j = some v → j < ls.length
  | [], j, v, h => by simp [lg] at h
  | x :: xs, 0, v, h => by simp
  | x :: xs, j + 1, v, h => by have := lg_lt xs j v h; simp; omega
/-- the locals of a real frame -/
def xloc (E : XE) (arr : Array Slot) (ls : List (Option Value)) : Prop := arr.size = ls.length ∧ lv_wf arr ∧ ∀ i v, lg ls i = some v → arr[i]? = some (.val (sv E v))
def xas (E : XE) (ls : List (Option Value)) : List (Nat × Value) := (List.range ls.length).filterMap (fun i => (lg ls i).map (fun v => (i, sv E v)))
theorem xas_mem {E : XE} {ls : List (Option Value)} {q : Nat × Value} : q ∈ xas E ls ↔ ∃ v, lg ls q.1 = some v ∧ q.2 = sv E v := by
  unfold xas
  rw [List.mem_filterMap]
  constructor
  · rintro ⟨i, -, h⟩
    cases hv : lg ls i with
    | none => rw [hv] at h; cases h
    | some v => rw [hv] at h; cases h; exact ⟨v, hv, rfl⟩
  · rintro ⟨v, h1, h2⟩
    refine ⟨q.1, List.mem_range.mpr (lg_lt _ _ _ h1), ?_⟩
    rw [h1]
    obtain ⟨a, b⟩ := q
    cases h2
    rfl
theorem xloc_has {E : XE} {arr : Array Slot} {ls : List (Option Value)} : xloc E arr ls ↔ lv_has arr ls.length (xas E ls) := by
  constructor
  · rintro ⟨h1, h2, h3⟩
    refine ⟨h1, h2, fun q hq => ?_⟩
    obtain ⟨v, a, b⟩ := xas_mem.mp hq
    rw [b]; exact h3 _ _ a
  · rintro ⟨h1, h2, h3⟩
    exact ⟨h1, h2, fun i v h => h3 (i, sv E v) (xas_mem.mpr ⟨v, h, rfl⟩)⟩
theorem xloc_st1 {E : XE} {arr : Array Slot} {ls : List (Option Value)} {i : Nat} {v : Value} {lv' : List (Nat × Value)} (hi : i < ls.length) (h : lv_has arr ls.length lv') (hl : (i, sv E v) :: (xas E ls).filter (fun q => !(q.1 == i) && !(q.1 + 1 == i && q.2.category == 2)) = lv') : xloc E arr (ls1 ls i v) := by
  subst hl
  obtain ⟨h1, h2, h3⟩ := h
  refine ⟨by rw [ls1_len]; exact h1, h2, fun j w hj => ?_⟩
  rw [lg_ls1] at hj
  by_cases a : j = i
  · rw [if_pos a, if_pos hi] at hj
    cases hj
    subst a
    exact h3 _ List.mem_cons_self
  · rw [if_neg a] at hj
    refine h3 (j, sv E w) (List.mem_cons_of_mem _ (List.mem_filter.mpr ⟨xas_mem.mpr ⟨w, ?_, rfl⟩, ?_⟩))
    · by_cases b : j + 1 = i
      · rw [if_pos b] at hj
        show lg ls j = some w
        cases hx : lg ls j with
        | none => rw [hx] at hj; cases hj
        | some z => rw [hx] at hj; cases z <;> first | exact hj | cases hj
      · rw [if_neg b] at hj
        exact hj
    · by_cases b : j + 1 = i
      · rw [if_pos b] at hj
        have hc : w.category = 1 := by
          cases hx : lg ls j with
          | none => rw [hx] at hj; cases hj
          | some z => rw [hx] at hj; cases z <;> first | (cases hj; rfl) | cases hj
        simp [a, sv_cat, hc]
      · simp [a, b]
theorem xloc_st2 {E : XE} {arr : Array Slot} {ls : List (Option Value)} {i : Nat} {v : Value} {lv' : List (Nat × Value)} (hi : i < ls.length) (h : lv_has arr ls.length lv') (hl : (i, sv E v) :: (xas E ls).filter (fun q => !(q.1 == i) && (!(q.1 == i + 1) && !(q.1 + 1 == i && q.2.category == 2))) = lv') : xloc E arr (ls2 ls i v) := by
  subst hl
  obtain ⟨h1, h2, h3⟩ := h
  refine ⟨by rw [ls2_len]; exact h1, h2, fun j w hj => ?_⟩
  rw [lg_ls2] at hj
  by_cases a : j = i
  · rw [if_pos a, if_pos hi] at hj
    cases hj
    subst a
    exact h3 _ List.mem_cons_self
  · rw [if_neg a] at hj
    by_cases a2 : j = i + 1
    · rw [if_pos a2] at hj; cases hj
    · rw [if_neg a2] at hj
      refine h3 (j, sv E w) (List.mem_cons_of_mem _ (List.mem_filter.mpr ⟨xas_mem.mpr ⟨w, ?_, rfl⟩, ?_⟩))
      · by_cases b : j + 1 = i
        · rw [if_pos b] at hj
          show lg ls j = some w
          cases hx : lg ls j with
          | none => rw [hx] at hj; cases hj
          | some z => rw [hx] at hj; cases z <;> first | exact hj | cases hj
        · rw [if_neg b] at hj
          exact hj
      · by_cases b : j + 1 = i
        · rw [if_pos b] at hj
          have hc : w.category = 1 := by
            cases hx : lg ls j with
            | none => rw [hx] at hj; cases hj
            | some z => rw [hx] at hj; cases z <;> first | (cases hj; rfl) | cases hj
          simp [a, a2, sv_cat, hc]
        · simp [a, a2, b]
/-- the method's body, whoever calls -/
def XB (E : XE) (y : XM) (p : Program) (s : State) (m : MethodId) (args : Array Value) (meth : Method) (c : Code) : Prop :=
  p.tables.exec = Jvm.exec ∧ c.code = y.2.1 ∧ meth.sig.returnType = y.2.2.2 ∧ c.maxLocals = y.2.2.1 ∧ s.vm.findClass y.1.cls = some m.cls ∧ (∀ w ∈ xws y, w.before args s = true) ∧ meth.locks = false ∧ meth.name = y.1.name ∧ xN E ≤ s.heap.size
def XV (E : XE) (y : XM) (d mc ms : Nat) (Q : XQ) (kc ks pc : Nat) (ls : List (Option Value)) (st : List Value) (sh : XSh) (I : XI) (R : XRf) (L : XL) : Prop :=
  ∀ (p : Program) (e : Env) (s : State) (m : MethodId) (args : Array Value) (below : List Frame) (meth : Method) (c : Code) (H : Heap) (locs : List Loc) (cells slots : Nat) (arr : Array Slot),
    XB E y p s m args meth c → XR E sh I R L s H → va_S (xA E) s.heap H locs → cells + kc ≤ mc → slots + ks ≤ ms → ls.length = y.2.2.1 → xloc E arr ls →
    W p E.1 e (xrm d mc ms) s m args below meth c H locs cells slots (MQ below (xQc E Q) args s mc ms (xA E)) (F0 m pc arr (st.map (sv E)))

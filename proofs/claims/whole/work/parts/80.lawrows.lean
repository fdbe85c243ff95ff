/-! THE CLAIM OUT OF ONE WALK OF THE LAW'S BODY. Your part is whole_start (and what it stands on); all else here is the same for every law, but numbers. -/
def R_law : String := "GetsOutFirstLaw"
def lw_P (b : Addr) (xs : List Int32) (args : Array Value) (s : State) : Prop := args = #[.ref b] ∧ s.IntsAt b xs ∧ xs.length ≤ 3072 ∧ (Jvm.Cond.and given_1 narrow_1).before args s = true
def lw_Q (_ : Array Value) (s : State) (o : Outcome) (t : State) : Prop := o = .returned (some (.int 1)) ∧ Framed s o t [] 600000 7302250
def lw_Z (below : List Frame) (a : Array Value) (s : State) : State → Prop := fun t => ∃ o, t.status = .running ∧ Ended t below o ∧ lw_Q a s o t
/-- the law's own end, with 1 on the stack, nothing written that was there before, its room as the claim has it -/
theorem lw_ret {p : Program} {l : Launch} {e : Env} {s : State} {m : MethodId} {below : List Frame} {meth : Method} {c : Code} {b : Nat} (hx : p.tables.exec = Jvm.exec) (hb : c.code = code) (hr : meth.sig.returnType = ret) (hlocks : meth.locks = false) {pc : Nat} {H : Heap} {ls : Array Slot} (hdg : decode code pc = .ok (.ireturn, 1)) : W p l e room_1 s m #[Value.ref b] below meth c H [] 600000 7302250 (lw_Z below #[Value.ref b] s) (F0 m pc ls [.int 1]) := by
  intro T hT X
  obtain ⟨fs, hret, hrun, hended, hW, hframe⟩ := X.leave (v := some (.int 1)) (hlocks := hlocks) (fun h => by rw [hr] at h; cases h)
  have hmeth' : T.vm.method? m = some meth := X.method'
  refine ⟨T.setFrames fs, ?_, .returned (some (.int 1)), hrun, hended, rfl, ⟨_, rfl⟩, hW, hframe⟩
  jvm_step X.here [X.here.top, hx, hb, hdg, hmeth', hr, ret, narrow_b1]
  (try refine ⟨rfl, ?_⟩); (try refine ⟨rfl, ?_⟩)
  first | (intro acts; rw [hret _ acts rfl rfl rfl]) | rw [hret _ _ rfl rfl rfl]
  exact Steps.refl _
/-- what holds at the law's entry: the machine, the code, the tables' words (any of lw_tbl by 'hts w (by decide +kernel)'), the script of L ints xs at the cell b, what the Statement gives of the start (any of its parts by flat_of_before) -/
def lw_At (p : Program) (s : State) (m : MethodId) (meth : Method) (c : Code) (b L : Nat) (xs : Nat → Int32) : Prop :=
  p.tables.exec = Jvm.exec ∧ c.code = code ∧ meth.sig.returnType = ret ∧ c.maxLocals = 4 ∧ s.vm.findClass R_law = some m.cls ∧ (∀ w ∈ lw_tbl, w.before #[Value.ref b] s = true) ∧ va_X b L xs s s.heap ∧ b < s.heap.size ∧ meth.locks = false ∧ (Jvm.Cond.and given_1 narrow_1).before #[Value.ref b] s = true
theorem gt_sub0 {ws : List Cond} (h : ∀ w ∈ ws, w ∈ GT) : GoodIn GT ws := fun w hw => ⟨h w hw, gt_good (h w hw)⟩
section LAWROWS
/-- what holds as the law runs: the machine, its code, its words, its script -/
def XWB (E : XE) (qb qN : Nat) (qx : Nat → Int32) (p : Program) (s : State) (m : MethodId) (meth : Method) (c : Code) : Prop :=
  p.tables.exec = Jvm.exec ∧ c.code = cL_law ∧ meth.sig.returnType = ret ∧ c.maxLocals = 4 ∧ s.vm.findClass RL = some m.cls ∧ (∀ w ∈ GT, w.before #[Value.ref qb] s = true) ∧ meth.locks = false ∧ (va_X qb qN qx s E.2.1 ∧ qb < xN E ∧ s.heap.size ≤ xN E) ∧ xN E ≤ s.heap.size
def XW (E : XE) (qb qN : Nat) (qx : Nat → Int32) (kc ks pc : Nat) (ls : List (Option Value)) (st : List Value) (sh : XSh) (I : XI) (R : XRf) (L : XL) : Prop :=
  ∀ (p : Program) (e : Env) (s : State) (m : MethodId) (below : List Frame) (meth : Method) (c : Code) (H : Heap) (locs : List Loc) (cells slots : Nat) (arr : Array Slot),
    XWB E qb qN qx p s m meth c → XR E sh I R L s H → va_S (xA E) s.heap H locs → cells + kc ≤ 600000 → slots + ks ≤ 7302250 → ls.length = 4 → xloc E arr ls →
    W p E.1 e room_1 s m #[Value.ref qb] below meth c H locs cells slots (lw_Z below #[Value.ref qb] s) (F0 m pc arr (st.map (sv E)))
variable {E : XE} {qb qN : Nat} {qx : Nat → Int32} {kc ks pc q : Nat} {ls : List (Option Value)} {st : List Value} {sh : XSh} {I : XI} {R : XRf} {L : XL}
theorem xw_iadd {a b : Int32} (hq : pc + 1 = q) (hd : decode cL_law pc = .ok (.iadd, 1))  (k : XW E qb qN qx kc ks q ls (.int (a + b) :: st) sh I R L) : XW E qb qN qx kc ks pc ls (.int b :: .int a :: st) sh I R L := by
  subst hq
  intro p e s m below meth c H locs cells slots arr hB hR hS hc hk hn hl
  exact lv_iadd hB.1 hB.2.1 hd (k p e s m below meth c H locs cells slots arr hB hR hS hc hk hn hl)
theorem xw_isub {a b : Int32} (hq : pc + 1 = q) (hd : decode cL_law pc = .ok (.isub, 1))  (k : XW E qb qN qx kc ks q ls (.int (a - b) :: st) sh I R L) : XW E qb qN qx kc ks pc ls (.int b :: .int a :: st) sh I R L := by
  subst hq
  intro p e s m below meth c H locs cells slots arr hB hR hS hc hk hn hl
  exact lv_isub hB.1 hB.2.1 hd (k p e s m below meth c H locs cells slots arr hB hR hS hc hk hn hl)
theorem xw_iand {a b : Int32} (hq : pc + 1 = q) (hd : decode cL_law pc = .ok (.iand, 1))  (k : XW E qb qN qx kc ks q ls (.int (a &&& b) :: st) sh I R L) : XW E qb qN qx kc ks pc ls (.int b :: .int a :: st) sh I R L := by
  subst hq
  intro p e s m below meth c H locs cells slots arr hB hR hS hc hk hn hl
  exact lv_iand hB.1 hB.2.1 hd (k p e s m below meth c H locs cells slots arr hB hR hS hc hk hn hl)
theorem xw_iconst {n : Int} {v : Int32} (hq : pc + 1 = q) (hd : decode cL_law pc = .ok (.iconst n, 1)) (hv : Int32.ofInt n = v) (k : XW E qb qN qx kc ks q ls (.int v :: st) sh I R L) : XW E qb qN qx kc ks pc ls st sh I R L := by
  subst hq
  intro p e s m below meth c H locs cells slots arr hB hR hS hc hk hn hl
  exact lv_iconst hB.1 hB.2.1 hd hv (k p e s m below meth c H locs cells slots arr hB hR hS hc hk hn hl)
theorem xw_bipush {n : Int} {v : Int32} (hq : pc + 2 = q) (hd : decode cL_law pc = .ok (.bipush n, 2)) (hv : (Int8.ofInt n).toInt32 = v) (k : XW E qb qN qx kc ks q ls (.int v :: st) sh I R L) : XW E qb qN qx kc ks pc ls st sh I R L := by
  subst hq
  intro p e s m below meth c H locs cells slots arr hB hR hS hc hk hn hl
  exact lv_bipush hB.1 hB.2.1 hd hv (k p e s m below meth c H locs cells slots arr hB hR hS hc hk hn hl)
theorem xw_iload_n {n : Fin 4} {i : Nat} {a : Int32} (hq : pc + 1 = q) (hd : decode cL_law pc = .ok (.iload_n n, 1)) (hi : (n : Nat) = i) (ha : lg ls i = some (.int a)) (k : XW E qb qN qx kc ks q ls (.int a :: st) sh I R L) : XW E qb qN qx kc ks pc ls st sh I R L := by
  subst hq
  intro p e s m below meth c H locs cells slots arr hB hR hS hc hk hn hl
  exact lv_iload_n hB.1 hB.2.1 hd hi (hl.2.2 i _ ha) (k p e s m below meth c H locs cells slots arr hB hR hS hc hk hn hl)
theorem xw_aload_n {n : Fin 4} {i : Nat} {a : Nat} (hq : pc + 1 = q) (hd : decode cL_law pc = .ok (.aload_n n, 1)) (hi : (n : Nat) = i) (ha : lg ls i = some (.ref a)) (k : XW E qb qN qx kc ks q ls (.ref a :: st) sh I R L) : XW E qb qN qx kc ks pc ls st sh I R L := by
  subst hq
  intro p e s m below meth c H locs cells slots arr hB hR hS hc hk hn hl
  exact lv_aload_n hB.1 hB.2.1 hd hi (hl.2.2 i _ ha) (k p e s m below meth c H locs cells slots arr hB hR hS hc hk hn hl)
theorem xw_dup {a : Value} (hq : pc + 1 = q) (hd : decode cL_law pc = .ok (.dup, 1)) (ha : a.category = 1) (k : XW E qb qN qx kc ks q ls (a :: a :: st) sh I R L) : XW E qb qN qx kc ks pc ls (a :: st) sh I R L := by
  subst hq
  intro p e s m below meth c H locs cells slots arr hB hR hS hc hk hn hl
  exact lv_dup hB.1 hB.2.1 hd (by rw [sv_cat]; exact ha) (k p e s m below meth c H locs cells slots arr hB hR hS hc hk hn hl)
theorem xw_istore_n {n : Fin 4} {i : Nat} {a : Int32} (hq : pc + 1 = q) (hd : decode cL_law pc = .ok (.istore_n n, 1)) (hi : (n : Nat) = i) (hi2 : Nat.ble (i + 1) ls.length = true) (k : XW E qb qN qx kc ks q (ls1 ls i (.int a)) st sh I R L) : XW E qb qN qx kc ks pc ls (.int a :: st) sh I R L := by
  subst hq
  intro p e s m below meth c H locs cells slots arr hB hR hS hc hk hn hl
  have hi3 : i < ls.length := Nat.le_of_ble_eq_true hi2
  exact lv_istore_n hB.1 hB.2.1 hd hi (xloc_has.mp hl) hi3 rfl (fun arr' h' => k p e s m below meth c H locs cells slots arr' hB hR hS hc hk (by rw [ls1_len]; exact hn) (xloc_st1 (v := .int a) hi3 h' rfl))
theorem xw_astore_n {n : Fin 4} {i : Nat} {a : Nat} (hq : pc + 1 = q) (hd : decode cL_law pc = .ok (.astore_n n, 1)) (hi : (n : Nat) = i) (hi2 : Nat.ble (i + 1) ls.length = true) (k : XW E qb qN qx kc ks q (ls1 ls i (.ref a)) st sh I R L) : XW E qb qN qx kc ks pc ls (.ref a :: st) sh I R L := by
  subst hq
  intro p e s m below meth c H locs cells slots arr hB hR hS hc hk hn hl
  have hi3 : i < ls.length := Nat.le_of_ble_eq_true hi2
  exact lv_astore_n hB.1 hB.2.1 hd hi (xloc_has.mp hl) hi3 rfl (fun arr' h' => k p e s m below meth c H locs cells slots arr' hB hR hS hc hk (by rw [ls1_len]; exact hn) (xloc_st1 (v := .ref a) hi3 h' rfl))
theorem xw_iinc {i : Nat} {n : Int} {a v : Int32} (hq : pc + 3 = q) (hd : decode cL_law pc = .ok (.iinc i n, 3)) (ha : lg ls i = some (.int a)) (hv : Int32.ofInt n = v) (k : XW E qb qN qx kc ks q (ls1 ls i (.int (a + v))) st sh I R L) : XW E qb qN qx kc ks pc ls st sh I R L := by
  subst hq
  subst hv
  intro p e s m below meth c H locs cells slots arr hB hR hS hc hk hn hl
  have hi3 : i < ls.length := lg_lt _ _ _ ha
  obtain ⟨w, hw⟩ := List.getElem?_of_mem (xas_mem (E := E) (q := (i, .int a)) |>.mpr ⟨.int a, ha, rfl⟩)
  exact lv_iinc hB.1 hB.2.1 hd (xloc_has.mp hl) hw rfl hi3 rfl (fun arr' h' => k p e s m below meth c H locs cells slots arr' hB hR hS hc hk (by rw [ls1_len]; exact hn) (xloc_st1 (v := .int (a + Int32.ofInt n)) hi3 h' rfl))
theorem xw_if_eq {a : Int32} {off : Int} {t : Nat} (hq : pc + 3 = q) (ht : (pc : Int) + off = (t : Int)) (hd : decode cL_law pc = .ok (.ifCond .eq off, 3)) (k1 : a = 0 → XW E qb qN qx kc ks t ls st sh I R L) (k2 : ¬ a = 0 → XW E qb qN qx kc ks q ls st sh I R L) : XW E qb qN qx kc ks pc ls (.int a :: st) sh I R L := by
  subst hq
  intro p e s m below meth c H locs cells slots arr hB hR hS hc hk hn hl
  exact lv_if_eq hB.1 hB.2.1 hd ht (fun z => k1 z p e s m below meth c H locs cells slots arr hB hR hS hc hk hn hl) (fun z => k2 z p e s m below meth c H locs cells slots arr hB hR hS hc hk hn hl)
theorem xw_icmp_eq {a b : Int32} {off : Int} {t : Nat} (hq : pc + 3 = q) (ht : (pc : Int) + off = (t : Int)) (hd : decode cL_law pc = .ok (.if_icmp .eq off, 3)) (k1 : a = b → XW E qb qN qx kc ks t ls st sh I R L) (k2 : ¬ a = b → XW E qb qN qx kc ks q ls st sh I R L) : XW E qb qN qx kc ks pc ls (.int b :: .int a :: st) sh I R L := by
  subst hq
  intro p e s m below meth c H locs cells slots arr hB hR hS hc hk hn hl
  exact lv_icmp_eq hB.1 hB.2.1 hd ht (fun z => k1 z p e s m below meth c H locs cells slots arr hB hR hS hc hk hn hl) (fun z => k2 z p e s m below meth c H locs cells slots arr hB hR hS hc hk hn hl)
theorem xw_icmp_gt {a b : Int32} {off : Int} {t : Nat} (hq : pc + 3 = q) (ht : (pc : Int) + off = (t : Int)) (hd : decode cL_law pc = .ok (.if_icmp .gt off, 3)) (k1 : b < a → XW E qb qN qx kc ks t ls st sh I R L) (k2 : ¬ b < a → XW E qb qN qx kc ks q ls st sh I R L) : XW E qb qN qx kc ks pc ls (.int b :: .int a :: st) sh I R L := by
  subst hq
  intro p e s m below meth c H locs cells slots arr hB hR hS hc hk hn hl
  exact lv_icmp_gt hB.1 hB.2.1 hd ht (fun z => k1 z p e s m below meth c H locs cells slots arr hB hR hS hc hk hn hl) (fun z => k2 z p e s m below meth c H locs cells slots arr hB hR hS hc hk hn hl)
theorem xw_goto {off : Int} {t : Nat} (ht : (pc : Int) + off = (t : Int)) (hd : decode cL_law pc = .ok (.goto off, 3)) (k : XW E qb qN qx kc ks t ls st sh I R L) : XW E qb qN qx kc ks pc ls st sh I R L := by
  intro p e s m below meth c H locs cells slots arr hB hR hS hc hk hn hl
  exact lv_goto hB.1 hB.2.1 hd ht (k p e s m below meth c H locs cells slots arr hB hR hS hc hk hn hl)
theorem xw_tableOut {dflt lo hi : Int} {offs : Array Int} {len : Nat} {a : Int32} {t : Nat} (hd : decode cL_law pc = .ok (.tableswitch dflt lo hi offs, len)) (h : a.toInt < lo ∨ hi < a.toInt) (ht : (pc : Int) + dflt = (t : Int)) (k : XW E qb qN qx kc ks t ls st sh I R L) : XW E qb qN qx kc ks pc ls (.int a :: st) sh I R L := by
  intro p e s m below meth c H locs cells slots arr hB hR hS hc hk hn hl
  exact lv_tableOut hB.1 hB.2.1 hd h ht (k p e s m below meth c H locs cells slots arr hB hR hS hc hk hn hl)
theorem xw_tableIn {dflt lo hi : Int} {offs : Array Int} {len : Nat} {a : Int32} {off : Int} {t : Nat} (hd : decode cL_law pc = .ok (.tableswitch dflt lo hi offs, len)) (h1 : ¬ a.toInt < lo) (h2 : ¬ hi < a.toInt) (ho : offs[(a.toInt - lo).toNat]? = some off) (ht : (pc : Int) + off = (t : Int)) (k : XW E qb qN qx kc ks t ls st sh I R L) : XW E qb qN qx kc ks pc ls (.int a :: st) sh I R L := by
  intro p e s m below meth c H locs cells slots arr hB hR hS hc hk hn hl
  exact lv_tableIn hB.1 hB.2.1 hd h1 h2 ho ht (k p e s m below meth c H locs cells slots arr hB hR hS hc hk hn hl)
theorem xw_lcmp {a b : Int64} (hq : pc + 1 = q) (hd : decode cL_law pc = .ok (.lcmp, 1))  (k : XW E qb qN qx kc ks q ls (.int (lg_cmp a b) :: st) sh I R L) : XW E qb qN qx kc ks pc ls (.long b :: .long a :: st) sh I R L := by
  subst hq
  intro p e s m below meth c H locs cells slots arr hB hR hS hc hk hn hl
  exact W.lcmp hB.1 hB.2.1 hd (k p e s m below meth c H locs cells slots arr hB hR hS hc hk hn hl)
theorem xw_less {kc' ks' : Nat} (h1 : kc' ≤ kc) (h2 : ks' ≤ ks) (k : XW E qb qN qx kc' ks' pc ls st sh I R L) : XW E qb qN qx kc ks pc ls st sh I R L := by
  intro p e s m below meth c H locs cells slots arr hB hR hS hc hk hn hl
  exact k p e s m below meth c H locs cells slots arr hB hR hS (by omega) (by omega) hn hl
theorem xw_ls {ls' : List (Option Value)} (h : ls = ls') (kk : XW E qb qN qx kc ks pc ls' st sh I R L) : XW E qb qN qx kc ks pc ls st sh I R L := h ▸ kk
theorem xw_as {x w : Int32} (h : x = w) (kk : XW E qb qN qx kc ks pc ls (.int w :: st) sh I R L) : XW E qb qN qx kc ks pc ls (.int x :: st) sh I R L := h ▸ kk
theorem xw_sload {n : Fin 4} {i : Nat} (hq : pc + 1 = q) (hd : decode cL_law pc = .ok (.aload_n n, 1)) (hi : (n : Nat) = i) (ha : lg ls i = some (.retAddr qb)) (k : XW E qb qN qx kc ks q ls (.retAddr qb :: st) sh I R L) : XW E qb qN qx kc ks pc ls st sh I R L := by
  subst hq
  intro p e s m below meth c H locs cells slots arr hB hR hS hc hk hn hl
  exact lv_aload_n hB.1 hB.2.1 hd hi (hl.2.2 i _ ha) (k p e s m below meth c H locs cells slots arr hB hR hS hc hk hn hl)
theorem xw_slen (hq : pc + 1 = q) (hd : decode cL_law pc = .ok (.arraylength, 1)) (k : XW E qb qN qx kc ks q ls (.int (nI qN) :: st) sh I R L) : XW E qb qN qx kc ks pc ls (.retAddr qb :: st) sh I R L := by
  subst hq
  intro p e s m below meth c H locs cells slots arr hB hR hS hc hk hn hl
  obtain ⟨hX, hb, hs⟩ := hB.2.2.2.2.2.2.2.1
  obtain ⟨scr, h1, h2, h3, h4, h5⟩ := hX
  exact W.alen (n := Int32.ofNat qN) hB.1 hB.2.1 (by rw [hR.2.2.2.2.1 qb hb]; exact h1) h2 (by rw [h4] <;> rfl) rfl rfl hd (k p e s m below meth c H locs cells slots arr hB hR hS hc hk hn hl)
theorem xw_sald {i : Int32} {j : Nat} (hq : pc + 1 = q) (hd : decode cL_law pc = .ok (.iaload, 1)) (hi : i = nI j) (hj : j < qN) (hN : qN ≤ 3072) (k : XW E qb qN qx kc ks q ls (.int (qx j) :: st) sh I R L) : XW E qb qN qx kc ks pc ls (.int i :: .retAddr qb :: st) sh I R L := by
  subst hq; subst hi
  intro p e s m below meth c H locs cells slots arr hB hR hS hc hk hn hl
  obtain ⟨hX, hb, hs⟩ := hB.2.2.2.2.2.2.2.1
  obtain ⟨scr, h1, h2, h3, h4, h5⟩ := hX
  have e1 : (nI j).toNatClampNeg = j := nI_clamp (by omega)
  exact W.iald (v := .int (qx j)) hB.1 hB.2.1 (by rw [hR.2.2.2.2.1 qb hb]; exact h1) h2 h3 (by rw [e1, h4]; exact fun z => z.elim (nI_pos (by omega)) (fun z => by omega)) (by rw [e1]; exact h5 j hj) rfl rfl hd (k p e s m below meth c H locs cells slots arr hB hR hS hc hk hn hl)
/-- the law ends with true -/
theorem xw_ret (hd : decode cL_law pc = .ok (.ireturn, 1)) : XW E qb qN qx kc ks pc ls [.int (nI 1)] sh I R L := by
  intro p e s m below meth c H locs cells slots arr hB hR hS hc hk hn hl
  obtain ⟨hX, hb, hs⟩ := hB.2.2.2.2.2.2.2.1
  refine va_forget (fun l hl' => Nat.le_trans hs (hS.2.2 l hl')) ?_
  refine W.widen (k := 600000) (n := 7302250) (by omega) (by omega) ?_
  exact lw_ret hB.1 hB.2.1 hB.2.2.1 hB.2.2.2.2.2.2.1 hd
theorem xw_new {t N idx kc' ks' : Nat} {C : String} {T : u_T} (hq : pc + 3 = q) (hd : decode cL_law pc = .ok (.new idx, 3)) (ht : t < 8) (hcl : vwCl[t]? = some (C, T, N)) (hws : ∀ w ∈ u_ws C T N, w ∈ GT) (hty : ∀ k, k < N → parseFieldDescriptor (T k).2.2.1 = some (xft t k)) (hnf : ∀ k, k < N → xft t k ≠ .float ∧ xft t k ≠ .double)
    (hw1 : Cond.classLink RL idx C ∈ GT) (hw2 : Cond.instantiable C N ∈ GT) (hw3 : Cond.initialized C ∈ GT) (h1 : kc' + 1 ≤ kc) (h2 : ks' + N ≤ ks) (kk : XW E qb qN qx kc' ks' q ls (.ref sh.length :: st) (sh ++ [(t, N)]) I R L) : XW E qb qN qx kc ks pc ls st sh I R L := by
  subst hq
  intro p e s m below meth c H locs cells slots arr hB hR hS hc hk hl0 hl
  have hKn := hR.2.1.1 t _ hcl
  have hts := hB.2.2.2.2.2.1
  have hm : ∀ {w : Cond}, w ∈ GT → w.before #[Value.ref qb] s = true := fun h => hts _ h
  refine W.newcK hB.1 hB.2.1 hB.2.2.2.2.1 (hm hw1) (hm hw2) (hm hw3) rfl hd (by show _ ≤ 600000; omega) (by show _ ≤ 7302250; omega) hKn.2.1 hR.2.2.2.1 fun H1 kC hkC e1 z1 o1 => ?_
  have hz := hR.2.2.2.2.2.1 sh.length (Nat.le_refl _)
  obtain ⟨hR1, hS1⟩ := xr_new (t, N) hR (H1 := H1) (by
    rw [xce_obj ht]
    refine ⟨_, hcl, (u_born (xft t) hts hws hKn hkC e1 hty).to (fun j hj => ?_)⟩
    show _ = vp_V ((List.range N).map _) j
    rw [vp_V, List.getD_eq_getElem?_getD, List.getElem?_map, List.getElem?_range hj]
    exact xfv0 hz.1 hz.2.1 hz.2.2 (hnf j hj).1 (hnf j hj).2) (by rw [z1, hR.2.2.2.1]) (fun a ha => o1 a (by rw [hR.2.2.2.1] at ha; exact ha)) hS hB.2.2.2.2.2.2.2.2
  exact kk p e s m below meth c H1 locs (cells + 1) (slots + N) arr hB hR1 hS1 (by omega) (by omega) hl0 hl
theorem xw_after {p : Program} {e : Env} {s : State} {m : MethodId} {below : List Frame} {meth : Method} {c : Code} {H : Heap} {locs : List Loc} {cells slots mc' ms' : Nat} {arr : Array Slot} {stk : List Value} {a : Array Value} {Q' : XQ} {kc' ks' : Nat}
    (hr : va_Run p E.1 e room_1 s m #[Value.ref qb] below meth c H locs cells slots mc' ms' (F0 m pc arr stk) (st.map (sv E)) (xQc E Q' a) (xA E)) (hB : XWB E qb qN qx p s m meth c) (hR : XR E sh I R L s H) (hS : va_S (xA E) s.heap H locs) (hc : cells + mc' + kc' ≤ 600000) (hk : slots + ms' + ks' ≤ 7302250) (hl0 : ls.length = 4) (hl : xloc E arr ls)
    (kk : ∀ (v : Option Value) (sh' : XSh) (I' : XI) (R' : XRf) (L' : XL), Q' v sh' I' R' L' → XW E qb qN qx kc' ks' (pc + 3) ls (v.toList ++ st) sh' I' R' L') :
    W p E.1 e room_1 s m #[Value.ref qb] below meth c H locs cells slots (lw_Z below #[Value.ref qb] s) (F0 m pc arr stk) := by
  intro T hT X
  obtain ⟨v, st₀, t, T', Lc, h0, X', hL, e1, e2, ⟨⟨w, sh', I', R', L', hv, hQ, hR'⟩, hz⟩, stp⟩ := hr T hT X
  have hv' : v = w.map (sv E) := by cases hv; rfl
  subst hv'
  have hRs : XR E sh' I' R' L' s T'.heap := by
    rw [e1]
    exact ⟨hR'.1, hR.2.1, hR'.2.2.1, hR'.2.2.2.1, hR'.2.2.2.2.1, hR'.2.2.2.2.2.1, hR.2.2.2.2.2.2⟩
  have hSs : va_S (xA E) s.heap T'.heap (locs ++ Lc) := by
    refine ⟨Nat.le_trans hS.1 (by rw [e1, ← h0]; exact hz), fun a g1 g2 => ?_, fun l hl => ?_⟩
    · have ha : a < xN E := Nat.not_le.mp g2
      rw [hRs.2.2.2.2.1 a ha, ← hS.2.1 a g1 g2, hR.2.2.2.2.1 a ha]
    · rcases List.mem_append.mp hl with h | h
      · exact hS.2.2 l h
      · exact hL l h
  obtain ⟨t2, a1, b1⟩ := kk w sh' I' R' L' hQ p e s m below meth c T'.heap (locs ++ Lc) (cells + mc') (slots + ms') arr hB hRs hSs (by omega) (by omega) hl0 hl T' rfl X'
  refine ⟨t2, stp t2 ?_, b1⟩
  have es : (w.toList ++ st).map (sv E) = (w.map (sv E)).toList ++ st.map (sv E) := by cases w <;> rfl
  rw [es] at a1
  exact a1
theorem xw_callV {z : XM} {idx n k t N d' mc' ms' kc' ks' : Nat} {T : u_T} {as stk : List Value} {Q' : XQ} (hq : pc + 3 = q) (hd : decode cL_law pc = .ok (.invokevirtual idx, 3)) (hl1 : Cond.methodLink RL idx z.1 ∈ GT) (hz : XMv z n) (hs : sh[k]? = some (t, N)) (hcl : vwCl[t]? = some (z.1.cls, T, N)) (ht : t < 8) (hn : as.length = n)
    (hstk : stk = as.reverse ++ .ref k :: st) (hw : (st.map fun v => v.category).sum ≤ 8) (hC : XC E z d' mc' ms' (.ref k :: as) sh I R L Q') (hdd : d' ≤ 100) (hm1 : mc' + kc' ≤ kc) (hm2 : ms' + ks' ≤ ks)
    (kk : ∀ (v : Option Value) (sh' : XSh) (I' : XI) (R' : XRf) (L' : XL), Q' v sh' I' R' L' → XW E qb qN qx kc' ks' q ls (v.toList ++ st) sh' I' R' L') : XW E qb qN qx kc ks pc ls stk sh I R L := by
  subst hq; subst hstk
  intro p e s m below meth c H locs cells slots arr hB hR hS hc hk hl0 hl
  obtain ⟨hzt, hz2, hz3⟩ := hz
  have he := xw_at (E := E) (I := I) (R := R) (L := L) hs
  rw [xce_obj ht] at he
  refine xw_after (mc' := mc') (ms' := ms') (a := (Value.ref (xN E + k) :: as.map (sv E)).toArray) ?_ hB hR hS (by omega) (by omega) hl0 hl kk
  refine va_runV (As := as.map (sv E)) (own := RL) (C := z.1.cls) (Ts := GT) (n := n) (nL := 4) ⟨hB.1, hB.2.1, hB.2.2.2.1, hB.2.2.2.2.1, hB.2.2.2.2.2.1⟩ hC (cwV n hB.2.2.2.2.2.1 (gt_sub0 (fun w hw => ?_)) rfl rfl rfl ⟨rfl, hzt.2.2.1⟩ ⟨(show d' + 1 ≤ 2048 by omega), ?_⟩) ⟨xpc_blind, va_recv hR.2.1 hR.1 hcl he, fun U hU hW => ⟨rfl, by show XR E sh I R L U U.heap; rw [hU]; exact hR.warm hW⟩⟩ rfl (by rw [List.length_map]; exact hn) (by rw [← hl0]; exact hl.1) (by simp [List.map_reverse, sv]) (lv_room (by rw [sv_cats]; exact hw)) hd ⟨by show _ ≤ 600000; omega, by show _ ≤ 7302250; omega⟩
  · unfold wsV at hw
    rcases List.mem_append.mp hw with h | h
    · simp only [List.mem_cons, List.not_mem_nil, or_false] at h
      rcases h with rfl | rfl | rfl | rfl
      · exact hl1
      · exact hz2
      · exact hz3
      · exact hzt.2.1
    · exact gt_xws hzt w h
  · show 8 + (z.2.2.1 + 11) + 64 * d' ≤ 84000
    have := hzt.2.2.2
    omega
theorem xw_callI {z : XM} {idx n k d' mc' ms' kc' ks' : Nat} {as stk : List Value} {Q' : XQ} (hq : pc + 3 = q) (hd : decode cL_law pc = .ok (.invokespecial idx, 3)) (hl1 : Cond.methodLink RL idx z.1 ∈ GT) (hz : XMi z n) (hn : as.length = n)
    (hstk : stk = as.reverse ++ .ref k :: st) (hw : (st.map fun v => v.category).sum ≤ 8) (hC : XC E z d' mc' ms' (.ref k :: as) sh I R L Q') (hdd : d' ≤ 100) (hm1 : mc' + kc' ≤ kc) (hm2 : ms' + ks' ≤ ks)
    (kk : ∀ (v : Option Value) (sh' : XSh) (I' : XI) (R' : XRf) (L' : XL), Q' v sh' I' R' L' → XW E qb qN qx kc' ks' q ls (v.toList ++ st) sh' I' R' L') : XW E qb qN qx kc ks pc ls stk sh I R L := by
  subst hq; subst hstk
  intro p e s m below meth c H locs cells slots arr hB hR hS hc hk hl0 hl
  obtain ⟨hzt, hz2, hz3, hz4⟩ := hz
  have hm : ∀ {w : Cond}, w ∈ GT → w.before #[Value.ref qb] s = true := fun h => hB.2.2.2.2.2.1 _ h
  refine xw_after (mc' := mc') (ms' := ms') (a := (Value.ref (xN E + k) :: as.map (sv E)).toArray) ?_ hB hR hS (by omega) (by omega) hl0 hl kk
  refine va_runI (As := as.map (sv E)) (own := RL) (Ts := GT) (n := n) (nL := 4) ⟨hB.1, hB.2.1, hB.2.2.2.1, hB.2.2.2.2.1, hB.2.2.2.2.2.1⟩ hC (cwI n hB.2.2.2.2.2.1 (gt_sub0 (gt_xws hzt)) (show xws z = Cond.code z.1 z.2.1 z.2.2.1 none :: GT by unfold xws; rw [hz4]) rfl rfl (hm hzt.2.1) (hm hl1) (hm hz3) hz2 hzt.2.2.1 ⟨(show d' + 1 ≤ 2048 by omega), ?_⟩) ⟨xpc_blind, fun U hU hW => ⟨rfl, by show XR E sh I R L U U.heap; rw [hU]; exact hR.warm hW⟩⟩ rfl (by rw [List.length_map]; exact hn) (by rw [← hl0]; exact hl.1) (by simp [List.map_reverse, sv]) (lv_room (by rw [sv_cats]; exact hw)) hd ⟨by show _ ≤ 600000; omega, by show _ ≤ 7302250; omega⟩
  show 8 + (z.2.2.1 + 11) + 64 * d' ≤ 84000
  have := hzt.2.2.2
  omega
/-- the script's next number -/
theorem xw_arg {i k : Nat} {n : Int} (hd0 : decode cL_law pc = .ok (.aload_n 0, 1)) (hd1 : decode cL_law (pc + 1) = .ok (.iload_n 3, 1)) (hd2 : decode cL_law (pc + 2) = .ok (.iconst n, 1)) (hd3 : decode cL_law (pc + 3) = .ok (.iadd, 1)) (hd4 : decode cL_law (pc + 4) = .ok (.iaload, 1)) (hn : Int32.ofInt n = nI k) (h0 : lg ls 0 = some (.retAddr qb)) (h3 : lg ls 3 = some (.int (nI i))) (hik : i + k < qN) (hN : qN ≤ 3072) (hq : pc + 5 = q) (kk : XW E qb qN qx kc ks q ls (.int (qx (i + k)) :: st) sh I R L) : XW E qb qN qx kc ks pc ls st sh I R L := by
  subst hq
  refine xw_sload rfl hd0 rfl h0 ?_
  refine xw_iload_n rfl hd1 rfl h3 ?_
  refine xw_iconst rfl hd2 hn ?_
  refine xw_iadd rfl hd3 ?_
  exact xw_sald rfl hd4 (nI_add i k) hik hN kk
end LAWROWS

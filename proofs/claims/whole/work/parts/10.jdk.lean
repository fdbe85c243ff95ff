/-! the JDK's own methods that are reached -/
section JDK
variable {E : XE} {y : XM} {d mc ms kc ks pc q : Nat} {Q : XQ} {ls : List (Option Value)} {st : List Value} {sh : XSh} {I : XI} {R : XRf} {L : XL}
theorem xv_copy {idx src dst n0 n1 a b n : Nat} {sp dp nn : Int32} (hq : pc + 3 = q) (hd : decode y.2.1 pc = .ok (.invokestatic idx, 3)) (hl1 : Cond.methodLink y.1.cls idx arraycopyName ∈ GT) (hs0 : sh[src]? = some (8, n0)) (hs1 : sh[dst]? = some (8, n1)) (e1 : sp = nI a) (e2 : dp = nI b) (e3 : nn = nI n) (h4 : a + n ≤ n0) (h5 : b + n ≤ n1) (hn0 : n0 < 2 ^ 31) (hn1 : n1 < 2 ^ 31) (hw : Nat.ble ((st.map fun v => v.category).sum) 8 = true) (hdd : 1 ≤ d)
    (kk : XV E y d mc ms Q kc ks q ls st sh (xic I dst (va_cpy (I src) (I dst) a b n)) R L) : XV E y d mc ms Q kc ks pc ls (.int nn :: .int dp :: .ref dst :: .int sp :: .ref src :: st) sh I R L := by
  subst hq; subst e1; subst e2; subst e3
  intro p e s m args below meth c H locs cells slots arr hB hR hS hc hk hl0 hl
  have hm : ∀ {w : Cond}, w ∈ GT → w.before args s = true := fun h => hB.2.2.2.2.2.1 _ (List.mem_cons_of_mem _ h)
  have ea : (nI a).toNatClampNeg = a := nI_clamp (by omega)
  have eb : (nI b).toNatClampNeg = b := nI_clamp (by omega)
  have en : (nI n).toNatClampNeg = n := nI_clamp (by omega)
  have he0 := xw_at (E := E) (I := I) (R := R) (L := L) hs0
  have he1 := xw_at (E := E) (I := I) (R := R) (L := L) hs1
  rw [xce_int] at he0 he1
  intro T hT X
  have hc0 : H[xN E + src]? = some (vp_cell (xk E 0) (n0, .inl (I src))) := hR.1 src _ he0
  have hc1 : H[xN E + dst]? = some (vp_cell (xk E 0) (n1, .inl (I dst))) := hR.1 dst _ he1
  obtain ⟨-, k0, hk0, cm0, hkk0⟩ := (hR.2.1.2 0 _ (xty0 E)).1 n0 (fun j => .int (I src j))
  have hlen := Nat.le_of_ble_eq_true hw
  obtain ⟨vm', X', step⟩ := X.arraycopy hB.1 hB.2.2.2.2.1 (hm hl1) (hm ay_native) (hm ay_static) (hm iz_J10) (src := xN E + src) (dst := xN E + dst) (cs := vp_cell (xk E 0) (n0, .inl (I src))) (cd := vp_cell (xk E 0) (n1, .inl (I dst))) (srcPos := nI a) (destPos := nI b) (n := nI n) (by rw [hT]; exact hc0) (by rw [hT]; exact hc1)
    (fun _ h => by cases h) (fun _ h => by cases h) (fun h => by cases h) (fun h => by cases h) hk0 hk0 hkk0 hkk0 (by simp [refKind]) (nI_pos (by omega)) (nI_pos (by omega)) (nI_pos (by omega))
    (by rw [nI_toInt (by omega), nI_toInt (by omega)]; show ¬ _ > ((arrV (xk E 0) n0 (fun j => .int (I src j))).slots.size : Int); rw [arrV_size]; omega)
    (by rw [nI_toInt (by omega), nI_toInt (by omega)]; show ¬ _ > ((arrV (xk E 0) n1 (fun j => .int (I dst j))).slots.size : Int); rw [arrV_size]; omega)
    (fun vm₁ _ i hi => by
      rw [en] at hi
      have e : (vp_cell (xk E 0) (n0, .inl (I src))).slots.getD ((nI a).toNatClampNeg + i) .null = .int (I src ((nI a).toNatClampNeg + i)) := by
        show (arrV (xk E 0) n0 (fun j => .int (I src j))).slots.getD _ _ = _
        rw [Array.getD_eq_getD_getElem?, arrV_read _ _ (by omega)]
        rfl
      refine ⟨?_, ?_⟩
      · rw [e]; rfl
      · rw [e]; exact trivial)
    (g := F0 m pc arr (.int (nI n) :: .int (nI b) :: .ref (xN E + dst) :: .int (nI a) :: .ref (xN E + src) :: st.map (sv E))) rfl (by rw [hB.2.2.2.1, ← hl0, ← hl.1]) (rest := st.map (sv E)) rfl (by rw [hB.2.1]; exact hd) hdd (by show 2 * 0 + _ + (nativeFrameWords "java/lang/System" "arraycopy" 5 + 11) ≤ 64 * d; rw [sv_cats]; have hnf : nativeFrameWords "java/lang/System" "arraycopy" 5 ≤ 40 := (by decide); omega)
  have e1 : copied (vp_cell (xk E 0) (n0, .inl (I src))) (vp_cell (xk E 0) (n1, .inl (I dst))) (nI a) (nI b) (nI n) = vp_cell (xk E 0) (n1, .inl (va_cpy (I src) (I dst) a b n)) := by
    have := va_copied (sp := (nI a).toNatClampNeg) (dp := (nI b).toNatClampNeg) (n := (nI n).toNatClampNeg) (fun z => .int z) (xk E 0) (xk E 0) (n0 := n0) (n1 := n1) (I src) (I dst) (by rw [ea, en]; exact h4)
    rw [ea, eb, en] at this
    exact (show copied (vp_cell (xk E 0) (n0, .inl (I src))) (vp_cell (xk E 0) (n1, .inl (I dst))) (nI a) (nI b) (nI n) = _ by unfold copied; rw [ea, eb, en]; exact this)
  rw [e1] at X' step
  have hlt : xN E + dst < H.size := (Array.getElem?_eq_some_iff.mp hc1).1
  have hheap : ((T.setVm vm').setCell (xN E + dst) (vp_cell (xk E 0) (n1, .inl (va_cpy (I src) (I dst) a b n)))).heap = H.setIfInBounds (xN E + dst) (vp_cell (xk E 0) (n1, .inl (va_cpy (I src) (I dst) a b n))) := by rw [← hT]; rfl
  have oq : ∀ z : Nat, z ≠ xN E + dst → (H.setIfInBounds (xN E + dst) (vp_cell (xk E 0) (n1, .inl (va_cpy (I src) (I dst) a b n))))[z]? = H[z]? := fun z hz => by simp [Array.getElem?_setIfInBounds, Ne.symm hz]
  have hP1 := hR.1.set hR.2.2.1 he1 (e := .inl (xk E 0, n1, .inl (va_cpy (I src) (I dst) a b n))) (show (H.setIfInBounds _ _)[_]? = some _ by simp [Array.getElem?_setIfInBounds, hlt]) oq
  have hD1 := hR.2.2.1.set (e := .inl (xk E 0, n1, .inl (va_cpy (I src) (I dst) a b n))) he1
  have hz1 : (H.setIfInBounds (xN E + dst) (vp_cell (xk E 0) (n1, .inl (va_cpy (I src) (I dst) a b n)))).size = H.size := by simp
  have hS1 : ∀ L1 : List Loc, (∀ l ∈ L1, l.base = xN E + dst) → va_S (xA E) s.heap (H.setIfInBounds (xN E + dst) (vp_cell (xk E 0) (n1, .inl (va_cpy (I src) (I dst) a b n)))) (locs ++ L1) := fun L1 hL1 => ⟨by rw [hz1]; exact hS.1, fun z g1 g2 => by
      rw [oq z (fun e => g2 (by rw [e]; exact hR.2.2.1.2 dst _ he1))]
      exact hS.2.1 z g1 g2, fun l hl => by
      rcases List.mem_append.mp hl with h | h
      · exact hS.2.2 l h
      · rw [hL1 l h]; exact hR.2.2.1.2 dst _ he1⟩
  have hR1 := xr_put hR hs1 (I' := xic I dst (va_cpy (I src) (I dst) a b n)) (R' := R) (L' := L) (by rw [xce_int, xic_row]) (fun z hz => xic_off I dst _ hz) (fun _ _ => rfl) (fun _ _ => rfl) hP1 hD1 hz1 ⟨hS.1, hS.2.1, fun _ h => by cases h⟩ (hS1 [] (fun _ h => by cases h)) hB.2.2.2.2.2.2.2.2
  obtain ⟨t, a1, b1⟩ := kk p e s m args below meth c _ _ cells slots arr hB hR1 (hS1 _ (fun l hl => by
      obtain ⟨z, -, hz⟩ := List.mem_map.mp hl
      rw [← hz])) hc hk hl0 hl _ hheap X'
  exact ⟨t, step t a1, b1⟩

theorem xv_max {idx : Nat} {a b : Int32} (hq : pc + 3 = q) (hd : decode y.2.1 pc = .ok (.invokestatic idx, 3)) (hl1 : Cond.methodLink y.1.cls idx yJ9_max_7cf53 ∈ GT) (hw : Nat.ble ((st.map fun v => v.category).sum) 8 = true) (hdd : 1 ≤ d) (kk : XV E y d mc ms Q kc ks q ls (.int (if a < b then b else a) :: st) sh I R L) : XV E y d mc ms Q kc ks pc ls (.int b :: .int a :: st) sh I R L := by
  subst hq
  intro p e s m args below meth c H locs cells slots arr hB hR hS hc hk hl0 hl
  have hm : ∀ {w : Cond}, w ∈ GT → w.before args s = true := fun h => hB.2.2.2.2.2.1 _ (List.mem_cons_of_mem _ h)
  have hlen := Nat.le_of_ble_eq_true hw
  exact va_mmax hB.1 hB.2.1 (by rw [hB.2.2.2.1, ← hl0, hl.1]) hB.2.2.2.2.1 (hm hl1) (hm gJ9_max_7cf53.2) (hm iz_J9) (hm gJ9_max_7cf53.1.1) hdd (by show _ ≤ 64 * d; rw [sv_cats]; omega) (by show _ ≤ mc; omega) (by show _ ≤ ms; omega) hd (kk p e s m args below meth c H locs cells slots arr hB hR hS hc hk hl0 hl)
theorem xv_min {idx : Nat} {a b : Int32} (hq : pc + 3 = q) (hd : decode y.2.1 pc = .ok (.invokestatic idx, 3)) (hl1 : Cond.methodLink y.1.cls idx yJ9_min_7cf53 ∈ GT) (hw : Nat.ble ((st.map fun v => v.category).sum) 8 = true) (hdd : 1 ≤ d) (kk : XV E y d mc ms Q kc ks q ls (.int (if b < a then b else a) :: st) sh I R L) : XV E y d mc ms Q kc ks pc ls (.int b :: .int a :: st) sh I R L := by
  subst hq
  intro p e s m args below meth c H locs cells slots arr hB hR hS hc hk hl0 hl
  have hm : ∀ {w : Cond}, w ∈ GT → w.before args s = true := fun h => hB.2.2.2.2.2.1 _ (List.mem_cons_of_mem _ h)
  have hlen := Nat.le_of_ble_eq_true hw
  exact va_mmin hB.1 hB.2.1 (by rw [hB.2.2.2.1, ← hl0, hl.1]) hB.2.2.2.2.1 (hm hl1) (hm gJ9_min_7cf53.2) (hm iz_J9) (hm gJ9_min_7cf53.1.1) hdd (by show _ ≤ 64 * d; rw [sv_cats]; omega) (by show _ ≤ mc; omega) (by show _ ≤ ms; omega) hd (kk p e s m args below meth c H locs cells slots arr hB hR hS hc hk hl0 hl)

theorem nIlt {a b : Nat} (h : nI a < nI b) (ha : a < 2 ^ 31) (hb : b < 2 ^ 31) : a < b := (nI_ltI ha hb).mp h
theorem nIle {a b : Nat} (h : nI a ≤ nI b) (ha : a < 2 ^ 31) (hb : b < 2 ^ 31) : a ≤ b := (nI_leI ha hb).mp h
theorem nInlt {a b : Nat} (h : ¬ nI a < nI b) (ha : a < 2 ^ 31) (hb : b < 2 ^ 31) : b ≤ a := Nat.not_lt.mp fun z => h ((nI_ltI ha hb).mpr z)
theorem nInle {a b : Nat} (h : ¬ nI a ≤ nI b) (ha : a < 2 ^ 31) (hb : b < 2 ^ 31) : b < a := Nat.not_le.mp fun z => h ((nI_leI ha hb).mpr z)
theorem nIe {a b : Nat} (h : nI a = nI b) (ha : a < 2 ^ 31) (hb : b < 2 ^ 31) : a = b := (nI_eq ha hb).mp h
theorem ile {a b : Int32} (h : ¬ b ≤ a) : a < b := Int32.not_le.mp h
theorem ilt {a b : Int32} (h : ¬ a < b) : b ≤ a := Int32.not_lt.mp h
theorem ilen {a b : Int32} (h : b ≤ a) : ¬ a < b := Int32.not_lt.mpr h
def popc (x : Nat) : Nat := x % 2 + x / 2 % 2 + x / 4 % 2 + x / 8 % 2 + x / 16 % 2
theorem c_bitCount {b : Nat} (hb : b < 32) : XC E mJ6_bitCount_0f7a4 d 0 0 [.int (nI b)] sh I R L (xq (some (.int (nI (popc b)))) sh I R L) := by
  refine XC.of (by decide) rfl rfl ?_
  refine xv_iload_n (q := 1) rfl dJ6_bitCount_0f7a4_0 rfl rfl ?_
  refine xv_iload_n (q := 2) rfl dJ6_bitCount_0f7a4_1 rfl rfl ?_
  refine xv_iconst (v := nI 1) (q := 3) rfl dJ6_bitCount_0f7a4_2 rfl ?_
  refine xv_iushr (q := 4) rfl dJ6_bitCount_0f7a4_3 ?_
  refine xv_ldcw (q := 7) rfl dJ6_bitCount_0f7a4_4 k_J6_265 ?_
  refine xv_iand (q := 8) rfl dJ6_bitCount_0f7a4_7 ?_
  refine xv_isub (q := 9) rfl dJ6_bitCount_0f7a4_8 ?_
  refine xv_istore_n (q := 10) rfl dJ6_bitCount_0f7a4_9 rfl rfl ?_
  refine xv_iload_n (q := 11) rfl dJ6_bitCount_0f7a4_10 rfl rfl ?_
  refine xv_ldcw (q := 14) rfl dJ6_bitCount_0f7a4_11 k_J6_266 ?_
  refine xv_iand (q := 15) rfl dJ6_bitCount_0f7a4_14 ?_
  refine xv_iload_n (q := 16) rfl dJ6_bitCount_0f7a4_15 rfl rfl ?_
  refine xv_iconst (v := nI 2) (q := 17) rfl dJ6_bitCount_0f7a4_16 rfl ?_
  refine xv_iushr (q := 18) rfl dJ6_bitCount_0f7a4_17 ?_
  refine xv_ldcw (q := 21) rfl dJ6_bitCount_0f7a4_18 k_J6_266 ?_
  refine xv_iand (q := 22) rfl dJ6_bitCount_0f7a4_21 ?_
  refine xv_iadd (q := 23) rfl dJ6_bitCount_0f7a4_22 ?_
  refine xv_istore_n (q := 24) rfl dJ6_bitCount_0f7a4_23 rfl rfl ?_
  refine xv_iload_n (q := 25) rfl dJ6_bitCount_0f7a4_24 rfl rfl ?_
  refine xv_iload_n (q := 26) rfl dJ6_bitCount_0f7a4_25 rfl rfl ?_
  refine xv_iconst (v := nI 4) (q := 27) rfl dJ6_bitCount_0f7a4_26 rfl ?_
  refine xv_iushr (q := 28) rfl dJ6_bitCount_0f7a4_27 ?_
  refine xv_iadd (q := 29) rfl dJ6_bitCount_0f7a4_28 ?_
  refine xv_ldcw (q := 32) rfl dJ6_bitCount_0f7a4_29 k_J6_267 ?_
  refine xv_iand (q := 33) rfl dJ6_bitCount_0f7a4_32 ?_
  refine xv_istore_n (q := 34) rfl dJ6_bitCount_0f7a4_33 rfl rfl ?_
  refine xv_iload_n (q := 35) rfl dJ6_bitCount_0f7a4_34 rfl rfl ?_
  refine xv_iload_n (q := 36) rfl dJ6_bitCount_0f7a4_35 rfl rfl ?_
  refine xv_bipush (v := nI 8) (q := 38) rfl dJ6_bitCount_0f7a4_36 rfl ?_
  refine xv_iushr (q := 39) rfl dJ6_bitCount_0f7a4_38 ?_
  refine xv_iadd (q := 40) rfl dJ6_bitCount_0f7a4_39 ?_
  refine xv_istore_n (q := 41) rfl dJ6_bitCount_0f7a4_40 rfl rfl ?_
  refine xv_iload_n (q := 42) rfl dJ6_bitCount_0f7a4_41 rfl rfl ?_
  refine xv_iload_n (q := 43) rfl dJ6_bitCount_0f7a4_42 rfl rfl ?_
  refine xv_bipush (v := nI 16) (q := 45) rfl dJ6_bitCount_0f7a4_43 rfl ?_
  refine xv_iushr (q := 46) rfl dJ6_bitCount_0f7a4_45 ?_
  refine xv_iadd (q := 47) rfl dJ6_bitCount_0f7a4_46 ?_
  refine xv_istore_n (q := 48) rfl dJ6_bitCount_0f7a4_47 rfl rfl ?_
  refine xv_iload_n (q := 49) rfl dJ6_bitCount_0f7a4_48 rfl rfl ?_
  refine xv_bipush (v := nI 63) (q := 51) rfl dJ6_bitCount_0f7a4_49 rfl ?_
  refine xv_iand (q := 52) rfl dJ6_bitCount_0f7a4_51 ?_
  refine xv_iret dJ6_bitCount_0f7a4_52 rfl ?_
  refine ⟨congrArg (fun z => some (Value.int z)) ?_, rfl, rfl, rfl, rfl⟩
  revert b hb
  decide +kernel
/-- the first i places filled -/
def fil (f : Nat → Int32) (x : Int32) (i : Nat) : Nat → Int32 := fun j => if j < i then x else f j
theorem fil_0 (f : Nat → Int32) (x : Int32) : fil f x 0 = f := by funext j; simp [fil]
theorem fil_s (f : Nat → Int32) (x : Int32) (i : Nat) : upd (fil f x i) i x = fil f x (i + 1) := by
  funext j
  by_cases h : j = i
  · subst h; simp [fil, upd]
  · by_cases h2 : j < i
    · simp [fil, upd, h, h2, Nat.lt_succ_of_lt h2]
    · have h3 : ¬ j < i + 1 := by omega
      simp [fil, upd, h, h2, h3]
theorem xi_xic (I : XI) (k j : Nat) (f : Nat → Int32) (x : Int32) : xi (xic I k f) k j x = xic I k (upd f j x) := by
  funext a
  by_cases h : a = k
  · subst h; simp [xi, xic]
  · simp [xi, xic, h]
theorem xic_self (I : XI) (k : Nat) : xic I k (I k) = I := by
  funext a
  by_cases h : a = k
  · subst h; simp [xic]
  · simp [xic, h]
theorem xi_as (I : XI) (k j : Nat) (x : Int32) : xi I k j x = xic I k (upd (I k) j x) := by
  funext a
  by_cases h : a = k
  · subst h; simp [xi, xic]
  · simp [xi, xic, h]
theorem c_fill_loop {a N : Nat} {x : Int32} (hs : sh[a]? = some (8, N)) (hN : N < 2 ^ 31) : ∀ (k i : Nat), i ≤ N → N < i + k → XV E mJ7_fill_53178 d 0 0 (xq none sh (xic I a (fil (I a) x N)) R L) 0 0 5 [some (.ref a), some (.int x), some (.int (nI i)), some (.int (nI N))] [] sh (xic I a (fil (I a) x i)) R L := by
  intro k
  induction k with
  | zero => intro i h1 h2; exact absurd h2 (by omega)
  | succ k ih =>
    intro i h1 h2
    refine xv_iload_n (q := 6) rfl dJ7_fill_53178_5 rfl rfl ?_
    refine xv_iload_n (q := 7) rfl dJ7_fill_53178_6 rfl rfl ?_
    refine xv_icmp_ge (q := 10) (t := 20) rfl rfl dJ7_fill_53178_7 (fun h7 => ?_) (fun h7 => ?_)
    · have hi : i = N := by have := nIle h7 (by omega) (by omega); omega
      refine xv_vret dJ7_fill_53178_20 rfl ?_
      rw [hi]
      exact xq_rfl
    · have hi : i < N := nInle h7 (by omega) (by omega)
      refine xv_aload_n (q := 11) rfl dJ7_fill_53178_10 rfl rfl ?_
      refine xv_iload_n (q := 12) rfl dJ7_fill_53178_11 rfl rfl ?_
      refine xv_iload_n (q := 13) rfl dJ7_fill_53178_12 rfl rfl ?_
      refine xv_iast (q := 14) rfl dJ7_fill_53178_13 hs rfl (by omega) hN ?_
      refine xv_iinc (q := 17) (v := nI 1) rfl dJ7_fill_53178_14 rfl rfl ?_
      refine xv_goto (t := 5) rfl dJ7_fill_53178_17 ?_
      rw [nI_add, xi_xic, fil_s]
      exact ih (i + 1) (by omega) (by omega)
theorem c_fill {a N : Nat} {x : Int32} (hs : sh[a]? = some (8, N)) (hN : N < 2 ^ 31) : XC E mJ7_fill_53178 d 0 0 [.ref a, .int x] sh I R L (xq none sh (xic I a (fil (I a) x N)) R L) := by
  refine XC.of (by decide) rfl rfl ?_
  refine xv_iconst (v := nI 0) (q := 1) rfl dJ7_fill_53178_0 rfl ?_
  refine xv_istore_n (q := 2) rfl dJ7_fill_53178_1 rfl rfl ?_
  refine xv_aload_n (q := 3) rfl dJ7_fill_53178_2 rfl rfl ?_
  refine xv_alen (q := 4) rfl dJ7_fill_53178_3 hs (by decide) ?_
  refine xv_istore_n (q := 5) rfl dJ7_fill_53178_4 rfl rfl ?_
  have h0 := c_fill_loop (E := E) (d := d) (I := I) (R := R) (L := L) (x := x) hs hN (N + 1) 0 (by omega) (by omega)
  rw [fil_0, xic_self] at h0
  exact h0
end JDK

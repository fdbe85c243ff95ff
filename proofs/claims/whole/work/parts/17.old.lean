set_option maxRecDepth 20000 in
theorem fs_above : Cond.fieldLink "GetsOutFirst" 268 "GetsOutFirst" "ABOVE" "[I" ∈ GT := gt_t3 227 rfl rfl
set_option maxRecDepth 20000 in
theorem fs_compact : Cond.fieldLink "java/lang/String" 38 "java/lang/String" "COMPACT_STRINGS" "Z" ∈ GT := gt_t2 106 rfl rfl
set_option maxRecDepth 20000 in
theorem fs_value : Cond.fieldLink "java/lang/String" 9 "java/lang/String" "value" "[B" ∈ GT := gt_t5 222 rfl rfl
set_option maxRecDepth 20000 in
theorem fs_coder : Cond.fieldLink "java/lang/String" 15 "java/lang/String" "coder" "B" ∈ GT := gt_t5 223 rfl rfl
set_option maxRecDepth 20000 in
theorem fs_sio : Cond.fieldLink "java/lang/String" 1053 "jdk/internal/util/Preconditions" "SIOOBE_FORMATTER" "Ljava/util/function/BiFunction;" ∈ GT := gt_t2 122 rfl rfl
def sw (i : Nat) : Value := .float (UInt32.ofNat (1 + i))
def sb (i : Nat) : Value := .float (UInt32.ofNat (101 + i))
theorem sv_sw (E : XE) {i : Nat} (h : i < 12) : sv E (sw i) = .ref (xp E (1 + i)) := by
  show Value.ref (xp E (UInt32.ofNat (1 + i)).toNat) = _
  rw [show (UInt32.ofNat (1 + i)).toNat = 1 + i from by simp; omega]
theorem sv_sb (E : XE) {i : Nat} (h : i < 12) : sv E (sb i) = .ref (xp E (101 + i)) := by
  show Value.ref (xp E (UInt32.ofNat (101 + i)).toNat) = _
  rw [show (UInt32.ofNat (101 + i)).toNat = 101 + i from by simp; omega]
theorem xs_kept {E : XE} {sh : XSh} {I : XI} {R : XRf} {L : XL} {s : State} {H : Heap} {locs : List Loc} (hR : XR E sh I R L s H) (hS : va_S (xA E) s.heap H locs) (hN : xN E ≤ s.heap.size) : ∀ a : Nat, a < E.2.1.size → ¬ xA E a → s.heap[a]? = E.2.1[a]? := fun a ha hna => by rw [← hS.2.1 a (Nat.lt_of_lt_of_le ha hN) hna]; exact hR.2.2.2.2.1 a ha
section XOLD
variable {E : XE} {y : XM} {d mc ms kc ks pc q : Nat} {Q : XQ} {ls : List (Option Value)} {st : List Value} {sh : XSh} {I : XI} {R : XRf} {L : XL}
theorem xv_getsA {idx : Nat} (hq : pc + 3 = q) (hd : decode y.2.1 pc = .ok (.getstatic idx, 3)) (hw : Cond.fieldLink y.1.cls idx "GetsOutFirst" "ABOVE" "[I" ∈ GT) (kk : XV E y d mc ms Q kc ks q ls (.float 0 :: st) sh I R L) : XV E y d mc ms Q kc ks pc ls st sh I R L := by
  subst hq
  intro p e s m args below meth c H locs cells slots arr hB hR hS hc hk hl0 hl
  have hm : ∀ {w : Cond}, w ∈ GT → w.before args s = true := fun h => hB.2.2.2.2.2.1 _ (List.mem_cons_of_mem _ h)
  have hkp := xs_kept hR hS hB.2.2.2.2.2.2.2.2
  obtain ⟨x1, x2, x3, x4, x5, x6, x7, x8, x9, x10⟩ := hR.2.2.2.2.2.2
  exact va_gets hB.1 hB.2.1 (x9.kept hkp) hS hB.2.2.2.2.1 (hm hw) (fun _ h => h) hd (kk p e s m args below meth c H locs cells slots arr hB hR hS hc hk hl0 hl)
theorem xv_getsC {idx : Nat} (hq : pc + 3 = q) (hd : decode y.2.1 pc = .ok (.getstatic idx, 3)) (hw : Cond.fieldLink y.1.cls idx "java/lang/String" "COMPACT_STRINGS" "Z" ∈ GT) (kk : XV E y d mc ms Q kc ks q ls (.int (nI 1) :: st) sh I R L) : XV E y d mc ms Q kc ks pc ls st sh I R L := by
  subst hq
  intro p e s m args below meth c H locs cells slots arr hB hR hS hc hk hl0 hl
  have hm : ∀ {w : Cond}, w ∈ GT → w.before args s = true := fun h => hB.2.2.2.2.2.1 _ (List.mem_cons_of_mem _ h)
  have hkp := xs_kept hR hS hB.2.2.2.2.2.2.2.2
  obtain ⟨x1, x2, x3, x4, x5, x6, x7, x8, x9, x10⟩ := hR.2.2.2.2.2.2
  exact va_gets hB.1 hB.2.1 (x7.kept hkp) hS hB.2.2.2.2.1 (hm hw) (fun _ h => h) hd (kk p e s m args below meth c H locs cells slots arr hB hR hS hc hk hl0 hl)
theorem xv_getsS {idx : Nat} (hq : pc + 3 = q) (hd : decode y.2.1 pc = .ok (.getstatic idx, 3)) (hw : Cond.fieldLink y.1.cls idx "jdk/internal/util/Preconditions" "SIOOBE_FORMATTER" "Ljava/util/function/BiFunction;" ∈ GT) (kk : ∀ v : Value, (v = .null ∨ ∃ t, v = .retAddr t) → XV E y d mc ms Q kc ks q ls (v :: st) sh I R L) : XV E y d mc ms Q kc ks pc ls st sh I R L := by
  subst hq
  intro p e s m args below meth c H locs cells slots arr hB hR hS hc hk hl0 hl
  have hm : ∀ {w : Cond}, w ∈ GT → w.before args s = true := fun h => hB.2.2.2.2.2.1 _ (List.mem_cons_of_mem _ h)
  have hkp := xs_kept hR hS hB.2.2.2.2.2.2.2.2
  obtain ⟨x1, x2, x3, x4, x5, x6, x7, x8, x9, x10⟩ := hR.2.2.2.2.2.2
  rcases x8 with x8 | ⟨t, x8⟩
  · exact va_gets hB.1 hB.2.1 (x8.kept hkp) hS hB.2.2.2.2.1 (hm hw) (fun _ h => h) hd (kk .null (Or.inl rfl) p e s m args below meth c H locs cells slots arr hB hR hS hc hk hl0 hl)
  · exact va_gets hB.1 hB.2.1 (x8.kept hkp) hS hB.2.2.2.2.1 (hm hw) (fun _ h => h) hd (kk (.retAddr t) (Or.inr ⟨t, rfl⟩) p e s m args below meth c H locs cells slots arr hB hR hS hc hk hl0 hl)
theorem xv_abld {i : Int32} {j : Nat} (hq : pc + 1 = q) (hd : decode y.2.1 pc = .ok (.iaload, 1)) (hi : i = nI j) (hj : j < 6) (kk : XV E y d mc ms Q kc ks q ls (.int (xab.getD j 0) :: st) sh I R L) : XV E y d mc ms Q kc ks pc ls (.int i :: .float 0 :: st) sh I R L := by
  subst hq; subst hi
  intro p e s m args below meth c H locs cells slots arr hB hR hS hc hk hl0 hl
  have hm : ∀ {w : Cond}, w ∈ GT → w.before args s = true := fun h => hB.2.2.2.2.2.1 _ (List.mem_cons_of_mem _ h)
  have hkp := xs_kept hR hS hB.2.2.2.2.2.2.2.2
  obtain ⟨x1, x2, x3, x4, x5, x6, x7, x8, x9, x10⟩ := hR.2.2.2.2.2.2
  obtain ⟨cell, t1, t2, t3, t4, t5, t6, t7⟩ := x10
  have e1 : (nI j).toNatClampNeg = j := nI_clamp (by omega)
  have hb : xp E 0 < xN E := (Array.getElem?_eq_some_iff.mp t1).1
  exact W.iald (a := xp E 0) (v := .int (xab.getD j 0)) hB.1 hB.2.1 (by rw [hR.2.2.2.2.1 _ hb]; exact t1) t2 t3 (by rw [e1]; exact fun z => z.elim (nI_pos (by omega)) (fun z => by omega)) (by rw [e1]; exact t6 j hj) rfl rfl hd (kk p e s m args below meth c H locs cells slots arr hB hR hS hc hk hl0 hl)
theorem xv_ldcS {i : Nat} (hi : i < 12) (hy : y.1.cls = "GetsOutFirst$Reader") (hq : pc + 2 = q) (hd : decode y.2.1 pc = .ok (.ldc (104 + 2 * i), 2)) (kk : XV E y d mc ms Q kc ks q ls (sw i :: st) sh I R L) : XV E y d mc ms Q kc ks pc ls st sh I R L := by
  subst hq
  intro p e s m args below meth c H locs cells slots arr hB hR hS hc hk hl0 hl
  have hm : ∀ {w : Cond}, w ∈ GT → w.before args s = true := fun h => hB.2.2.2.2.2.1 _ (List.mem_cons_of_mem _ h)
  have hkp := xs_kept hR hS hB.2.2.2.2.2.2.2.2
  obtain ⟨x1, x2, x3, x4, x5, x6, x7, x8, x9, x10⟩ := hR.2.2.2.2.2.2
  have h5 := x5 i hi
  rw [← hy] at h5
  refine va_ldcS hB.1 hB.2.1 hB.2.2.2.2.1 h5 hd ?_
  have := kk p e s m args below meth c H locs cells slots arr hB hR hS hc hk hl0 hl
  rw [List.map_cons, sv_sw E hi] at this
  exact this
theorem xv_sval {i : Nat} {idx : Nat} (hi : i < 12) (hq : pc + 3 = q) (hd : decode y.2.1 pc = .ok (.getfield idx, 3)) (hw : Cond.fieldLink y.1.cls idx "java/lang/String" "value" "[B" ∈ GT) (kk : XV E y d mc ms Q kc ks q ls (sb i :: st) sh I R L) : XV E y d mc ms Q kc ks pc ls (sw i :: st) sh I R L := by
  subst hq
  intro p e s m args below meth c H locs cells slots arr hB hR hS hc hk hl0 hl
  have hm : ∀ {w : Cond}, w ∈ GT → w.before args s = true := fun h => hB.2.2.2.2.2.1 _ (List.mem_cons_of_mem _ h)
  have hkp := xs_kept hR hS hB.2.2.2.2.2.2.2.2
  obtain ⟨x1, x2, x3, x4, x5, x6, x7, x8, x9, x10⟩ := hR.2.2.2.2.2.2
  have := kk p e s m args below meth c H locs cells slots arr hB hR hS hc hk hl0 hl
  rw [List.map_cons, sv_sb E hi] at this
  rw [List.map_cons, sv_sw E hi]
  exact vk_getf hB.1 hB.2.1 ((x6.1 i hi).2.2.1.kept hkp) hS hB.2.2.2.2.1 (hm hw) (fun _ h => h) hd this
theorem xv_scod {i : Nat} {idx : Nat} (hi : i < 12) (hq : pc + 3 = q) (hd : decode y.2.1 pc = .ok (.getfield idx, 3)) (hw : Cond.fieldLink y.1.cls idx "java/lang/String" "coder" "B" ∈ GT) (kk : XV E y d mc ms Q kc ks q ls (.int (nI 0) :: st) sh I R L) : XV E y d mc ms Q kc ks pc ls (sw i :: st) sh I R L := by
  subst hq
  intro p e s m args below meth c H locs cells slots arr hB hR hS hc hk hl0 hl
  have hm : ∀ {w : Cond}, w ∈ GT → w.before args s = true := fun h => hB.2.2.2.2.2.1 _ (List.mem_cons_of_mem _ h)
  have hkp := xs_kept hR hS hB.2.2.2.2.2.2.2.2
  obtain ⟨x1, x2, x3, x4, x5, x6, x7, x8, x9, x10⟩ := hR.2.2.2.2.2.2
  rw [List.map_cons, sv_sw E hi]
  exact vk_getf hB.1 hB.2.1 ((x6.1 i hi).2.1.kept hkp) hS hB.2.2.2.2.1 (hm hw) (fun _ h => h) hd (kk p e s m args below meth c H locs cells slots arr hB hR hS hc hk hl0 hl)
theorem xv_slen {i : Nat} (hi : i < 12) (hq : pc + 1 = q) (hd : decode y.2.1 pc = .ok (.arraylength, 1)) (kk : XV E y d mc ms Q kc ks q ls (.int (nI (xwl.getD i 0)) :: st) sh I R L) : XV E y d mc ms Q kc ks pc ls (sb i :: st) sh I R L := by
  subst hq
  intro p e s m args below meth c H locs cells slots arr hB hR hS hc hk hl0 hl
  have hm : ∀ {w : Cond}, w ∈ GT → w.before args s = true := fun h => hB.2.2.2.2.2.1 _ (List.mem_cons_of_mem _ h)
  have hkp := xs_kept hR hS hB.2.2.2.2.2.2.2.2
  obtain ⟨x1, x2, x3, x4, x5, x6, x7, x8, x9, x10⟩ := hR.2.2.2.2.2.2
  rw [List.map_cons, sv_sb E hi]
  exact va_tlen hB.1 hB.2.1 ((x6.1 i hi).2.2.2.kept hkp) hS rfl hd (kk p e s m args below meth c H locs cells slots arr hB hR hS hc hk hl0 hl)
theorem xv_sbld {i j : Nat} {k : Int32} (hi : i < 12) (hq : pc + 1 = q) (hd : decode y.2.1 pc = .ok (.baload, 1)) (hk2 : k = nI j) (hj : j < xwl.getD i 0) (kk : XV E y d mc ms Q kc ks q ls (.int ((xwb.getD i []).getD j 0) :: st) sh I R L) : XV E y d mc ms Q kc ks pc ls (.int k :: sb i :: st) sh I R L := by
  subst hq; subst hk2
  intro p e s m args below meth c H locs cells slots arr hB hR hS hc hk hl0 hl
  have hm : ∀ {w : Cond}, w ∈ GT → w.before args s = true := fun h => hB.2.2.2.2.2.1 _ (List.mem_cons_of_mem _ h)
  have hkp := xs_kept hR hS hB.2.2.2.2.2.2.2.2
  obtain ⟨x1, x2, x3, x4, x5, x6, x7, x8, x9, x10⟩ := hR.2.2.2.2.2.2
  obtain ⟨cell, t1, t2, t3, t4, t5, t6, t7⟩ := (x6.1 i hi).2.2.2
  have hw6 : xwl.getD i 0 ≤ 6 := (by decide : ∀ i, i < 12 → xwl.getD i 0 ≤ 6) i hi
  have e1 : (nI j).toNatClampNeg = j := nI_clamp (by omega)
  have hb : xp E (101 + i) < xN E := (Array.getElem?_eq_some_iff.mp t1).1
  rw [List.map_cons, List.map_cons, sv_sb E hi]
  exact W.bald (a := xp E (101 + i)) (v := .int ((xwb.getD i []).getD j 0)) hB.1 hB.2.1 (by rw [hR.2.2.2.2.1 _ hb]; exact t1) t2 t3 (by rw [e1]; exact fun z => z.elim (nI_pos (by omega)) (fun z => by omega)) (by rw [e1]; exact t6 j hj) rfl rfl hd (kk p e s m args below meth c H locs cells slots arr hB hR hS hc hk hl0 hl)
theorem xv_callVS {z : XM} {idx n i d' : Nat} {as stk : List Value} {Q' : XQ} (hi : i < 12) (hq : pc + 3 = q) (hd : decode y.2.1 pc = .ok (.invokevirtual idx, 3)) (hl1 : Cond.methodLink y.1.cls idx z.1 ∈ GT) (hz : XMv z n) (hzc : z.1.cls = "java/lang/String") (hn : as.length = n)
    (hstk : stk = as.reverse ++ sw i :: st) (hw : (st.map fun v => v.category).sum ≤ 8) (hC : XC E z d' 0 0 (sw i :: as) sh I R L Q') (hdd : d' + 1 ≤ d)
    (kk : ∀ (v : Option Value) (sh' : XSh) (I' : XI) (R' : XRf) (L' : XL), Q' v sh' I' R' L' → XV E y d mc ms Q kc ks q ls (v.toList ++ st) sh' I' R' L') : XV E y d mc ms Q kc ks pc ls stk sh I R L := by
  subst hq; subst hstk
  intro p e s m args below meth c H locs cells slots arr hB hR hS hc hk hl0 hl
  have hm : ∀ {w : Cond}, w ∈ GT → w.before args s = true := fun h => hB.2.2.2.2.2.1 _ (List.mem_cons_of_mem _ h)
  have hkp := xs_kept hR hS hB.2.2.2.2.2.2.2.2
  obtain ⟨x1, x2, x3, x4, x5, x6, x7, x8, x9, x10⟩ := hR.2.2.2.2.2.2
  obtain ⟨hzt, hz2, hz3⟩ := hz
  refine xv_after (mc' := 0) (ms' := 0) (a := (Value.ref (xp E (1 + i)) :: as.map (sv E)).toArray) ?_ hB hR hS (by omega) (by omega) hl0 hl kk
  have hC' : Met E.1 z.1 (xws z) (xrm d' 0 0) (va_Pc (Value.ref (xp E (1 + i)) :: as.map (sv E)) (fun U => XR E sh I R L U U.heap)) (xQc E Q') 0 0 (xA E) := by
    have := hC
    unfold XC at this
    rw [List.map_cons, sv_sw E hi] at this
    exact this
  refine va_runV (As := as.map (sv E)) (own := y.1.cls) (C := z.1.cls) (Ts := xws y) (n := n) (nL := y.2.2.1) ⟨hB.1, hB.2.1, hB.2.2.2.1, hB.2.2.2.2.1, hB.2.2.2.2.2.1⟩ hC' (cwV n hB.2.2.2.2.2.1 (gt_sub (fun w hw => ?_) _) rfl rfl rfl ⟨rfl, hzt.2.2.1⟩ ⟨hdd, ?_⟩) ⟨xpc_blind, (by have hrv := vk_recv (i := i) (x6.kept hkp) hi hS; rw [hzc]; exact hrv), fun U hU hW => ⟨rfl, by show XR E sh I R L U U.heap; rw [hU]; exact hR.warm hW⟩⟩ rfl (by rw [List.length_map]; exact hn) (by rw [← hl0]; exact hl.1) (by simp [List.map_reverse, sv_sw E hi]) (lv_room (by rw [sv_cats]; exact hw)) hd ⟨by show _ ≤ mc; omega, by show _ ≤ ms; omega⟩
  · unfold wsV at hw
    rcases List.mem_append.mp hw with h | h
    · simp only [List.mem_cons, List.not_mem_nil, or_false] at h
      rcases h with rfl | rfl | rfl | rfl
      · exact hl1
      · exact hz2
      · exact hz3
      · exact hzt.2.1
    · exact gt_xws hzt w h
  · show 8 + (z.2.2.1 + 11) + 64 * d' ≤ 64 * d
    have := hzt.2.2.2
    omega
theorem xv_cVS0 {z : XM} {idx i d' : Nat} {v : Option Value} {sh' : XSh} {I' : XI} {R' : XRf} {L' : XL} (hi : i < 12) (hq : pc + 3 = q) (hd : decode y.2.1 pc = .ok (.invokevirtual idx, 3)) (hl1 : Cond.methodLink y.1.cls idx z.1 ∈ GT) (hz : XMv z 0) (hzc : z.1.cls = "java/lang/String") (hw : Nat.ble ((st.map fun v => v.category).sum) 8 = true) (hC : XC E z d' 0 0 [sw i] sh I R L (xq v sh' I' R' L')) (hdd : d' + 1 ≤ d) (kk : XV E y d mc ms Q kc ks q ls (v.toList ++ st) sh' I' R' L') : XV E y d mc ms Q kc ks pc ls (sw i :: st) sh I R L :=
  xv_callVS (as := []) hi hq hd hl1 hz hzc rfl rfl (Nat.le_of_ble_eq_true hw) hC hdd (fun a b c d e h => by obtain ⟨rfl, rfl, rfl, rfl, rfl⟩ := h; exact kk)
theorem xv_cVS1 {z : XM} {idx i d' : Nat} {a1 : Value} {v : Option Value} {sh' : XSh} {I' : XI} {R' : XRf} {L' : XL} (hi : i < 12) (hq : pc + 3 = q) (hd : decode y.2.1 pc = .ok (.invokevirtual idx, 3)) (hl1 : Cond.methodLink y.1.cls idx z.1 ∈ GT) (hz : XMv z 1) (hzc : z.1.cls = "java/lang/String") (hw : Nat.ble ((st.map fun v => v.category).sum) 8 = true) (hC : XC E z d' 0 0 [sw i, a1] sh I R L (xq v sh' I' R' L')) (hdd : d' + 1 ≤ d) (kk : XV E y d mc ms Q kc ks q ls (v.toList ++ st) sh' I' R' L') : XV E y d mc ms Q kc ks pc ls (a1 :: sw i :: st) sh I R L :=
  xv_callVS (as := [a1]) hi hq hd hl1 hz hzc rfl rfl (Nat.le_of_ble_eq_true hw) hC hdd (fun a b c d e h => by obtain ⟨rfl, rfl, rfl, rfl, rfl⟩ := h; exact kk)
end XOLD

/-! a copy of a row -/
theorem cw_same : Cond.sameMethod "[I" "java/lang/Object" "clone" "()Ljava/lang/Object;" ∈ GT := gt_t2 188 rfl rfl
theorem cw_nat : Cond.native ⟨"java/lang/Object", "clone", "()Ljava/lang/Object;"⟩ ∈ GT := gt_t2 189 rfl rfl
theorem cw_inst : Cond.instanceMethod ⟨"java/lang/Object", "clone", "()Ljava/lang/Object;"⟩ ∈ GT := gt_t2 190 rfl rfl
theorem cw_sel : Cond.selects "[I" ⟨"[I", "clone", "()Ljava/lang/Object;"⟩ ⟨"java/lang/Object", "clone", "()Ljava/lang/Object;"⟩ ∈ GT := gt_t2 191 rfl rfl
theorem xr_newc {E : XE} {sh : XSh} {I I' : XI} {R : XRf} {L : XL} {s : State} {H H1 : Heap} {H0 : Heap} {locs : List Loc} (q : Nat × Nat) (h : XR E sh I R L s H) (hI : ∀ a, a ≠ sh.length → I' a = I a) (hc : va_at (xD E) vwCl (xN E + sh.length, xce E q sh.length I' R L) H1) (hz : H1.size = H.size + 1) (ho : ∀ a : Nat, a < H.size → H1[a]? = H[a]?) (hS : va_S (xA E) H0 H locs) (hN : xN E ≤ H0.size) :
    XR E (sh ++ [q]) I' R L s H1 ∧ va_S (xA E) H0 H1 locs := by
  obtain ⟨h1, h2, h3, h4, h5, h6, h7⟩ := h
  have ew : xw E sh I' R L = xw E sh I R L := by
    unfold xw
    exact List.map_congr_left fun k hk => by rw [xce_cong (I := I) (hI k (by have := List.mem_range.mp hk; omega)) rfl rfl]
  have hk : ∀ (k : Nat) (x : Nat × va_E), (xw E sh I R L)[k]? = some x → H1[x.1]? = H[x.1]? := fun k x hx => ho x.1 ((h1 k x hx).lt)
  refine ⟨⟨?_, h2, ?_, by rw [hz, h4, List.length_append]; rfl, fun a ha => by rw [ho a (by rw [h4]; omega)]; exact h5 a ha, fun a ha => ?_, h7⟩, Nat.le_trans hS.1 (by omega), fun x g1 g2 => (ho x (Nat.lt_of_lt_of_le g1 hS.1)).trans (hS.2.1 x g1 g2), hS.2.2⟩
  · rw [xw_push, ew]
    refine (h1.kept hk).app (fun k x hx => ?_)
    have hz : k < 1 := (List.getElem?_eq_some_iff.mp hx).1
    rw [show k = 0 by omega] at hx
    cases hx
    exact hc
  · rw [xw_push, ew]
    exact h3.push h1 h4.symm (show xN E ≤ _ from Nat.le_add_right _ _)
  · rw [List.length_append] at ha
    simp at ha
    rw [hI a (by omega)]
    exact h6 a (by omega)
theorem app_at {sh z : XSh} {k : Nat} {q : Nat × Nat} (h : sh[k]? = some q) : (sh ++ z)[k]? = some q := by
  rw [List.getElem?_append_left (List.getElem?_eq_some_iff.mp h).1]; exact h
theorem app_new {sh : XSh} {q : Nat × Nat} : (sh ++ [q])[sh.length]? = some q := by simp
section CLONE
variable {E : XE} {y : XM} {d mc ms kc ks pc q : Nat} {Q : XQ} {ls : List (Option Value)} {st : List Value} {sh : XSh} {I : XI} {R : XRf} {L : XL}
theorem xv_castI {idx a N : Nat} (hq : pc + 3 = q) (hd : decode y.2.1 pc = .ok (.checkcast idx, 3)) (hw : Cond.classLink y.1.cls idx "[I" ∈ GT) (hs : sh[a]? = some (8, N)) (kk : XV E y d mc ms Q kc ks q ls (.ref a :: st) sh I R L) : XV E y d mc ms Q kc ks pc ls (.ref a :: st) sh I R L := by
  subst hq
  intro p e s m args below meth c H locs cells slots arr hB hR hS hc hk hl0 hl
  have he := xw_at (E := E) (I := I) (R := R) (L := L) hs
  rw [xce_int] at he
  exact va_castA hB.1 hB.2.1 hB.2.2.2.2.1 (hB.2.2.2.2.2.1 _ (List.mem_cons_of_mem _ hw)) hR.1 a he ((hR.2.1.2 0 _ (xty0 E)).2) hd (kk p e s m args below meth c H locs cells slots arr hB hR hS hc hk hl0 hl)
theorem xv_clone {idx a N kc' ks' : Nat} (hq : pc + 3 = q) (hd : decode y.2.1 pc = .ok (.invokevirtual idx, 3)) (hl1 : Cond.methodLink y.1.cls idx ⟨"[I", "clone", "()Ljava/lang/Object;"⟩ ∈ GT) (hs : sh[a]? = some (8, N)) (hw : Nat.ble ((st.map fun v => v.category).sum) 8 = true) (hdd : 1 ≤ d) (h1 : kc' + 1 ≤ kc) (h2 : ks' + N ≤ ks)
    (kk : XV E y d mc ms Q kc' ks' q ls (.ref sh.length :: st) (sh ++ [(8, N)]) (xic I sh.length (I a)) R L) : XV E y d mc ms Q kc ks pc ls (.ref a :: st) sh I R L := by
  subst hq
  intro p e s m args below meth c H locs cells slots arr hB hR hS hc hk hl0 hl
  have hm : ∀ {w : Cond}, w ∈ GT → w.before args s = true := fun h => hB.2.2.2.2.2.1 _ (List.mem_cons_of_mem _ h)
  have hlen := Nat.le_of_ble_eq_true hw
  have he := xw_at (E := E) (I := I) (R := R) (L := L) hs
  rw [xce_int] at he
  have hnm := (hR.2.1.2 0 _ (xty0 E)).2
  obtain ⟨c0, t0', f1, f2, f3⟩ := Cond.castable_spec (va_Nw.use (A := args) rfl hR.2.2.2.2.2.2.2.2.2.1)
  cases hnm.symm.trans f1
  intro T hT X
  have hcellT : T.heap[xN E + a]? = some (vp_cell (xk E 0) (N, .inl (I a))) := by rw [hT]; exact hR.1 a _ he
  obtain ⟨-, kA, hkA, comp, hkind⟩ := State.isArrayOf_alike X.warmed.alike ((hR.2.1.2 0 _ (xty0 E)).1 0 (fun _ => .null))
  obtain ⟨-, kS, hkS, compS, hkindS⟩ := (hR.2.1.2 0 _ (xty0 E)).1 0 (fun _ => .null)
  obtain ⟨vm', X', stp⟩ := X.cloneArray hB.1 hB.2.2.2.2.1 (hm hl1) (hm cw_same) (hm cw_nat) (hm cw_inst) (hm cw_sel) (a := xN E + a) (cell := vp_cell (xk E 0) (N, .inl (I a))) hcellT (fun k h => by cases h) (fun h => by cases h) hnm f2 f3
    (fun i v hv => by
      have hk' : T.vm.classes[xk E 0]? = some kA := hkA
      have hv2 : ∃ x, v = .int x := by
        have hi : i < N := by
          have := (Array.getElem?_eq_some_iff.mp hv).1
          rw [vp_cell_i, arrV_size] at this
          exact this
        rw [vp_cell_i, arrV_read _ _ hi] at hv
        exact ⟨_, (Option.some.inj hv).symm⟩
      obtain ⟨x, rfl⟩ := hv2
      have hfit : fits .int (.int x) = true := rfl
      show _ = true
      simpa [State.fitsSlot, State.slotType?, vp_cell, arrV, hk', hkind] using hfit)
    (g := F0 m pc arr (.ref (xN E + a) :: st.map (sv E))) rfl (by rw [hB.2.2.2.1, ← hl0, ← hl.1]) rfl (by rw [hB.2.1]; exact hd) hdd (by show 2 * 0 + _ + 14 ≤ 64 * d; rw [sv_cats]; omega) (by show _ ≤ mc; omega) (by rw [vp_cell_i, arrV_size]; show _ ≤ ms; omega) (hloader := Vm.clonesLoader_of_array hkS hkindS)
  have hcellE : ({ cls := (vp_cell (xk E 0) (N, .inl (I a))).cls, slots := (vp_cell (xk E 0) (N, .inl (I a))).slots } : Cell) = vp_cell (xk E 0) (N, .inl (I a)) := rfl
  have hsz : (vp_cell (xk E 0) (N, .inl (I a))).slots.size = N := by rw [vp_cell_i, arrV_size]
  rw [hcellE, hsz] at X'
  have hh : (H.push (vp_cell (xk E 0) (N, .inl (I a)))).size = H.size + 1 := by rw [Array.size_push]
  obtain ⟨hR1, hS1⟩ := xr_newc (8, N) hR (I' := xic I sh.length (I a)) (H1 := H.push (vp_cell (xk E 0) (N, .inl (I a)))) (fun b hb => xic_off _ _ _ hb) (by
    rw [xce_int, xic_row]
    show (H.push _)[xN E + sh.length]? = some _
    rw [← hR.2.2.2.1, Array.getElem?_push_size]) hh (fun b hb => by rw [Array.getElem?_push, if_neg (Nat.ne_of_lt hb)]) hS hB.2.2.2.2.2.2.2.2
  obtain ⟨t, b1, b2⟩ := kk p e s m args below meth c _ locs (cells + 1) (slots + N) arr hB hR1 hS1 (by omega) (by omega) hl0 hl ((T.setVm vm').pushCell (vp_cell (xk E 0) (N, .inl (I a)))) (by rw [← hT]; rfl) X'
  refine ⟨t, stp t ?_, b2⟩
  rw [hcellE, hT, hR.2.2.2.1]
  exact b1
end CLONE
section TEXTS
variable {E : XE} {d : Nat} {sh : XSh} {I : XI} {R : XRf} {L : XL}
/-- copyOf(row, n) -/
def QCo (a n : Nat) (sh : XSh) (I : XI) (R : XRf) (L : XL) : XQ := fun v sh' I' R' L' => v = some (.ref sh.length) ∧ sh' = sh ++ [(8, n)] ∧ R' = R ∧ L' = L ∧ ∃ f, I' = xic I sh.length f ∧ ∀ j, j < n → f j = I a j
theorem c_copyOf {a n N : Nat} (hs : sh[a]? = some (8, N)) (hn : n ≤ N) (hN : N < 1000) : XC E mJ7_copyOf_59c91 (d + 1) 1 n [.ref a, .int (nI n)] sh I R L (QCo a n sh I R L) := by
  refine XC.of (by decide) rfl rfl ?_
  refine xv_iload_n (q := 1) rfl dJ7_copyOf_59c91_0 rfl rfl ?_
  refine xv_aload_n (q := 2) rfl dJ7_copyOf_59c91_1 rfl rfl ?_
  refine xv_alen (q := 3) rfl dJ7_copyOf_59c91_2 hs (by decide) ?_
  refine xv_icmp_ne (q := 6) (t := 14) rfl rfl dJ7_copyOf_59c91_3 (fun h3 => ?_) (fun h3 => ?_)
  · have h3 : n < N := by
      have : ¬ n = N := fun q => h3 (by rw [q])
      omega
    refine xv_iload_n (q := 15) rfl dJ7_copyOf_59c91_14 rfl rfl ?_
    refine xv_newi (N := n) (kc' := 0) (ks' := 0) (q := 17) rfl dJ7_copyOf_59c91_15 rfl (by omega) ac_int (by omega) (by omega) ?_
    refine xv_astore_n (q := 18) rfl dJ7_copyOf_59c91_17 rfl rfl ?_
    refine xv_aload_n (q := 19) rfl dJ7_copyOf_59c91_18 rfl rfl ?_
    refine xv_iconst (v := nI 0) (q := 20) rfl dJ7_copyOf_59c91_19 rfl ?_
    refine xv_aload_n (q := 21) rfl dJ7_copyOf_59c91_20 rfl rfl ?_
    refine xv_iconst (v := nI 0) (q := 22) rfl dJ7_copyOf_59c91_21 rfl ?_
    refine xv_aload_n (q := 23) rfl dJ7_copyOf_59c91_22 rfl rfl ?_
    refine xv_alen (q := 24) rfl dJ7_copyOf_59c91_23 (app_at hs) (by decide) ?_
    refine xv_iload_n (q := 25) rfl dJ7_copyOf_59c91_24 rfl rfl ?_
    refine xv_min (q := 28) rfl dJ7_copyOf_59c91_25 l_J7_304 rfl (by omega) ?_
    rw [if_pos (nI_lt h3 (by omega))]
    refine xv_copy (a := 0) (b := 0) (n := n) (q := 31) rfl dJ7_copyOf_59c91_28 l_J7_150 (app_at hs) app_new rfl rfl rfl (by omega) (by omega) (by omega) (by omega) rfl (by omega) ?_
    refine xv_aload_n (q := 32) rfl dJ7_copyOf_59c91_31 rfl rfl ?_
    refine xv_aret dJ7_copyOf_59c91_32 rfl (by first | exact Or.inl ⟨_, rfl⟩ | exact Or.inr ⟨_, rfl⟩) ?_
    refine ⟨rfl, rfl, rfl, rfl, _, rfl, fun j hj => ?_⟩
    unfold va_cpy
    rw [if_pos ⟨Nat.zero_le j, by omega⟩, Nat.zero_add, Nat.sub_zero]
  · have h3 : n = N := nIe h3 (by omega) (by omega)
    subst h3
    refine xv_aload_n (q := 7) rfl dJ7_copyOf_59c91_6 rfl rfl ?_
    refine xv_clone (kc' := 0) (ks' := 0) (q := 10) rfl dJ7_copyOf_59c91_7 l_J7_316 hs rfl (by omega) (by omega) (by omega) ?_
    refine xv_castI (q := 13) rfl dJ7_copyOf_59c91_10 n_J7_317 app_new ?_
    refine xv_aret dJ7_copyOf_59c91_13 rfl (by first | exact Or.inl ⟨_, rfl⟩ | exact Or.inr ⟨_, rfl⟩) ?_
    exact ⟨rfl, rfl, rfl, rfl, I a, rfl, fun _ _ => rfl⟩
theorem c_Tinit {t ca ea : Nat} (hs : sh[t]? = some (4, 2)) : XC E mX4_init (d + 1) 0 0 [.ref t, .ref ca, .ref ea] sh I R L (xq none sh I (xr (xr R t 0 (some ca)) t 1 (some ea)) L) := by
  refine XC.of (by decide) rfl rfl ?_
  refine xv_aload_n (q := 1) rfl dX4_init_0 rfl rfl ?_
  refine xv_objInit (q := 4) rfl dX4_init_1 l_X4_3 oi_inst oi_code (by decide) (by omega) ?_
  refine xv_aload_n (q := 5) rfl dX4_init_4 rfl rfl ?_
  refine xv_aload_n (q := 6) rfl dX4_init_5 rfl rfl ?_
  refine xv_puta (q := 9) rfl dX4_init_6 f_X4_9 (fun _ => ⟨rfl, rfl⟩) hs ?_
  refine xv_aload_n (q := 10) rfl dX4_init_9 rfl rfl ?_
  refine xv_aload_n (q := 11) rfl dX4_init_10 rfl rfl ?_
  refine xv_puta (q := 14) rfl dX4_init_11 f_X4_15 (fun _ => ⟨rfl, rfl⟩) hs ?_
  refine xv_vret dX4_init_14 rfl ?_
  exact xq_rfl
/-- whatWasRead: a Text of cl numbers -/
def QWr (cl : Nat) (sh : XSh) (I : XI) (R : XRf) (L : XL) : XQ := fun v sh' I' R' L' => v = some (.ref sh.length) ∧ sh' = sh ++ [(4, 2), (8, cl), (8, 3)] ∧ R' = xr (xr R sh.length 0 (some (sh.length + 1))) sh.length 1 (some (sh.length + 2)) ∧ L' = L ∧ (∀ k, k < sh.length → I' k = I k) ∧ (∀ j, j < cl → I' (sh.length + 1) j = I 19 j) ∧ ∀ j, j < 3 → I' (sh.length + 2) j = I 20 j
theorem xg_len (hg : XG sh R) : 82 ≤ sh.length := by
  have := (List.getElem?_eq_some_iff.mp (hg.1 81 _ rfl)).1
  omega
theorem xg_app (hg : XG sh R) (z : XSh) : XG (sh ++ z) R := ⟨fun k q h => app_at (hg.1 k q h), hg.2⟩
theorem c_wwr (hg : XG sh R) {cl : Nat} (h7 : I 17 7 = nI cl) (hcl : cl ≤ 160) : XC E mX1_whatWasRead (d + 2) 3 170 [.ref 17] sh I R L (QWr cl sh I R L) := by
  refine XC.of (by decide) rfl rfl ?_
  refine xv_new (t := 4) (kc' := 2) (ks' := 168) (q := 3) rfl dX1_whatWasRead_0 (by decide) rfl inX4 tyX4_x nfX4 n_X1_42 ia_X4 iz_X4 (by omega) (by omega) ?_
  have hgn := xg_app hg [(4, 2)]
  refine xv_dup (q := 4) rfl dX1_whatWasRead_3 rfl ?_
  refine xv_aload_n (q := 5) rfl dX1_whatWasRead_4 rfl rfl ?_
  refine xv_geta (q := 8) rfl dX1_whatWasRead_5 f_X1_15 (hgn.1 _ _ rfl) (hg.2 _ _ _ rfl) ?_
  refine xv_aload_n (q := 9) rfl dX1_whatWasRead_8 rfl rfl ?_
  refine xv_geti (q := 12) rfl dX1_whatWasRead_9 f_X1_25 (hgn.1 _ _ rfl) ?_
  rw [h7]
  refine xv_callS (z := mJ7_copyOf_59c91) (kc' := 1) (ks' := 8) (as := [.ref 19, .int (nI cl)]) (q := 15) rfl dX1_whatWasRead_12 l_X1_44 gJ7_copyOf_59c91 rfl rfl (Nat.le_of_ble_eq_true rfl) (c_copyOf (d := d) (hgn.1 19 _ rfl) hcl (by omega)) (by omega) (by omega) (by omega) ?_
  rintro _ _ _ _ _ ⟨rfl, rfl, rfl, rfl, f, rfl, hf⟩
  have hgm := xg_app hgn [(8, cl)]
  refine xv_aload_n (q := 16) rfl dX1_whatWasRead_15 rfl rfl ?_
  refine xv_geta (q := 19) rfl dX1_whatWasRead_16 f_X1_18 (hgm.1 _ _ rfl) (hg.2 _ _ _ rfl) ?_
  refine xv_iconst (v := nI 3) (q := 20) rfl dX1_whatWasRead_19 rfl ?_
  refine xv_callS (z := mJ7_copyOf_59c91) (kc' := 0) (ks' := 5) (as := [.ref 20, .int (nI 3)]) (q := 23) rfl dX1_whatWasRead_20 l_X1_44 gJ7_copyOf_59c91 rfl rfl (Nat.le_of_ble_eq_true rfl) (c_copyOf (d := d) (hgm.1 20 _ rfl) (by omega) (by omega)) (by omega) (by omega) (by omega) ?_
  rintro _ _ _ _ _ ⟨rfl, rfl, rfl, rfl, g, rfl, hg3⟩
  refine xv_callI (z := mX4_init) (kc' := 0) (ks' := 5) (as := [.ref _, .ref _]) (q := 26) rfl dX1_whatWasRead_23 l_X1_50 gX4_init rfl rfl (Nat.le_of_ble_eq_true rfl) (c_Tinit (d := d) (app_at (app_at app_new))) (by omega) (by omega) (by omega) ?_
  rintro _ _ _ _ _ ⟨rfl, rfl, rfl, rfl, rfl⟩
  refine xv_aret dX1_whatWasRead_26 rfl (by first | exact Or.inl ⟨_, rfl⟩ | exact Or.inr ⟨_, rfl⟩) ?_
  have hlen := xg_len hg
  simp only [List.length_append, List.length_cons, List.length_nil, Nat.zero_add] at *
  refine ⟨rfl, by simp, rfl, rfl, fun k hk => ?_, fun j hj => ?_, fun j hj => ?_⟩
  · rw [xic_off _ _ _ (by omega), xic_off _ _ _ (by omega)]
  · rw [xic_off _ _ _ (by omega), xic_row]; exact hf j hj
  · rw [show sh.length + 2 = sh.length + 1 + 1 from rfl, xic_row]
    have := hg3 j hj
    rw [xic_off _ _ _ (by omega)] at this
    exact this
end TEXTS

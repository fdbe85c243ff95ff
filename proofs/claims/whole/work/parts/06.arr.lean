/-! arrays, makings, calls -/
theorem xty0 (E : XE) : (xty E)[0]? = some (xk E 0, .int) := rfl
theorem xty1 (E : XE) : (xty E)[1]? = some (xk E 1, .boolean) := rfl
theorem xty2 (E : XE) : (xty E)[2]? = some (xk E 2, .object "GetsOutFirst$Text") := rfl
theorem xty3 (E : XE) : (xty E)[3]? = some (xk E 3, .object "GetsOutFirst$Sheet") := rfl
theorem xr_new {E : XE} {sh : XSh} {I : XI} {R : XRf} {L : XL} {s : State} {H H1 : Heap} {H0 : Heap} {locs : List Loc} (q : Nat × Nat) (h : XR E sh I R L s H) (hc : va_at (xD E) vwCl (xN E + sh.length, xce E q sh.length I R L) H1) (hz : H1.size = H.size + 1) (ho : ∀ a : Nat, a < H.size → H1[a]? = H[a]?) (hS : va_S (xA E) H0 H locs) (hN : xN E ≤ H0.size) :
    XR E (sh ++ [q]) I R L s H1 ∧ va_S (xA E) H0 H1 locs := by
  obtain ⟨h1, h2, h3, h4, h5, h6, h7⟩ := h
  have hk : ∀ (k : Nat) (x : Nat × va_E), (xw E sh I R L)[k]? = some x → H1[x.1]? = H[x.1]? := fun k x hx => ho x.1 ((h1 k x hx).lt)
  refine ⟨⟨?_, h2, ?_, by rw [hz, h4, List.length_append]; rfl, fun a ha => by rw [ho a (by rw [h4]; omega)]; exact h5 a ha, fun a ha => h6 a (by rw [List.length_append] at ha; simp at ha; omega), h7⟩, Nat.le_trans hS.1 (by omega), fun x g1 g2 => (ho x (Nat.lt_of_lt_of_le g1 hS.1)).trans (hS.2.1 x g1 g2), hS.2.2⟩
  · rw [xw_push]
    refine (h1.kept hk).app (fun k x hx => ?_)
    have hz : k < 1 := (List.getElem?_eq_some_iff.mp hx).1
    rw [show k = 0 by omega] at hx
    cases hx
    exact hc
  · rw [xw_push]
    exact h3.push h1 h4.symm (show xN E ≤ _ from Nat.le_add_right _ _)
section XARR
variable {E : XE} {y : XM} {d mc ms kc ks pc q : Nat} {Q : XQ} {ls : List (Option Value)} {st : List Value} {sh : XSh} {I : XI} {R : XRf} {L : XL}
theorem xv_iald {k n j : Nat} {i : Int32} (hq : pc + 1 = q) (hd : decode y.2.1 pc = .ok (.iaload, 1)) (hs : sh[k]? = some (8, n)) (hi : i = nI j) (hj : j < n) (hn : n < 2 ^ 31) (kk : XV E y d mc ms Q kc ks q ls (.int (I k j) :: st) sh I R L) : XV E y d mc ms Q kc ks pc ls (.int i :: .ref k :: st) sh I R L := by
  subst hq; subst hi
  intro p e s m args below meth c H locs cells slots arr hB hR hS hc hk hl0 hl
  have e1 : (nI j).toNatClampNeg = j := nI_clamp (by omega)
  have he := xw_at (E := E) (I := I) (R := R) (L := L) hs
  rw [xce_int] at he
  refine va_iald hB.1 hB.2.1 hR.2.1 hR.1 k 0 he (xty0 E) (vp_in_nI hj hn) hd ?_
  rw [e1]
  exact kk p e s m args below meth c H locs cells slots arr hB hR hS hc hk hl0 hl
theorem xv_zald {k n j : Nat} {i : Int32} (hq : pc + 1 = q) (hd : decode y.2.1 pc = .ok (.baload, 1)) (hs : sh[k]? = some (9, n)) (hi : i = nI j) (hj : j < n) (hn : n < 2 ^ 31) (kk : XV E y d mc ms Q kc ks q ls (.int (I k j) :: st) sh I R L) : XV E y d mc ms Q kc ks pc ls (.int i :: .ref k :: st) sh I R L := by
  subst hq; subst hi
  intro p e s m args below meth c H locs cells slots arr hB hR hS hc hk hl0 hl
  have e1 : (nI j).toNatClampNeg = j := nI_clamp (by omega)
  have he := xw_at (E := E) (I := I) (R := R) (L := L) hs
  rw [xce_bool] at he
  refine va_zald hB.1 hB.2.1 hR.2.1 hR.1 k 1 he (xty1 E) (vp_in_nI hj hn) hd ?_
  rw [e1]
  exact kk p e s m args below meth c H locs cells slots arr hB hR hS hc hk hl0 hl
theorem xv_aald {k n j a t : Nat} {i : Int32} (hq : pc + 1 = q) (hd : decode y.2.1 pc = .ok (.aaload, 1)) (hs : sh[k]? = some (t, n)) (ht : t = 10 ∨ t = 11) (hi : i = nI j) (hj : j < n) (hn : n < 2 ^ 31) (hr : R k j = some a) (kk : XV E y d mc ms Q kc ks q ls (.ref a :: st) sh I R L) : XV E y d mc ms Q kc ks pc ls (.int i :: .ref k :: st) sh I R L := by
  subst hq; subst hi
  intro p e s m args below meth c H locs cells slots arr hB hR hS hc hk hl0 hl
  have e1 : (nI j).toNatClampNeg = j := nI_clamp (by omega)
  have he := xw_at (E := E) (I := I) (R := R) (L := L) hs
  have e2 : va_rf (xrf E (R k j)) = .ref (xN E + a) := by rw [hr]; rfl
  rcases ht with rfl | rfl
  · rw [xce_txt] at he
    refine va_aldq hB.1 hB.2.1 hR.2.1 hR.1 k 2 he (xty2 E) (vp_in_nI hj hn) hd ?_
    rw [e1, e2]
    exact kk p e s m args below meth c H locs cells slots arr hB hR hS hc hk hl0 hl
  · rw [xce_sht] at he
    refine va_aldq hB.1 hB.2.1 hR.2.1 hR.1 k 3 he (xty3 E) (vp_in_nI hj hn) hd ?_
    rw [e1, e2]
    exact kk p e s m args below meth c H locs cells slots arr hB hR hS hc hk hl0 hl
theorem xv_alen {k n t : Nat} (hq : pc + 1 = q) (hd : decode y.2.1 pc = .ok (.arraylength, 1)) (hs : sh[k]? = some (t, n)) (ht : t = 8 ∨ t = 10 ∨ t = 11) (kk : XV E y d mc ms Q kc ks q ls (.int (nI n) :: st) sh I R L) : XV E y d mc ms Q kc ks pc ls (.ref k :: st) sh I R L := by
  subst hq
  intro p e s m args below meth c H locs cells slots arr hB hR hS hc hk hl0 hl
  have he := xw_at (E := E) (I := I) (R := R) (L := L) hs
  rcases ht with rfl | rfl | rfl
  · rw [xce_int] at he
    exact va_alen hB.1 hB.2.1 hR.2.1 hR.1 k 0 he (xty0 E) rfl hd (kk p e s m args below meth c H locs cells slots arr hB hR hS hc hk hl0 hl)
  · rw [xce_txt] at he
    exact va_alen hB.1 hB.2.1 hR.2.1 hR.1 k 2 he (xty2 E) rfl hd (kk p e s m args below meth c H locs cells slots arr hB hR hS hc hk hl0 hl)
  · rw [xce_sht] at he
    exact va_alen hB.1 hB.2.1 hR.2.1 hR.1 k 3 he (xty3 E) rfl hd (kk p e s m args below meth c H locs cells slots arr hB hR hS hc hk hl0 hl)
theorem xv_iast {k n j : Nat} {i x : Int32} (hq : pc + 1 = q) (hd : decode y.2.1 pc = .ok (.iastore, 1)) (hs : sh[k]? = some (8, n)) (hi : i = nI j) (hj : j < n) (hn : n < 2 ^ 31) (kk : XV E y d mc ms Q kc ks q ls st sh (xi I k j x) R L) : XV E y d mc ms Q kc ks pc ls (.int x :: .int i :: .ref k :: st) sh I R L := by
  subst hq; subst hi
  intro p e s m args below meth c H locs cells slots arr hB hR hS hc hk hl0 hl
  have e1 : (nI j).toNatClampNeg = j := nI_clamp (by omega)
  have he := xw_at (E := E) (I := I) (R := R) (L := L) hs
  rw [xce_int] at he
  refine W.iast hB.1 hB.2.1 (hR.1 k _ he) ((hR.2.1.2 0 _ (xty0 E)).1 n (fun j => .int (I k j))) (fun q => by cases q) (by show ¬ (_ ∨ (arrV _ _ _).slots.size ≤ _); rw [arrV_size]; exact vp_in_nI hj hn) rfl rfl hd fun H1 e2 z oq => ?_
  have hP1 := hR.1.set hR.2.2.1 he (e := .inl (xk E 0, n, .inl (upd (I k) j x))) (by
    show H1[_]? = some (vp_cell _ _)
    rw [e2, e1]
    rw [vp_cell_i, vp_cell_i, arrV_store]
    congr 2
    funext b
    by_cases hb : b = j
    · subst hb
      simp [updV, upd]
    · simp [updV, upd, hb]) oq
  have hS1 := hS.put (k := (nI j).toNatClampNeg) z oq (hR.2.2.1.2 k _ he)
  exact kk p e s m args below meth c H1 _ cells slots arr hB (xr_put hR hs (by rw [xce_int, xi_row]) (fun b hb => xi_off I k j x hb) (fun _ _ => rfl) (fun _ _ => rfl) hP1 (hR.2.2.1.set he) z ⟨hS.1, hS.2.1, fun _ h => by cases h⟩ hS1 hB.2.2.2.2.2.2.2.2) hS1 hc hk hl0 hl
theorem xv_zast {k n j : Nat} {i x : Int32} (hq : pc + 1 = q) (hd : decode y.2.1 pc = .ok (.bastore, 1)) (hs : sh[k]? = some (9, n)) (hi : i = nI j) (hj : j < n) (hn : n < 2 ^ 31) (hz : x = 0 ∨ x = 1) (kk : XV E y d mc ms Q kc ks q ls st sh (xi I k j x) R L) : XV E y d mc ms Q kc ks pc ls (.int x :: .int i :: .ref k :: st) sh I R L := by
  subst hq; subst hi
  intro p e s m args below meth c H locs cells slots arr hB hR hS hc hk hl0 hl
  have e1 : (nI j).toNatClampNeg = j := nI_clamp (by omega)
  have he := xw_at (E := E) (I := I) (R := R) (L := L) hs
  rw [xce_bool] at he
  have hnar : narrow .boolean (.int x) = .int x := by rcases hz with rfl | rfl <;> rfl
  refine W.zast hB.1 hB.2.1 (hR.1 k _ he) ((hR.2.1.2 1 _ (xty1 E)).1 n (fun j => .int (I k j))) (fun q => by cases q) (by show ¬ (_ ∨ (arrV _ _ _).slots.size ≤ _); rw [arrV_size]; exact vp_in_nI hj hn) rfl rfl hd fun H1 e2 z oq => ?_
  have hP1 := hR.1.set hR.2.2.1 he (e := .inl (xk E 1, n, .inl (upd (I k) j x))) (by
    show H1[_]? = some (vp_cell _ _)
    rw [e2, e1, hnar]
    rw [vp_cell_i, vp_cell_i, arrV_store]
    congr 2
    funext b
    by_cases hb : b = j
    · subst hb
      simp [updV, upd]
    · simp [updV, upd, hb]) oq
  have hS1 := hS.put (k := (nI j).toNatClampNeg) z oq (hR.2.2.1.2 k _ he)
  exact kk p e s m args below meth c H1 _ cells slots arr hB (xr_put hR hs (by rw [xce_bool, xi_row]) (fun b hb => xi_off I k j x hb) (fun _ _ => rfl) (fun _ _ => rfl) hP1 (hR.2.2.1.set he) z ⟨hS.1, hS.2.1, fun _ h => by cases h⟩ hS1 hB.2.2.2.2.2.2.2.2) hS1 hc hk hl0 hl
theorem xv_aast {k n j v t ci N0 : Nat} {C : String} {T : u_T} {i : Int32} (hq : pc + 1 = q) (hd : decode y.2.1 pc = .ok (.aastore, 1)) (hs : sh[k]? = some (t, n)) (hi : i = nI j) (hj : j < n) (hn : n < 2 ^ 31) (ht : 10 ≤ t) (hty : (xty E)[t - 8]? = some (xk E (t - 8), .object C)) (hc8 : ci < 8) (hcl : vwCl[ci]? = some (C, T, N0)) (hv : sh[v]? = some (ci, N0)) (kk : XV E y d mc ms Q kc ks q ls st sh I (xr R k j (some v)) L) : XV E y d mc ms Q kc ks pc ls (.ref v :: .int i :: .ref k :: st) sh I R L := by
  subst hq; subst hi
  intro p e s m args below meth c H locs cells slots arr hB hR hS hc hk hl0 hl
  have e1 : (nI j).toNatClampNeg = j := nI_clamp (by omega)
  have e0 : ∀ R' : XRf, xce E (t, n) k I R' L = .inl (xk E (t - 8), n, .inr (.inr (.inr (.inr (fun j => xrf E (R' k j)))))) := by
    intro R'
    unfold xce
    rw [if_neg (by show ¬ t < 8; omega), if_neg (by show ¬ t < 10; omega)]
  have he := xw_at (E := E) (I := I) (R := R) (L := L) hs
  rw [e0] at he
  have hev := xw_at (E := E) (I := I) (R := R) (L := L) hv
  rw [xce_obj hc8] at hev
  obtain ⟨r', hr', cellV, g1, g2, g3, -⟩ := hR.1 v _ hev
  have hcls := (hR.2.1.1 ci _ hcl).2
  obtain ⟨kA, comp, k1, k2, k3, -⟩ := (hR.2.1.2 (t - 8) _ hty).2
  have hcomp : comp = (xD E).1 ci := Option.some.inj (k3.symm.trans hcls.1)
  subst hcomp
  obtain ⟨kC, hkC, -⟩ := hcls.2
  have hin := vp_in_nI hj hn
  refine W.aast hB.1 hB.2.1 (hR.1 k _ he) (fun q h => by cases h) (fun h => by cases h) k1 k2 rfl hkC ⟨fun z => hin (Or.inl z), by show _ < (arrV _ _ _).slots.size; rw [arrV_size, e1]; exact hj⟩ g1 (fun q h => by rw [g3] at h; cases h) (by rw [g2]; exact hkC) (by rw [g2]; exact va_assign hcls) rfl rfl hd fun H1 e2 z oq => ?_
  have hP1 := hR.1.set hR.2.2.1 he (e := .inl (xk E (t - 8), n, .inr (.inr (.inr (.inr (fun b => xrf E (xr R k j (some v) k b))))))) (by
    show H1[_]? = some (vp_cell _ _)
    rw [e2, e1]
    rw [vp_cell_q, vp_cell_q, arrV_store]
    congr 2
    funext b
    by_cases hb : b = j
    · subst hb
      simp [updV, xr, va_up, xrf, va_rf]
    · simp [updV, xr, va_up, hb]) oq
  have hS1 := hS.put (k := (nI j).toNatClampNeg) z oq (hR.2.2.1.2 k _ he)
  exact kk p e s m args below meth c H1 _ cells slots arr hB (xr_put hR hs (e0 _).symm (fun _ _ => rfl) (fun b hb => xr_off R k j _ hb) (fun _ _ => rfl) hP1 (hR.2.2.1.set he) z ⟨hS.1, hS.2.1, fun _ h => by cases h⟩ hS1 hB.2.2.2.2.2.2.2.2) hS1 hc hk hl0 hl
/-- a new array of ints (tag 8) or booleans (tag 9) -/
theorem xv_newi {N kc' ks' : Nat} {n : Int32} (hq : pc + 2 = q) (hd : decode y.2.1 pc = .ok (.newarray .int, 2)) (hi : n = nI N) (hN : N < 100000) (hw : Cond.arrayClass .int ∈ GT) (h1 : kc' + 1 ≤ kc) (h2 : ks' + N ≤ ks) (kk : XV E y d mc ms Q kc' ks' q ls (.ref sh.length :: st) (sh ++ [(8, N)]) I R L) : XV E y d mc ms Q kc ks pc ls (.int n :: st) sh I R L := by
  subst hq; subst hi
  intro p e s m args below meth c H locs cells slots arr hB hR hS hc hk hl0 hl
  have hA : (Cond.arrayClass .int).before args s = true := hB.2.2.2.2.2.1 _ (List.mem_cons_of_mem _ hw)
  refine va_newaK (atype := .int) (N := N) (h := xN E + sh.length) hB.1 hB.2.1 hA rfl hd rfl (nI_pos (by omega)) (nI_clamp (by omega)) (by show N * 4 ≤ _; omega) (by show _ ≤ mc; omega) (by show _ ≤ ms; omega) hR.2.2.2.1 (fun H1 cA e1 z1 o1 ha hf => ?_)
  have hcA : cA = xk E 0 := Option.some.inj (hf.symm.trans ((hR.2.1.2 0 _ (xty0 E)).2))
  subst hcA
  have hz := hR.2.2.2.2.2.1 sh.length (Nat.le_refl _)
  obtain ⟨hR1, hS1⟩ := xr_new (8, N) hR (H1 := H1) (by show H1[_]? = some (vp_cell _ (N, .inl (I sh.length))); rw [e1, vp_cell_i, hz.1]; rfl) (by rw [z1, hR.2.2.2.1]) (fun a ha => o1 a (by rw [hR.2.2.2.1] at ha; exact ha)) hS hB.2.2.2.2.2.2.2.2
  exact kk p e s m args below meth c H1 locs (cells + 1) (slots + N) arr hB hR1 hS1 (by omega) (by omega) hl0 hl
theorem xv_newz {N kc' ks' : Nat} {n : Int32} (hq : pc + 2 = q) (hd : decode y.2.1 pc = .ok (.newarray .boolean, 2)) (hi : n = nI N) (hN : N < 100000) (hw : Cond.arrayClass .boolean ∈ GT) (h1 : kc' + 1 ≤ kc) (h2 : ks' + N ≤ ks) (kk : XV E y d mc ms Q kc' ks' q ls (.ref sh.length :: st) (sh ++ [(9, N)]) I R L) : XV E y d mc ms Q kc ks pc ls (.int n :: st) sh I R L := by
  subst hq; subst hi
  intro p e s m args below meth c H locs cells slots arr hB hR hS hc hk hl0 hl
  have hA : (Cond.arrayClass .boolean).before args s = true := hB.2.2.2.2.2.1 _ (List.mem_cons_of_mem _ hw)
  refine va_newaK (atype := .boolean) (N := N) (h := xN E + sh.length) hB.1 hB.2.1 hA rfl hd rfl (nI_pos (by omega)) (nI_clamp (by omega)) (by show N * 1 ≤ _; omega) (by show _ ≤ mc; omega) (by show _ ≤ ms; omega) hR.2.2.2.1 (fun H1 cA e1 z1 o1 ha hf => ?_)
  have hcA : cA = xk E 1 := Option.some.inj (hf.symm.trans ((hR.2.1.2 1 _ (xty1 E)).2))
  subst hcA
  have hz := hR.2.2.2.2.2.1 sh.length (Nat.le_refl _)
  obtain ⟨hR1, hS1⟩ := xr_new (9, N) hR (H1 := H1) (by show H1[_]? = some (vp_cell _ (N, .inl (I sh.length))); rw [e1, vp_cell_i, hz.1]; rfl) (by rw [z1, hR.2.2.2.1]) (fun a ha => o1 a (by rw [hR.2.2.2.1] at ha; exact ha)) hS hB.2.2.2.2.2.2.2.2
  exact kk p e s m args below meth c H1 locs (cells + 1) (slots + N) arr hB hR1 hS1 (by omega) (by omega) hl0 hl
theorem xv_newq {N kc' ks' idx t : Nat} {n : Int32} {C : String} (hq : pc + 3 = q) (hd : decode y.2.1 pc = .ok (.anewarray idx, 3)) (hi : n = nI N) (hN : N < 100000) (hw : Cond.classLink y.1.cls idx C ∈ GT) (ht : 10 ≤ t) (hty : (xty E)[t - 8]? = some (xk E (t - 8), .object C)) (hx : ∀ U, XS E U → va_AO C U) (h1 : kc' + 1 ≤ kc) (h2 : ks' + N ≤ ks) (kk : XV E y d mc ms Q kc' ks' q ls (.ref sh.length :: st) (sh ++ [(t, N)]) I R L) : XV E y d mc ms Q kc ks pc ls (.int n :: st) sh I R L := by
  subst hq; subst hi
  intro p e s m args below meth c H locs cells slots arr hB hR hS hc hk hl0 hl
  have eN : (nI N).toNatClampNeg = N := nI_clamp (by omega)
  refine W.anew hB.1 hB.2.1 hB.2.2.2.2.1 (hB.2.2.2.2.2.1 _ (List.mem_cons_of_mem _ hw)) ((hx s hR.2.2.2.2.2.2).use) rfl hd rfl (nI_pos (by omega)) (by rw [eN]; omega) (by show _ ≤ mc; omega) (by rw [eN]; show _ ≤ ms; omega) (fun cA kA comp f1 f2 f3 f4 => ?_)
  rw [eN]
  obtain ⟨kB, compB, b1, b2, b3, b4⟩ := (hR.2.1.2 (t - 8) _ hty).2
  have hcA : cA = xk E (t - 8) := Option.some.inj (f1.symm.trans b4)
  subst hcA
  have hz := hR.2.2.2.2.2.1 sh.length (Nat.le_refl _)
  have e0 : xce E (t, N) sh.length I R L = .inl (xk E (t - 8), N, .inr (.inr (.inr (.inr (fun j => xrf E (R sh.length j)))))) := by
    unfold xce
    rw [if_neg (by show ¬ t < 8; omega), if_neg (by show ¬ t < 10; omega)]
  obtain ⟨hR1, hS1⟩ := xr_new (t, N) hR (H1 := H.push { cls := xk E (t - 8), slots := Array.replicate N .null, vm := .none }) (by
    rw [e0]
    show (H.push _)[xN E + sh.length]? = some (vp_cell _ _)
    rw [← hR.2.2.2.1, Array.getElem?_push_size, vp_cell_q, hz.2.1, arrV_new]
    rfl) (by rw [Array.size_push]) (fun a ha => by rw [Array.getElem?_push, if_neg (Nat.ne_of_lt ha)]) hS hB.2.2.2.2.2.2.2.2
  rw [hR.2.2.2.1]
  exact kk p e s m args below meth c _ locs (cells + 1) (slots + N) arr hB hR1 hS1 (by omega) (by omega) hl0 hl
end XARR

/-! rows that look at the small heap, and calls -/
def XF (own : String) (idx t N j : Nat) (fin : Bool) (ty : FieldType) : Prop :=
  ∃ (C : String) (T : u_T), vwCl[t]? = some (C, T, N) ∧ j < N ∧ Cond.fieldLink own idx (T j).1 (T j).2.1 (T j).2.2.1 ∈ GT ∧ (∀ w ∈ u_ws C T N, w ∈ GT) ∧ (∀ k, k < N → parseFieldDescriptor (T k).2.2.1 = some (xft t k))
    ∧ (∀ a, a < N → ∀ b, b < N → a ≠ b → (T a).2.1 ≠ (T b).2.1) ∧ (T j).2.2.2 = fin ∧ xft t j = ty ∧ t < 8 ∧ (T j).1 = C
theorem xce_obj {E : XE} {t N k : Nat} {I : XI} {R : XRf} {L : XL} (h : t < 8) : xce E (t, N) k I R L = .inr (t, (List.range N).map (fun j => xfv E (xft t j) I R L k j)) := by
  unfold xce; rw [if_pos (show (t, N).1 < 8 from h)]
theorem xce_int {E : XE} {N k : Nat} {I : XI} {R : XRf} {L : XL} : xce E (8, N) k I R L = .inl (xk E 0, N, .inl (I k)) := rfl
theorem xce_bool {E : XE} {N k : Nat} {I : XI} {R : XRf} {L : XL} : xce E (9, N) k I R L = .inl (xk E 1, N, .inl (I k)) := rfl
theorem xce_txt {E : XE} {N k : Nat} {I : XI} {R : XRf} {L : XL} : xce E (10, N) k I R L = .inl (xk E 2, N, .inr (.inr (.inr (.inr (fun j => xrf E (R k j)))))) := rfl
theorem xce_sht {E : XE} {N k : Nat} {I : XI} {R : XRf} {L : XL} : xce E (11, N) k I R L = .inl (xk E 3, N, .inr (.inr (.inr (.inr (fun j => xrf E (R k j)))))) := rfl
theorem xr_put {E : XE} {sh : XSh} {I I' : XI} {R R' : XRf} {L L' : XL} {s : State} {H H1 : Heap} {k : Nat} {q : Nat × Nat} {e : va_E} (h : XR E sh I R L s H) (hs : sh[k]? = some q) (he : e = xce E q k I' R' L') (hI : ∀ a, a ≠ k → I' a = I a) (hR : ∀ a, a ≠ k → R' a = R a) (hL : ∀ a, a ≠ k → L' a = L a)
    {H0 : Heap} {locs : List Loc} (hP : va_P (xD E) vwCl ((xw E sh I R L).set k (xN E + k, e)) H1) (hD : va_D (xA E) ((xw E sh I R L).set k (xN E + k, e))) (hz : H1.size = H.size) (hS0 : va_S (xA E) H0 H []) (hS : va_S (xA E) H0 H1 locs) (hN : xN E ≤ H0.size) : XR E sh I' R' L' s H1 := by
  obtain ⟨h1, h2, h3, h4, h5, h6, h7⟩ := h
  have hk : k < sh.length := (List.getElem?_eq_some_iff.mp hs).1
  rw [xw_set hs he hI hR hL] at hP hD
  refine ⟨hP, h2, hD, by rw [hz, h4], fun a ha => ?_, fun a ha => ?_, h7⟩
  · have hna : ¬ xA E a := Nat.not_le.mpr ha
    rw [hS.2.1 a (Nat.lt_of_lt_of_le ha hN) hna, ← hS0.2.1 a (Nat.lt_of_lt_of_le ha hN) hna, h5 a ha]
  · have hne : a ≠ k := by omega
    rw [hI a hne, hR a hne, hL a hne]
    exact h6 a ha
section XHEAP
variable {E : XE} {y : XM} {d mc ms kc ks pc q : Nat} {Q : XQ} {ls : List (Option Value)} {st : List Value} {sh : XSh} {I : XI} {R : XRf} {L : XL}
theorem xv_get {idx t N j k : Nat} {fin : Bool} {ty : FieldType} {v : Value} (hq : pc + 3 = q) (hd : decode y.2.1 pc = .ok (.getfield idx, 3)) (hf : XF y.1.cls idx t N j fin ty) (hs : sh[k]? = some (t, N)) (hv : xfv E ty I R L k j = sv E v) (kk : XV E y d mc ms Q kc ks q ls (v :: st) sh I R L) : XV E y d mc ms Q kc ks pc ls (.ref k :: st) sh I R L := by
  subst hq
  intro p e s m args below meth c H locs cells slots arr hB hR hS hc hk hn hl
  obtain ⟨C, T, f1, f2, f3, f4, f5, f6, f7, f8, f9, f10⟩ := hf
  have he := xw_at (E := E) (I := I) (R := R) (L := L) hs
  rw [xce_obj f9] at he
  refine va_get hB.1 hB.2.1 hB.2.2.2.2.2.1 (fun w h => List.mem_cons_of_mem _ (f4 w h)) hB.2.2.2.2.1 hR.2.1 hR.1 k he f1 j f2 (hB.2.2.2.2.2.1 _ (List.mem_cons_of_mem _ f3)) (fun _ h => h) (v := sv E v) ?_ hd (kk p e s m args below meth c H locs cells slots arr hB hR hS hc hk hn hl)
  rw [List.getElem?_map, List.getElem?_range f2, ← hv, ← f8]
  rfl
theorem xv_geti {idx t N j k : Nat} {fin : Bool} (hq : pc + 3 = q) (hd : decode y.2.1 pc = .ok (.getfield idx, 3)) (hf : XF y.1.cls idx t N j fin .int) (hs : sh[k]? = some (t, N)) (kk : XV E y d mc ms Q kc ks q ls (.int (I k j) :: st) sh I R L) : XV E y d mc ms Q kc ks pc ls (.ref k :: st) sh I R L := xv_get hq hd hf hs rfl kk
theorem xv_getz {idx t N j k : Nat} {fin : Bool} (hq : pc + 3 = q) (hd : decode y.2.1 pc = .ok (.getfield idx, 3)) (hf : XF y.1.cls idx t N j fin .boolean) (hs : sh[k]? = some (t, N)) (kk : XV E y d mc ms Q kc ks q ls (.int (I k j) :: st) sh I R L) : XV E y d mc ms Q kc ks pc ls (.ref k :: st) sh I R L := xv_get hq hd hf hs rfl kk
theorem xv_getl {idx t N j k : Nat} {fin : Bool} (hq : pc + 3 = q) (hd : decode y.2.1 pc = .ok (.getfield idx, 3)) (hf : XF y.1.cls idx t N j fin .long) (hs : sh[k]? = some (t, N)) (kk : XV E y d mc ms Q kc ks q ls (.long (L k j) :: st) sh I R L) : XV E y d mc ms Q kc ks pc ls (.ref k :: st) sh I R L := xv_get hq hd hf hs rfl kk
theorem xv_geta {idx t N j k a : Nat} {fin : Bool} {ty : FieldType} (hq : pc + 3 = q) (hd : decode y.2.1 pc = .ok (.getfield idx, 3)) (hf : XF y.1.cls idx t N j fin (.array ty)) (hs : sh[k]? = some (t, N)) (hr : R k j = some a) (kk : XV E y d mc ms Q kc ks q ls (.ref a :: st) sh I R L) : XV E y d mc ms Q kc ks pc ls (.ref k :: st) sh I R L := xv_get hq hd hf hs (by show va_rf (xrf E (R k j)) = _; rw [hr]; rfl) kk
theorem xv_geto {idx t N j k a : Nat} {fin : Bool} {C : String} (hq : pc + 3 = q) (hd : decode y.2.1 pc = .ok (.getfield idx, 3)) (hf : XF y.1.cls idx t N j fin (.object C)) (hs : sh[k]? = some (t, N)) (hr : R k j = some a) (kk : XV E y d mc ms Q kc ks q ls (.ref a :: st) sh I R L) : XV E y d mc ms Q kc ks pc ls (.ref k :: st) sh I R L := xv_get hq hd hf hs (by show va_rf (xrf E (R k j)) = _; rw [hr]; rfl) kk
theorem xv_geton {idx t N j k : Nat} {fin : Bool} {C : String} (hq : pc + 3 = q) (hd : decode y.2.1 pc = .ok (.getfield idx, 3)) (hf : XF y.1.cls idx t N j fin (.object C)) (hs : sh[k]? = some (t, N)) (hr : R k j = none) (kk : XV E y d mc ms Q kc ks q ls (.null :: st) sh I R L) : XV E y d mc ms Q kc ks pc ls (.ref k :: st) sh I R L := xv_get hq hd hf hs (by show va_rf (xrf E (R k j)) = _; rw [hr]; rfl) kk
theorem xv_put {idx t N j k : Nat} {fin : Bool} {ty : FieldType} {v : Value} {I' : XI} {R' : XRf} {L' : XL} (hq : pc + 3 = q) (hd : decode y.2.1 pc = .ok (.putfield idx, 3)) (hf : XF y.1.cls idx t N j fin ty) (hfin : fin = true → y.1.name = "<init>" ∧ (vwCl[t]?).map (fun z => z.1) = some y.1.cls) (hs : sh[k]? = some (t, N))
    (hv : xfv E ty I' R' L' k j = sv E v) (ho : ∀ b, b ≠ j → ∀ ty', xfv E ty' I' R' L' k b = xfv E ty' I R L k b) (hI : ∀ a, a ≠ k → I' a = I a) (hR' : ∀ a, a ≠ k → R' a = R a) (hL' : ∀ a, a ≠ k → L' a = L a) (hnar : narrow ty (sv E v) = sv E v) (hfit : fits ty (sv E v) = true)
    (kk : XV E y d mc ms Q kc ks q ls st sh I' R' L') : XV E y d mc ms Q kc ks pc ls (v :: .ref k :: st) sh I R L := by
  subst hq
  intro p e s m args below meth c H locs cells slots arr hB hR hS hc hk hn hl
  obtain ⟨C, T, f1, f2, f3, f4, f5, f6, f7, f8, f9, f10⟩ := hf
  have he := xw_at (E := E) (I := I) (R := R) (L := L) hs
  rw [xce_obj f9] at he
  have hcell : (Sum.inr (t, ((List.range N).map (fun j => xfv E (xft t j) I R L k j)).set j (sv E v)) : va_E) = xce E (t, N) k I' R' L' := by
    rw [xce_obj f9]
    congr 2
    apply List.ext_getElem?
    intro b
    by_cases hb : b = j
    · subst hb
      rw [List.getElem?_set_self (by simpa using f2), List.getElem?_map, List.getElem?_range f2, ← hv, ← f8]
      rfl
    · rw [List.getElem?_set_ne (Ne.symm hb), List.getElem?_map, List.getElem?_map]
      by_cases hbN : b < N
      · rw [List.getElem?_range hbN]
        exact congrArg some (ho b hb (xft t b)).symm
      · rw [List.getElem?_eq_none (by simpa using hbN)]
        rfl
  have fin' : ∀ (H1 : Heap) (locs1 : List Loc), va_P (xD E) vwCl ((xw E sh I R L).set k (xN E + k, .inr (t, ((List.range N).map (fun j => xfv E (xft t j) I R L k j)).set j (sv E v)))) H1 → va_D (xA E) ((xw E sh I R L).set k (xN E + k, .inr (t, ((List.range N).map (fun j => xfv E (xft t j) I R L k j)).set j (sv E v)))) → va_S (xA E) s.heap H1 locs1 → H1.size = H.size → W p E.1 e (xrm d mc ms) s m args below meth c H1 locs1 cells slots (MQ below (xQc E Q) args s mc ms (xA E)) (F0 m (pc + 3) arr (st.map (sv E))) := by
    intro H1 locs1 hP1 hD1 hS1 hz
    exact kk p e s m args below meth c H1 locs1 cells slots arr hB (xr_put hR hs hcell hI hR' hL' hP1 hD1 hz ⟨hS.1, hS.2.1, fun _ h => by cases h⟩ hS1 hB.2.2.2.2.2.2.2.2) hS1 hc hk hn hl
  obtain ⟨r, h1, cell, q1, q2, q3, q4⟩ := hR.1 k _ he
  have hr : r = (C, T, N) := Option.some.inj (h1.symm.trans f1)
  subst hr
  have hin : ∀ w ∈ u_ws C T N, w ∈ xws y := fun w h => List.mem_cons_of_mem _ (f4 w h)
  have hap := va_apart (own := y.1.cls) hB.2.2.2.2.2.1 hin (xft t) f5 f6 hR.2.1 f1
  obtain ⟨hSl, hfc, kC, hkC, hkind⟩ := hR.2.1.1 t _ f1
  obtain ⟨cf, kf, fi, f, hi, hsl⟩ := hSl j f2
  have hlay := hB.2.2.2.2.2.1 _ (hin _ (u_in_lay f2))
  have hst := (u_facts hfc hkC (u_lays hB.2.2.2.2.2.1 hin f2) hi).1
  have hpd : parseFieldDescriptor (T j).2.2.1 = some ty := by rw [f5 j f2, f8]
  have hlen : j < ((List.range N).map (fun j => xfv E (xft t j) I R L k j)).length := by simpa using f2
  cases hfb : fin with
  | false =>
    rw [hfb] at f7
    unfold u_lay at hlay
    rw [if_neg (by rw [f7]; decide)] at hlay
    have h6 := u_store hfc hkC hkind hlay hi hpd hnar hfit
    refine W.putK hB.1 hB.2.1 (f := f) ⟨hB.2.2.2.2.1, hB.2.2.2.2.2.1 _ (List.mem_cons_of_mem _ f3), ⟨_, _, _, hi⟩, hst⟩ (by rw [q2]; exact h6) q1 q3 (by rw [hsl]; exact k2_hasslot (q4 j f2)) rfl rfl hd fun H' e1 e2 e3 => ?_
    rw [hsl] at e1 ⊢
    exact fin' H' _ (hR.1.set hR.2.2.1 he ⟨_, f1, t_OB.to (V := updV (vp_V _) j (sv E v)) ⟨_, e1, q2, q3, t_set q4 hap f2 (sv E v)⟩ (fun b _ => vp_updV_set hlen (sv E v) b)⟩ e3) (hR.2.2.1.set he) (hS.put e2 e3 (hR.2.2.1.2 k _ he)) e2
  | true =>
    rw [hfb] at f7
    unfold u_lay at hlay
    rw [if_pos f7] at hlay
    have hCown : C = y.1.cls := by have := (hfin hfb).2; rw [f1] at this; exact Option.some.inj this
    have hcf : m.cls = cf := by
      obtain ⟨_, _, c', _, _, _, -, -, hf', -, -, -, hown2, -⟩ := Cond.laysFinal_spec hlay
      have e1 : c' = cf := by have := hi.symm.trans hf'; simp at this; exact this.1.symm
      rw [f10.trans hCown] at hown2
      rw [← e1]; exact Option.some.inj (hB.2.2.2.2.1.symm.trans hown2)
    have h6 := u_fits hfc hkC hkind (Or.inr hlay) hi hpd hnar hfit
    refine W.putFinK hB.1 hB.2.1 hB.2.2.2.2.1 (hB.2.2.2.2.2.1 _ (List.mem_cons_of_mem _ f3)) hi hst hcf (hB.2.2.2.2.2.2.2.1.trans (hfin hfb).1) (by rw [q2]; exact h6) q1 q3 (by rw [hsl]; exact k2_hasslot (q4 j f2)) rfl rfl hd fun H' e1 e2 e3 => ?_
    rw [hsl] at e1 ⊢
    exact fin' H' _ (hR.1.set hR.2.2.1 he ⟨_, f1, t_OB.to (V := updV (vp_V _) j (sv E v)) ⟨_, e1, q2, q3, t_set q4 hap f2 (sv E v)⟩ (fun b _ => vp_updV_set hlen (sv E v) b)⟩ e3) (hR.2.2.1.set he) (hS.put e2 e3 (hR.2.2.1.2 k _ he)) e2
theorem xfv_xi {ty : FieldType} {k j b : Nat} {x : Int32} (h : b ≠ j) : xfv E ty (xi I k j x) R L k b = xfv E ty I R L k b := by
  have e : xi I k j x k b = I k b := by simp [xi, upd, h]
  unfold xfv
  cases ty <;> simp [e]
theorem xfv_xr {ty : FieldType} {k j b : Nat} {x : Option Nat} (h : b ≠ j) : xfv E ty I (xr R k j x) L k b = xfv E ty I R L k b := by
  have e : xr R k j x k b = R k b := by simp [xr, va_up, h]
  unfold xfv
  cases ty <;> simp [e]
theorem xfv_xg {ty : FieldType} {k j b : Nat} {x : Int64} (h : b ≠ j) : xfv E ty I R (xg L k j x) k b = xfv E ty I R L k b := by
  have e : xg L k j x k b = L k b := by simp [xg, vp_updL, h]
  unfold xfv
  cases ty <;> simp [e]
theorem xv_puti {idx t N j k : Nat} {fin : Bool} {a : Int32} (hq : pc + 3 = q) (hd : decode y.2.1 pc = .ok (.putfield idx, 3)) (hf : XF y.1.cls idx t N j fin .int) (hfin : fin = true → y.1.name = "<init>" ∧ (vwCl[t]?).map (fun z => z.1) = some y.1.cls) (hs : sh[k]? = some (t, N)) (kk : XV E y d mc ms Q kc ks q ls st sh (xi I k j a) R L) : XV E y d mc ms Q kc ks pc ls (.int a :: .ref k :: st) sh I R L :=
  xv_put (v := .int a) hq hd hf hfin hs (by show Value.int (xi I k j a k j) = _; rw [xi_eq]; rfl) (fun b hb ty' => xfv_xi hb) (fun b hb => xi_off I k j a hb) (fun _ _ => rfl) (fun _ _ => rfl) rfl rfl kk
theorem xv_putz {idx t N j k : Nat} {fin : Bool} {a : Int32} (hq : pc + 3 = q) (hd : decode y.2.1 pc = .ok (.putfield idx, 3)) (hf : XF y.1.cls idx t N j fin .boolean) (hfin : fin = true → y.1.name = "<init>" ∧ (vwCl[t]?).map (fun z => z.1) = some y.1.cls) (hs : sh[k]? = some (t, N)) (hz : a = 0 ∨ a = 1) (kk : XV E y d mc ms Q kc ks q ls st sh (xi I k j a) R L) : XV E y d mc ms Q kc ks pc ls (.int a :: .ref k :: st) sh I R L :=
  xv_put (v := .int a) hq hd hf hfin hs (by show Value.int (xi I k j a k j) = _; rw [xi_eq]; rfl) (fun b hb ty' => xfv_xi hb) (fun b hb => xi_off I k j a hb) (fun _ _ => rfl) (fun _ _ => rfl) (by rcases hz with rfl | rfl <;> rfl) (by rcases hz with rfl | rfl <;> rfl) kk
theorem xv_putl {idx t N j k : Nat} {fin : Bool} {a : Int64} (hq : pc + 3 = q) (hd : decode y.2.1 pc = .ok (.putfield idx, 3)) (hf : XF y.1.cls idx t N j fin .long) (hfin : fin = true → y.1.name = "<init>" ∧ (vwCl[t]?).map (fun z => z.1) = some y.1.cls) (hs : sh[k]? = some (t, N)) (kk : XV E y d mc ms Q kc ks q ls st sh I R (xg L k j a)) : XV E y d mc ms Q kc ks pc ls (.long a :: .ref k :: st) sh I R L :=
  xv_put (v := .long a) hq hd hf hfin hs (by show Value.long (xg L k j a k j) = _; simp [xg, vp_updL, sv]) (fun b hb ty' => xfv_xg hb) (fun _ _ => rfl) (fun _ _ => rfl) (fun b hb => xg_off L k j a hb) rfl rfl kk
theorem xv_puta {idx t N j k a : Nat} {fin : Bool} {ty : FieldType} (hq : pc + 3 = q) (hd : decode y.2.1 pc = .ok (.putfield idx, 3)) (hf : XF y.1.cls idx t N j fin (.array ty)) (hfin : fin = true → y.1.name = "<init>" ∧ (vwCl[t]?).map (fun z => z.1) = some y.1.cls) (hs : sh[k]? = some (t, N)) (kk : XV E y d mc ms Q kc ks q ls st sh I (xr R k j (some a)) L) : XV E y d mc ms Q kc ks pc ls (.ref a :: .ref k :: st) sh I R L :=
  xv_put (v := .ref a) hq hd hf hfin hs (by show va_rf (xrf E (xr R k j (some a) k j)) = _; simp [xr, va_up, xrf, va_rf, sv]) (fun b hb ty' => xfv_xr hb) (fun _ _ => rfl) (fun b hb => xr_off R k j _ hb) (fun _ _ => rfl) rfl rfl kk
theorem xv_puto {idx t N j k a : Nat} {fin : Bool} {C : String} (hq : pc + 3 = q) (hd : decode y.2.1 pc = .ok (.putfield idx, 3)) (hf : XF y.1.cls idx t N j fin (.object C)) (hfin : fin = true → y.1.name = "<init>" ∧ (vwCl[t]?).map (fun z => z.1) = some y.1.cls) (hs : sh[k]? = some (t, N)) (kk : XV E y d mc ms Q kc ks q ls st sh I (xr R k j (some a)) L) : XV E y d mc ms Q kc ks pc ls (.ref a :: .ref k :: st) sh I R L :=
  xv_put (v := .ref a) hq hd hf hfin hs (by show va_rf (xrf E (xr R k j (some a) k j)) = _; simp [xr, va_up, xrf, va_rf, sv]) (fun b hb ty' => xfv_xr hb) (fun _ _ => rfl) (fun b hb => xr_off R k j _ hb) (fun _ _ => rfl) rfl rfl kk
theorem xv_puton {idx t N j k : Nat} {fin : Bool} {C : String} (hq : pc + 3 = q) (hd : decode y.2.1 pc = .ok (.putfield idx, 3)) (hf : XF y.1.cls idx t N j fin (.object C)) (hfin : fin = true → y.1.name = "<init>" ∧ (vwCl[t]?).map (fun z => z.1) = some y.1.cls) (hs : sh[k]? = some (t, N)) (kk : XV E y d mc ms Q kc ks q ls st sh I (xr R k j none) L) : XV E y d mc ms Q kc ks pc ls (.null :: .ref k :: st) sh I R L :=
  xv_put (v := .null) hq hd hf hfin hs (by show va_rf (xrf E (xr R k j none k j)) = _; simp [xr, va_up, xrf, va_rf, sv]) (fun b hb ty' => xfv_xr hb) (fun _ _ => rfl) (fun b hb => xr_off R k j _ hb) (fun _ _ => rfl) rfl rfl kk
end XHEAP

/-! makings of objects, calls, entries -/
theorem xfv0 {E : XE} {ty : FieldType} {I : XI} {R : XRf} {L : XL} {k j : Nat} (hI : I k = fun _ => 0) (hR : R k = fun _ => none) (hL : L k = fun _ => 0) (h1 : ty ≠ .float) (h2 : ty ≠ .double) : defaultValue ty = xfv E ty I R L k j := by
  unfold xfv
  rw [hI, hR, hL]
  cases ty <;> first | rfl | exact absurd rfl h1 | exact absurd rfl h2
def XMt (z : XM) (n : Nat) : Prop := Cond.code z.1 z.2.1 z.2.2.1 z.2.2.2 ∈ GT ∧ Cond.initialized z.1.cls ∈ GT ∧ (z.1.cls ≠ "java/lang/invoke/MethodHandle" ∧ z.1.cls ≠ "java/lang/invoke/VarHandle" ∧ (parseMethodDescriptor z.1.desc).map (fun d => d.parameters.length) = some n) ∧ z.2.2.1 ≤ 40
def XMv (z : XM) (n : Nat) : Prop := XMt z n ∧ Cond.instanceMethod z.1 ∈ GT ∧ Cond.selects z.1.cls z.1 z.1 ∈ GT
def XMs (z : XM) (n : Nat) : Prop := XMt z n ∧ Cond.static z.1 ∈ GT
def XMi (z : XM) (n : Nat) : Prop := XMt z n ∧ z.1.name = "<init>" ∧ Cond.instanceMethod z.1 ∈ GT ∧ z.2.2.2 = none
theorem gt_xws {z : XM} {n : Nat} (h : XMt z n) : ∀ w ∈ xws z, w ∈ GT := fun w hw => (List.mem_cons.mp hw).elim (fun e => e ▸ h.1) id
theorem xpc_blind {E : XE} {as : List Value} {sh : XSh} {I : XI} {R : XRf} {L : XL} : FrameBlind (va_Pc as (fun U => XR E sh I R L U U.heap)) := by
  intro a U g mk h
  exact ⟨h.1, h.2.warm (U := U.calling g mk a) (State.WarmedH.refl U)⟩
section XCALL
variable {E : XE} {y : XM} {d mc ms kc ks pc q : Nat} {Q : XQ} {ls : List (Option Value)} {st : List Value} {sh : XSh} {I : XI} {R : XRf} {L : XL}
theorem xv_new {t N idx kc' ks' : Nat} {C : String} {T : u_T} (hq : pc + 3 = q) (hd : decode y.2.1 pc = .ok (.new idx, 3)) (ht : t < 8) (hcl : vwCl[t]? = some (C, T, N)) (hws : ∀ w ∈ u_ws C T N, w ∈ GT) (hty : ∀ k, k < N → parseFieldDescriptor (T k).2.2.1 = some (xft t k)) (hnf : ∀ k, k < N → xft t k ≠ .float ∧ xft t k ≠ .double)
    (hw1 : Cond.classLink y.1.cls idx C ∈ GT) (hw2 : Cond.instantiable C N ∈ GT) (hw3 : Cond.initialized C ∈ GT) (h1 : kc' + 1 ≤ kc) (h2 : ks' + N ≤ ks) (kk : XV E y d mc ms Q kc' ks' q ls (.ref sh.length :: st) (sh ++ [(t, N)]) I R L) : XV E y d mc ms Q kc ks pc ls st sh I R L := by
  subst hq
  intro p e s m args below meth c H locs cells slots arr hB hR hS hc hk hl0 hl
  have hKn := hR.2.1.1 t _ hcl
  have hts := hB.2.2.2.2.2.1
  have hm : ∀ {w : Cond}, w ∈ GT → w.before args s = true := fun h => hts _ (List.mem_cons_of_mem _ h)
  refine W.newcK hB.1 hB.2.1 hB.2.2.2.2.1 (hm hw1) (hm hw2) (hm hw3) rfl hd (by show _ ≤ mc; omega) (by show _ ≤ ms; omega) hKn.2.1 hR.2.2.2.1 fun H1 kC hkC e1 z1 o1 => ?_
  have hz := hR.2.2.2.2.2.1 sh.length (Nat.le_refl _)
  obtain ⟨hR1, hS1⟩ := xr_new (t, N) hR (H1 := H1) (by
    rw [xce_obj ht]
    refine ⟨_, hcl, (u_born (xft t) hts (fun w h => List.mem_cons_of_mem _ (hws w h)) hKn hkC e1 hty).to (fun j hj => ?_)⟩
    show _ = vp_V ((List.range N).map _) j
    rw [vp_V, List.getD_eq_getElem?_getD, List.getElem?_map, List.getElem?_range hj]
    exact xfv0 hz.1 hz.2.1 hz.2.2 (hnf j hj).1 (hnf j hj).2) (by rw [z1, hR.2.2.2.1]) (fun a ha => o1 a (by rw [hR.2.2.2.1] at ha; exact ha)) hS hB.2.2.2.2.2.2.2.2
  exact kk p e s m args below meth c H1 locs (cells + 1) (slots + N) arr hB hR1 hS1 (by omega) (by omega) hl0 hl
theorem xv_objInit {idx k : Nat} (hq : pc + 3 = q) (hd : decode y.2.1 pc = .ok (.invokespecial idx, 3)) (hw1 : Cond.methodLink y.1.cls idx Lib.objectInit ∈ GT) (hw2 : Cond.instanceMethod Lib.objectInit ∈ GT) (hw3 : Cond.code Lib.objectInit ⟨#[0xb1]⟩ 1 none ∈ GT) (hst : (st.map fun v => v.category).sum ≤ 8) (hdd : 1 ≤ d) (kk : XV E y d mc ms Q kc ks q ls st sh I R L) : XV E y d mc ms Q kc ks pc ls (.ref k :: st) sh I R L := by
  subst hq
  intro p e s m args below meth c H locs cells slots arr hB hR hS hc hk hl0 hl
  have hm : ∀ {w : Cond}, w ∈ GT → w.before args s = true := fun h => hB.2.2.2.2.2.1 _ (List.mem_cons_of_mem _ h)
  refine W.objInit hB.1 hB.2.1 hB.2.2.2.2.1 (hm hw1) (hm hw2) (hm hw3) rfl (by rw [hB.2.2.2.1, ← hl0]; exact hl.1) rfl hd hdd (by show 2 * 0 + _ + 12 ≤ 64 * d; rw [sv_cats]; omega) ?_
  exact kk p e s m args below meth c H locs cells slots arr hB hR hS hc hk hl0 hl
theorem xv_after {p : Program} {e : Env} {s : State} {m : MethodId} {args : Array Value} {below : List Frame} {meth : Method} {c : Code} {H : Heap} {locs : List Loc} {cells slots mc' ms' : Nat} {arr : Array Slot} {stk : List Value} {a : Array Value} {Q' : XQ} {kc' ks' : Nat}
    (hr : va_Run p E.1 e (xrm d mc ms) s m args below meth c H locs cells slots mc' ms' (F0 m pc arr stk) (st.map (sv E)) (xQc E Q' a) (xA E)) (hB : XB E y p s m args meth c) (hR : XR E sh I R L s H) (hS : va_S (xA E) s.heap H locs) (hc : cells + mc' + kc' ≤ mc) (hk : slots + ms' + ks' ≤ ms) (hl0 : ls.length = y.2.2.1) (hl : xloc E arr ls)
    (kk : ∀ (v : Option Value) (sh' : XSh) (I' : XI) (R' : XRf) (L' : XL), Q' v sh' I' R' L' → XV E y d mc ms Q kc' ks' (pc + 3) ls (v.toList ++ st) sh' I' R' L') :
    W p E.1 e (xrm d mc ms) s m args below meth c H locs cells slots (MQ below (xQc E Q) args s mc ms (xA E)) (F0 m pc arr stk) := by
  intro T hT X
  obtain ⟨v, st₀, t, T', Lc, h0, X', hL, e1, e2, ⟨⟨w, sh', I', R', L', hv, hQ, hR'⟩, hz⟩, stp⟩ := hr T hT X
  have hv' : v = w.map (sv E) := by cases hv; rfl
  subst hv'
  have hRs : XR E sh' I' R' L' s T'.heap := by
    rw [e1]
    exact ⟨hR'.1, hR.2.1, hR'.2.2.1, hR'.2.2.2.1, hR'.2.2.2.2.1, hR'.2.2.2.2.2.1, hR.2.2.2.2.2.2⟩
  have hSs : va_S (xA E) s.heap T'.heap (locs ++ Lc) := by
    refine ⟨Nat.le_trans hS.1 (by rw [e1, ← h0]; exact hz), fun a g1 g2 => ?_, fun l hl => ?_⟩
    · have ha : a < xN E := Nat.not_le.mp g2
      rw [hRs.2.2.2.2.1 a ha, ← hS.2.1 a g1 g2, hR.2.2.2.2.1 a ha]
    · rcases List.mem_append.mp hl with h | h
      · exact hS.2.2 l h
      · exact hL l h
  obtain ⟨t2, a1, b1⟩ := kk w sh' I' R' L' hQ p e s m args below meth c T'.heap (locs ++ Lc) (cells + mc') (slots + ms') arr hB hRs hSs (by omega) (by omega) hl0 hl T' rfl X'
  refine ⟨t2, stp t2 ?_, b1⟩
  have es : (w.toList ++ st).map (sv E) = (w.map (sv E)).toList ++ st.map (sv E) := by cases w <;> rfl
  rw [es] at a1
  exact a1
theorem xv_callV {z : XM} {idx n k t N d' mc' ms' kc' ks' : Nat} {T : u_T} {as stk : List Value} {Q' : XQ} (hq : pc + 3 = q) (hd : decode y.2.1 pc = .ok (.invokevirtual idx, 3)) (hl1 : Cond.methodLink y.1.cls idx z.1 ∈ GT) (hz : XMv z n) (hs : sh[k]? = some (t, N)) (hcl : vwCl[t]? = some (z.1.cls, T, N)) (ht : t < 8) (hn : as.length = n)
    (hstk : stk = as.reverse ++ .ref k :: st) (hw : (st.map fun v => v.category).sum ≤ 8) (hC : XC E z d' mc' ms' (.ref k :: as) sh I R L Q') (hdd : d' + 1 ≤ d) (hm1 : mc' + kc' ≤ kc) (hm2 : ms' + ks' ≤ ks)
    (kk : ∀ (v : Option Value) (sh' : XSh) (I' : XI) (R' : XRf) (L' : XL), Q' v sh' I' R' L' → XV E y d mc ms Q kc' ks' q ls (v.toList ++ st) sh' I' R' L') : XV E y d mc ms Q kc ks pc ls stk sh I R L := by
  subst hq; subst hstk
  intro p e s m args below meth c H locs cells slots arr hB hR hS hc hk hl0 hl
  obtain ⟨hzt, hz2, hz3⟩ := hz
  have he := xw_at (E := E) (I := I) (R := R) (L := L) hs
  rw [xce_obj ht] at he
  refine xv_after (mc' := mc') (ms' := ms') (a := (Value.ref (xN E + k) :: as.map (sv E)).toArray) ?_ hB hR hS (by omega) (by omega) hl0 hl kk
  refine va_runV (As := as.map (sv E)) (own := y.1.cls) (C := z.1.cls) (Ts := xws y) (n := n) (nL := y.2.2.1) ⟨hB.1, hB.2.1, hB.2.2.2.1, hB.2.2.2.2.1, hB.2.2.2.2.2.1⟩ hC (cwV n hB.2.2.2.2.2.1 (gt_sub (fun w hw => ?_) _) rfl rfl rfl ⟨rfl, hzt.2.2.1⟩ ⟨hdd, ?_⟩) ⟨xpc_blind, va_recv hR.2.1 hR.1 hcl he, fun U hU hW => ⟨rfl, by show XR E sh I R L U U.heap; rw [hU]; exact hR.warm hW⟩⟩ rfl (by rw [List.length_map]; exact hn) (by rw [← hl0]; exact hl.1) (by simp [List.map_reverse, sv]) (lv_room (by rw [sv_cats]; exact hw)) hd ⟨by show _ ≤ mc; omega, by show _ ≤ ms; omega⟩
  · unfold wsV at hw
    rcases List.mem_append.mp hw with h | h
    · simp only [List.mem_cons, List.not_mem_nil, or_false] at h
      rcases h with rfl | rfl | rfl | rfl
      · exact hl1
      · exact hz2
      · exact hz3
      · exact hzt.2.1
    · exact gt_xws hzt w h
  · show 8 + (z.2.2.1 + 11) + 64 * d' ≤ 64 * d
    have := hzt.2.2.2
    omega
theorem xv_callS {z : XM} {idx n d' mc' ms' kc' ks' : Nat} {as stk : List Value} {Q' : XQ} (hq : pc + 3 = q) (hd : decode y.2.1 pc = .ok (.invokestatic idx, 3)) (hl1 : Cond.methodLink y.1.cls idx z.1 ∈ GT) (hz : XMs z n) (hn : as.length = n)
    (hstk : stk = as.reverse ++ st) (hw : (st.map fun v => v.category).sum ≤ 8) (hC : XC E z d' mc' ms' as sh I R L Q') (hdd : d' + 1 ≤ d) (hm1 : mc' + kc' ≤ kc) (hm2 : ms' + ks' ≤ ks)
    (kk : ∀ (v : Option Value) (sh' : XSh) (I' : XI) (R' : XRf) (L' : XL), Q' v sh' I' R' L' → XV E y d mc ms Q kc' ks' q ls (v.toList ++ st) sh' I' R' L') : XV E y d mc ms Q kc ks pc ls stk sh I R L := by
  subst hq; subst hstk
  intro p e s m args below meth c H locs cells slots arr hB hR hS hc hk hl0 hl
  obtain ⟨hzt, hz2⟩ := hz
  refine xv_after (mc' := mc') (ms' := ms') (a := (as.map (sv E)).toArray) ?_ hB hR hS (by omega) (by omega) hl0 hl kk
  refine va_runS (As := as.map (sv E)) (own := y.1.cls) (Ts := xws y) (n := n) (nL := y.2.2.1) ⟨hB.1, hB.2.1, hB.2.2.2.1, hB.2.2.2.2.1, hB.2.2.2.2.2.1⟩ hC (va_cwS n hB.2.2.2.2.2.1 (gt_sub (fun w hw => ?_) _) rfl rfl rfl hzt.2.2.1 ⟨hdd, ?_⟩) ⟨xpc_blind, fun U hU hW => ⟨rfl, by show XR E sh I R L U U.heap; rw [hU]; exact hR.warm hW⟩⟩ rfl (by rw [List.length_map]; exact hn) (by rw [← hl0]; exact hl.1) (by simp [List.map_reverse]) (lv_room (by rw [sv_cats]; exact hw)) hd ⟨by show _ ≤ mc; omega, by show _ ≤ ms; omega⟩
  · unfold va_wsS at hw
    rcases List.mem_append.mp hw with h | h
    · simp only [List.mem_cons, List.not_mem_nil, or_false] at h
      rcases h with rfl | rfl | rfl
      · exact hl1
      · exact hz2
      · exact hzt.2.1
    · exact gt_xws hzt w h
  · show 8 + (z.2.2.1 + 11) + 64 * d' ≤ 64 * d
    have := hzt.2.2.2
    omega
theorem xv_callI {z : XM} {idx n k d' mc' ms' kc' ks' : Nat} {as stk : List Value} {Q' : XQ} (hq : pc + 3 = q) (hd : decode y.2.1 pc = .ok (.invokespecial idx, 3)) (hl1 : Cond.methodLink y.1.cls idx z.1 ∈ GT) (hz : XMi z n) (hn : as.length = n)
    (hstk : stk = as.reverse ++ .ref k :: st) (hw : (st.map fun v => v.category).sum ≤ 8) (hC : XC E z d' mc' ms' (.ref k :: as) sh I R L Q') (hdd : d' + 1 ≤ d) (hm1 : mc' + kc' ≤ kc) (hm2 : ms' + ks' ≤ ks)
    (kk : ∀ (v : Option Value) (sh' : XSh) (I' : XI) (R' : XRf) (L' : XL), Q' v sh' I' R' L' → XV E y d mc ms Q kc' ks' q ls (v.toList ++ st) sh' I' R' L') : XV E y d mc ms Q kc ks pc ls stk sh I R L := by
  subst hq; subst hstk
  intro p e s m args below meth c H locs cells slots arr hB hR hS hc hk hl0 hl
  obtain ⟨hzt, hz2, hz3, hz4⟩ := hz
  have hm : ∀ {w : Cond}, w ∈ GT → w.before args s = true := fun h => hB.2.2.2.2.2.1 _ (List.mem_cons_of_mem _ h)
  refine xv_after (mc' := mc') (ms' := ms') (a := (Value.ref (xN E + k) :: as.map (sv E)).toArray) ?_ hB hR hS (by omega) (by omega) hl0 hl kk
  refine va_runI (As := as.map (sv E)) (own := y.1.cls) (Ts := xws y) (n := n) (nL := y.2.2.1) ⟨hB.1, hB.2.1, hB.2.2.2.1, hB.2.2.2.2.1, hB.2.2.2.2.2.1⟩ hC (cwI n hB.2.2.2.2.2.1 (gt_sub (gt_xws hzt) _) (show xws z = Cond.code z.1 z.2.1 z.2.2.1 none :: GT by unfold xws; rw [hz4]) rfl rfl (hm hzt.2.1) (hm hl1) (hm hz3) hz2 hzt.2.2.1 ⟨hdd, ?_⟩) ⟨xpc_blind, fun U hU hW => ⟨rfl, by show XR E sh I R L U U.heap; rw [hU]; exact hR.warm hW⟩⟩ rfl (by rw [List.length_map]; exact hn) (by rw [← hl0]; exact hl.1) (by simp [List.map_reverse, sv]) (lv_room (by rw [sv_cats]; exact hw)) hd ⟨by show _ ≤ mc; omega, by show _ ≤ ms; omega⟩
  show 8 + (z.2.2.1 + 11) + 64 * d' ≤ 64 * d
  have := hzt.2.2.2
  omega
/-- a nest mate's private constructor -/
theorem xv_callN {z : XM} {idx n k d' mc' ms' kc' ks' : Nat} {host : String} {as stk : List Value} {Q' : XQ} (hq : pc + 3 = q) (hd : decode y.2.1 pc = .ok (.invokespecial idx, 3)) (hl1 : (y.1.cls, idx, z.1, host) ∈ xnest) (hz : XMi z n) (hn : as.length = n)
    (hstk : stk = as.reverse ++ .ref k :: st) (hw : (st.map fun v => v.category).sum ≤ 8) (hC : XC E z d' mc' ms' (.ref k :: as) sh I R L Q') (hdd : d' + 1 ≤ d) (hm1 : mc' + kc' ≤ kc) (hm2 : ms' + ks' ≤ ks)
    (kk : ∀ (v : Option Value) (sh' : XSh) (I' : XI) (R' : XRf) (L' : XL), Q' v sh' I' R' L' → XV E y d mc ms Q kc' ks' q ls (v.toList ++ st) sh' I' R' L') : XV E y d mc ms Q kc ks pc ls stk sh I R L := by
  subst hq; subst hstk
  intro p e s m args below meth c H locs cells slots arr hB hR hS hc hk hl0 hl
  obtain ⟨hzt, hz2, hz3, hz4⟩ := hz
  have hm : ∀ {w : Cond}, w ∈ GT → w.before args s = true := fun h => hB.2.2.2.2.2.1 _ (List.mem_cons_of_mem _ h)
  refine xv_after (mc' := mc') (ms' := ms') (a := (Value.ref (xN E + k) :: as.map (sv E)).toArray) ?_ hB hR hS (by omega) (by omega) hl0 hl kk
  refine va_runIN (As := as.map (sv E)) (own := y.1.cls) (host := host) (Ts := xws y) (n := n) (nL := y.2.2.1) ⟨hB.1, hB.2.1, hB.2.2.2.1, hB.2.2.2.2.1, hB.2.2.2.2.2.1⟩ hC ⟨va_cnB n hB.2.2.2.2.2.1 (gt_sub (gt_xws hzt) _) (show xws z = Cond.code z.1 z.2.1 z.2.2.1 none :: GT by unfold xws; rw [hz4]) rfl rfl (hR.2.2.2.2.2.2.2.2.1 _ hl1) (hm hzt.2.1) hzt.2.2.1 ⟨hdd, ?_⟩, hz2, hm hz3⟩ ⟨xpc_blind, fun U hU hW => ⟨rfl, by show XR E sh I R L U U.heap; rw [hU]; exact hR.warm hW⟩⟩ rfl (by rw [List.length_map]; exact hn) (by rw [← hl0]; exact hl.1) (by simp [List.map_reverse, sv]) (lv_room (by rw [sv_cats]; exact hw)) hd ⟨by show _ ≤ mc; omega, by show _ ≤ ms; omega⟩
  show 8 + (z.2.2.1 + 11) + 64 * d' ≤ 64 * d
  have := hzt.2.2.2
  omega
end XCALL
/-! entries -/
def xen : List Value → List (Option Value)
  | [] => []
  | .long v :: vs => some (.long v) :: none :: xen vs
  | .double v :: vs => some (.double v) :: none :: xen vs
  | v :: vs => some v :: xen vs
theorem xen_cons (v : Value) (vs : List Value) : xen (v :: vs) = if v.category = 2 then some v :: none :: xen vs else some v :: xen vs := by cases v <;> rfl
def xent (n : Nat) (as : List Value) : List (Option Value) := xen as ++ List.replicate (n - (xen as).length) none
theorem lg_rep (n j : Nat) : lg (List.replicate n none) j = none := by
  induction n generalizing j with
  | zero => rfl
  | succ n ih => cases j <;> simp [List.replicate_succ, lg, ih]
theorem lg_app : ∀ (a b : List (Option Value)) (j : Nat), lg (a ++ b) j = if j < a.length then lg a j else lg b (j - a.length)
  | [], b, j => by simp
  | x :: xs, b, 0 => by simp [lg]
  | x :: xs, b, j + 1 => by
    have h := lg_app xs b j
    simp only [List.cons_append, lg, h, List.length_cons]
    simp
theorem xen_args (E : XE) : ∀ (as : List Value) (i j : Nat) (v : Value), lg (xen as) j = some v → (i + j, sv E v) ∈ lv_args i (as.map (sv E))
  | [], i, j, v, h => by simp [xen, lg] at h
  | a :: as, i, j, v, h => by
    rw [xen_cons] at h
    show _ ∈ (i, sv E a) :: lv_args (if (sv E a).category = 2 then i + 2 else i + 1) (as.map (sv E))
    rw [sv_cat]
    by_cases hc : a.category = 2
    · rw [if_pos hc] at h ⊢
      match j, h with
      | 0, h => cases h; exact List.mem_cons_self
      | 1, h => cases h
      | j + 2, h =>
        have := xen_args E as (i + 2) j v h
        rw [show i + (j + 2) = i + 2 + j by omega]
        exact List.mem_cons_of_mem _ this
    · rw [if_neg hc] at h ⊢
      match j, h with
      | 0, h => cases h; exact List.mem_cons_self
      | j + 1, h =>
        have := xen_args E as (i + 1) j v h
        rw [show i + (j + 1) = i + 1 + j by omega]
        exact List.mem_cons_of_mem _ this
theorem xen_len (E : XE) : ∀ as : List Value, (lg_sl (as.map (sv E))).length = (xen as).length
  | [] => rfl
  | a :: as => by
    have ih := xen_len E as
    unfold lg_sl at ih ⊢
    rw [xen_cons, List.map_cons, List.flatMap_cons, List.length_append, ih, sv_cat]
    by_cases hc : a.category = 2
    · rw [if_pos hc, if_pos hc]; simp; omega
    · rw [if_neg hc, if_neg hc]; simp; omega
theorem XC.of {E : XE} {y : XM} {d mc ms : Nat} {as : List Value} {ls : List (Option Value)} {sh : XSh} {I : XI} {R : XRf} {L : XL} {Q : XQ} (hy : plainName y.1.cls = true) (hls : xent y.2.2.1 as = ls) (hn : Nat.ble (xen as).length y.2.2.1 = true) (k : XV E y d mc ms Q mc ms 0 ls [] sh I R L) : XC E y d mc ms as sh I R L Q := by
  subst hls
  have hle : (xen as).length ≤ y.2.2.1 := Nat.le_of_ble_eq_true hn
  refine Met.ofW (cc := y.2.1) (maxL := y.2.2.1) (ret := y.2.2.2) hy rfl ?_
  intro p e s m args below meth c s₁ B hml hv
  obtain ⟨rfl, hR⟩ := hv
  have hl := lv_entry (as.map (sv E)) (n := y.2.2.1) (by rw [xen_len]; exact hle)
  rw [lg_entry_eq]
  generalize (lg_sl (as.map (sv E)) ++ List.replicate (y.2.2.1 - (lg_sl (as.map (sv E))).length) Slot.unset).toArray = arr at hl ⊢
  have hlen : (xent y.2.2.1 as).length = y.2.2.1 := by unfold xent; rw [List.length_append, List.length_replicate]; omega
  refine k p e s m _ below meth c s.heap [] 0 0 arr ⟨B.exec, B.bytes, B.returns, hml, findClass_of_methodNamed B.named, atoms_spec (ws := xws y) B.pre, B.notSynchronized, (name_of_methodNamed B.named B.method).1, by rw [hR.2.2.2.1]; omega⟩ hR va_S.rf (by omega) (by omega) hlen ⟨by rw [hlen]; exact hl.1, hl.2.1, fun i v h => ?_⟩
  unfold xent at h
  rw [lg_app] at h
  split at h
  · have := xen_args E as 0 i v h
    rw [Nat.zero_add] at this
    exact hl.2.2 _ this
  · rw [lg_rep] at h; cases h

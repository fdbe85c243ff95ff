/-- THE LAW, from its entry -/
theorem whole_start {p : Program} {e : Env} {s : State} {m : MethodId} {below : List Frame} {meth : Method} {c : Code} (l : Launch) (hflags : l.flags = flags0) {b L : Nat} {xs : Nat → Int32} (hL : L ≤ 3072) (C0 : lw_At p s m meth c b L xs) : W p l e room_1 s m #[Value.ref b] below meth c s.heap [] 0 0 (lw_Z below #[Value.ref b] s) (entryFrame m ([Value.ref b] : List Value).toArray 4) := by
  obtain ⟨zhx, zhb, hr, hml, hown, hts, hX, hbl, hlocks, hgv⟩ := id C0
  have htg : ∀ w ∈ GT, w.before #[Value.ref b] s = true := fun w hw => hts w (List.mem_filter.mp hw).1
  obtain ⟨zc0, i0, zk0⟩ := u_known (C := RX0) (T := TX0) (N := 10) (n := 10) htg inX0 (htg _ ia_X0)
  obtain ⟨zc1, i1, zk1⟩ := u_known (C := RX1) (T := TX1) (N := 9) (n := 9) htg inX1 (htg _ ia_X1)
  obtain ⟨zc2, i2, zk2⟩ := u_known (C := RX2) (T := TX2) (N := 4) (n := 4) htg inX2 (htg _ ia_X2)
  obtain ⟨zc3, i3, zk3⟩ := u_known (C := RX3) (T := TX3) (N := 3) (n := 3) htg inX3 (htg _ ia_X3)
  obtain ⟨zc4, i4, zk4⟩ := u_known (C := RX4) (T := TX4) (N := 2) (n := 2) htg inX4 (htg _ ia_X4)
  obtain ⟨zc5, i5, zk5⟩ := u_known (C := RX5) (T := TX5) (N := 10) (n := 10) htg inX5 (htg _ ia_X5)
  obtain ⟨zc6, i6, k6⟩ := u_known (C := RX6) (T := TX6) (N := 9) (n := 9) htg inX6 (htg _ ia_X6)
  obtain ⟨zc7, i7, zk7⟩ := u_known (C := RX7) (T := TX7) (N := 49) (n := 49) htg inX7 (htg _ ia_X7)
  obtain ⟨dC, dI, hKc⟩ : ∃ (dC : Nat → ClassId) (dI : Nat → Nat → Nat), ∀ (k : Nat) (q : vw_C), vwCl[k]? = some q → u_Kn s q.1 q.2.1 q.2.2 (dC k) (dI k) := by
    refine ⟨fun k => if k = 0 then zc0 else if k = 1 then zc1 else if k = 2 then zc2 else if k = 3 then zc3 else if k = 4 then zc4 else if k = 5 then zc5 else if k = 6 then zc6 else zc7, fun k => if k = 0 then i0 else if k = 1 then i1 else if k = 2 then i2 else if k = 3 then i3 else if k = 4 then i4 else if k = 5 then i5 else if k = 6 then i6 else i7, ?_⟩
    intro k q zhq
    match k, zhq with
    | 0, zhq => cases zhq; exact zk0
    | 1, zhq => cases zhq; exact zk1
    | 2, zhq => cases zhq; exact zk2
    | 3, zhq => cases zhq; exact zk3
    | 4, zhq => cases zhq; exact zk4
    | 5, zhq => cases zhq; exact zk5
    | 6, zhq => cases zhq; exact k6
    | 7, zhq => cases zhq; exact zk7
    | k + 8, zhq => simp [vwCl] at zhq
  obtain ⟨xp0, hxs⟩ := xs_start hts hgv
  obtain ⟨za0, ka0, co0, f0, zg0, zh0⟩ := Cond.arrayClass_spec (htg _ ac_int)
  obtain ⟨za1, ka1, co1, f1, zg1, zh1⟩ := Cond.arrayClass_spec (htg _ ac_boolean)
  obtain ⟨co2, za2, ka2, f2, -, zg2, zh2, n2⟩ := Cond.arrayOver_spec (hts _ (tb_1 120 rfl))
  obtain ⟨co3, za3, ka3, f3, -, zg3, zh3, n3⟩ := Cond.arrayOver_spec (hts _ (tb_1 122 rfl))
  obtain ⟨E, hE⟩ : ∃ E : XE, E = (l, s.heap, (dC, dI), (fun k => if k = 0 then za0 else if k = 1 then za1 else if k = 2 then za2 else za3), xp0) := ⟨_, rfl⟩
  have hK : va_K (xD E) vwCl (xty E) s := by
    subst hE
    refine ⟨hKc, fun k q h => ?_⟩
    match k, h with
    | 0, h => cases h; exact ⟨fun n z => ⟨fun k h => (by cases h), ka0, zg0, co0, zh0⟩, f0⟩
    | 1, h => cases h; exact ⟨fun n z => ⟨fun k h => (by cases h), ka1, zg1, co1, zh1⟩, f1⟩
    | 2, h => cases h; exact ⟨fun n z => ⟨fun k h => (by cases h), ka2, zg2, co2, zh2⟩, ka2, co2, zg2, zh2, f2, n2⟩
    | 3, h => cases h; exact ⟨fun n z => ⟨fun k h => (by cases h), ka3, zg3, co3, zh3⟩, ka3, co3, zg3, zh3, f3, n3⟩
    | k + 4, h => simp [xty] at h
  have ze1 : E.1 = l := by rw [hE]
  have ze2 : E.2.1 = s.heap := by rw [hE]
  have hR : XR E [] I00 R00 L00 s s.heap := by
    refine ⟨fun k q h => by simp [xw] at h, hK, ⟨fun i j p q h => by simp [xw] at h, fun k q h => by simp [xw] at h⟩, ?_, fun q _ => by rw [ze2], fun a _ => ⟨rfl, rfl, rfl⟩, ?_⟩
    · show s.heap.size = E.2.1.size + 0
      rw [ze2, Nat.add_zero]
    · rw [hE]; exact hxs _ _ _
  have hn : xN E = s.heap.size := by show E.2.1.size = _; rw [ze2]
  have hl := lv_entry ([.ref b]) (n := 4) (Nat.le_of_ble_eq_true rfl)
  rw [lg_entry_eq]
  generalize (lg_sl ([.ref b]) ++ List.replicate (4 - (lg_sl ([.ref b])).length) Slot.unset).toArray = ls at hl ⊢
  have hl : lv_has ls 4 [(0, .ref b)] := hl
  have hloc : xloc E ls [some (.retAddr b), none, none, none] := by
    refine ⟨hl.1, hl.2.1, fun i v h => ?_⟩
    match i, h with
    | 0, h => cases h; exact hl.2.2 (0, .ref b) List.mem_cons_self
    | 1, h => cases h
    | 2, h => cases h
    | 3, h => cases h
    | i + 4, h => cases h
  have k := law_entry (E := E) (qb := b) (qN := L) (qx := xs) hL p e s m below meth c s.heap [] 0 0 ls ⟨zhx, zhb, hr, hml, hown, htg, hlocks, ⟨by rw [ze2]; exact hX, by rw [hn]; exact hbl, by rw [hn]; exact Nat.le_refl _⟩, by rw [hn]; exact Nat.le_refl _⟩ hR va_S.rf (by decide) (by decide) rfl hloc
  rw [ze1] at k
  exact k
set_option maxHeartbeats 4000000 in
theorem lw_walk (l : Launch) (hflags : l.flags = flags0) (b : Addr) (xs : List Int32) : MetFree l x (headSpec (Jvm.Cond.code x code maxLocals ret :: tables_1) room_1) (lw_P b xs) (fun _ _ _ _ _ => True) lw_Q := by
  refine MetFree.of_bodyS (code := code) (maxLocals := maxLocals) (ret := ret) (by decide) ?_ ?_
  · intro args s m h hn
    obtain ⟨meth, c, h1, h2, h3, h4, h5, h6, -, -⟩ := Cond.code_spec hn (atoms_spec (ws := Jvm.Cond.code x code maxLocals ret :: tables_1) h _ List.mem_cons_self)
    exact ⟨meth, c, h1, h2, h3, h4, h5, h6⟩
  · intro p e s m args below meth c s₁ B hml0 hP _
    obtain ⟨rfl, hx, hbd, hgv⟩ := hP
    obtain ⟨scr, harrAt, hlist, hof, hsmall⟩ := hx
    obtain ⟨hcb, hkn, -, -⟩ := State.arrayAt?_spec harrAt
    have hown : s.vm.findClass R_law = some m.cls := findClass_of_methodNamed B.named
    have hts0 : ∀ c ∈ (Jvm.Cond.code x code maxLocals ret :: tables_1), c.before #[Value.ref b] s = true := atoms_spec (ws := Jvm.Cond.code x code maxLocals ret :: tables_1) B.pre
    have hts : ∀ w ∈ lw_tbl, w.before #[Value.ref b] s = true := k2_hts_sels lw_privs (fun w hw => hts0 w (List.mem_cons_of_mem _ hw)) lw_privs_ok
    have hml : c.maxLocals = 4 := B.maxLocals_eq (hts0 _ List.mem_cons_self)
    have X₀ : Stand p l e room_1 s m #[Value.ref b] below meth c s₁ [] 0 0 := Stand.of_body B
    have hh0 : s₁.heap = s.heap := by rw [B.state]; rfl
    have hsz : scr.slots.size = xs.length := by rw [← Array.length_toList, hlist, List.length_map]
    have hval : ∀ j : Nat, j < xs.length → scr.slots[j]? = some (.int (xs.getD j 0)) := fun j hj => by
      rw [← Array.getElem?_toList, hlist]
      simp [hj]
    have hbl : b < s.heap.size := (Array.getElem?_eq_some_iff.mp hcb).1
    have hX : va_X b xs.length (fun j => xs.getD j 0) s s.heap := ⟨scr, hcb, hof, hkn, hsz, hval⟩
    have K : W p l e room_1 s m #[Value.ref b] below meth c s₁.heap [] 0 0 (lw_Z below #[Value.ref b] s) (entryFrame m ([Value.ref b] : List Value).toArray 4) := by
      rw [hh0]
      exact whole_start l hflags hbd ⟨B.exec, B.bytes, B.returns, hml, hown, hts, hX, hbl, B.notSynchronized, hgv⟩
    obtain ⟨t, a1, o, b1, b2, b3⟩ := K s₁ rfl X₀
    exact ⟨t, o, a1, b1, b2, b3⟩
theorem lw_pre_spec {args : Array Value} {s : State} (h : (Jvm.Cond.and given_1 narrow_1).before args s = true) (hr : rest_1_c.before args s = true) : ∃ (b : Addr) (xs : List Int32), lw_P b xs args s := by
  have hs := flat_of_before _ h
  have hq := flat_of_before _ hr
  have hc : (Cond.count 1).before args s = true := hs _ (by decide +kernel)
  have harr : (Cond.arrayOf (.arg 0) .int).before args s = true := hs _ (by decide +kernel)
  have hle : (Cond.le (.length (.arg 0)) (.int 3072)).before args s = true := hs _ (by decide +kernel)
  have hlen : (Cond.isInt (.length (.arg 0))).before args s = true := hq _ (by decide +kernel)
  have hall : (Cond.all (.arg 0) (.isInt (.elem (.arg 0) (.index 0)))).before args s = true := hq _ (by decide +kernel)
  obtain ⟨b, xs, hb, hx⟩ := State.ints_of_pre rfl harr hlen hall
  have hsm : xs.length < 2 ^ 31 := hx.choose_spec.2.2.2
  have hev : (Term.length (.arg 0)).eval args s none [] s = some (.int xs.length.toInt32) := hx.length_eval hb
  have hv := Cond.le_ints hev (show (Term.int 3072).eval args s none [] s = some (.int 3072) from rfl)
  have hd : xs.length.toInt32 ≤ 3072 := by
    simpa [Cond.before, Cond.holds, hv] using hle
  have hN : xs.length ≤ 3072 := (Int32.ofNat_le_ofNat hsm (by decide)).mp (show Int32.ofNat xs.length ≤ Int32.ofNat 3072 from hd)
  exact ⟨b, xs, Cond.one_arg hc (show args[0]? = some (.ref b) from hb), hx, hN, h⟩
theorem lw_comes (l : Launch) (hflags : l.flags = flags0) : Comes l x (Jvm.Cond.code x code maxLocals ret :: tables_1) room_1 (fun tb e args s => Calls_1 tb e args s ∧ rest_1 tb e args s ∧ Pre_1 tb e args s)
    (fun _ _ args s o t => lw_Q args s o t) := by
  intro p e ha hc hk s m args below hf hfit hheap happ hpre
  obtain ⟨b, xs, hP⟩ := lw_pre_spec hpre.2.2 hpre.2.1
  obtain ⟨k, o, h1, h2, h3, hQ⟩ := lw_walk l hflags b xs p e ha hc hk s m args below hf ((Spec.applies_iff_loose hf).mp happ).1 hP trivial
  exact ⟨k, o, h1, h2, h3, hQ⟩
theorem lw_frame {s t : State} {o : Outcome} {args : Array Value} (h : Framed s o t [] 600000 7302250) :
    Framed s o t (fieldLocs frame_1_writes args s ++ arrayLocs frame_1_arrays args s ++ staticLocs frame_1_statics s) 600000 7302250 := h
theorem lw_limb (L : Cond) (hL : ∀ (args : Array Value) (s t : State), L.after args s (.returned (some (.int 1))) t = true) :
    ArmFor flags0 classFile x code maxLocals ret World_1 tables_1 room_1 Calls_1 rest_1 Pre_1
      (fun tb e a s o t => postC L tb e a s o t ∧ Framed s o t (fieldLocs frame_1_writes a s ++ arrayLocs frame_1_arrays a s ++ staticLocs frame_1_statics s) 600000 7302250) := by
  intro l hflags _ _ p e ha hc hk s m args below hf hfit hheap happ hpre
  obtain ⟨k, o, h1, h2, h3, rfl, hF⟩ := lw_comes l hflags p e ha hc hk s m args below hf hfit hheap happ hpre
  exact ⟨k, _, h1, h2, h3, hL args s _, lw_frame hF⟩
theorem i_vc : Claimed_1_1 ∧ Claimed_1_2 := ⟨lw_limb limb_1_1 (fun args s t => by simp [limb_1_1, Cond.after, Cond.holds, Cond.value]), lw_limb limb_1_2 (fun args s t => Cond.after_iff.mpr (by
  first | (rw [show limb_1_2 = Cond.eq .result (.int 1) from rfl, Cond.eq_ints (x := 1) (y := 1) rfl rfl]; simp; done) | (simp [limb_1_2, Cond.value, Term.eval]; done)))⟩

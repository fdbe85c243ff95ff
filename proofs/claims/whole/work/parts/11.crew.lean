/-! Crew, at any address a -/
def bI (b : Bool) : Int32 := if b then nI 1 else nI 0
theorem bI_t : bI true = nI 1 := rfl
theorem bI_f : bI false = nI 0 := rfl
theorem bIn {b : Bool} (h : ¬ bI b = 0) : b = true := by
  cases b
  · exact absurd rfl h
  · rfl
theorem bIz {b : Bool} (h : bI b = 0) : b = false := by
  cases b
  · rfl
  · exact absurd h (by decide)
/-- a crew stands at a: its rows at a + 1 .. a + 7 -/
def XCr (sh : XSh) (R : XRf) (a : Nat) : Prop := sh[a]? = some (0, 10) ∧ ∀ w, w < 7 → R a w = some (a + 1 + w) ∧ sh[a + 1 + w]? = some (8, 5)
/-- its rows hold c -/
def XCm (I : XI) (a : Nat) (c : XI) (m : Nat) : Prop := ∀ w r, w < 7 → r < m → I (a + 1 + w) r = c w r
def cf (c : XI) (o r : Nat) : Bool := decide (c 5 o = c 5 r) && (decide (c 3 o < c 4 r) && decide (c 3 r < c 4 o))
/-- whether r can stand with all others below n -/
def oks (c : XI) (r : Nat) : Nat → Bool
  | 0 => true
  | n + 1 => oks c r n && (decide (n = r) || !cf c n r)
theorem oks_mono {c : XI} {r o : Nat} (h : oks c r o = false) : ∀ k, oks c r (o + k) = false
  | 0 => h
  | k + 1 => by show (oks c r (o + k) && _) = false; rw [oks_mono h k]; rfl
theorem oks_le {c : XI} {r o n : Nat} (h : oks c r o = false) (hn : o ≤ n) : oks c r n = false := by
  have := oks_mono h (n - o)
  rwa [Nat.add_sub_cancel' hn] at this
section CREW
variable {E : XE} {d a : Nat} {sh : XSh} {I : XI} {R : XRf} {L : XL} {c : XI} {n r m : Nat}
/-- has(x): x is one of the first n riders -/
theorem c_has (hc : XCr sh R a) (hn : I a 7 = nI n) (hn5 : n ≤ 5) (x : Int32) : XC E mX0_has d 0 0 [.ref a, .int x] sh I R L (xq (some (.int (bI (decide (x.toInt < 0 ∨ (n : Int) ≤ x.toInt) == false)))) sh I R L) := by
  have hnt : (nI n).toInt = (n : Int) := nI_toInt (by omega)
  refine XC.of (by decide) rfl rfl ?_
  refine xv_iload_n (q := 1) rfl dX0_has_0 rfl rfl ?_
  refine xv_if_lt (q := 4) (t := 21) rfl rfl dX0_has_1 (fun h1 => ?_) (fun h1 => ?_)
  · refine xv_iconst (v := nI 0) (q := 22) rfl dX0_has_21 rfl ?_
    refine xv_zret (ty := .boolean) dX0_has_22 rfl rfl ?_
    exact ⟨by rw [show decide (x.toInt < 0 ∨ (n : Int) ≤ x.toInt) = true from decide_eq_true (Or.inl (by have := Int32.lt_iff_toInt_lt.mp h1; simpa using this))]; rfl, rfl, rfl, rfl, rfl⟩
  · refine xv_iload_n (q := 5) rfl dX0_has_4 rfl rfl ?_
    refine xv_aload_n (q := 6) rfl dX0_has_5 rfl rfl ?_
    refine xv_geti (q := 9) rfl dX0_has_6 f_X0_47 hc.1 ?_
    rw [hn]
    refine xv_icmp_ge (q := 12) (t := 21) rfl rfl dX0_has_9 (fun h9 => ?_) (fun h9 => ?_)
    · refine xv_iconst (v := nI 0) (q := 22) rfl dX0_has_21 rfl ?_
      refine xv_zret (ty := .boolean) dX0_has_22 rfl rfl ?_
      exact ⟨by rw [show decide (x.toInt < 0 ∨ (n : Int) ≤ x.toInt) = true from decide_eq_true (Or.inr (by rw [← hnt]; exact Int32.le_iff_toInt_le.mp h9))]; rfl, rfl, rfl, rfl, rfl⟩
    · refine xv_iload_n (q := 13) rfl dX0_has_12 rfl rfl ?_
      refine xv_iconst (v := nI 5) (q := 14) rfl dX0_has_13 rfl ?_
      refine xv_icmp_ge (q := 17) (t := 21) rfl rfl dX0_has_14 (fun h14 => ?_) (fun h14 => ?_)
      · refine xv_iconst (v := nI 0) (q := 22) rfl dX0_has_21 rfl ?_
        refine xv_zret (ty := .boolean) dX0_has_22 rfl rfl ?_
        exact ⟨by rw [show decide (x.toInt < 0 ∨ (n : Int) ≤ x.toInt) = true from decide_eq_true (Or.inr (by have := Int32.le_iff_toInt_le.mp h14; rw [nI_toInt (by decide)] at this; omega))]; rfl, rfl, rfl, rfl, rfl⟩
      · refine xv_iconst (v := nI 1) (q := 18) rfl dX0_has_17 rfl ?_
        refine xv_goto (t := 22) rfl dX0_has_18 ?_
        refine xv_zret (ty := .boolean) dX0_has_22 rfl rfl ?_
        have g1 : ¬ x.toInt < 0 := fun z => h1 (Int32.lt_iff_toInt_lt.mpr (by simpa using z))
        have g2 : ¬ (n : Int) ≤ x.toInt := fun z => h9 (Int32.le_iff_toInt_le.mpr (by rw [hnt]; exact z))
        exact ⟨by rw [show decide (x.toInt < 0 ∨ (n : Int) ≤ x.toInt) = false from decide_eq_false (by omega)]; rfl, rfl, rfl, rfl, rfl⟩
theorem c_canStand_loop (hc : XCr sh R a) (hm : XCm I a c m) (hm5 : m ≤ 5) (hn5 : n ≤ m) (hr : r < m) : ∀ (k o : Nat), o ≤ n → n < o + k → oks c r o = true → XV E mX0_canStand d 0 0 (xq (some (.int (bI (oks c r n)))) sh I R L) 0 0 2 [some (.ref a), some (.int (nI r)), some (.int (nI n)), some (.int (nI o))] [] sh I R L := by
  intro k
  induction k with
  | zero => intro o h1 h2; exact absurd h2 (by omega)
  | succ k ih =>
    intro o h1 h2 hok
    refine xv_iload_n (q := 3) rfl dX0_canStand_2 rfl rfl ?_
    refine xv_iload_n (q := 4) rfl dX0_canStand_3 rfl rfl ?_
    refine xv_icmp_ge (q := 7) (t := 70) rfl rfl dX0_canStand_4 (fun h4 => ?_) (fun h4 => ?_)
    · have hon : o = n := by have := nIle h4 (by omega) (by omega); omega
      refine xv_iconst (v := nI 1) (q := 71) rfl dX0_canStand_70 rfl ?_
      refine xv_zret (ty := .boolean) dX0_canStand_71 rfl rfl ?_
      exact ⟨by rw [← hon, hok]; rfl, rfl, rfl, rfl, rfl⟩
    · have hlt : o < n := nInle h4 (by omega) (by omega)
      refine xv_iload_n (q := 8) rfl dX0_canStand_7 rfl rfl ?_
      refine xv_iconst (v := nI 5) (q := 9) rfl dX0_canStand_8 rfl ?_
      refine xv_icmp_ge (q := 12) (t := 70) rfl rfl dX0_canStand_9 (fun h9 => ?_) (fun h9 => ?_)
      · exact absurd (nIle h9 (by omega) (by omega)) (by omega)
      · refine xv_iload_n (q := 13) rfl dX0_canStand_12 rfl rfl ?_
        refine xv_iload_n (q := 14) rfl dX0_canStand_13 rfl rfl ?_
        refine xv_icmp_eq (q := 17) (t := 64) rfl rfl dX0_canStand_14 (fun h14 => ?_) (fun h14 => ?_)
        · have hor : o = r := nIe h14 (by omega) (by omega)
          refine xv_iinc (q := 67) (v := nI 1) rfl dX0_canStand_64 rfl rfl ?_
          refine xv_goto (t := 2) rfl dX0_canStand_67 ?_
          rw [nI_add]
          exact ih (o + 1) (by omega) (by omega) (by show (oks c r o && (decide (o = r) || !cf c o r)) = true; rw [hok, hor]; simp)
        · refine xv_aload_n (q := 18) rfl dX0_canStand_17 rfl rfl ?_
          refine xv_geta (q := 21) rfl dX0_canStand_18 f_X0_27 hc.1 (hc.2 5 (by decide)).1 ?_
          refine xv_iload_n (q := 22) rfl dX0_canStand_21 rfl rfl ?_
          refine xv_iald (q := 23) rfl dX0_canStand_22 (hc.2 5 (by decide)).2 rfl (by omega) (by decide) ?_
          rw [hm 5 o (by decide) (by omega)]
          refine xv_aload_n (q := 24) rfl dX0_canStand_23 rfl rfl ?_
          refine xv_geta (q := 27) rfl dX0_canStand_24 f_X0_27 hc.1 (hc.2 5 (by decide)).1 ?_
          refine xv_iload_n (q := 28) rfl dX0_canStand_27 rfl rfl ?_
          refine xv_iald (q := 29) rfl dX0_canStand_28 (hc.2 5 (by decide)).2 rfl (by omega) (by decide) ?_
          rw [hm 5 r (by decide) hr]
          refine xv_icmp_ne (q := 32) (t := 64) rfl rfl dX0_canStand_29 (fun h29 => ?_) (fun h29 => ?_)
          · refine xv_iinc (q := 67) (v := nI 1) rfl dX0_canStand_64 rfl rfl ?_
            refine xv_goto (t := 2) rfl dX0_canStand_67 ?_
            rw [nI_add]
            exact ih (o + 1) (by omega) (by omega) (by show (oks c r o && (decide (o = r) || !cf c o r)) = true; rw [hok]; simp [cf, h29])
          · refine xv_aload_n (q := 33) rfl dX0_canStand_32 rfl rfl ?_
            refine xv_geta (q := 36) rfl dX0_canStand_33 f_X0_21 hc.1 (hc.2 3 (by decide)).1 ?_
            refine xv_iload_n (q := 37) rfl dX0_canStand_36 rfl rfl ?_
            refine xv_iald (q := 38) rfl dX0_canStand_37 (hc.2 3 (by decide)).2 rfl (by omega) (by decide) ?_
            rw [hm 3 o (by decide) (by omega)]
            refine xv_aload_n (q := 39) rfl dX0_canStand_38 rfl rfl ?_
            refine xv_geta (q := 42) rfl dX0_canStand_39 f_X0_24 hc.1 (hc.2 4 (by decide)).1 ?_
            refine xv_iload_n (q := 43) rfl dX0_canStand_42 rfl rfl ?_
            refine xv_iald (q := 44) rfl dX0_canStand_43 (hc.2 4 (by decide)).2 rfl (by omega) (by decide) ?_
            rw [hm 4 r (by decide) hr]
            refine xv_icmp_ge (q := 47) (t := 64) rfl rfl dX0_canStand_44 (fun h44 => ?_) (fun h44 => ?_)
            · refine xv_iinc (q := 67) (v := nI 1) rfl dX0_canStand_64 rfl rfl ?_
              refine xv_goto (t := 2) rfl dX0_canStand_67 ?_
              rw [nI_add]
              exact ih (o + 1) (by omega) (by omega) (by show (oks c r o && (decide (o = r) || !cf c o r)) = true; rw [hok]; simp [cf, ilen h44])
            · refine xv_aload_n (q := 48) rfl dX0_canStand_47 rfl rfl ?_
              refine xv_geta (q := 51) rfl dX0_canStand_48 f_X0_21 hc.1 (hc.2 3 (by decide)).1 ?_
              refine xv_iload_n (q := 52) rfl dX0_canStand_51 rfl rfl ?_
              refine xv_iald (q := 53) rfl dX0_canStand_52 (hc.2 3 (by decide)).2 rfl (by omega) (by decide) ?_
              rw [hm 3 r (by decide) hr]
              refine xv_aload_n (q := 54) rfl dX0_canStand_53 rfl rfl ?_
              refine xv_geta (q := 57) rfl dX0_canStand_54 f_X0_24 hc.1 (hc.2 4 (by decide)).1 ?_
              refine xv_iload_n (q := 58) rfl dX0_canStand_57 rfl rfl ?_
              refine xv_iald (q := 59) rfl dX0_canStand_58 (hc.2 4 (by decide)).2 rfl (by omega) (by decide) ?_
              rw [hm 4 o (by decide) (by omega)]
              refine xv_icmp_ge (q := 62) (t := 64) rfl rfl dX0_canStand_59 (fun h59 => ?_) (fun h59 => ?_)
              · refine xv_iinc (q := 67) (v := nI 1) rfl dX0_canStand_64 rfl rfl ?_
                refine xv_goto (t := 2) rfl dX0_canStand_67 ?_
                rw [nI_add]
                exact ih (o + 1) (by omega) (by omega) (by show (oks c r o && (decide (o = r) || !cf c o r)) = true; rw [hok]; simp [cf, ilen h59])
              · refine xv_iconst (v := nI 0) (q := 63) rfl dX0_canStand_62 rfl ?_
                refine xv_zret (ty := .boolean) dX0_canStand_63 rfl rfl ?_
                have hor : ¬ o = r := fun z => h14 (by rw [z])
                have hf : oks c r (o + 1) = false := by show (oks c r o && (decide (o = r) || !cf c o r)) = false; rw [hok]; simp [cf, hor, h29, ile h44, ile h59]
                exact ⟨by rw [oks_le hf (by omega)]; rfl, rfl, rfl, rfl, rfl⟩
/-- canStand(r, n) -/
theorem c_canStand (hc : XCr sh R a) (hm : XCm I a c m) (hm5 : m ≤ 5) (hn5 : n ≤ m) (hr : r < m) : XC E mX0_canStand d 0 0 [.ref a, .int (nI r), .int (nI n)] sh I R L (xq (some (.int (bI (oks c r n)))) sh I R L) := by
  refine XC.of (by decide) rfl rfl ?_
  refine xv_iconst (v := nI 0) (q := 1) rfl dX0_canStand_0 rfl ?_
  refine xv_istore_n (q := 2) rfl dX0_canStand_1 rfl rfl ?_
  exact c_canStand_loop hc hm hm5 hn5 hr (n + 1) 0 (by omega) (by omega) rfl
/-- all of the first n can stand -/
def aks (c : XI) : Nat → Bool
  | 0 => true
  | n + 1 => aks c n && oks c n n
theorem aks_f {c : XI} {o : Nat} (h : aks c o = false) : ∀ k, aks c (o + k) = false
  | 0 => h
  | k + 1 => by show (aks c (o + k) && _) = false; rw [aks_f h k]; rfl
theorem aks_le {c : XI} {o n : Nat} (h : aks c o = false) (hn : o ≤ n) : aks c n = false := by
  have := aks_f h (n - o)
  rwa [Nat.add_sub_cancel' hn] at this
theorem c_allCanStand_loop (hc : XCr sh R a) (hm : XCm I a c n) (hn : I a 7 = nI n) (hn5 : n ≤ 5) : ∀ (k o : Nat), o ≤ n → n < o + k → aks c o = true → XV E mX0_allCanStand (d + 1) 0 0 (xq (some (.int (bI (aks c n)))) sh I R L) 0 0 2 [some (.ref a), some (.int (nI o))] [] sh I R L := by
  intro k
  induction k with
  | zero => intro o h1 h2; exact absurd h2 (by omega)
  | succ k ih =>
    intro o h1 h2 hok
    refine xv_iload_n (q := 3) rfl dX0_allCanStand_2 rfl rfl ?_
    refine xv_aload_n (q := 4) rfl dX0_allCanStand_3 rfl rfl ?_
    refine xv_geti (q := 7) rfl dX0_allCanStand_4 f_X0_47 hc.1 ?_
    rw [hn]
    refine xv_icmp_ge (q := 10) (t := 27) rfl rfl dX0_allCanStand_7 (fun h7 => ?_) (fun h7 => ?_)
    · have hon : o = n := by have := nIle h7 (by omega) (by omega); omega
      refine xv_iconst (v := nI 1) (q := 28) rfl dX0_allCanStand_27 rfl ?_
      refine xv_zret (ty := .boolean) dX0_allCanStand_28 rfl rfl ?_
      exact ⟨by rw [← hon, hok]; rfl, rfl, rfl, rfl, rfl⟩
    · have hlt : o < n := nInle h7 (by omega) (by omega)
      refine xv_aload_n (q := 11) rfl dX0_allCanStand_10 rfl rfl ?_
      refine xv_iload_n (q := 12) rfl dX0_allCanStand_11 rfl rfl ?_
      refine xv_iload_n (q := 13) rfl dX0_allCanStand_12 rfl rfl ?_
      refine xv_cV2 (z := mX0_canStand) (q := 16) rfl dX0_allCanStand_13 l_X0_53 gX0_canStand hc.1 rfl rfl rfl (c_canStand (d := d) hc hm hn5 (Nat.le_of_lt hlt) hlt) (by omega) ?_
      refine xv_if_ne (q := 19) (t := 21) rfl rfl dX0_allCanStand_16 (fun h16 => ?_) (fun h16 => ?_)
      · have ho : oks c o o = true := bIn h16
        refine xv_iinc (q := 24) (v := nI 1) rfl dX0_allCanStand_21 rfl rfl ?_
        refine xv_goto (t := 2) rfl dX0_allCanStand_24 ?_
        rw [nI_add]
        exact ih (o + 1) (by omega) (by omega) (by show (aks c o && oks c o o) = true; rw [hok, ho]; rfl)
      · have ho : oks c o o = false := bIz h16
        refine xv_iconst (v := nI 0) (q := 20) rfl dX0_allCanStand_19 rfl ?_
        refine xv_zret (ty := .boolean) dX0_allCanStand_20 rfl rfl ?_
        have hf : aks c (o + 1) = false := by show (aks c o && oks c o o) = false; rw [hok, ho]; rfl
        exact ⟨by rw [aks_le hf (by omega)]; rfl, rfl, rfl, rfl, rfl⟩
theorem c_allCanStand (hc : XCr sh R a) (hm : XCm I a c n) (hn : I a 7 = nI n) (hn5 : n ≤ 5) : XC E mX0_allCanStand (d + 1) 0 0 [.ref a] sh I R L (xq (some (.int (bI (aks c n)))) sh I R L) := by
  refine XC.of (by decide) rfl rfl ?_
  refine xv_iconst (v := nI 0) (q := 1) rfl dX0_allCanStand_0 rfl ?_
  refine xv_istore_n (q := 2) rfl dX0_allCanStand_1 rfl rfl ?_
  exact c_allCanStand_loop hc hm hn hn5 (n + 1) 0 (by omega) (by omega) rfl
/-- LETS -/
def lts (c : XI) (r : Nat) (z : Int32) : Bool :=
  if c 0 r = nI 1 then decide (z < c 1 r)
  else if c 0 r = nI 3 then decide (c 5 r >>> (nI 1 &&& 31) = 0) || decide (z < c 1 r)
  else if c 0 r = nI 5 then decide (z + c 2 r < nI 10) || decide (z < c 1 r)
  else false
theorem lts_1 {c : XI} {r : Nat} {z : Int32} (h : c 0 r = nI 1) : lts c r z = decide (z < c 1 r) := by unfold lts; rw [h]; rfl
theorem lts_3 {c : XI} {r : Nat} {z : Int32} (h : c 0 r = nI 3) : lts c r z = (decide (c 5 r >>> (nI 1 &&& 31) = 0) || decide (z < c 1 r)) := by unfold lts; rw [h]; rfl
theorem lts_5 {c : XI} {r : Nat} {z : Int32} (h : c 0 r = nI 5) : lts c r z = (decide (z + c 2 r < nI 10) || decide (z < c 1 r)) := by unfold lts; rw [h]; rfl
theorem k6 {k : Nat} (h : k < 6) : k = 0 ∨ k = 1 ∨ k = 2 ∨ k = 3 ∨ k = 4 ∨ k = 5 := by omega
theorem c_letsBy {k : Nat} (hc : XCr sh R a) (hm : XCm I a c m) (hm5 : m ≤ 5) (hr : r < m) (hk : c 0 r = nI k) (hk6 : k < 6) (z : Int32) : XC E mX0_letsBy d 0 0 [.ref a, .int (nI r), .int z] sh I R L (xq (some (.int (bI (lts c r z)))) sh I R L) := by
  refine XC.of (by decide) rfl rfl ?_
  rcases k6 hk6 with rfl | rfl | rfl | rfl | rfl | rfl
  · refine xv_aload_n (q := 1) rfl dX0_letsBy_0 rfl rfl ?_
    refine xv_geta (q := 4) rfl dX0_letsBy_1 f_X0_9 hc.1 (hc.2 0 (by decide)).1 ?_
    refine xv_iload_n (q := 5) rfl dX0_letsBy_4 rfl rfl ?_
    refine xv_iald (q := 6) rfl dX0_letsBy_5 (hc.2 0 (by decide)).2 rfl (by omega) (by decide) ?_
    rw [hm 0 r (by decide) hr, hk]
    refine xv_tableOut (t := 112) dX0_letsBy_6 (by decide) rfl ?_
    refine xv_iconst (v := nI 0) (q := 113) rfl dX0_letsBy_112 rfl ?_
    refine xv_zret (ty := .boolean) dX0_letsBy_113 rfl rfl ?_
    exact ⟨by rw [show lts c r z = false by unfold lts; rw [hk]; rfl]; rfl, rfl, rfl, rfl, rfl⟩
  · refine xv_aload_n (q := 1) rfl dX0_letsBy_0 rfl rfl ?_
    refine xv_geta (q := 4) rfl dX0_letsBy_1 f_X0_9 hc.1 (hc.2 0 (by decide)).1 ?_
    refine xv_iload_n (q := 5) rfl dX0_letsBy_4 rfl rfl ?_
    refine xv_iald (q := 6) rfl dX0_letsBy_5 (hc.2 0 (by decide)).2 rfl (by omega) (by decide) ?_
    rw [hm 0 r (by decide) hr, hk]
    refine xv_tableIn (off := 34) (t := 40) dX0_letsBy_6 (by decide) (by decide) rfl rfl ?_
    refine xv_iload_n (q := 41) rfl dX0_letsBy_40 rfl rfl ?_
    refine xv_aload_n (q := 42) rfl dX0_letsBy_41 rfl rfl ?_
    refine xv_geta (q := 45) rfl dX0_letsBy_42 f_X0_15 hc.1 (hc.2 1 (by decide)).1 ?_
    refine xv_iload_n (q := 46) rfl dX0_letsBy_45 rfl rfl ?_
    refine xv_iald (q := 47) rfl dX0_letsBy_46 (hc.2 1 (by decide)).2 rfl (by omega) (by decide) ?_
    rw [hm 1 r (by decide) hr]
    refine xv_icmp_ge (q := 50) (t := 54) rfl rfl dX0_letsBy_47 (fun h47 => ?_) (fun h47 => ?_)
    · refine xv_iconst (v := nI 0) (q := 55) rfl dX0_letsBy_54 rfl ?_
      refine xv_zret (ty := .boolean) dX0_letsBy_55 rfl rfl ?_
      exact ⟨by rw [lts_1 hk, decide_eq_false (ilen h47)]; rfl, rfl, rfl, rfl, rfl⟩
    · refine xv_iconst (v := nI 1) (q := 51) rfl dX0_letsBy_50 rfl ?_
      refine xv_goto (t := 55) rfl dX0_letsBy_51 ?_
      refine xv_zret (ty := .boolean) dX0_letsBy_55 rfl rfl ?_
      exact ⟨by rw [lts_1 hk, decide_eq_true (ile h47)]; rfl, rfl, rfl, rfl, rfl⟩
  · refine xv_aload_n (q := 1) rfl dX0_letsBy_0 rfl rfl ?_
    refine xv_geta (q := 4) rfl dX0_letsBy_1 f_X0_9 hc.1 (hc.2 0 (by decide)).1 ?_
    refine xv_iload_n (q := 5) rfl dX0_letsBy_4 rfl rfl ?_
    refine xv_iald (q := 6) rfl dX0_letsBy_5 (hc.2 0 (by decide)).2 rfl (by omega) (by decide) ?_
    rw [hm 0 r (by decide) hr, hk]
    refine xv_tableIn (off := 106) (t := 112) dX0_letsBy_6 (by decide) (by decide) rfl rfl ?_
    refine xv_iconst (v := nI 0) (q := 113) rfl dX0_letsBy_112 rfl ?_
    refine xv_zret (ty := .boolean) dX0_letsBy_113 rfl rfl ?_
    exact ⟨by rw [show lts c r z = false by unfold lts; rw [hk]; rfl]; rfl, rfl, rfl, rfl, rfl⟩
  · refine xv_aload_n (q := 1) rfl dX0_letsBy_0 rfl rfl ?_
    refine xv_geta (q := 4) rfl dX0_letsBy_1 f_X0_9 hc.1 (hc.2 0 (by decide)).1 ?_
    refine xv_iload_n (q := 5) rfl dX0_letsBy_4 rfl rfl ?_
    refine xv_iald (q := 6) rfl dX0_letsBy_5 (hc.2 0 (by decide)).2 rfl (by omega) (by decide) ?_
    rw [hm 0 r (by decide) hr, hk]
    refine xv_tableIn (off := 50) (t := 56) dX0_letsBy_6 (by decide) (by decide) rfl rfl ?_
    refine xv_aload_n (q := 57) rfl dX0_letsBy_56 rfl rfl ?_
    refine xv_geta (q := 60) rfl dX0_letsBy_57 f_X0_27 hc.1 (hc.2 5 (by decide)).1 ?_
    refine xv_iload_n (q := 61) rfl dX0_letsBy_60 rfl rfl ?_
    refine xv_iald (q := 62) rfl dX0_letsBy_61 (hc.2 5 (by decide)).2 rfl (by omega) (by decide) ?_
    rw [hm 5 r (by decide) hr]
    refine xv_iconst (v := nI 1) (q := 63) rfl dX0_letsBy_62 rfl ?_
    refine xv_ishr (q := 64) rfl dX0_letsBy_63 ?_
    refine xv_if_eq (q := 67) (t := 77) rfl rfl dX0_letsBy_64 (fun h64 => ?_) (fun h64 => ?_)
    · refine xv_iconst (v := nI 1) (q := 78) rfl dX0_letsBy_77 rfl ?_
      refine xv_goto (t := 82) rfl dX0_letsBy_78 ?_
      refine xv_zret (ty := .boolean) dX0_letsBy_82 rfl rfl ?_
      exact ⟨by rw [lts_3 hk, decide_eq_true h64]; rfl, rfl, rfl, rfl, rfl⟩
    · refine xv_iload_n (q := 68) rfl dX0_letsBy_67 rfl rfl ?_
      refine xv_aload_n (q := 69) rfl dX0_letsBy_68 rfl rfl ?_
      refine xv_geta (q := 72) rfl dX0_letsBy_69 f_X0_15 hc.1 (hc.2 1 (by decide)).1 ?_
      refine xv_iload_n (q := 73) rfl dX0_letsBy_72 rfl rfl ?_
      refine xv_iald (q := 74) rfl dX0_letsBy_73 (hc.2 1 (by decide)).2 rfl (by omega) (by decide) ?_
      rw [hm 1 r (by decide) hr]
      refine xv_icmp_ge (q := 77) (t := 81) rfl rfl dX0_letsBy_74 (fun h74 => ?_) (fun h74 => ?_)
      · refine xv_iconst (v := nI 0) (q := 82) rfl dX0_letsBy_81 rfl ?_
        refine xv_zret (ty := .boolean) dX0_letsBy_82 rfl rfl ?_
        exact ⟨by rw [lts_3 hk, decide_eq_false h64, decide_eq_false (ilen h74)]; rfl, rfl, rfl, rfl, rfl⟩
      · refine xv_iconst (v := nI 1) (q := 78) rfl dX0_letsBy_77 rfl ?_
        refine xv_goto (t := 82) rfl dX0_letsBy_78 ?_
        refine xv_zret (ty := .boolean) dX0_letsBy_82 rfl rfl ?_
        exact ⟨by rw [lts_3 hk, decide_eq_true (ile h74), Bool.or_true]; rfl, rfl, rfl, rfl, rfl⟩
  · refine xv_aload_n (q := 1) rfl dX0_letsBy_0 rfl rfl ?_
    refine xv_geta (q := 4) rfl dX0_letsBy_1 f_X0_9 hc.1 (hc.2 0 (by decide)).1 ?_
    refine xv_iload_n (q := 5) rfl dX0_letsBy_4 rfl rfl ?_
    refine xv_iald (q := 6) rfl dX0_letsBy_5 (hc.2 0 (by decide)).2 rfl (by omega) (by decide) ?_
    rw [hm 0 r (by decide) hr, hk]
    refine xv_tableIn (off := 106) (t := 112) dX0_letsBy_6 (by decide) (by decide) rfl rfl ?_
    refine xv_iconst (v := nI 0) (q := 113) rfl dX0_letsBy_112 rfl ?_
    refine xv_zret (ty := .boolean) dX0_letsBy_113 rfl rfl ?_
    exact ⟨by rw [show lts c r z = false by unfold lts; rw [hk]; rfl]; rfl, rfl, rfl, rfl, rfl⟩
  · refine xv_aload_n (q := 1) rfl dX0_letsBy_0 rfl rfl ?_
    refine xv_geta (q := 4) rfl dX0_letsBy_1 f_X0_9 hc.1 (hc.2 0 (by decide)).1 ?_
    refine xv_iload_n (q := 5) rfl dX0_letsBy_4 rfl rfl ?_
    refine xv_iald (q := 6) rfl dX0_letsBy_5 (hc.2 0 (by decide)).2 rfl (by omega) (by decide) ?_
    rw [hm 0 r (by decide) hr, hk]
    refine xv_tableIn (off := 77) (t := 83) dX0_letsBy_6 (by decide) (by decide) rfl rfl ?_
    refine xv_iload_n (q := 84) rfl dX0_letsBy_83 rfl rfl ?_
    refine xv_aload_n (q := 85) rfl dX0_letsBy_84 rfl rfl ?_
    refine xv_geta (q := 88) rfl dX0_letsBy_85 f_X0_18 hc.1 (hc.2 2 (by decide)).1 ?_
    refine xv_iload_n (q := 89) rfl dX0_letsBy_88 rfl rfl ?_
    refine xv_iald (q := 90) rfl dX0_letsBy_89 (hc.2 2 (by decide)).2 rfl (by omega) (by decide) ?_
    rw [hm 2 r (by decide) hr]
    refine xv_iadd (q := 91) rfl dX0_letsBy_90 ?_
    refine xv_bipush (v := nI 10) (q := 93) rfl dX0_letsBy_91 rfl ?_
    refine xv_icmp_lt (q := 96) (t := 106) rfl rfl dX0_letsBy_93 (fun h93 => ?_) (fun h93 => ?_)
    · refine xv_iconst (v := nI 1) (q := 107) rfl dX0_letsBy_106 rfl ?_
      refine xv_goto (t := 111) rfl dX0_letsBy_107 ?_
      refine xv_zret (ty := .boolean) dX0_letsBy_111 rfl rfl ?_
      exact ⟨by rw [lts_5 hk, decide_eq_true h93]; rfl, rfl, rfl, rfl, rfl⟩
    · refine xv_iload_n (q := 97) rfl dX0_letsBy_96 rfl rfl ?_
      refine xv_aload_n (q := 98) rfl dX0_letsBy_97 rfl rfl ?_
      refine xv_geta (q := 101) rfl dX0_letsBy_98 f_X0_15 hc.1 (hc.2 1 (by decide)).1 ?_
      refine xv_iload_n (q := 102) rfl dX0_letsBy_101 rfl rfl ?_
      refine xv_iald (q := 103) rfl dX0_letsBy_102 (hc.2 1 (by decide)).2 rfl (by omega) (by decide) ?_
      rw [hm 1 r (by decide) hr]
      refine xv_icmp_ge (q := 106) (t := 110) rfl rfl dX0_letsBy_103 (fun h103 => ?_) (fun h103 => ?_)
      · refine xv_iconst (v := nI 0) (q := 111) rfl dX0_letsBy_110 rfl ?_
        refine xv_zret (ty := .boolean) dX0_letsBy_111 rfl rfl ?_
        exact ⟨by rw [lts_5 hk, decide_eq_false h93, decide_eq_false (ilen h103)]; rfl, rfl, rfl, rfl, rfl⟩
      · refine xv_iconst (v := nI 1) (q := 107) rfl dX0_letsBy_106 rfl ?_
        refine xv_goto (t := 111) rfl dX0_letsBy_107 ?_
        refine xv_zret (ty := .boolean) dX0_letsBy_111 rfl rfl ?_
        exact ⟨by rw [lts_5 hk, decide_eq_true (ile h103), Bool.or_true]; rfl, rfl, rfl, rfl, rfl⟩
/-- COSTS -/
def cst (c : XI) (r : Nat) (v : Int32) : Int32 :=
  if c 0 r = nI 2 then nI 2 * v
  else if c 0 r = nI 3 then (if nI 0 < v - nI 1 then v - nI 1 else nI 0)
  else if c 0 r = nI 4 then nI 2 * v + c 2 r
  else if c 0 r = nI 5 then v / nI 2
  else v
theorem c_costTo {k : Nat} (hc : XCr sh R a) (hm : XCm I a c m) (hm5 : m ≤ 5) (hr : r < m) (hk : c 0 r = nI k) (hk6 : k < 6) (v : Int32) : XC E mX0_costToStepOut (d + 1) 0 0 [.ref a, .int (nI r), .int v] sh I R L (xq (some (.int (cst c r v))) sh I R L) := by
  refine XC.of (by decide) rfl rfl ?_
  rcases k6 hk6 with rfl | rfl | rfl | rfl | rfl | rfl
  · refine xv_aload_n (q := 1) rfl dX0_costToStepOut_0 rfl rfl ?_
    refine xv_geta (q := 4) rfl dX0_costToStepOut_1 f_X0_9 hc.1 (hc.2 0 (by decide)).1 ?_
    refine xv_iload_n (q := 5) rfl dX0_costToStepOut_4 rfl rfl ?_
    refine xv_iald (q := 6) rfl dX0_costToStepOut_5 (hc.2 0 (by decide)).2 rfl (by omega) (by decide) ?_
    rw [hm 0 r (by decide) hr, hk]
    refine xv_tableOut (t := 63) dX0_costToStepOut_6 (by decide) rfl ?_
    refine xv_iload_n (q := 64) rfl dX0_costToStepOut_63 rfl rfl ?_
    refine xv_iret dX0_costToStepOut_64 rfl ?_
    exact ⟨by unfold cst; rw [hk]; rfl, rfl, rfl, rfl, rfl⟩
  · refine xv_aload_n (q := 1) rfl dX0_costToStepOut_0 rfl rfl ?_
    refine xv_geta (q := 4) rfl dX0_costToStepOut_1 f_X0_9 hc.1 (hc.2 0 (by decide)).1 ?_
    refine xv_iload_n (q := 5) rfl dX0_costToStepOut_4 rfl rfl ?_
    refine xv_iald (q := 6) rfl dX0_costToStepOut_5 (hc.2 0 (by decide)).2 rfl (by omega) (by decide) ?_
    rw [hm 0 r (by decide) hr, hk]
    refine xv_tableOut (t := 63) dX0_costToStepOut_6 (by decide) rfl ?_
    refine xv_iload_n (q := 64) rfl dX0_costToStepOut_63 rfl rfl ?_
    refine xv_iret dX0_costToStepOut_64 rfl ?_
    exact ⟨by unfold cst; rw [hk]; rfl, rfl, rfl, rfl, rfl⟩
  · refine xv_aload_n (q := 1) rfl dX0_costToStepOut_0 rfl rfl ?_
    refine xv_geta (q := 4) rfl dX0_costToStepOut_1 f_X0_9 hc.1 (hc.2 0 (by decide)).1 ?_
    refine xv_iload_n (q := 5) rfl dX0_costToStepOut_4 rfl rfl ?_
    refine xv_iald (q := 6) rfl dX0_costToStepOut_5 (hc.2 0 (by decide)).2 rfl (by omega) (by decide) ?_
    rw [hm 0 r (by decide) hr, hk]
    refine xv_tableIn (off := 30) (t := 36) dX0_costToStepOut_6 (by decide) (by decide) rfl rfl ?_
    refine xv_iconst (v := nI 2) (q := 37) rfl dX0_costToStepOut_36 rfl ?_
    refine xv_iload_n (q := 38) rfl dX0_costToStepOut_37 rfl rfl ?_
    refine xv_imul (q := 39) rfl dX0_costToStepOut_38 ?_
    refine xv_iret dX0_costToStepOut_39 rfl ?_
    exact ⟨by unfold cst; rw [hk]; rfl, rfl, rfl, rfl, rfl⟩
  · refine xv_aload_n (q := 1) rfl dX0_costToStepOut_0 rfl rfl ?_
    refine xv_geta (q := 4) rfl dX0_costToStepOut_1 f_X0_9 hc.1 (hc.2 0 (by decide)).1 ?_
    refine xv_iload_n (q := 5) rfl dX0_costToStepOut_4 rfl rfl ?_
    refine xv_iald (q := 6) rfl dX0_costToStepOut_5 (hc.2 0 (by decide)).2 rfl (by omega) (by decide) ?_
    rw [hm 0 r (by decide) hr, hk]
    refine xv_tableIn (off := 34) (t := 40) dX0_costToStepOut_6 (by decide) (by decide) rfl rfl ?_
    refine xv_iconst (v := nI 0) (q := 41) rfl dX0_costToStepOut_40 rfl ?_
    refine xv_iload_n (q := 42) rfl dX0_costToStepOut_41 rfl rfl ?_
    refine xv_iconst (v := nI 1) (q := 43) rfl dX0_costToStepOut_42 rfl ?_
    refine xv_isub (q := 44) rfl dX0_costToStepOut_43 ?_
    refine xv_max (q := 47) rfl dX0_costToStepOut_44 l_X0_57 rfl (by omega) ?_
    refine xv_iret dX0_costToStepOut_47 rfl ?_
    exact ⟨by unfold cst; rw [hk]; rfl, rfl, rfl, rfl, rfl⟩
  · refine xv_aload_n (q := 1) rfl dX0_costToStepOut_0 rfl rfl ?_
    refine xv_geta (q := 4) rfl dX0_costToStepOut_1 f_X0_9 hc.1 (hc.2 0 (by decide)).1 ?_
    refine xv_iload_n (q := 5) rfl dX0_costToStepOut_4 rfl rfl ?_
    refine xv_iald (q := 6) rfl dX0_costToStepOut_5 (hc.2 0 (by decide)).2 rfl (by omega) (by decide) ?_
    rw [hm 0 r (by decide) hr, hk]
    refine xv_tableIn (off := 42) (t := 48) dX0_costToStepOut_6 (by decide) (by decide) rfl rfl ?_
    refine xv_iconst (v := nI 2) (q := 49) rfl dX0_costToStepOut_48 rfl ?_
    refine xv_iload_n (q := 50) rfl dX0_costToStepOut_49 rfl rfl ?_
    refine xv_imul (q := 51) rfl dX0_costToStepOut_50 ?_
    refine xv_aload_n (q := 52) rfl dX0_costToStepOut_51 rfl rfl ?_
    refine xv_geta (q := 55) rfl dX0_costToStepOut_52 f_X0_18 hc.1 (hc.2 2 (by decide)).1 ?_
    refine xv_iload_n (q := 56) rfl dX0_costToStepOut_55 rfl rfl ?_
    refine xv_iald (q := 57) rfl dX0_costToStepOut_56 (hc.2 2 (by decide)).2 rfl (by omega) (by decide) ?_
    rw [hm 2 r (by decide) hr]
    refine xv_iadd (q := 58) rfl dX0_costToStepOut_57 ?_
    refine xv_iret dX0_costToStepOut_58 rfl ?_
    exact ⟨by unfold cst; rw [hk]; rfl, rfl, rfl, rfl, rfl⟩
  · refine xv_aload_n (q := 1) rfl dX0_costToStepOut_0 rfl rfl ?_
    refine xv_geta (q := 4) rfl dX0_costToStepOut_1 f_X0_9 hc.1 (hc.2 0 (by decide)).1 ?_
    refine xv_iload_n (q := 5) rfl dX0_costToStepOut_4 rfl rfl ?_
    refine xv_iald (q := 6) rfl dX0_costToStepOut_5 (hc.2 0 (by decide)).2 rfl (by omega) (by decide) ?_
    rw [hm 0 r (by decide) hr, hk]
    refine xv_tableIn (off := 53) (t := 59) dX0_costToStepOut_6 (by decide) (by decide) rfl rfl ?_
    refine xv_iload_n (q := 60) rfl dX0_costToStepOut_59 rfl rfl ?_
    refine xv_iconst (v := nI 2) (q := 61) rfl dX0_costToStepOut_60 rfl ?_
    refine xv_idiv (q := 62) rfl dX0_costToStepOut_61 (by decide) ?_
    refine xv_iret dX0_costToStepOut_62 rfl ?_
    exact ⟨by unfold cst; rw [hk]; rfl, rfl, rfl, rfl, rfl⟩
theorem w7 {k : Nat} (h : k < 7) : k = 0 ∨ k = 1 ∨ k = 2 ∨ k = 3 ∨ k = 4 ∨ k = 5 ∨ k = 6 := by omega
/-- rowOf(what): the row by the numbers of told() -/
def rwo (k : Nat) : Nat := if k = 6 then 3 else if k < 3 then k else k + 1
theorem c_rowOf {k : Nat} (hc : XCr sh R a) (hk : k < 7) : XC E mX0_rowOf d 0 0 [.ref a, .int (nI k)] sh I R L (xq (some (.ref (a + 1 + rwo k))) sh I R L) := by
  refine XC.of (by decide) rfl rfl ?_
  rcases w7 hk with rfl | rfl | rfl | rfl | rfl | rfl | rfl
  · refine xv_iload_n (q := 1) rfl dX0_rowOf_0 rfl rfl ?_
    refine xv_tableOut (t := 70) dX0_rowOf_1 (by decide) rfl ?_
    refine xv_aload_n (q := 71) rfl dX0_rowOf_70 rfl rfl ?_
    refine xv_geta (q := 74) rfl dX0_rowOf_71 f_X0_9 hc.1 (hc.2 0 (by decide)).1 ?_
    refine xv_aret dX0_rowOf_74 rfl (by first | exact Or.inl ⟨_, rfl⟩ | exact Or.inr ⟨_, rfl⟩) ?_
    exact xq_rfl
  · refine xv_iload_n (q := 1) rfl dX0_rowOf_0 rfl rfl ?_
    refine xv_tableIn (off := 39) (t := 40) dX0_rowOf_1 (by decide) (by decide) rfl rfl ?_
    refine xv_aload_n (q := 41) rfl dX0_rowOf_40 rfl rfl ?_
    refine xv_geta (q := 44) rfl dX0_rowOf_41 f_X0_15 hc.1 (hc.2 1 (by decide)).1 ?_
    refine xv_aret dX0_rowOf_44 rfl (by first | exact Or.inl ⟨_, rfl⟩ | exact Or.inr ⟨_, rfl⟩) ?_
    exact xq_rfl
  · refine xv_iload_n (q := 1) rfl dX0_rowOf_0 rfl rfl ?_
    refine xv_tableIn (off := 44) (t := 45) dX0_rowOf_1 (by decide) (by decide) rfl rfl ?_
    refine xv_aload_n (q := 46) rfl dX0_rowOf_45 rfl rfl ?_
    refine xv_geta (q := 49) rfl dX0_rowOf_46 f_X0_18 hc.1 (hc.2 2 (by decide)).1 ?_
    refine xv_aret dX0_rowOf_49 rfl (by first | exact Or.inl ⟨_, rfl⟩ | exact Or.inr ⟨_, rfl⟩) ?_
    exact xq_rfl
  · refine xv_iload_n (q := 1) rfl dX0_rowOf_0 rfl rfl ?_
    refine xv_tableIn (off := 49) (t := 50) dX0_rowOf_1 (by decide) (by decide) rfl rfl ?_
    refine xv_aload_n (q := 51) rfl dX0_rowOf_50 rfl rfl ?_
    refine xv_geta (q := 54) rfl dX0_rowOf_51 f_X0_24 hc.1 (hc.2 4 (by decide)).1 ?_
    refine xv_aret dX0_rowOf_54 rfl (by first | exact Or.inl ⟨_, rfl⟩ | exact Or.inr ⟨_, rfl⟩) ?_
    exact xq_rfl
  · refine xv_iload_n (q := 1) rfl dX0_rowOf_0 rfl rfl ?_
    refine xv_tableIn (off := 54) (t := 55) dX0_rowOf_1 (by decide) (by decide) rfl rfl ?_
    refine xv_aload_n (q := 56) rfl dX0_rowOf_55 rfl rfl ?_
    refine xv_geta (q := 59) rfl dX0_rowOf_56 f_X0_27 hc.1 (hc.2 5 (by decide)).1 ?_
    refine xv_aret dX0_rowOf_59 rfl (by first | exact Or.inl ⟨_, rfl⟩ | exact Or.inr ⟨_, rfl⟩) ?_
    exact xq_rfl
  · refine xv_iload_n (q := 1) rfl dX0_rowOf_0 rfl rfl ?_
    refine xv_tableIn (off := 59) (t := 60) dX0_rowOf_1 (by decide) (by decide) rfl rfl ?_
    refine xv_aload_n (q := 61) rfl dX0_rowOf_60 rfl rfl ?_
    refine xv_geta (q := 64) rfl dX0_rowOf_61 f_X0_30 hc.1 (hc.2 6 (by decide)).1 ?_
    refine xv_aret dX0_rowOf_64 rfl (by first | exact Or.inl ⟨_, rfl⟩ | exact Or.inr ⟨_, rfl⟩) ?_
    exact xq_rfl
  · refine xv_iload_n (q := 1) rfl dX0_rowOf_0 rfl rfl ?_
    refine xv_tableIn (off := 64) (t := 65) dX0_rowOf_1 (by decide) (by decide) rfl rfl ?_
    refine xv_aload_n (q := 66) rfl dX0_rowOf_65 rfl rfl ?_
    refine xv_geta (q := 69) rfl dX0_rowOf_66 f_X0_21 hc.1 (hc.2 3 (by decide)).1 ?_
    refine xv_aret dX0_rowOf_69 rfl (by first | exact Or.inl ⟨_, rfl⟩ | exact Or.inr ⟨_, rfl⟩) ?_
    exact xq_rfl
end CREW

theorem XV.imp {E : XE} {y : XM} {d mc ms kc ks pc : Nat} {Q Q' : XQ} {ls : List (Option Value)} {st : List Value} {sh : XSh} {I : XI} {R : XRf} {L : XL} (h : XV E y d mc ms Q kc ks pc ls st sh I R L) (hi : ∀ v sh' I' R' L', Q v sh' I' R' L' → Q' v sh' I' R' L') : XV E y d mc ms Q' kc ks pc ls st sh I R L := by
  intro p e s m args below meth c H locs cells slots arr hB hR hS hc hk hn hl T hT X
  obtain ⟨t, a, o, b1, b2, ⟨⟨w, s1, i1, r1, l1, c1, c2, c3⟩, c4⟩, b4⟩ := h p e s m args below meth c H locs cells slots arr hB hR hS hc hk hn hl T hT X
  exact ⟨t, a, o, b1, b2, ⟨⟨w, s1, i1, r1, l1, c1, hi _ _ _ _ _ c2, c3⟩, c4⟩, b4⟩
/-! sets of riders, as bits -/
def bm (q : Nat → Bool) : Nat → Nat
  | 0 => 0
  | k + 1 => bm q k ||| (if q k = true then 2 ^ k else 0)
theorem bm_bit (q : Nat → Bool) : ∀ (n i : Nat), (bm q n).testBit i = (decide (i < n) && q i)
  | 0, i => by simp [bm]
  | n + 1, i => by
    show (bm q n ||| (if q n = true then 2 ^ n else 0)).testBit i = _
    rw [Nat.testBit_or, bm_bit q n i]
    by_cases hi : i = n
    · subst hi
      cases hq : q i with
      | true => rw [if_pos rfl, Nat.testBit_two_pow]; simp
      | false => rw [if_neg (by decide), Nat.zero_testBit]; simp
    · have h1 : (if q n = true then 2 ^ n else 0).testBit i = false := by
        cases hq : q n with
        | true => rw [if_pos rfl, Nat.testBit_two_pow]; exact decide_eq_false (fun z => hi z.symm)
        | false => rw [if_neg (by decide), Nat.zero_testBit]
      rw [h1, Bool.or_false]
      congr 1
      exact decide_eq_decide.mpr ⟨fun h => by omega, fun h => by omega⟩
theorem bm_lt (q : Nat → Bool) : ∀ n, bm q n < 2 ^ n
  | 0 => Nat.one_pos
  | n + 1 => by
    show (bm q n ||| (if q n = true then 2 ^ n else 0)) < 2 ^ (n + 1)
    refine Nat.or_lt_two_pow (Nat.lt_of_lt_of_le (bm_lt q n) (Nat.pow_le_pow_right (by decide) (Nat.le_succ n))) ?_
    split
    · exact Nat.pow_lt_pow_right (by decide) (Nat.lt_succ_self n)
    · exact Nat.two_pow_pos _
theorem p5 {x n : Nat} (h : x < 2 ^ n) (hn : n ≤ 5) : x < 32 := Nat.lt_of_lt_of_le h (show 2 ^ n ≤ 2 ^ 5 from Nat.pow_le_pow_right (by decide) hn)
theorem bm_32 (q : Nat → Bool) {n : Nat} (h : n ≤ 5) : bm q n < 32 := p5 (bm_lt q n) h
theorem msk_eq {a b n : Nat} (ha : a < 2 ^ n) (hb : b < 2 ^ n) (h : ∀ i, i < n → a.testBit i = b.testBit i) : a = b := by
  apply Nat.eq_of_testBit_eq
  intro i
  by_cases hi : i < n
  · exact h i hi
  · rw [Nat.testBit_lt_two_pow (Nat.lt_of_lt_of_le ha (Nat.pow_le_pow_right (by decide) (Nat.not_lt.mp hi))), Nat.testBit_lt_two_pow (Nat.lt_of_lt_of_le hb (Nat.pow_le_pow_right (by decide) (Nat.not_lt.mp hi)))]
theorem bm_cong {p q : Nat → Bool} {n : Nat} (h : ∀ i, i < n → p i = q i) : bm p n = bm q n := by
  refine msk_eq (bm_lt p n) (bm_lt q n) (fun i hi => ?_)
  rw [bm_bit, bm_bit, h i hi]
theorem bm_of {q : Nat → Bool} {n x : Nat} (hx : x < 2 ^ n) (h : ∀ i, i < n → x.testBit i = q i) : x = bm q n := by
  refine msk_eq hx (bm_lt q n) (fun i hi => ?_)
  rw [bm_bit, h i hi, decide_eq_true hi, Bool.true_and]
theorem bm_and (p q : Nat → Bool) (n : Nat) : bm p n &&& bm q n = bm (fun i => p i && q i) n := by
  refine bm_of (Nat.lt_of_le_of_lt Nat.and_le_left (bm_lt p n)) (fun i hi => ?_)
  rw [Nat.testBit_and, bm_bit, bm_bit, decide_eq_true hi]; rfl
theorem bm_or (p q : Nat → Bool) (n : Nat) : bm p n ||| bm q n = bm (fun i => p i || q i) n := by
  refine bm_of (Nat.or_lt_two_pow (bm_lt p n) (bm_lt q n)) (fun i hi => ?_)
  rw [Nat.testBit_or, bm_bit, bm_bit, decide_eq_true hi]; rfl
theorem nI_and (a b : Nat) : nI a &&& nI b = nI (a &&& b) := by
  apply Int32.toBitVec_inj.1
  show BitVec.ofNat 32 a &&& BitVec.ofNat 32 b = BitVec.ofNat 32 (a &&& b)
  apply BitVec.eq_of_getLsbD_eq
  intro i hi
  simp [BitVec.getLsbD_ofNat, hi]
theorem nI_or (a b : Nat) : nI a ||| nI b = nI (a ||| b) := by
  apply Int32.toBitVec_inj.1
  show BitVec.ofNat 32 a ||| BitVec.ofNat 32 b = BitVec.ofNat 32 (a ||| b)
  apply BitVec.eq_of_getLsbD_eq
  intro i hi
  simp [BitVec.getLsbD_ofNat, hi]
theorem sh1 : ∀ r, r < 10 → nI 1 <<< (nI r &&& 31) = nI (2 ^ r) := by decide +kernel
def b01 (b : Bool) : Nat := if b = true then 1 else 0
theorem shb : ∀ m, m < 32 → ∀ r, r < 5 → (nI m >>> (nI r &&& 31)) &&& nI 1 = nI (b01 (m.testBit r)) := by decide +kernel
theorem b01n {b : Bool} (h : ¬ nI (b01 b) = 0) : b = true := by cases b with | true => rfl | false => exact absurd rfl h
theorem b01z {b : Bool} (h : nI (b01 b) = 0) : b = false := by cases b with | true => exact absurd h (by decide) | false => rfl
/-- a bit is put out -/
def bcl (m r : Nat) : Nat := if m.testBit r = true then m - 2 ^ r else m
theorem bcl_I : ∀ m, m < 32 → ∀ r, r < 5 → nI m &&& (nI (2 ^ r) ^^^ -1) = nI (bcl m r) := by decide +kernel
theorem bcl_bit : ∀ m, m < 32 → ∀ r, r < 5 → ∀ i, i < 5 → (bcl m r).testBit i = (m.testBit i && !decide (i = r)) := by decide +kernel
theorem bcl_le (m r : Nat) : bcl m r ≤ m := by
  unfold bcl
  split
  · exact Nat.sub_le _ _
  · exact Nat.le_refl _
theorem popc_5 : ∀ m, m < 32 → popc m ≤ 5 := by decide +kernel
def bof (P r : Nat) : Nat := if P.testBit r = true then 2 ^ r else 0
theorem bof_I : ∀ m, m < 32 → ∀ r, r < 5 → nI m &&& nI (2 ^ r) = nI (bof m r) := by decide +kernel
theorem popc_0 : popc 0 = 0 := rfl
theorem par2 (a : Nat) (h : a < 6) : nI a &&& nI 1 = nI (a % 2) := pk_andN (by omega) 1 (by decide)
theorem bit01 (b : Bool) (k i : Nat) : (if b = true then 2 ^ k else 0).testBit i = (b && decide (i = k)) := by
  cases b with
  | true => rw [if_pos rfl, Nat.testBit_two_pow, Bool.true_and]; exact decide_eq_decide.mpr ⟨fun h => h.symm, fun h => h.symm⟩
  | false => rw [if_neg (by decide), Nat.zero_testBit]; rfl
/-! who bars whom: o is in the way of r (b: by the second door) and doesn't let that one by -/
def bar (c : CR) (b : Bool) (o r : Nat) : Bool := decide (c 5 o % 2 = c 5 r % 2) && ((if b = true then decide (c 5 r < c 5 o) else decide (c 5 o < c 5 r)) && !lts (ci c) o (nI (c 2 r)))
def brs (c : CR) (b : Bool) (r n : Nat) : Nat := bm (fun o => bar c b o r) n
def mus (c : CR) (n dd r s : Nat) : Nat := if dd = 2 ∧ popc (brs c true r n &&& s) < popc (brs c false r n &&& s) then brs c true r n &&& s else brs c false r n &&& s
def stp (c : CR) (P f : Nat) : Nat → Bool := fun r => P.testBit r && (decide (c 3 r < f) && decide (f < c 4 r))
def sty (c : CR) (n P f : Nat) : Nat := bm (stp c P f) n
def gop (c : CR) (P f : Nat) : Nat → Bool := fun r => P.testBit r && decide (c 4 r = f)
def gou (c : CR) (n P f : Nat) : Nat := bm (gop c P f) n
def gip (c : CR) (P f : Nat) : Nat → Bool := fun r => P.testBit r && decide (c 3 r = f)
def gin (c : CR) (n P f : Nat) : Nat := bm (gip c P f) n
def wok (c : CR) (n dd P f : Nat) : Nat → Nat
  | 0 => 0
  | k + 1 => wok c n dd P f k ||| (if (gou c n P f).testBit k = true then mus c n dd k (sty c n P f) else if (gin c n P f).testBit k = true then mus c n dd k (sty c n P f ||| bm (gip c P f) k) else 0)
/-- who steps out at a floor -/
def wso (c : CR) (n dd P f : Nat) : Nat := wok c n dd P f n
theorem bar_self (c : CR) (b : Bool) (r : Nat) : bar c b r r = false := by
  unfold bar
  cases b <;> simp
theorem mus_lt (c : CR) (n dd r s : Nat) : mus c n dd r s < 2 ^ n := by
  unfold mus
  split
  · exact Nat.lt_of_le_of_lt Nat.and_le_left (bm_lt _ n)
  · exact Nat.lt_of_le_of_lt Nat.and_le_left (bm_lt _ n)
theorem mus_0 (c : CR) (n dd r : Nat) : mus c n dd r 0 = 0 := by
  unfold mus
  rw [Nat.and_zero, Nat.and_zero]
  split <;> rfl
theorem wok_lt (c : CR) (n dd P f : Nat) : ∀ k, wok c n dd P f k < 2 ^ n
  | 0 => Nat.two_pow_pos n
  | k + 1 => by
    refine Nat.or_lt_two_pow (wok_lt c n dd P f k) ?_
    split
    · exact mus_lt _ _ _ _ _
    · split
      · exact mus_lt _ _ _ _ _
      · exact Nat.two_pow_pos n
theorem wso_lt (c : CR) (n dd P f : Nat) : wso c n dd P f < 2 ^ n := wok_lt c n dd P f n
/-! what it costs -/
def clp (x : Int32) : Nat := if x < 0 then 0 else if nI 99 < x then 99 else x.toNatClampNeg
abbrev TV : Type := Nat → PV
def nms (c : CR) (r f row ins : Nat) : Nat → Int32 := fun j => match j with
  | 0 => nI r
  | 1 => nI f
  | 2 => nI (c 2 r)
  | 3 => nI row
  | 4 => nI (c 1 r)
  | _ => nI ins
def prc (c : CR) (tv : TV) (part r f row ins : Nat) : Nat := clp (tv part (nms c r f row ins))
def insd (c : CR) (n P f : Nat) : Nat := popc (sty c n P f ||| gou c n P f)
def csn (c : CR) (r v : Nat) : Nat := if c 0 r = 2 then 2 * v else if c 0 r = 3 then v - 1 else if c 0 r = 4 then 2 * v + c 2 r else if c 0 r = 5 then v / 2 else v
def ctk (c : CR) (n P f : Nat) (tv : TV) (out : Nat) : Nat → Nat
  | 0 => 0
  | k + 1 => ctk c n P f tv out k + (if out.testBit k = true then csn c k (prc c tv 0 k f (c 5 k / 2) (insd c n P f)) else if (sty c n P f).testBit k = true then prc c tv 1 k f (c 5 k / 2) (insd c n P f) else 0)
/-- COST of a floor -/
def cta (c : CR) (n P f : Nat) (tv : TV) (out : Nat) : Nat := if out = 0 then 0 else ctk c n P f tv out n
def rdk (c : CR) (n dd P : Nat) (tv : TV) : Nat → Nat
  | 0 => 0
  | k + 1 => rdk c n dd P tv k + cta c n P k tv (wso c n dd P k)
/-- COST of the ride -/
def rdc (c : CR) (n dd P : Nat) (tv : TV) : Nat := rdk c n dd P tv 10
def spk (c : CR) (n dd P : Nat) : Nat → Nat
  | 0 => 0
  | k + 1 => spk c n dd P k + popc (wso c n dd P k)
def flk (c : CR) (n dd P : Nat) : Nat → Nat
  | 0 => 0
  | k + 1 => flk c n dd P k ||| (if wso c n dd P k = 0 then 0 else 2 ^ k)
theorem clp_99 (x : Int32) : clp x ≤ 99 := by
  unfold clp
  split
  · omega
  · split
    · omega
    next h1 h2 =>
      obtain ⟨j, hj, rfl⟩ := nI_of h1
      rw [nI_clamp hj]
      exact nInlt h2 (by omega) hj
theorem prc_99 (c : CR) (tv : TV) (part r f row ins : Nat) : prc c tv part r f row ins ≤ 99 := clp_99 _
theorem csn_le {c : CR} {r v : Nat} (h : c 2 r < 10) (hv : v ≤ 99) : csn c r v ≤ 207 := by unfold csn; (repeat' split) <;> omega
theorem ctk_le {c : CR} {n P f : Nat} {tv : TV} {out : Nat} (h : ∀ r, r < n → c 2 r < 10) : ∀ k, k ≤ n → ctk c n P f tv out k ≤ 207 * k
  | 0, _ => Nat.zero_le _
  | k + 1, hk => by
    have h1 := ctk_le (P := P) (f := f) (tv := tv) (out := out) h k (by omega)
    show ctk c n P f tv out k + _ ≤ _
    have h2 := csn_le (v := prc c tv 0 k f (c 5 k / 2) (insd c n P f)) (h k (by omega)) (prc_99 _ _ _ _ _ _ _)
    have h3 := prc_99 c tv 1 k f (c 5 k / 2) (insd c n P f)
    split
    · omega
    · split <;> omega
theorem cta_le {c : CR} {n P f : Nat} {tv : TV} {out : Nat} (h : ∀ r, r < n → c 2 r < 10) (hn : n ≤ 5) : cta c n P f tv out ≤ 1035 := by
  unfold cta
  split
  · omega
  · have := ctk_le (P := P) (f := f) (tv := tv) (out := out) h n (Nat.le_refl n); omega
theorem rdk_le {c : CR} {n dd P : Nat} {tv : TV} (h : ∀ r, r < n → c 2 r < 10) (hn : n ≤ 5) : ∀ k, rdk c n dd P tv k ≤ 1035 * k
  | 0 => Nat.zero_le _
  | k + 1 => by
    have h1 := rdk_le (dd := dd) (P := P) (tv := tv) h hn k
    have h2 := cta_le (P := P) (f := k) (tv := tv) (out := wso c n dd P k) h hn
    show rdk c n dd P tv k + _ ≤ _
    omega
theorem rdc_le {c : CR} {n dd P : Nat} {tv : TV} (h : ∀ r, r < n → c 2 r < 10) (hn : n ≤ 5) : rdc c n dd P tv ≤ 10350 := rdk_le h hn 10
/-- the class's price, clamped by min and max -/
theorem clp_I (x : Int32) : (if nI 0 < (if x < nI 99 then x else nI 99) then (if x < nI 99 then x else nI 99) else nI 0) = nI (clp x) := by
  unfold clp
  by_cases h : x < 0
  · rw [if_pos h]
    have h9 : x < nI 99 := Int32.lt_trans h (by decide)
    rw [if_pos h9, if_neg (show ¬ nI 0 < x from fun q => Int32.lt_irrefl (Int32.lt_trans h q))]
  · rw [if_neg h]
    obtain ⟨j, hj, rfl⟩ := nI_of h
    by_cases h9 : nI 99 < nI j
    · rw [if_pos h9, if_neg (fun q => Int32.lt_irrefl (Int32.lt_trans h9 q))]; rfl
    · rw [if_neg h9, nI_clamp hj]
      have := nInlt h9 (by omega) hj
      by_cases e : j = 99
      · subst e; rfl
      · rw [if_pos (nI_lt (by omega) (by decide))]
        by_cases e0 : j = 0
        · subst e0; rfl
        · rw [if_pos (nI_lt (by omega) (by omega))]


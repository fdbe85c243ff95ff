/-! tokens of a text tp 0 .. tp (n - 1) -/
def wdn : List (List Nat) := [[114, 105, 100, 101, 114], [102, 108, 111, 111, 114], [115, 105, 122, 101], [114, 111, 119], [110, 117, 109, 98, 101, 114], [105, 110, 115, 105, 100, 101], [115, 116, 101, 112, 115], [108, 97, 116, 101], [109, 111, 118, 101, 115], [111, 114], [97, 110, 100], [110, 111, 116]]
theorem wdn_ok : ∀ w, w < 12 → ∀ i, i < 6 → (xwb.getD w []).getD i 0 = nI ((wdn.getD w []).getD i 0) ∧ (wdn.getD w []).getD i 0 < 256 := by decide +kernel
theorem xwl_le : ∀ w, w < 12 → xwl.getD w 0 ≤ 6 := by decide
/-- from p on, while q holds -/
def scn (q : Nat → Bool) (n : Nat) : Nat → Nat → Nat
  | 0, p => p
  | k + 1, p => if p < n ∧ q p = true then scn q n k (p + 1) else p
def blk (tp : Nat → Nat) (p : Nat) : Bool := decide (tp p = 32) || decide (tp p = 10)
def ltr (tp : Nat → Nat) (p : Nat) : Bool := decide (97 ≤ tp p) && decide (tp p ≤ 122)
def dgt (tp : Nat → Nat) (p : Nat) : Bool := decide (48 ≤ tp p) && decide (tp p ≤ 57)
def sgn (b : Nat) : Bool := decide (b = 40) || (decide (b = 41) || (decide (b = 42) || (decide (b = 43) || (decide (b = 45) || (decide (b = 59) || (decide (b = 60) || decide (b = 61)))))))
theorem scn_ge (q : Nat → Bool) (n : Nat) : ∀ k p, p ≤ scn q n k p
  | 0, p => Nat.le_refl p
  | k + 1, p => by
    unfold scn
    split
    · exact Nat.le_trans (Nat.le_succ p) (scn_ge q n k (p + 1))
    · exact Nat.le_refl p
theorem scn_le (q : Nat → Bool) (n : Nat) : ∀ k p, p ≤ n → scn q n k p ≤ n
  | 0, p, h => h
  | k + 1, p, h => by
    unfold scn
    split
    next hq => exact scn_le q n k (p + 1) hq.1
    next => exact h
theorem scn_stop {q : Nat → Bool} {n k p : Nat} (h : ¬ (p < n ∧ q p = true)) : scn q n k p = p := by
  cases k with
  | zero => rfl
  | succ k => exact if_neg h
theorem scn_go {q : Nat → Bool} {n k p : Nat} (h : p < n ∧ q p = true) (hk : n - p ≤ k) : scn q n k p = scn q n (k - 1) (p + 1) := by
  cases k with
  | zero => omega
  | succ k => exact if_pos h
/-- with room enough the room doesn't matter -/
theorem scn_eq {q : Nat → Bool} {n : Nat} : ∀ {k j p : Nat}, n - p ≤ k → n - p ≤ j → scn q n k p = scn q n j p
  | 0, j, p, h, _ => by
    show p = _
    exact (scn_stop (q := q) (n := n) (p := p) (k := j) (fun z => by omega)).symm
  | k + 1, 0, p, _, h => scn_stop (k := k + 1) (fun z => by omega)
  | k + 1, j + 1, p, h1, h2 => by
    unfold scn
    split
    · exact scn_eq (by omega) (by omega)
    · rfl
def mta (tp : Nat → Nat) (s w : Nat) : Nat → Bool
  | 0 => true
  | i + 1 => mta tp s w i && decide (tp (s + i) = (wdn.getD w []).getD i 0)
def mtc (tp : Nat → Nat) (s e w : Nat) : Bool := decide (xwl.getD w 0 = e - s) && mta tp s w (xwl.getD w 0)
def kno (tp : Nat → Nat) (s e : Nat) : Nat → Nat
  | 0 => 12
  | w + 1 => if mtc tp s e w = true then w else kno tp s e w
def dgv (tp : Nat → Nat) (s : Nat) : Nat → Nat
  | 0 => 0
  | k + 1 => dgv tp s k * 10 + tp (s + k) - 48
def sta (tp : Nat → Nat) (n p : Nat) : Nat := scn (blk tp) n n p
def wen (tp : Nat → Nat) (n s : Nat) : Nat := scn (ltr tp) n n s
def den (tp : Nat → Nat) (n s : Nat) : Nat := scn (dgt tp) n n s
def wtk (w : Nat) : Nat := if w < 6 then 3 else if w < 12 then w - 2 else 1
def tok (tp : Nat → Nat) (n p : Nat) : Nat :=
  if n ≤ sta tp n p then 0
  else if ltr tp (sta tp n p) = true then wtk (kno tp (sta tp n p) (wen tp n (sta tp n p)) 12)
  else if dgt tp (sta tp n p) = true then (if 4 < den tp n (sta tp n p) - sta tp n p then 1 else 2)
  else if sgn (tp (sta tp n p)) = true then tp (sta tp n p) else 1
def nxt (tp : Nat → Nat) (n p : Nat) : Nat :=
  if n ≤ sta tp n p then sta tp n p
  else if ltr tp (sta tp n p) = true then wen tp n (sta tp n p)
  else if dgt tp (sta tp n p) = true then den tp n (sta tp n p)
  else sta tp n p + 1
def vlu (tp : Nat → Nat) (n p : Nat) : Nat :=
  if ltr tp (sta tp n p) = true then kno tp (sta tp n p) (wen tp n (sta tp n p)) 12
  else dgv tp (sta tp n p) (den tp n (sta tp n p) - sta tp n p)
theorem sta_ge (tp : Nat → Nat) (n p : Nat) : p ≤ sta tp n p := scn_ge _ _ _ _
theorem sta_le {tp : Nat → Nat} {n p : Nat} (h : p ≤ n) : sta tp n p ≤ n := scn_le _ _ _ _ h
theorem scn_gt {q : Nat → Bool} {n k p : Nat} (h : p < n) (hq : q p = true) (hk : 0 < k) : p < scn q n k p := by
  cases k with
  | zero => omega
  | succ k =>
    have : scn q n (k + 1) p = scn q n k (p + 1) := if_pos ⟨h, hq⟩
    rw [this]
    exact scn_ge q n k (p + 1)
theorem nxt_le {tp : Nat → Nat} {n p : Nat} (h : p ≤ n) : nxt tp n p ≤ n := by
  have := sta_le (tp := tp) h
  unfold nxt
  split
  · exact this
  · split
    · exact scn_le _ _ _ _ this
    · split
      · exact scn_le _ _ _ _ this
      · omega
theorem nxt_ge (tp : Nat → Nat) (n p : Nat) : p ≤ nxt tp n p := by
  have := sta_ge tp n p
  unfold nxt
  split
  · exact this
  · split
    · exact Nat.le_trans this (scn_ge _ _ _ _)
    · split
      · exact Nat.le_trans this (scn_ge _ _ _ _)
      · omega
theorem nxt_gt {tp : Nat → Nat} {n p : Nat} (h : tok tp n p ≠ 0) : p < nxt tp n p := by
  have h1 := sta_ge tp n p
  have h2 : ¬ n ≤ sta tp n p := fun z => h (if_pos z)
  unfold nxt
  rw [if_neg h2]
  split
  next hl => exact Nat.lt_of_le_of_lt h1 (scn_gt (by omega) hl (by omega))
  next hl =>
    split
    next hd => exact Nat.lt_of_le_of_lt h1 (scn_gt (by omega) hd (by omega))
    next => omega
/-- the reader's text: n bytes at cell 18 -/
def RdT (I : XI) (tp : Nat → Nat) (n : Nat) : Prop := I 17 1 = nI n ∧ n ≤ 160 ∧ ∀ i, i < n → I 18 i = nI (tp i) ∧ tp i < 256
/-- what the lexer may change -/
def RdF (I J : XI) : Prop := (∀ k, k ≠ 17 → J k = I k) ∧ J 17 1 = I 17 1 ∧ J 17 7 = I 17 7
theorem RdF.rf {I : XI} : RdF I I := ⟨fun _ _ => rfl, rfl, rfl⟩
theorem RdF.trans {I J K : XI} (h1 : RdF I J) (h2 : RdF J K) : RdF I K := ⟨fun k hk => (h2.1 k hk).trans (h1.1 k hk), h2.2.1.trans h1.2.1, h2.2.2.trans h1.2.2⟩
theorem RdT.mv {I J : XI} {tp : Nat → Nat} {n : Nat} (h : RdT I tp n) (hF : RdF I J) : RdT J tp n := ⟨hF.2.1.trans h.1, h.2.1, fun i hi => by rw [hF.1 18 (by decide)]; exact h.2.2 i hi⟩
theorem RdF.xi {I : XI} {j : Nat} {x : Int32} (h1 : j ≠ 1) (h7 : j ≠ 7) : RdF I (xi I 17 j x) := ⟨fun k hk => xi_off _ _ _ _ hk, xi_ne _ _ _ _ (by omega), xi_ne _ _ _ _ (by omega)⟩
section LEX
variable {E : XE} {d : Nat} {sh : XSh} {I : XI} {R : XRf} {L : XL} {tp : Nat → Nat} {n : Nat}
theorem mta_f {s w i : Nat} (h : mta tp s w i = false) : ∀ k, mta tp s w (i + k) = false
  | 0 => h
  | k + 1 => by show (mta tp s w (i + k) && _) = false; rw [mta_f h k]; rfl
theorem c_isWord_loop (hg : XG sh R) (hT : RdT I tp n) {s w len : Nat} (hw : w < 12) (hlen : len = xwl.getD w 0) (hs : I 17 2 = nI s) (hn : s + len ≤ n) : ∀ (k i : Nat), i ≤ len → len < i + k → mta tp s w i = true → XV E mX1_isWord (d + 4) 0 0 (xq (some (.int (bI (mta tp s w len)))) sh I R L) 0 0 20 [some (.ref 17), some (sw w), some (.int (nI i))] [] sh I R L := by
  obtain ⟨r1, r2, r3⟩ := hT
  have hl6 := xwl_le w hw
  intro k
  induction k with
  | zero => intro i h1 h2; exact absurd h2 (by omega)
  | succ k ih =>
    intro i h1 h2 hok
    refine xv_iload_n (q := 21) rfl dX1_isWord_20 rfl rfl ?_
    refine xv_aloadF_n (q := 22) rfl dX1_isWord_21 rfl rfl ?_
    refine xv_cVS0 (i := w) (z := mJ0_length_8abf5) (q := 25) hw rfl dX1_isWord_22 l_X1_95 gJ0_length_8abf5 rfl rfl (c_strlen (d := d + 2) hw) (by omega) ?_
    rw [← hlen]
    refine xv_icmp_ge (q := 28) (t := 68) rfl rfl dX1_isWord_25 (fun h25 => ?_) (fun h25 => ?_)
    · have hi : i = len := by have := nIle h25 (by omega) (by omega); omega
      refine xv_iconst (v := nI 1) (q := 69) rfl dX1_isWord_68 rfl ?_
      refine xv_zret (ty := .boolean) dX1_isWord_69 rfl rfl ?_
      exact ⟨by rw [← hi, hok]; rfl, rfl, rfl, rfl, rfl⟩
    · have hi : i < len := nInle h25 (by omega) (by omega)
      refine xv_aload_n (q := 29) rfl dX1_isWord_28 rfl rfl ?_
      refine xv_geti (q := 32) rfl dX1_isWord_29 f_X1_75 (hg.1 _ _ rfl) ?_
      rw [hs]
      refine xv_iload_n (q := 33) rfl dX1_isWord_32 rfl rfl ?_
      refine xv_iadd (q := 34) rfl dX1_isWord_33 ?_
      refine xv_as (w := nI (s + i)) (nI_add _ _) ?_
      refine xv_aload_n (q := 35) rfl dX1_isWord_34 rfl rfl ?_
      refine xv_geti (q := 38) rfl dX1_isWord_35 f_X1_72 (hg.1 _ _ rfl) ?_
      rw [r1]
      refine xv_icmp_ge (q := 41) (t := 68) rfl rfl dX1_isWord_38 (fun h38 => ?_) (fun h38 => ?_)
      · exact absurd (nIle h38 (by omega) (by omega)) (by omega)
      · refine xv_aloadF_n (q := 42) rfl dX1_isWord_41 rfl rfl ?_
        refine xv_iload_n (q := 43) rfl dX1_isWord_42 rfl rfl ?_
        refine xv_cVS1 (i := w) (z := mJ0_charAt_5068e) (q := 46) hw rfl dX1_isWord_43 l_X1_100 gJ0_charAt_5068e rfl rfl (c_charAt (d := d) hw (by omega)) (by omega) ?_
        refine xv_aload_n (q := 47) rfl dX1_isWord_46 rfl rfl ?_
        refine xv_geta (q := 50) rfl dX1_isWord_47 f_X1_9 (hg.1 _ _ rfl) (hg.2 _ _ _ rfl) ?_
        refine xv_aload_n (q := 51) rfl dX1_isWord_50 rfl rfl ?_
        refine xv_geti (q := 54) rfl dX1_isWord_51 f_X1_75 (hg.1 _ _ rfl) ?_
        rw [hs]
        refine xv_iload_n (q := 55) rfl dX1_isWord_54 rfl rfl ?_
        refine xv_iadd (q := 56) rfl dX1_isWord_55 ?_
        refine xv_as (w := nI (s + i)) (nI_add _ _) ?_
        refine xv_iald (q := 57) rfl dX1_isWord_56 (hg.1 _ _ rfl) rfl (by omega) (by decide) ?_
        rw [(r3 (s + i) (by omega)).1, (wdn_ok w hw i (by omega)).1]
        refine xv_icmp_eq (q := 60) (t := 62) rfl rfl dX1_isWord_57 (fun h57 => ?_) (fun h57 => ?_)
        · have hc := (nIe h57 (by have := (wdn_ok w hw i (by omega)).2; omega) (by have := (r3 (s + i) (by omega)).2; omega)).symm
          refine xv_iinc (q := 65) (v := nI 1) rfl dX1_isWord_62 rfl rfl ?_
          refine xv_goto (t := 20) rfl dX1_isWord_65 ?_
          rw [nI_add]
          exact ih (i + 1) (by omega) (by omega) (by show (mta tp s w i && decide _) = true; rw [hok, decide_eq_true hc]; rfl)
        · have hc : ¬ tp (s + i) = (wdn.getD w []).getD i 0 := fun q => h57 (by rw [q])
          refine xv_iconst (v := nI 0) (q := 61) rfl dX1_isWord_60 rfl ?_
          refine xv_zret (ty := .boolean) dX1_isWord_61 rfl rfl ?_
          have hf : mta tp s w (i + 1) = false := by show (mta tp s w i && decide _) = false; rw [decide_eq_false hc, Bool.and_false]
          have := mta_f hf (len - (i + 1))
          rw [show i + 1 + (len - (i + 1)) = len by omega] at this
          exact ⟨by rw [this]; rfl, rfl, rfl, rfl, rfl⟩
theorem c_isWord (hg : XG sh R) (hT : RdT I tp n) {s e w : Nat} (hw : w < 12) (hs : I 17 2 = nI s) (he : I 17 3 = nI e) (hse : s ≤ e) (hen : e ≤ n) : XC E mX1_isWord (d + 4) 0 0 [.ref 17, sw w] sh I R L (xq (some (.int (bI (mtc tp s e w)))) sh I R L) := by
  have hl6 := xwl_le w hw
  have hn160 := hT.2.1
  refine XC.of (by decide) rfl rfl ?_
  refine xv_aloadF_n (q := 1) rfl dX1_isWord_0 rfl rfl ?_
  refine xv_cVS0 (i := w) (z := mJ0_length_8abf5) (q := 4) hw rfl dX1_isWord_1 l_X1_95 gJ0_length_8abf5 rfl rfl (c_strlen (d := d + 2) hw) (by omega) ?_
  refine xv_aload_n (q := 5) rfl dX1_isWord_4 rfl rfl ?_
  refine xv_geti (q := 8) rfl dX1_isWord_5 f_X1_21 (hg.1 _ _ rfl) ?_
  rw [he]
  refine xv_aload_n (q := 9) rfl dX1_isWord_8 rfl rfl ?_
  refine xv_geti (q := 12) rfl dX1_isWord_9 f_X1_75 (hg.1 _ _ rfl) ?_
  rw [hs]
  refine xv_isub (q := 13) rfl dX1_isWord_12 ?_
  refine xv_as (w := nI (e - s)) (pk_sub hse) ?_
  refine xv_icmp_eq (q := 16) (t := 18) rfl rfl dX1_isWord_13 (fun h13 => ?_) (fun h13 => ?_)
  · have h13 := nIe h13 (by omega) (by omega)
    refine xv_iconst (v := nI 0) (q := 19) rfl dX1_isWord_18 rfl ?_
    refine xv_istore_n (q := 20) rfl dX1_isWord_19 rfl rfl ?_
    rw [show mtc tp s e w = mta tp s w (xwl.getD w 0) from by unfold mtc; rw [decide_eq_true h13]; rfl]
    exact c_isWord_loop hg hT hw rfl hs (by omega) (xwl.getD w 0 + 1) 0 (by omega) (by omega) rfl
  · have h13 : ¬ xwl.getD w 0 = e - s := fun q => h13 (by rw [q])
    refine xv_iconst (v := nI 0) (q := 17) rfl dX1_isWord_16 rfl ?_
    refine xv_zret (ty := .boolean) dX1_isWord_17 rfl rfl ?_
    exact ⟨by rw [show mtc tp s e w = false from by unfold mtc; rw [decide_eq_false h13]; rfl]; rfl, rfl, rfl, rfl, rfl⟩
theorem c_isSign {b : Nat} (hb : b < 256) : XC E mX1_isSign d 0 0 [.int (nI b)] sh I R L (xq (some (.int (bI (sgn b)))) sh I R L) := by
  refine XC.of (by decide) rfl rfl ?_
  by_cases h1 : b < 40
  · have hs : sgn b = false := by unfold sgn; simp; omega
    refine xv_iload_n (q := 1) rfl dX1_isSign_0 rfl rfl ?_
    refine xv_tableOut (t := 106) dX1_isSign_1 (Or.inl (by rw [nI_toInt (by omega)]; omega)) rfl ?_
    refine xv_iconst (v := nI 0) (q := 107) rfl dX1_isSign_106 rfl ?_
    refine xv_zret (ty := .boolean) dX1_isSign_107 rfl rfl ?_
    exact ⟨by rw [hs]; rfl, rfl, rfl, rfl, rfl⟩
  · by_cases h2 : 61 < b
    · have hs : sgn b = false := by unfold sgn; simp; omega
      refine xv_iload_n (q := 1) rfl dX1_isSign_0 rfl rfl ?_
      refine xv_tableOut (t := 106) dX1_isSign_1 (Or.inr (by rw [nI_toInt (by omega)]; omega)) rfl ?_
      refine xv_iconst (v := nI 0) (q := 107) rfl dX1_isSign_106 rfl ?_
      refine xv_zret (ty := .boolean) dX1_isSign_107 rfl rfl ?_
      exact ⟨by rw [hs]; rfl, rfl, rfl, rfl, rfl⟩
    · rcases (show b = 40 ∨ b = 41 ∨ b = 42 ∨ b = 43 ∨ b = 44 ∨ b = 45 ∨ b = 46 ∨ b = 47 ∨ b = 48 ∨ b = 49 ∨ b = 50 ∨ b = 51 ∨ b = 52 ∨ b = 53 ∨ b = 54 ∨ b = 55 ∨ b = 56 ∨ b = 57 ∨ b = 58 ∨ b = 59 ∨ b = 60 ∨ b = 61 by omega) with rfl | rfl | rfl | rfl | rfl | rfl | rfl | rfl | rfl | rfl | rfl | rfl | rfl | rfl | rfl | rfl | rfl | rfl | rfl | rfl | rfl | rfl
      · refine xv_iload_n (q := 1) rfl dX1_isSign_0 rfl rfl ?_
        refine xv_tableIn (off := 103) (t := 104) dX1_isSign_1 (by decide) (by decide) rfl rfl ?_
        refine xv_iconst (v := nI 1) (q := 105) rfl dX1_isSign_104 rfl ?_
        refine xv_zret (ty := .boolean) dX1_isSign_105 rfl rfl ?_
        exact xq_rfl
      · refine xv_iload_n (q := 1) rfl dX1_isSign_0 rfl rfl ?_
        refine xv_tableIn (off := 103) (t := 104) dX1_isSign_1 (by decide) (by decide) rfl rfl ?_
        refine xv_iconst (v := nI 1) (q := 105) rfl dX1_isSign_104 rfl ?_
        refine xv_zret (ty := .boolean) dX1_isSign_105 rfl rfl ?_
        exact xq_rfl
      · refine xv_iload_n (q := 1) rfl dX1_isSign_0 rfl rfl ?_
        refine xv_tableIn (off := 103) (t := 104) dX1_isSign_1 (by decide) (by decide) rfl rfl ?_
        refine xv_iconst (v := nI 1) (q := 105) rfl dX1_isSign_104 rfl ?_
        refine xv_zret (ty := .boolean) dX1_isSign_105 rfl rfl ?_
        exact xq_rfl
      · refine xv_iload_n (q := 1) rfl dX1_isSign_0 rfl rfl ?_
        refine xv_tableIn (off := 103) (t := 104) dX1_isSign_1 (by decide) (by decide) rfl rfl ?_
        refine xv_iconst (v := nI 1) (q := 105) rfl dX1_isSign_104 rfl ?_
        refine xv_zret (ty := .boolean) dX1_isSign_105 rfl rfl ?_
        exact xq_rfl
      · refine xv_iload_n (q := 1) rfl dX1_isSign_0 rfl rfl ?_
        refine xv_tableIn (off := 105) (t := 106) dX1_isSign_1 (by decide) (by decide) rfl rfl ?_
        refine xv_iconst (v := nI 0) (q := 107) rfl dX1_isSign_106 rfl ?_
        refine xv_zret (ty := .boolean) dX1_isSign_107 rfl rfl ?_
        exact xq_rfl
      · refine xv_iload_n (q := 1) rfl dX1_isSign_0 rfl rfl ?_
        refine xv_tableIn (off := 103) (t := 104) dX1_isSign_1 (by decide) (by decide) rfl rfl ?_
        refine xv_iconst (v := nI 1) (q := 105) rfl dX1_isSign_104 rfl ?_
        refine xv_zret (ty := .boolean) dX1_isSign_105 rfl rfl ?_
        exact xq_rfl
      · refine xv_iload_n (q := 1) rfl dX1_isSign_0 rfl rfl ?_
        refine xv_tableIn (off := 105) (t := 106) dX1_isSign_1 (by decide) (by decide) rfl rfl ?_
        refine xv_iconst (v := nI 0) (q := 107) rfl dX1_isSign_106 rfl ?_
        refine xv_zret (ty := .boolean) dX1_isSign_107 rfl rfl ?_
        exact xq_rfl
      · refine xv_iload_n (q := 1) rfl dX1_isSign_0 rfl rfl ?_
        refine xv_tableIn (off := 105) (t := 106) dX1_isSign_1 (by decide) (by decide) rfl rfl ?_
        refine xv_iconst (v := nI 0) (q := 107) rfl dX1_isSign_106 rfl ?_
        refine xv_zret (ty := .boolean) dX1_isSign_107 rfl rfl ?_
        exact xq_rfl
      · refine xv_iload_n (q := 1) rfl dX1_isSign_0 rfl rfl ?_
        refine xv_tableIn (off := 105) (t := 106) dX1_isSign_1 (by decide) (by decide) rfl rfl ?_
        refine xv_iconst (v := nI 0) (q := 107) rfl dX1_isSign_106 rfl ?_
        refine xv_zret (ty := .boolean) dX1_isSign_107 rfl rfl ?_
        exact xq_rfl
      · refine xv_iload_n (q := 1) rfl dX1_isSign_0 rfl rfl ?_
        refine xv_tableIn (off := 105) (t := 106) dX1_isSign_1 (by decide) (by decide) rfl rfl ?_
        refine xv_iconst (v := nI 0) (q := 107) rfl dX1_isSign_106 rfl ?_
        refine xv_zret (ty := .boolean) dX1_isSign_107 rfl rfl ?_
        exact xq_rfl
      · refine xv_iload_n (q := 1) rfl dX1_isSign_0 rfl rfl ?_
        refine xv_tableIn (off := 105) (t := 106) dX1_isSign_1 (by decide) (by decide) rfl rfl ?_
        refine xv_iconst (v := nI 0) (q := 107) rfl dX1_isSign_106 rfl ?_
        refine xv_zret (ty := .boolean) dX1_isSign_107 rfl rfl ?_
        exact xq_rfl
      · refine xv_iload_n (q := 1) rfl dX1_isSign_0 rfl rfl ?_
        refine xv_tableIn (off := 105) (t := 106) dX1_isSign_1 (by decide) (by decide) rfl rfl ?_
        refine xv_iconst (v := nI 0) (q := 107) rfl dX1_isSign_106 rfl ?_
        refine xv_zret (ty := .boolean) dX1_isSign_107 rfl rfl ?_
        exact xq_rfl
      · refine xv_iload_n (q := 1) rfl dX1_isSign_0 rfl rfl ?_
        refine xv_tableIn (off := 105) (t := 106) dX1_isSign_1 (by decide) (by decide) rfl rfl ?_
        refine xv_iconst (v := nI 0) (q := 107) rfl dX1_isSign_106 rfl ?_
        refine xv_zret (ty := .boolean) dX1_isSign_107 rfl rfl ?_
        exact xq_rfl
      · refine xv_iload_n (q := 1) rfl dX1_isSign_0 rfl rfl ?_
        refine xv_tableIn (off := 105) (t := 106) dX1_isSign_1 (by decide) (by decide) rfl rfl ?_
        refine xv_iconst (v := nI 0) (q := 107) rfl dX1_isSign_106 rfl ?_
        refine xv_zret (ty := .boolean) dX1_isSign_107 rfl rfl ?_
        exact xq_rfl
      · refine xv_iload_n (q := 1) rfl dX1_isSign_0 rfl rfl ?_
        refine xv_tableIn (off := 105) (t := 106) dX1_isSign_1 (by decide) (by decide) rfl rfl ?_
        refine xv_iconst (v := nI 0) (q := 107) rfl dX1_isSign_106 rfl ?_
        refine xv_zret (ty := .boolean) dX1_isSign_107 rfl rfl ?_
        exact xq_rfl
      · refine xv_iload_n (q := 1) rfl dX1_isSign_0 rfl rfl ?_
        refine xv_tableIn (off := 105) (t := 106) dX1_isSign_1 (by decide) (by decide) rfl rfl ?_
        refine xv_iconst (v := nI 0) (q := 107) rfl dX1_isSign_106 rfl ?_
        refine xv_zret (ty := .boolean) dX1_isSign_107 rfl rfl ?_
        exact xq_rfl
      · refine xv_iload_n (q := 1) rfl dX1_isSign_0 rfl rfl ?_
        refine xv_tableIn (off := 105) (t := 106) dX1_isSign_1 (by decide) (by decide) rfl rfl ?_
        refine xv_iconst (v := nI 0) (q := 107) rfl dX1_isSign_106 rfl ?_
        refine xv_zret (ty := .boolean) dX1_isSign_107 rfl rfl ?_
        exact xq_rfl
      · refine xv_iload_n (q := 1) rfl dX1_isSign_0 rfl rfl ?_
        refine xv_tableIn (off := 105) (t := 106) dX1_isSign_1 (by decide) (by decide) rfl rfl ?_
        refine xv_iconst (v := nI 0) (q := 107) rfl dX1_isSign_106 rfl ?_
        refine xv_zret (ty := .boolean) dX1_isSign_107 rfl rfl ?_
        exact xq_rfl
      · refine xv_iload_n (q := 1) rfl dX1_isSign_0 rfl rfl ?_
        refine xv_tableIn (off := 105) (t := 106) dX1_isSign_1 (by decide) (by decide) rfl rfl ?_
        refine xv_iconst (v := nI 0) (q := 107) rfl dX1_isSign_106 rfl ?_
        refine xv_zret (ty := .boolean) dX1_isSign_107 rfl rfl ?_
        exact xq_rfl
      · refine xv_iload_n (q := 1) rfl dX1_isSign_0 rfl rfl ?_
        refine xv_tableIn (off := 103) (t := 104) dX1_isSign_1 (by decide) (by decide) rfl rfl ?_
        refine xv_iconst (v := nI 1) (q := 105) rfl dX1_isSign_104 rfl ?_
        refine xv_zret (ty := .boolean) dX1_isSign_105 rfl rfl ?_
        exact xq_rfl
      · refine xv_iload_n (q := 1) rfl dX1_isSign_0 rfl rfl ?_
        refine xv_tableIn (off := 103) (t := 104) dX1_isSign_1 (by decide) (by decide) rfl rfl ?_
        refine xv_iconst (v := nI 1) (q := 105) rfl dX1_isSign_104 rfl ?_
        refine xv_zret (ty := .boolean) dX1_isSign_105 rfl rfl ?_
        exact xq_rfl
      · refine xv_iload_n (q := 1) rfl dX1_isSign_0 rfl rfl ?_
        refine xv_tableIn (off := 103) (t := 104) dX1_isSign_1 (by decide) (by decide) rfl rfl ?_
        refine xv_iconst (v := nI 1) (q := 105) rfl dX1_isSign_104 rfl ?_
        refine xv_zret (ty := .boolean) dX1_isSign_105 rfl rfl ?_
        exact xq_rfl
end LEX

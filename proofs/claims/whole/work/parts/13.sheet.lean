theorem ilef {a : Int32} (h : a < 0) : ¬ 0 ≤ a := Int32.not_le.mpr h
theorem neg1 {a : Int32} (h : ¬ a < -1) (h2 : a < 0) : a = -1 := by
  have h3 : (-1 : Int32) ≤ a := Int32.not_lt.mp h
  rw [Int32.le_iff_toInt_le] at h3
  rw [Int32.lt_iff_toInt_lt] at h2
  apply Int32.toInt_inj.mp
  have e1 : (-1 : Int32).toInt = -1 := by decide
  have e0 : (0 : Int32).toInt = 0 := by decide
  rw [e1] at h3 ⊢
  rw [e0] at h2
  omega
/-! Sheet, at address a with its items at a + 1 -/
def XSt (sh : XSh) (R : XRf) (a : Nat) : Prop := sh[a]? = some (3, 3) ∧ R a 0 = some (a + 1) ∧ sh[a + 1]? = some (8, 40)
theorem s4 {s : Nat} (h : s < 4) : s = 0 ∨ s = 1 ∨ s = 2 ∨ s = 3 := by omega
theorem xg_sheet {sh : XSh} {R : XRf} (hg : XG sh R) {s : Nat} (hs : s < 4) : R 22 s = some (53 + 2 * s) ∧ XSt sh R (53 + 2 * s) := by
  rcases s4 hs with rfl | rfl | rfl | rfl <;> exact ⟨hg.2 _ _ _ rfl, hg.1 _ _ rfl, hg.2 _ _ _ rfl, hg.1 _ _ rfl⟩
abbrev SG : Type := Nat → Option (Nat × Nat × (Nat → Int32))
def KXs1 (I : XI) (s : Nat) : Option (Nat × Nat × (Nat → Int32)) → Prop
  | none => I (53 + 2 * s) 2 = -1
  | some q => q.1 < 3 ∧ q.2.1 ≤ 40 ∧ I (53 + 2 * s) 2 = nI q.1 ∧ I (53 + 2 * s) 1 = nI q.2.1 ∧ ∀ i, i < q.2.1 → I (53 + 2 * s + 1) i = q.2.2 i
def KXs (I : XI) (sg : SG) : Prop := ∀ s, s < 4 → KXs1 I s (sg s)
theorem KXs1.cong {I J : XI} {s : Nat} {q : Option (Nat × Nat × (Nat → Int32))} (h : KXs1 I s q) (h1 : J (53 + 2 * s) = I (53 + 2 * s)) (h2 : J (53 + 2 * s + 1) = I (53 + 2 * s + 1)) : KXs1 J s q := by
  cases q with
  | none => show J _ 2 = _; rw [h1]; exact h
  | some q => obtain ⟨a, b, c, e, f⟩ := h; exact ⟨a, b, by rw [h1]; exact c, by rw [h1]; exact e, fun i hi => by rw [h2]; exact f i hi⟩
theorem KXs.cong {I J : XI} {sg : SG} (h : KXs I sg) (hJ : ∀ k, 53 ≤ k → k < 61 → J k = I k) : KXs J sg := fun s hs => (h s hs).cong (hJ _ (by omega) (by omega)) (hJ _ (by omega) (by omega))
theorem KXs.put {I J : XI} {sg : SG} {s : Nat} {q : Option (Nat × Nat × (Nat → Int32))} (h : KXs I sg) (hq : KXs1 J s q) (hJ : ∀ k, 53 ≤ k → k < 61 → k ≠ 53 + 2 * s → k ≠ 53 + 2 * s + 1 → J k = I k) : KXs J (va_up sg s q) := by
  intro r hr
  by_cases e : r = s
  · subst e; unfold va_up; rw [if_pos rfl]; exact hq
  · unfold va_up; rw [if_neg e]
    exact (h r hr).cong (hJ _ (by omega) (by omega) (by omega) (by omega)) (hJ _ (by omega) (by omega) (by omega) (by omega))
def isSh (x : Int32) : Bool := decide (¬ x < 0 ∧ ¬ nI 4 ≤ x)
theorem isSh_of {x : Int32} (h : isSh x = true) : ∃ s, s < 4 ∧ x = nI s := by
  have := of_decide_eq_true h
  rcases pk_ix x (n := 4) (by decide) with z | z | z
  · exact absurd z this.1
  · exact absurd z this.2
  · exact z
def nrw (so : Int32) (v : Int32) : Int32 := if so = 0 then v.toInt8.toInt32 else if so = nI 1 then v.toInt16.toInt32 else v
section SHEET
variable {E : XE} {d a : Nat} {sh : XSh} {I : XI} {R : XRf} {L : XL}
theorem c_isMissing (hs : XSt sh R a) : XC E mX3_isMissing d 0 0 [.ref a] sh I R L (xq (some (.int (bI (decide (I a 2 = -1))))) sh I R L) := by
  refine XC.of (by decide) rfl rfl ?_
  refine xv_aload_n (q := 1) rfl dX3_isMissing_0 rfl rfl ?_
  refine xv_geti (q := 4) rfl dX3_isMissing_1 f_X3_15 hs.1 ?_
  refine xv_iconst (v := (-1)) (q := 5) rfl dX3_isMissing_4 rfl ?_
  refine xv_icmp_ne (q := 8) (t := 12) rfl rfl dX3_isMissing_5 (fun h5 => ?_) (fun h5 => ?_)
  · refine xv_iconst (v := nI 0) (q := 13) rfl dX3_isMissing_12 rfl ?_
    refine xv_zret (ty := .boolean) dX3_isMissing_13 rfl rfl ?_
    exact ⟨by rw [decide_eq_false h5]; rfl, rfl, rfl, rfl, rfl⟩
  · refine xv_iconst (v := nI 1) (q := 9) rfl dX3_isMissing_8 rfl ?_
    refine xv_goto (t := 13) rfl dX3_isMissing_9 ?_
    refine xv_zret (ty := .boolean) dX3_isMissing_13 rfl rfl ?_
    exact ⟨by rw [decide_eq_true h5]; rfl, rfl, rfl, rfl, rfl⟩
theorem c_sbecome (hs : XSt sh R a) (so n : Int32) : XC E mX3_become (d + 1) 0 0 [.ref a, .int so, .int n] sh I R L (xq none sh (xic (xi (xi I a 2 so) a 1 n) (a + 1) (fil (I (a + 1)) (nI 0) 40)) R L) := by
  refine XC.of (by decide) rfl rfl ?_
  refine xv_aload_n (q := 1) rfl dX3_become_0 rfl rfl ?_
  refine xv_iload_n (q := 2) rfl dX3_become_1 rfl rfl ?_
  refine xv_puti (q := 5) rfl dX3_become_2 f_X3_15 (fun h => by cases h) hs.1 ?_
  refine xv_aload_n (q := 6) rfl dX3_become_5 rfl rfl ?_
  refine xv_iload_n (q := 7) rfl dX3_become_6 rfl rfl ?_
  refine xv_puti (q := 10) rfl dX3_become_7 f_X3_19 (fun h => by cases h) hs.1 ?_
  refine xv_aload_n (q := 11) rfl dX3_become_10 rfl rfl ?_
  refine xv_geta (q := 14) rfl dX3_become_11 f_X3_9 hs.1 hs.2.1 ?_
  refine xv_iconst (v := nI 0) (q := 15) rfl dX3_become_14 rfl ?_
  refine xv_cS2 (z := mJ7_fill_53178) (q := 18) rfl dX3_become_15 l_X3_22 gJ7_fill_53178 rfl (c_fill (d := d) hs.2.2 (by decide)) (by omega) ?_
  refine xv_vret dX3_become_18 rfl ?_
  refine ⟨rfl, rfl, ?_, rfl, rfl⟩
  rw [xi_off _ _ _ _ (show a + 1 ≠ a by omega), xi_off _ _ _ _ (show a + 1 ≠ a by omega)]
theorem c_narrowed (hs : XSt sh R a) (v : Int32) : XC E mX3_narrowed d 0 0 [.ref a, .int v] sh I R L (xq (some (.int (nrw (I a 2) v))) sh I R L) := by
  refine XC.of (by decide) rfl rfl ?_
  refine xv_aload_n (q := 1) rfl dX3_narrowed_0 rfl rfl ?_
  refine xv_geti (q := 4) rfl dX3_narrowed_1 f_X3_15 hs.1 ?_
  refine xv_if_ne (q := 7) (t := 10) rfl rfl dX3_narrowed_4 (fun h4 => ?_) (fun h4 => ?_)
  · refine xv_aload_n (q := 11) rfl dX3_narrowed_10 rfl rfl ?_
    refine xv_geti (q := 14) rfl dX3_narrowed_11 f_X3_15 hs.1 ?_
    refine xv_iconst (v := nI 1) (q := 15) rfl dX3_narrowed_14 rfl ?_
    refine xv_icmp_ne (q := 18) (t := 23) rfl rfl dX3_narrowed_15 (fun h15 => ?_) (fun h15 => ?_)
    · refine xv_iload_n (q := 24) rfl dX3_narrowed_23 rfl rfl ?_
      refine xv_iret dX3_narrowed_24 rfl ?_
      exact ⟨by unfold nrw; rw [if_neg h4, if_neg h15], rfl, rfl, rfl, rfl⟩
    · refine xv_iload_n (q := 19) rfl dX3_narrowed_18 rfl rfl ?_
      refine xv_i2s (q := 20) rfl dX3_narrowed_19 ?_
      refine xv_goto (t := 24) rfl dX3_narrowed_20 ?_
      refine xv_iret dX3_narrowed_24 rfl ?_
      exact ⟨by unfold nrw; rw [if_neg h4, if_pos h15], rfl, rfl, rfl, rfl⟩
  · refine xv_iload_n (q := 8) rfl dX3_narrowed_7 rfl rfl ?_
    refine xv_i2b (q := 9) rfl dX3_narrowed_8 ?_
    refine xv_iret dX3_narrowed_9 rfl ?_
    exact ⟨by unfold nrw; rw [if_pos h4], rfl, rfl, rfl, rfl⟩
def hld (len at_ n : Int32) : Bool := !(decide (at_ < 0) || (decide (n < 0) || (decide (len < at_) || decide (len - at_ < n))))
theorem c_holds (hs : XSt sh R a) (p n : Int32) : XC E mX3_holds d 0 0 [.ref a, .int p, .int n] sh I R L (xq (some (.int (bI (hld (I a 1) p n)))) sh I R L) := by
  refine XC.of (by decide) rfl rfl ?_
  refine xv_iload_n (q := 1) rfl dX3_holds_0 rfl rfl ?_
  refine xv_if_lt (q := 4) (t := 30) rfl rfl dX3_holds_1 (fun h1 => ?_) (fun h1 => ?_)
  · refine xv_iconst (v := nI 0) (q := 31) rfl dX3_holds_30 rfl ?_
    refine xv_zret (ty := .boolean) dX3_holds_31 rfl rfl ?_
    exact ⟨by unfold hld; simp [h1]; rfl, rfl, rfl, rfl, rfl⟩
  · refine xv_iload_n (q := 5) rfl dX3_holds_4 rfl rfl ?_
    refine xv_if_lt (q := 8) (t := 30) rfl rfl dX3_holds_5 (fun h5 => ?_) (fun h5 => ?_)
    · refine xv_iconst (v := nI 0) (q := 31) rfl dX3_holds_30 rfl ?_
      refine xv_zret (ty := .boolean) dX3_holds_31 rfl rfl ?_
      exact ⟨by unfold hld; simp [h5]; rfl, rfl, rfl, rfl, rfl⟩
    · refine xv_iload_n (q := 9) rfl dX3_holds_8 rfl rfl ?_
      refine xv_aload_n (q := 10) rfl dX3_holds_9 rfl rfl ?_
      refine xv_geti (q := 13) rfl dX3_holds_10 f_X3_19 hs.1 ?_
      refine xv_icmp_gt (q := 16) (t := 30) rfl rfl dX3_holds_13 (fun h13 => ?_) (fun h13 => ?_)
      · refine xv_iconst (v := nI 0) (q := 31) rfl dX3_holds_30 rfl ?_
        refine xv_zret (ty := .boolean) dX3_holds_31 rfl rfl ?_
        exact ⟨by unfold hld; simp [h13]; rfl, rfl, rfl, rfl, rfl⟩
      · refine xv_iload_n (q := 17) rfl dX3_holds_16 rfl rfl ?_
        refine xv_aload_n (q := 18) rfl dX3_holds_17 rfl rfl ?_
        refine xv_geti (q := 21) rfl dX3_holds_18 f_X3_19 hs.1 ?_
        refine xv_iload_n (q := 22) rfl dX3_holds_21 rfl rfl ?_
        refine xv_isub (q := 23) rfl dX3_holds_22 ?_
        refine xv_icmp_gt (q := 26) (t := 30) rfl rfl dX3_holds_23 (fun h23 => ?_) (fun h23 => ?_)
        · refine xv_iconst (v := nI 0) (q := 31) rfl dX3_holds_30 rfl ?_
          refine xv_zret (ty := .boolean) dX3_holds_31 rfl rfl ?_
          exact ⟨by unfold hld; simp [h23]; rfl, rfl, rfl, rfl, rfl⟩
        · refine xv_iconst (v := nI 1) (q := 27) rfl dX3_holds_26 rfl ?_
          refine xv_goto (t := 31) rfl dX3_holds_27 ?_
          refine xv_zret (ty := .boolean) dX3_holds_31 rfl rfl ?_
          exact ⟨by unfold hld; rw [decide_eq_false h1, decide_eq_false h5, decide_eq_false h13, decide_eq_false h23]; rfl, rfl, rfl, rfl, rfl⟩
theorem c_isSheet (x : Int32) : XC E mX6_isSheet d 0 0 [.int x] sh I R L (xq (some (.int (bI (isSh x)))) sh I R L) := by
  refine XC.of (by decide) rfl rfl ?_
  refine xv_iload_n (q := 1) rfl dX6_isSheet_0 rfl rfl ?_
  refine xv_if_lt (q := 4) (t := 13) rfl rfl dX6_isSheet_1 (fun h1 => ?_) (fun h1 => ?_)
  · refine xv_iconst (v := nI 0) (q := 14) rfl dX6_isSheet_13 rfl ?_
    refine xv_zret (ty := .boolean) dX6_isSheet_14 rfl rfl ?_
    exact ⟨by rw [show isSh x = false from decide_eq_false (fun z => z.1 h1)]; rfl, rfl, rfl, rfl, rfl⟩
  · refine xv_iload_n (q := 5) rfl dX6_isSheet_4 rfl rfl ?_
    refine xv_iconst (v := nI 4) (q := 6) rfl dX6_isSheet_5 rfl ?_
    refine xv_icmp_ge (q := 9) (t := 13) rfl rfl dX6_isSheet_6 (fun h6 => ?_) (fun h6 => ?_)
    · refine xv_iconst (v := nI 0) (q := 14) rfl dX6_isSheet_13 rfl ?_
      refine xv_zret (ty := .boolean) dX6_isSheet_14 rfl rfl ?_
      exact ⟨by rw [show isSh x = false from decide_eq_false (fun z => z.2 h6)]; rfl, rfl, rfl, rfl, rfl⟩
    · refine xv_iconst (v := nI 1) (q := 10) rfl dX6_isSheet_9 rfl ?_
      refine xv_goto (t := 14) rfl dX6_isSheet_10 ?_
      refine xv_zret (ty := .boolean) dX6_isSheet_14 rfl rfl ?_
      exact ⟨by rw [show isSh x = true from decide_eq_true ⟨h1, h6⟩]; rfl, rfl, rfl, rfl, rfl⟩
/-- what a call of the class may change: its own cells; the second's stay -/
def FX (I I' : XI) (lo hi : Nat) : Prop := ∀ k, (k < lo ∨ hi ≤ k) → I' k = I k
def sp_sheet (sg : SG) (x so n : Int32) : Int32 × SG :=
  if isSh x = false ∨ so < -1 ∨ ¬ so < nI 3 then (-2, sg)
  else if so = -1 then (nI 1, va_up sg x.toNatClampNeg none)
  else if ¬ n ≤ nI 40 then (-2, sg)
  else if ¬ 0 ≤ n then (-14, sg)
  else (nI 1, va_up sg x.toNatClampNeg (some (so.toNatClampNeg, n.toNatClampNeg, fun _ => nI 0)))
def QS (ans : Int32) (sg : SG) (sh : XSh) (I : XI) (R : XRf) (L : XL) : XQ := fun v sh' I' R' L' => v = some (.int ans) ∧ sh' = sh ∧ R' = R ∧ L' = L ∧ KXs I' sg ∧ FX I I' 53 61
theorem QS.same {ans : Int32} {sg : SG} (h : KXs I sg) : QS ans sg sh I R L (some (.int ans)) sh I R L := ⟨rfl, rfl, rfl, rfl, h, fun _ _ => rfl⟩
theorem x_sheet (hg : XG sh R) {sg : SG} (hK : KXs I sg) (x so n : Int32) : XC E mX6_sheet (d + 2) 0 0 [.ref 0, .int x, .int so, .int n] sh I R L (QS (sp_sheet sg x so n).1 (sp_sheet sg x so n).2 sh I R L) := by
  refine XC.of (by decide) rfl rfl ?_
  refine xv_iload_n (q := 1) rfl dX6_sheet_0 rfl rfl ?_
  refine xv_cS1 (z := mX6_isSheet) (q := 4) rfl dX6_sheet_1 l_X6_214 gX6_isSheet rfl (c_isSheet (d := d) x) (by omega) ?_
  refine xv_if_eq (q := 7) (t := 17) rfl rfl dX6_sheet_4 (fun h4 => ?_) (fun h4 => ?_)
  · have h4 := bIz h4
    refine xv_bipush (v := (-2)) (q := 19) rfl dX6_sheet_17 rfl ?_
    refine xv_iret dX6_sheet_19 rfl ?_
    rw [show sp_sheet sg x so n = (-2, sg) from if_pos (Or.inl h4)]
    exact QS.same hK
  · have h4 := bIn h4
    obtain ⟨s, hs4, rfl⟩ := isSh_of h4
    obtain ⟨hsr, hst⟩ := xg_sheet hg hs4
    refine xv_iload_n (q := 8) rfl dX6_sheet_7 rfl rfl ?_
    refine xv_iconst (v := (-1)) (q := 9) rfl dX6_sheet_8 rfl ?_
    refine xv_icmp_lt (q := 12) (t := 17) rfl rfl dX6_sheet_9 (fun h9 => ?_) (fun h9 => ?_)
    · refine xv_bipush (v := (-2)) (q := 19) rfl dX6_sheet_17 rfl ?_
      refine xv_iret dX6_sheet_19 rfl ?_
      rw [show sp_sheet sg (nI s) so n = (-2, sg) from if_pos (Or.inr (Or.inl h9))]
      exact QS.same hK
    · refine xv_iload_n (q := 13) rfl dX6_sheet_12 rfl rfl ?_
      refine xv_iconst (v := nI 3) (q := 14) rfl dX6_sheet_13 rfl ?_
      refine xv_icmp_lt (q := 17) (t := 20) rfl rfl dX6_sheet_14 (fun h14 => ?_) (fun h14 => ?_)
      · have hn0 : ¬ (isSh (nI s) = false ∨ so < -1 ∨ ¬ so < nI 3) := fun z => z.elim (fun z => by rw [h4] at z; cases z) (fun z => z.elim h9 (fun z => z h14))
        refine xv_iload_n (q := 21) rfl dX6_sheet_20 rfl rfl ?_
        refine xv_iconst (v := (-1)) (q := 22) rfl dX6_sheet_21 rfl ?_
        refine xv_icmp_ne (q := 25) (t := 38) rfl rfl dX6_sheet_22 (fun h22 => ?_) (fun h22 => ?_)
        · refine xv_iload_n (q := 39) rfl dX6_sheet_38 rfl rfl ?_
          refine xv_bipush (v := nI 40) (q := 41) rfl dX6_sheet_39 rfl ?_
          refine xv_icmp_le (q := 44) (t := 47) rfl rfl dX6_sheet_41 (fun h41 => ?_) (fun h41 => ?_)
          · refine xv_iload_n (q := 48) rfl dX6_sheet_47 rfl rfl ?_
            refine xv_if_ge (q := 51) (t := 54) rfl rfl dX6_sheet_48 (fun h48 => ?_) (fun h48 => ?_)
            · refine xv_aload_n (q := 55) rfl dX6_sheet_54 rfl rfl ?_
              refine xv_geta (q := 58) rfl dX6_sheet_55 f_X6_34 (hg.1 _ _ rfl) (hg.2 _ _ _ rfl) ?_
              refine xv_iload_n (q := 59) rfl dX6_sheet_58 rfl rfl ?_
              refine xv_aald (q := 60) rfl dX6_sheet_59 (hg.1 _ _ rfl) (by decide) rfl hs4 (by decide) hsr ?_
              refine xv_iload_n (q := 61) rfl dX6_sheet_60 rfl rfl ?_
              refine xv_iload_n (q := 62) rfl dX6_sheet_61 rfl rfl ?_
              refine xv_cV2 (z := mX3_become) (q := 65) rfl dX6_sheet_62 l_X6_228 gX3_become hst.1 rfl rfl rfl (c_sbecome (d := d) hst so n) (by omega) ?_
              refine xv_iconst (v := nI 1) (q := 66) rfl dX6_sheet_65 rfl ?_
              refine xv_iret dX6_sheet_66 rfl ?_
              rw [show sp_sheet sg (nI s) so n = (nI 1, va_up sg (nI s).toNatClampNeg (some (so.toNatClampNeg, n.toNatClampNeg, fun _ => nI 0))) from (if_neg hn0).trans ((if_neg h22).trans ((if_neg (fun z => z h41)).trans (if_neg (fun z => z h48))))]
              obtain ⟨so, hso, rfl⟩ : ∃ j, j < 3 ∧ so = nI j := by
                rcases pk_ix so (n := 3) (by decide) with z | z | z
                · exact absurd (show so = -1 from neg1 h9 z) h22
                · exact absurd h14 (ilen z)
                · exact z
              obtain ⟨n, hn, rfl⟩ : ∃ j, j ≤ 40 ∧ n = nI j := nI_of2 (M := nI 40) (by decide) (fun z => absurd h48 (ilef z)) h41
              refine ⟨rfl, rfl, rfl, rfl, ?_, fun k hk => ?_⟩
              · rw [nI_clamp (by omega)]
                refine hK.put ?_ (fun k h1 h2 h3 h4 => ?_)
                · refine ⟨by rw [nI_clamp (by omega)]; exact hso, by rw [nI_clamp (n := n) (by omega)]; exact hn, ?_, ?_, fun i hi => ?_⟩
                  · rw [xic_off _ _ _ (by omega), xi_ne _ _ _ _ (by omega), xi_eq, nI_clamp (by omega)]
                  · rw [xic_off _ _ _ (by omega), xi_eq, nI_clamp (n := n) (by omega)]
                  · have hi40 : i < n := by rwa [nI_clamp (n := n) (by omega)] at hi
                    show xic _ (53 + 2 * s + 1) _ (53 + 2 * s + 1) i = nI 0
                    rw [xic_row]
                    simp [fil, show i < 40 by omega]
                · rw [xic_off _ _ _ (by omega), xi_off _ _ _ _ (by omega), xi_off _ _ _ _ (by omega)]
              · rw [xic_off _ _ _ (by omega), xi_off _ _ _ _ (by omega), xi_off _ _ _ _ (by omega)]
            · refine xv_bipush (v := (-14)) (q := 53) rfl dX6_sheet_51 rfl ?_
              refine xv_iret dX6_sheet_53 rfl ?_
              rw [show sp_sheet sg (nI s) so n = (-14, sg) from (if_neg hn0).trans ((if_neg h22).trans ((if_neg (fun z => z h41)).trans (if_pos h48)))]
              exact QS.same hK
          · refine xv_bipush (v := (-2)) (q := 46) rfl dX6_sheet_44 rfl ?_
            refine xv_iret dX6_sheet_46 rfl ?_
            rw [show sp_sheet sg (nI s) so n = (-2, sg) from (if_neg hn0).trans ((if_neg h22).trans (if_pos h41))]
            exact QS.same hK
        · refine xv_aload_n (q := 26) rfl dX6_sheet_25 rfl rfl ?_
          refine xv_geta (q := 29) rfl dX6_sheet_26 f_X6_34 (hg.1 _ _ rfl) (hg.2 _ _ _ rfl) ?_
          refine xv_iload_n (q := 30) rfl dX6_sheet_29 rfl rfl ?_
          refine xv_aald (q := 31) rfl dX6_sheet_30 (hg.1 _ _ rfl) (by decide) rfl hs4 (by decide) hsr ?_
          refine xv_iconst (v := (-1)) (q := 32) rfl dX6_sheet_31 rfl ?_
          refine xv_iconst (v := nI 0) (q := 33) rfl dX6_sheet_32 rfl ?_
          refine xv_cV2 (z := mX3_become) (q := 36) rfl dX6_sheet_33 l_X6_228 gX3_become hst.1 rfl rfl rfl (c_sbecome (d := d) hst (-1) (nI 0)) (by omega) ?_
          refine xv_iconst (v := nI 1) (q := 37) rfl dX6_sheet_36 rfl ?_
          refine xv_iret dX6_sheet_37 rfl ?_
          rw [show sp_sheet sg (nI s) so n = (nI 1, va_up sg (nI s).toNatClampNeg none) from (if_neg hn0).trans (if_pos h22)]
          refine ⟨rfl, rfl, rfl, rfl, ?_, fun k hk => ?_⟩
          · rw [nI_clamp (by omega)]
            refine hK.put ?_ (fun k h1 h2 h3 h4 => ?_)
            · show xic _ _ _ (53 + 2 * s) 2 = -1; rw [xic_off _ _ _ (by omega), xi_ne _ _ _ _ (by omega), xi_eq]
            · rw [xic_off _ _ _ (by omega), xi_off _ _ _ _ (by omega), xi_off _ _ _ _ (by omega)]
          · rw [xic_off _ _ _ (by omega), xi_off _ _ _ _ (by omega), xi_off _ _ _ _ (by omega)]
      · refine xv_bipush (v := (-2)) (q := 19) rfl dX6_sheet_17 rfl ?_
        refine xv_iret dX6_sheet_19 rfl ?_
        rw [show sp_sheet sg (nI s) so n = (-2, sg) from if_pos (Or.inr (Or.inr h14))]
        exact QS.same hK
def sp_cell (sg : SG) (x i v : Int32) : Int32 × SG :=
  if isSh x = false then (-2, sg)
  else match sg x.toNatClampNeg with
    | none => (-11, sg)
    | some (so, ln, it) => if i < 0 ∨ ¬ i < nI ln then (-12, sg) else (nI 1, va_up sg x.toNatClampNeg (some (so, ln, upd it i.toNatClampNeg (nrw (nI so) v))))
theorem sp_cell_b {sg : SG} {x i v : Int32} (h : isSh x = false) : sp_cell sg x i v = (-2, sg) := if_pos h
theorem sp_cell_n {sg : SG} {s : Nat} {i v : Int32} (h : isSh (nI s) = true) (hs : s < 4) (hn : sg s = none) : sp_cell sg (nI s) i v = (-11, sg) := by
  unfold sp_cell; rw [if_neg (by rw [h]; decide), nI_clamp (by omega), hn]
theorem sp_cell_s {sg : SG} {s so ln : Nat} {it : Nat → Int32} {i v : Int32} (h : isSh (nI s) = true) (hs : s < 4) (hn : sg s = some (so, ln, it)) : sp_cell sg (nI s) i v = if i < 0 ∨ ¬ i < nI ln then (-12, sg) else (nI 1, va_up sg s (some (so, ln, upd it i.toNatClampNeg (nrw (nI so) v)))) := by
  unfold sp_cell; rw [if_neg (by rw [h]; decide), nI_clamp (by omega), hn]
/-- missing or not -/
theorem KXs.miss {sg : SG} {s : Nat} (h : KXs I sg) (hs : s < 4) : (sg s = none ∧ I (53 + 2 * s) 2 = -1) ∨ ∃ so ln it, sg s = some (so, ln, it) ∧ so < 3 ∧ ln ≤ 40 ∧ I (53 + 2 * s) 2 = nI so ∧ I (53 + 2 * s) 1 = nI ln ∧ ∀ i, i < ln → I (53 + 2 * s + 1) i = it i := by
  have := h s hs
  cases hq : sg s with
  | none => rw [hq] at this; exact Or.inl ⟨rfl, this⟩
  | some q => rw [hq] at this; obtain ⟨so, ln, it⟩ := q; exact Or.inr ⟨so, ln, it, rfl, this⟩
theorem so_ne {so : Nat} (h : so < 3) : ¬ nI so = -1 := by
  rcases (show so = 0 ∨ so = 1 ∨ so = 2 by omega) with rfl | rfl | rfl <;> decide
theorem x_cell (hg : XG sh R) {sg : SG} (hK : KXs I sg) (x i v : Int32) : XC E mX6_cell (d + 2) 0 0 [.ref 0, .int x, .int i, .int v] sh I R L (QS (sp_cell sg x i v).1 (sp_cell sg x i v).2 sh I R L) := by
  refine XC.of (by decide) rfl rfl ?_
  refine xv_iload_n (q := 1) rfl dX6_cell_0 rfl rfl ?_
  refine xv_cS1 (z := mX6_isSheet) (q := 4) rfl dX6_cell_1 l_X6_214 gX6_isSheet rfl (c_isSheet (d := d) x) (by omega) ?_
  refine xv_if_ne (q := 7) (t := 10) rfl rfl dX6_cell_4 (fun h4 => ?_) (fun h4 => ?_)
  · have h4 := bIn h4
    obtain ⟨s, hs4, rfl⟩ := isSh_of h4
    obtain ⟨hsr, hst⟩ := xg_sheet hg hs4
    refine xv_aload_n (q := 11) rfl dX6_cell_10 rfl rfl ?_
    refine xv_geta (q := 14) rfl dX6_cell_11 f_X6_34 (hg.1 _ _ rfl) (hg.2 _ _ _ rfl) ?_
    refine xv_iload_n (q := 15) rfl dX6_cell_14 rfl rfl ?_
    refine xv_aald (q := 16) rfl dX6_cell_15 (hg.1 _ _ rfl) (by decide) rfl hs4 (by decide) hsr ?_
    refine xv_astore (q := 18) rfl dX6_cell_16 rfl ?_
    refine xv_aload (q := 20) rfl dX6_cell_18 rfl ?_
    refine xv_cV0 (z := mX3_isMissing) (q := 23) rfl dX6_cell_20 l_X6_245 gX3_isMissing hst.1 rfl rfl rfl (c_isMissing (d := d) hst) (by omega) ?_
    refine xv_if_eq (q := 26) (t := 29) rfl rfl dX6_cell_23 (fun h23 => ?_) (fun h23 => ?_)
    · have h23 := of_decide_eq_false (bIz h23)
      rcases hK.miss hs4 with ⟨-, z⟩ | ⟨so, ln, it, e, q1, q2, q3, q4, q5⟩
      · exact absurd z h23
      rw [sp_cell_s h4 hs4 e]
      refine xv_iload_n (q := 30) rfl dX6_cell_29 rfl rfl ?_
      refine xv_if_lt (q := 33) (t := 42) rfl rfl dX6_cell_30 (fun h30 => ?_) (fun h30 => ?_)
      · refine xv_bipush (v := (-12)) (q := 44) rfl dX6_cell_42 rfl ?_
        refine xv_iret dX6_cell_44 rfl ?_
        rw [if_pos (Or.inl h30)]
        exact QS.same hK
      · refine xv_iload_n (q := 34) rfl dX6_cell_33 rfl rfl ?_
        refine xv_aload (q := 36) rfl dX6_cell_34 rfl ?_
        refine xv_geti (q := 39) rfl dX6_cell_36 f_X6_248 hst.1 ?_
        rw [q4]
        refine xv_icmp_lt (q := 42) (t := 45) rfl rfl dX6_cell_39 (fun h39 => ?_) (fun h39 => ?_)
        · rw [if_neg (fun z => z.elim h30 (fun z => z h39))]
          obtain ⟨i, hi, rfl⟩ : ∃ j, j < ln ∧ i = nI j := by
            rcases pk_ix i (n := ln) (by omega) with z | z | z
            · exact absurd z h30
            · exact absurd h39 (ilen z)
            · exact z
          refine xv_aload (q := 47) rfl dX6_cell_45 rfl ?_
          refine xv_geta (q := 50) rfl dX6_cell_47 f_X6_232 hst.1 hst.2.1 ?_
          refine xv_iload_n (q := 51) rfl dX6_cell_50 rfl rfl ?_
          refine xv_aload (q := 53) rfl dX6_cell_51 rfl ?_
          refine xv_iload_n (q := 54) rfl dX6_cell_53 rfl rfl ?_
          refine xv_cV1 (z := mX3_narrowed) (q := 57) rfl dX6_cell_54 l_X6_250 gX3_narrowed hst.1 rfl rfl rfl (c_narrowed (d := d + 1) hst v) (by omega) ?_
          refine xv_iast (q := 58) rfl dX6_cell_57 hst.2.2 rfl (by omega) (by decide) ?_
          refine xv_iconst (v := nI 1) (q := 59) rfl dX6_cell_58 rfl ?_
          refine xv_iret dX6_cell_59 rfl ?_
          rw [nI_clamp (by omega), q3]
          refine ⟨rfl, rfl, rfl, rfl, hK.put ⟨q1, q2, ?_, ?_, fun b hb => ?_⟩ (fun k h1 h2 h3 h4 => xi_off _ _ _ _ (by omega)), fun k hk => xi_off _ _ _ _ (by omega)⟩
          · rw [xi_off _ _ _ _ (by omega)]; exact q3
          · rw [xi_off _ _ _ _ (by omega)]; exact q4
          · show xi I (53 + 2 * s + 1) i _ (53 + 2 * s + 1) b = upd it i _ b
            rw [xi_row]
            by_cases e2 : b = i
            · simp [upd, e2]
            · simp [upd, e2]; exact q5 b hb
        · refine xv_bipush (v := (-12)) (q := 44) rfl dX6_cell_42 rfl ?_
          refine xv_iret dX6_cell_44 rfl ?_
          rw [if_pos (Or.inr h39)]
          exact QS.same hK
    · have h23 := of_decide_eq_true (bIn h23)
      refine xv_bipush (v := (-11)) (q := 28) rfl dX6_cell_26 rfl ?_
      refine xv_iret dX6_cell_28 rfl ?_
      rcases hK.miss hs4 with ⟨z, -⟩ | ⟨so, ln, it, -, q1, -, q3, -⟩
      · rw [sp_cell_n h4 hs4 z]
        exact QS.same hK
      · exact absurd (q3.symm.trans h23) (so_ne q1)
  · have h4 := bIz h4
    refine xv_bipush (v := (-2)) (q := 9) rfl dX6_cell_7 rfl ?_
    refine xv_iret dX6_cell_9 rfl ?_
    rw [sp_cell_b h4]
    exact QS.same hK
def sp_copy (sg : SG) (x i y j n : Int32) : Int32 × SG :=
  if isSh x = false ∨ isSh y = false then (-2, sg)
  else match sg x.toNatClampNeg, sg y.toNatClampNeg with
    | some (so, ln, it), some (so2, ln2, it2) =>
      if ¬ so = so2 then (-13, sg)
      else if hld (nI ln) i n = false ∨ hld (nI ln2) j n = false then (-12, sg)
      else (n, va_up sg y.toNatClampNeg (some (so2, ln2, va_cpy it it2 i.toNatClampNeg j.toNatClampNeg n.toNatClampNeg)))
    | _, _ => (-11, sg)
theorem sp_copy_n1 {sg : SG} {s t : Nat} {i j n : Int32} (h : isSh (nI s) = true) (h2 : isSh (nI t) = true) (hs : s < 4) (ht : t < 4) (hn : sg s = none ∨ sg t = none) : sp_copy sg (nI s) i (nI t) j n = (-11, sg) := by
  unfold sp_copy; rw [if_neg (by rw [h, h2]; simp), nI_clamp (n := s) (by omega), nI_clamp (n := t) (by omega)]
  rcases hn with hn | hn
  · rw [hn]
  · rw [hn]; cases sg s <;> rfl
theorem sp_copy_s {sg : SG} {s t so ln so2 ln2 : Nat} {it it2 : Nat → Int32} {i j n : Int32} (h : isSh (nI s) = true) (h2 : isSh (nI t) = true) (hs : s < 4) (ht : t < 4) (e1 : sg s = some (so, ln, it)) (e2 : sg t = some (so2, ln2, it2)) : sp_copy sg (nI s) i (nI t) j n = if ¬ so = so2 then (-13, sg) else if hld (nI ln) i n = false ∨ hld (nI ln2) j n = false then (-12, sg) else (n, va_up sg t (some (so2, ln2, va_cpy it it2 i.toNatClampNeg j.toNatClampNeg n.toNatClampNeg))) := by
  unfold sp_copy; rw [if_neg (by rw [h, h2]; simp), nI_clamp (n := s) (by omega), nI_clamp (n := t) (by omega), e1, e2]
theorem hld_of {ln : Nat} {i n : Int32} (hl : ln ≤ 40) (h : hld (nI ln) i n = true) : ∃ a b, a + b ≤ ln ∧ i = nI a ∧ n = nI b := by
  unfold hld at h
  simp only [Bool.not_eq_true', Bool.or_eq_false_iff, decide_eq_false_iff_not] at h
  obtain ⟨h1, h2, h3, h4⟩ := h
  obtain ⟨a, ha, rfl⟩ := nI_of h1
  obtain ⟨b, hb, rfl⟩ := nI_of h2
  have h3 := nInlt h3 (by omega) ha
  rw [pk_sub h3] at h4
  have h4 := nInlt h4 (by omega) hb
  exact ⟨a, b, by omega, rfl, rfl⟩
theorem x_copy (hg : XG sh R) {sg : SG} (hK : KXs I sg) (x i z j n : Int32) : XC E mX6_copy (d + 2) 0 0 [.ref 0, .int x, .int i, .int z, .int j, .int n] sh I R L (QS (sp_copy sg x i z j n).1 (sp_copy sg x i z j n).2 sh I R L) := by
  refine XC.of (by decide) rfl rfl ?_
  refine xv_iload_n (q := 1) rfl dX6_copy_0 rfl rfl ?_
  refine xv_cS1 (z := mX6_isSheet) (q := 4) rfl dX6_copy_1 l_X6_214 gX6_isSheet rfl (c_isSheet (d := d) x) (by omega) ?_
  refine xv_if_eq (q := 7) (t := 14) rfl rfl dX6_copy_4 (fun h4 => ?_) (fun h4 => ?_)
  · have h4 := bIz h4
    refine xv_bipush (v := (-2)) (q := 16) rfl dX6_copy_14 rfl ?_
    refine xv_iret dX6_copy_16 rfl ?_
    rw [show sp_copy sg x i z j n = (-2, sg) from if_pos (Or.inl h4)]
    exact QS.same hK
  · have h4 := bIn h4
    obtain ⟨s, hs4, rfl⟩ := isSh_of h4
    obtain ⟨hsr, hst⟩ := xg_sheet hg hs4
    refine xv_iload_n (q := 8) rfl dX6_copy_7 rfl rfl ?_
    refine xv_cS1 (z := mX6_isSheet) (q := 11) rfl dX6_copy_8 l_X6_214 gX6_isSheet rfl (c_isSheet (d := d) z) (by omega) ?_
    refine xv_if_ne (q := 14) (t := 17) rfl rfl dX6_copy_11 (fun h11 => ?_) (fun h11 => ?_)
    · have h11 := bIn h11
      obtain ⟨t, ht4, rfl⟩ := isSh_of h11
      obtain ⟨htr, htt⟩ := xg_sheet hg ht4
      refine xv_aload_n (q := 18) rfl dX6_copy_17 rfl rfl ?_
      refine xv_geta (q := 21) rfl dX6_copy_18 f_X6_34 (hg.1 _ _ rfl) (hg.2 _ _ _ rfl) ?_
      refine xv_iload_n (q := 22) rfl dX6_copy_21 rfl rfl ?_
      refine xv_aald (q := 23) rfl dX6_copy_22 (hg.1 _ _ rfl) (by decide) rfl hs4 (by decide) hsr ?_
      refine xv_astore (q := 25) rfl dX6_copy_23 rfl ?_
      refine xv_aload_n (q := 26) rfl dX6_copy_25 rfl rfl ?_
      refine xv_geta (q := 29) rfl dX6_copy_26 f_X6_34 (hg.1 _ _ rfl) (hg.2 _ _ _ rfl) ?_
      refine xv_iload_n (q := 30) rfl dX6_copy_29 rfl rfl ?_
      refine xv_aald (q := 31) rfl dX6_copy_30 (hg.1 _ _ rfl) (by decide) rfl ht4 (by decide) htr ?_
      refine xv_astore (q := 33) rfl dX6_copy_31 rfl ?_
      refine xv_aload (q := 35) rfl dX6_copy_33 rfl ?_
      refine xv_cV0 (z := mX3_isMissing) (q := 38) rfl dX6_copy_35 l_X6_245 gX3_isMissing hst.1 rfl rfl rfl (c_isMissing (d := d) hst) (by omega) ?_
      refine xv_if_ne (q := 41) (t := 49) rfl rfl dX6_copy_38 (fun h38 => ?_) (fun h38 => ?_)
      · have h38 := of_decide_eq_true (bIn h38)
        refine xv_bipush (v := (-11)) (q := 51) rfl dX6_copy_49 rfl ?_
        refine xv_iret dX6_copy_51 rfl ?_
        rcases hK.miss hs4 with ⟨q, -⟩ | ⟨so, ln, it, -, q1, -, q3, -⟩
        · rw [sp_copy_n1 h4 h11 hs4 ht4 (Or.inl q)]
          exact QS.same hK
        · exact absurd (q3.symm.trans h38) (so_ne q1)
      · have h38 := of_decide_eq_false (bIz h38)
        refine xv_aload (q := 43) rfl dX6_copy_41 rfl ?_
        refine xv_cV0 (z := mX3_isMissing) (q := 46) rfl dX6_copy_43 l_X6_245 gX3_isMissing htt.1 rfl rfl rfl (c_isMissing (d := d) htt) (by omega) ?_
        refine xv_if_eq (q := 49) (t := 52) rfl rfl dX6_copy_46 (fun h46 => ?_) (fun h46 => ?_)
        · have h46 := of_decide_eq_false (bIz h46)
          rcases hK.miss hs4 with ⟨-, q⟩ | ⟨so, ln, it, e1, q1, q2, q3, q4, q5⟩
          · exact absurd q h38
          rcases hK.miss ht4 with ⟨-, q⟩ | ⟨so2, ln2, it2, e2, r1, r2, r3, r4, r5⟩
          · exact absurd q h46
          rw [sp_copy_s h4 h11 hs4 ht4 e1 e2]
          refine xv_aload (q := 54) rfl dX6_copy_52 rfl ?_
          refine xv_geti (q := 57) rfl dX6_copy_54 f_X6_253 hst.1 ?_
          rw [q3]
          refine xv_aload (q := 59) rfl dX6_copy_57 rfl ?_
          refine xv_geti (q := 62) rfl dX6_copy_59 f_X6_253 htt.1 ?_
          rw [r3]
          refine xv_icmp_eq (q := 65) (t := 68) rfl rfl dX6_copy_62 (fun h62 => ?_) (fun h62 => ?_)
          · have h62 := nIe h62 (by omega) (by omega)
            rw [if_neg (fun q => q h62)]
            refine xv_aload (q := 70) rfl dX6_copy_68 rfl ?_
            refine xv_iload_n (q := 71) rfl dX6_copy_70 rfl rfl ?_
            refine xv_iload (q := 73) rfl dX6_copy_71 rfl ?_
            refine xv_cV2 (z := mX3_holds) (q := 76) rfl dX6_copy_73 l_X6_256 gX3_holds hst.1 rfl rfl rfl (c_holds (d := d + 1) hst i n) (by omega) ?_
            rw [q4]
            refine xv_if_eq (q := 79) (t := 91) rfl rfl dX6_copy_76 (fun h76 => ?_) (fun h76 => ?_)
            · have h76 := bIz h76
              refine xv_bipush (v := (-12)) (q := 93) rfl dX6_copy_91 rfl ?_
              refine xv_iret dX6_copy_93 rfl ?_
              rw [if_pos (Or.inl h76)]
              exact QS.same hK
            · have h76 := bIn h76
              refine xv_aload (q := 81) rfl dX6_copy_79 rfl ?_
              refine xv_iload (q := 83) rfl dX6_copy_81 rfl ?_
              refine xv_iload (q := 85) rfl dX6_copy_83 rfl ?_
              refine xv_cV2 (z := mX3_holds) (q := 88) rfl dX6_copy_85 l_X6_256 gX3_holds htt.1 rfl rfl rfl (c_holds (d := d + 1) htt j n) (by omega) ?_
              rw [r4]
              refine xv_if_ne (q := 91) (t := 94) rfl rfl dX6_copy_88 (fun h88 => ?_) (fun h88 => ?_)
              · have h88 := bIn h88
                rw [if_neg (by rw [h76, h88]; simp)]
                obtain ⟨a, m, g1, rfl, rfl⟩ := hld_of q2 h76
                obtain ⟨b, m2, g2, rfl, g3⟩ := hld_of r2 h88
                have g3 : m = m2 := by
                  rcases Nat.lt_or_ge m2 (2 ^ 31) with z | z
                  · exact nIe g3 (by omega) z
                  · omega
                subst g3
                refine xv_aload (q := 96) rfl dX6_copy_94 rfl ?_
                refine xv_geta (q := 99) rfl dX6_copy_96 f_X6_232 hst.1 hst.2.1 ?_
                refine xv_iload_n (q := 100) rfl dX6_copy_99 rfl rfl ?_
                refine xv_aload (q := 102) rfl dX6_copy_100 rfl ?_
                refine xv_geta (q := 105) rfl dX6_copy_102 f_X6_232 htt.1 htt.2.1 ?_
                refine xv_iload (q := 107) rfl dX6_copy_105 rfl ?_
                refine xv_iload (q := 109) rfl dX6_copy_107 rfl ?_
                refine xv_copy (a := a) (b := b) (n := m) (q := 112) rfl dX6_copy_109 l_X6_259 hst.2.2 htt.2.2 rfl rfl rfl (by omega) (by omega) (by decide) (by decide) rfl (by omega) ?_
                refine xv_iload (q := 114) rfl dX6_copy_112 rfl ?_
                refine xv_iret dX6_copy_114 rfl ?_
                refine ⟨rfl, rfl, rfl, rfl, hK.put ⟨r1, r2, ?_, ?_, fun k hk => ?_⟩ (fun k h1 h2 h3 h4 => xic_off _ _ _ (by omega)), fun k hk => xic_off _ _ _ (by omega)⟩
                · rw [xic_off _ _ _ (by omega)]; exact r3
                · rw [xic_off _ _ _ (by omega)]; exact r4
                · show xic I (53 + 2 * t + 1) _ (53 + 2 * t + 1) k = va_cpy it it2 _ _ _ k
                  rw [xic_row, nI_clamp (n := a) (by omega), nI_clamp (n := b) (by omega), nI_clamp (n := m) (by omega)]
                  unfold va_cpy
                  by_cases c : b ≤ k ∧ k < b + m
                  · rw [if_pos c, if_pos c]
                    exact q5 (a + (k - b)) (by omega)
                  · rw [if_neg c, if_neg c]
                    exact r5 _ hk
              · have h88 := bIz h88
                refine xv_bipush (v := (-12)) (q := 93) rfl dX6_copy_91 rfl ?_
                refine xv_iret dX6_copy_93 rfl ?_
                rw [if_pos (Or.inr h88)]
                exact QS.same hK
          · rw [if_pos (fun q => h62 (by rw [q]))]
            refine xv_bipush (v := (-13)) (q := 67) rfl dX6_copy_65 rfl ?_
            refine xv_iret dX6_copy_67 rfl ?_
            exact QS.same hK
        · have h46 := of_decide_eq_true (bIn h46)
          refine xv_bipush (v := (-11)) (q := 51) rfl dX6_copy_49 rfl ?_
          refine xv_iret dX6_copy_51 rfl ?_
          rcases hK.miss ht4 with ⟨q, -⟩ | ⟨so, ln, it, -, q1, -, q3, -⟩
          · rw [sp_copy_n1 h4 h11 hs4 ht4 (Or.inr q)]
            exact QS.same hK
          · exact absurd (q3.symm.trans h46) (so_ne q1)
    · have h11 := bIz h11
      refine xv_bipush (v := (-2)) (q := 16) rfl dX6_copy_14 rfl ?_
      refine xv_iret dX6_copy_16 rfl ?_
      rw [show sp_copy sg (nI s) i z j n = (-2, sg) from if_pos (Or.inr h11)]
      exact QS.same hK
end SHEET

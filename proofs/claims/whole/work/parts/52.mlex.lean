/-! the model: tokens -/
/-- the text that is read: tp 0 .. tp (n - 1), at fr -/
def MT (J : XI) (fr : Nat) (tp : Nat → Nat) (n : Nat) : Prop := J 61 22 = nI fr ∧ J 61 23 = nI n ∧ n ≤ 160 ∧ fr + n ≤ 960 ∧ ∀ i, i < n → J 62 (fr + i) = nI (tp i) ∧ tp i < 256
def btm (tp : Nat → Nat) (n i : Nat) : Int32 := if i < n then nI (tp i) else -1
/-- the reader's own fields may have changed -/
def FPa (I J : XI) : Prop := (∀ k, k ≠ 61 → J k = I k) ∧ ∀ j, (j < 24 ∨ 31 ≤ j) → J 61 j = I 61 j
theorem FPa.rf {I : XI} : FPa I I := ⟨fun _ _ => rfl, fun _ _ => rfl⟩
theorem FPa.trans {I J K : XI} (h : FPa I J) (zh2 : FPa J K) : FPa I K := ⟨fun k a => (zh2.1 k a).trans (h.1 k a), fun j a => (zh2.2 j a).trans (h.2 j a)⟩
theorem FPa.xi {I : XI} {j : Nat} {x : Int32} (h : 24 ≤ j) (zh2 : j < 31) : FPa I (xi I 61 j x) := ⟨fun k hk => xi_off _ _ _ _ hk, fun a ha => xi_ne _ _ _ _ (by omega)⟩
theorem MT.mv {I J : XI} {fr : Nat} {tp : Nat → Nat} {n : Nat} (h : MT I fr tp n) (hF : FPa I J) : MT J fr tp n := ⟨(hF.2 22 (by decide)).trans h.1, (hF.2 23 (by decide)).trans h.2.1, h.2.2.1, h.2.2.2.1, fun i hi => by rw [hF.1 62 (by decide)]; exact h.2.2.2.2 i hi⟩
theorem lin_c {x a b : Nat} {A B : Int64} (zhx : x < 256) (hA : A.toInt = a) (hB : B.toInt = b) : lin (nI x).toInt64 A B = (decide (a ≤ x) && decide (x ≤ b)) := by
  have hl := lin_iff (x := nI x) (a := A) (b := B)
  rw [hA, hB, nI_toInt (by omega)] at hl
  rw [Bool.eq_iff_iff, hl, Bool.and_eq_true_iff, decide_eq_true_iff, decide_eq_true_iff]
  omega
section MLEX
variable {E : XE} {d : Nat} {sh : XSh} {I : XI} {R : XRf} {L : XL} {fr n : Nat} {tp : Nat → Nat}
theorem btm_ltr (hT : MT I fr tp n) (i : Nat) : lin (btm tp n i).toInt64 97 122 = (decide (i < n) && ltr tp i) := by
  unfold btm
  by_cases h : i < n
  · rw [if_pos h, lin_c (a := 97) (b := 122) (hT.2.2.2.2 i h).2 rfl rfl, decide_eq_true h]; rfl
  · rw [if_neg h, decide_eq_false h]; rfl
theorem btm_dgt (hT : MT I fr tp n) (i : Nat) : lin (btm tp n i).toInt64 48 57 = (decide (i < n) && dgt tp i) := by
  unfold btm
  by_cases h : i < n
  · rw [if_pos h, lin_c (a := 48) (b := 57) (hT.2.2.2.2 i h).2 rfl rfl, decide_eq_true h]; rfl
  · rw [if_neg h, decide_eq_false h]; rfl
theorem m_byte (hg : XG sh R) (hT : MT I fr tp n) {i : Nat} (hi : i < 1000) : XC E mX7_byteAt d 0 0 [.ref 61, .int (nI i)] sh I R L (xq (some (.int (btm tp n i))) sh I R L) := by
  obtain ⟨zh1, zh2, zh3, zh4, h5b⟩ := id hT
  refine XC.of (by decide) rfl rfl ?_
  refine xv_iload_n (q := 1) rfl dX7_byteAt_0 rfl rfl ?_
  refine xv_aload_n (q := 2) rfl dX7_byteAt_1 rfl rfl ?_
  refine xv_geti (q := 5) rfl dX7_byteAt_2 f_X7_133 (hg.1 _ _ rfl) ?_
  rw [zh2]
  refine xv_icmp_ge (q := 8) (t := 22) rfl rfl dX7_byteAt_5 (fun zh5 => ?_) (fun zh5 => ?_)
  · have zh5 : ¬ i < n := by have := nIle zh5 (by omega) (by omega); omega
    refine xv_iconst (v := (-1)) (q := 23) rfl dX7_byteAt_22 rfl ?_
    refine xv_iret dX7_byteAt_23 rfl ?_
    exact ⟨by unfold btm; rw [if_neg zh5], rfl, rfl, rfl, rfl⟩
  · have zh5 : i < n := nInle zh5 (by omega) (by omega)
    refine xv_aload_n (q := 9) rfl dX7_byteAt_8 rfl rfl ?_
    refine xv_geta (q := 12) rfl dX7_byteAt_9 f_X7_13 (hg.1 _ _ rfl) (hg.2 _ _ _ rfl) ?_
    refine xv_aload_n (q := 13) rfl dX7_byteAt_12 rfl rfl ?_
    refine xv_geti (q := 16) rfl dX7_byteAt_13 f_X7_136 (hg.1 _ _ rfl) ?_
    rw [zh1]
    refine xv_iload_n (q := 17) rfl dX7_byteAt_16 rfl rfl ?_
    refine xv_iadd (q := 18) rfl dX7_byteAt_17 ?_
    refine xv_as (w := nI (fr + i)) (nI_add _ _) ?_
    refine xv_iald (q := 19) rfl dX7_byteAt_18 (hg.1 _ _ rfl) rfl (by omega) (by decide) ?_
    refine xv_as (w := nI (tp i)) (h5b i zh5).1 ?_
    refine xv_goto (t := 23) rfl dX7_byteAt_19 ?_
    refine xv_iret dX7_byteAt_23 rfl ?_
    exact ⟨by unfold btm; rw [if_pos zh5], rfl, rfl, rfl, rfl⟩
/-- the model's token -/
def tkm (tp : Nat → Nat) (n p : Nat) : Nat :=
  if n ≤ sta tp n p then 0
  else if ltr tp (sta tp n p) = true then 1
  else if dgt tp (sta tp n p) = true then (if 4 < den tp n (sta tp n p) - sta tp n p then 4 else 2)
  else if sgn (tp (sta tp n p)) = true then 3 else 4
def RdM (J : XI) (K : XL) (tp : Nat → Nat) (n p : Nat) : Prop := J 61 26 = nI (sta tp n p) ∧ (tkm tp n p ≠ 4 → J 61 24 = nI (nxt tp n p)) ∧ J 61 25 = nI (tkm tp n p) ∧ (tkm tp n p = 2 → K 61 27 = lN (vlu tp n p)) ∧ (tkm tp n p = 3 → K 61 27 = lN (tp (sta tp n p)))
/-- of the longs only the token's worth -/
def FL (K L : XL) : Prop := ∀ k j, (k ≠ 61 ∨ j ≠ 27) → L k j = K k j
theorem FL.rf {K : XL} : FL K K := fun _ _ _ => rfl
theorem FL.trans {K L M : XL} (h : FL K L) (zh2 : FL L M) : FL K M := fun k j a => (zh2 k j a).trans (h k j a)
theorem FL.xg {K L : XL} {x : Int64} (h : FL K L) : FL K (xg L 61 27 x) := fun k j a => by
  by_cases e : k = 61
  · subst e
    have zhj : j ≠ 27 := by omega
    rw [xg_row]
    simp only [vp_updL, if_neg zhj]
    exact h 61 j a
  · rw [xg_off _ _ _ _ e]; exact h k j a
/-- what next leaves -/
def QNx (tp : Nat → Nat) (n p : Nat) (sh : XSh) (I : XI) (R : XRf) (L : XL) : XQ := fun v sh' J R' L' => v = none ∧ sh' = sh ∧ R' = R ∧ RdM J L' tp n p ∧ (∀ k, k ≠ 61 → J k = I k) ∧ (∀ j, (j < 24 ∨ 27 ≤ j) → J 61 j = I 61 j) ∧ FL L L'
def FNx (I J : XI) : Prop := (∀ k, k ≠ 61 → J k = I k) ∧ ∀ j, (j < 24 ∨ 27 ≤ j) → J 61 j = I 61 j
theorem FNx.fpa {I J : XI} (h : FNx I J) : FPa I J := ⟨h.1, fun j zhj => h.2 j (by omega)⟩
theorem FNx.xi {I J : XI} {j : Nat} {x : Int32} (h : FNx I J) (zh1 : 24 ≤ j) (zh2 : j < 27) : FNx I (xi J 61 j x) := ⟨fun k hk => (xi_off _ _ _ _ hk).trans (h.1 k hk), fun a ha => (xi_ne _ _ _ _ (by omega)).trans (h.2 a ha)⟩
theorem m_wrd_loop (hg : XG sh R) (hT : MT I fr tp n) {p0 : Nat} (zhs : sta tp n p0 < n) (hl : ltr tp (sta tp n p0) = true) {l1 l2 : Option Value} : ∀ (k q : Nat) (J : XI), q ≤ n → n < q + k → FNx I J → J 61 26 = nI (sta tp n p0) → J 61 25 = nI 1 → J 61 24 = nI q → scn (ltr tp) n n q = wen tp n (sta tp n p0) → XV E mX7_next (d + 1) 0 0 (QNx tp n p0 sh I R L) 0 0 100 [some (.ref 61), l1, l2] [] sh J R L := by
  intro k
  induction k with
  | zero => intro q J zh1 zh2; exact absurd zh2 (by omega)
  | succ k ih =>
    intro q J zh1 zh2 hF h26 h25 h24 hsc
    have hTJ := hT.mv hF.fpa
    have hn := hT.2.2.1
    refine xv_aload_n (q := 101) rfl dX7_next_100 rfl rfl ?_
    refine xv_aload_n (q := 102) rfl dX7_next_101 rfl rfl ?_
    refine xv_geti (q := 105) rfl dX7_next_102 f_X7_139 (hg.1 _ _ rfl) ?_
    rw [h24]
    refine xv_cV1 (z := mX7_byteAt) (q := 108) rfl dX7_next_105 l_X7_142 gX7_byteAt (hg.1 _ _ rfl) rfl rfl rfl (m_byte (d := d) hg hTJ (show q < 1000 by omega)) (by omega) ?_
    refine xv_i2l (q := 109) rfl dX7_next_108 ?_
    refine xv_ldc2 (q := 112) rfl dX7_next_109 k_X7_152 ?_
    refine xv_ldc2 (q := 115) rfl dX7_next_112 k_X7_154 ?_
    refine xv_cS3 (z := mX7_in) (q := 118) rfl dX7_next_115 l_X7_91 gX7_in rfl (m_in (d := d) _ _ _) (by omega) ?_
    rw [btm_ltr hTJ]
    refine xv_if_eq (q := 121) (t := 321) rfl rfl dX7_next_118 (fun h118 => ?_) (fun h118 => ?_)
    · have h118 := bIz h118
      have hst : ¬ (q < n ∧ ltr tp q = true) := (fun z => by rw [decide_eq_true z.1, z.2] at h118; cases h118)
      have zhq : q = wen tp n (sta tp n p0) := (scn_stop hst).symm.trans hsc
      refine xv_vret dX7_next_321 rfl ?_
      have zh0 : tkm tp n p0 = 1 := by unfold tkm; rw [if_neg (by omega), if_pos hl]
      refine ⟨rfl, rfl, rfl, ⟨h26, fun _ => ?_, by rw [h25, zh0], (fun z => by rw [zh0] at z; cases z), (fun z => by rw [zh0] at z; cases z)⟩, hF.1, hF.2, .rf⟩
      rw [h24, zhq]
      unfold nxt
      rw [if_neg (by omega), if_pos hl]
    · have h118 := bIn h118
      have hgo : q < n ∧ ltr tp q = true := by
        rw [Bool.and_eq_true_iff] at h118
        exact ⟨of_decide_eq_true h118.1, h118.2⟩
      refine xv_aload_n (q := 122) rfl dX7_next_121 rfl rfl ?_
      refine xv_dup (q := 123) rfl dX7_next_122 rfl ?_
      refine xv_geti (q := 126) rfl dX7_next_123 f_X7_139 (hg.1 _ _ rfl) ?_
      rw [h24]
      refine xv_iconst (v := nI 1) (q := 127) rfl dX7_next_126 rfl ?_
      refine xv_iadd (q := 128) rfl dX7_next_127 ?_
      refine xv_as (w := nI (q + 1)) (nI_add _ _) ?_
      refine xv_puti (q := 131) rfl dX7_next_128 f_X7_139 (fun h => by cases h) (hg.1 _ _ rfl) ?_
      refine xv_goto (t := 100) rfl dX7_next_131 ?_
      exact ih (q + 1) _ (by omega) (by omega) (hF.xi (by decide) (by decide)) (by rw [xi_ne _ _ _ _ (by decide)]; exact h26) (by rw [xi_ne _ _ _ _ (by decide)]; exact h25) (xi_eq _ _ _ _) ((scn_eq (by omega) (by omega)).trans ((scn_go hgo (by omega)).symm.trans hsc))
theorem dgv_s {s k : Nat} (h : dgt tp (s + k) = true) : dgv tp s (k + 1) + 48 = dgv tp s k * 10 + tp (s + k) := by
  have := dgt_of h
  show dgv tp s k * 10 + tp (s + k) - 48 + 48 = _
  omega
theorem m_dig_loop (hg : XG sh R) (hT : MT I fr tp n) {p0 : Nat} (zhs : sta tp n p0 < n) (hl : ¬ ltr tp (sta tp n p0) = true) (hdg : dgt tp (sta tp n p0) = true) {l1 : Int32} : ∀ (k q : Nat) (J : XI) (M : XL), sta tp n p0 ≤ q → q ≤ n → n < q + k → FNx I J → FL L M → J 61 26 = nI (sta tp n p0) → J 61 24 = nI q → scn (dgt tp) n n q = den tp n (sta tp n p0) → (q - sta tp n p0 ≤ 4 → M 61 27 = lN (dgv tp (sta tp n p0) (q - sta tp n p0))) → (∀ i, i < q - sta tp n p0 → dgt tp (sta tp n p0 + i) = true) → XV E mX7_next (d + 1) 0 0 (QNx tp n p0 sh I R L) 0 0 160 [some (.ref 61), some (.int l1), some (.int (nI (q - sta tp n p0)))] [] sh J R M := by
  intro k
  induction k with
  | zero => intro q J M zh0 zh1 zh2; exact absurd zh2 (by omega)
  | succ k ih =>
    intro q J M zh0 zh1 zh2 hF hL h26 h24 hsc hv hd
    have hTJ := hT.mv hF.fpa
    have hn := hT.2.2.1
    refine xv_aload_n (q := 161) rfl dX7_next_160 rfl rfl ?_
    refine xv_aload_n (q := 162) rfl dX7_next_161 rfl rfl ?_
    refine xv_geti (q := 165) rfl dX7_next_162 f_X7_139 (hg.1 _ _ rfl) ?_
    rw [h24]
    refine xv_cV1 (z := mX7_byteAt) (q := 168) rfl dX7_next_165 l_X7_142 gX7_byteAt (hg.1 _ _ rfl) rfl rfl rfl (m_byte (d := d) hg hTJ (show q < 1000 by omega)) (by omega) ?_
    refine xv_i2l (q := 169) rfl dX7_next_168 ?_
    refine xv_ldc2 (q := 172) rfl dX7_next_169 k_X7_156 ?_
    refine xv_ldc2 (q := 175) rfl dX7_next_172 k_X7_158 ?_
    refine xv_cS3 (z := mX7_in) (q := 178) rfl dX7_next_175 l_X7_91 gX7_in rfl (m_in (d := d) _ _ _) (by omega) ?_
    rw [btm_dgt hTJ]
    refine xv_if_eq (q := 181) (t := 235) rfl rfl dX7_next_178 (fun h178 => ?_) (fun h178 => ?_)
    · have h178 := bIz h178
      have hst : ¬ (q < n ∧ dgt tp q = true) := (fun z => by rw [decide_eq_true z.1, z.2] at h178; cases h178)
      have zhq : q = den tp n (sta tp n p0) := (scn_stop hst).symm.trans hsc
      refine xv_aload_n (q := 236) rfl dX7_next_235 rfl rfl ?_
      refine xv_iload_n (q := 237) rfl dX7_next_236 rfl rfl ?_
      refine xv_iconst (v := nI 4) (q := 238) rfl dX7_next_237 rfl ?_
      refine xv_icmp_le (q := 241) (t := 245) rfl rfl dX7_next_238 (fun h238 => ?_) (fun h238 => ?_)
      · have h238 : ¬ 4 < q - sta tp n p0 := by have := nIle h238 (by omega) (by omega); omega
        refine xv_iconst (v := nI 2) (q := 246) rfl dX7_next_245 rfl ?_
        refine xv_puti (q := 249) rfl dX7_next_246 f_X7_149 (fun h => by cases h) (hg.1 _ _ rfl) ?_
        refine xv_goto (t := 321) rfl dX7_next_249 ?_
        refine xv_vret dX7_next_321 rfl ?_
        have zh0 : tkm tp n p0 = 2 := by unfold tkm; rw [if_neg (by omega), if_neg hl, if_pos hdg, ← zhq, if_neg h238]
        refine ⟨rfl, rfl, rfl, ⟨by rw [xi_ne _ _ _ _ (by decide)]; exact h26, fun _ => ?_, by rw [xi_eq, zh0], fun _ => ?_, (fun z => by rw [zh0] at z; cases z)⟩, (hF.xi (by decide) (by decide)).1, (hF.xi (by decide) (by decide)).2, hL⟩
        · rw [xi_ne _ _ _ _ (by decide), h24, zhq]
          unfold nxt
          rw [if_neg (by omega), if_neg hl, if_pos hdg]
        · rw [hv (by omega), zhq]
          unfold vlu
          rw [if_neg hl]
      · have h238 : 4 < q - sta tp n p0 := nInle h238 (by omega) (by omega)
        refine xv_iconst (v := nI 4) (q := 242) rfl dX7_next_241 rfl ?_
        refine xv_goto (t := 246) rfl dX7_next_242 ?_
        refine xv_puti (q := 249) rfl dX7_next_246 f_X7_149 (fun h => by cases h) (hg.1 _ _ rfl) ?_
        refine xv_goto (t := 321) rfl dX7_next_249 ?_
        refine xv_vret dX7_next_321 rfl ?_
        have zh0 : tkm tp n p0 = 4 := by unfold tkm; rw [if_neg (by omega), if_neg hl, if_pos hdg, ← zhq, if_pos h238]
        exact ⟨rfl, rfl, rfl, ⟨by rw [xi_ne _ _ _ _ (by decide)]; exact h26, fun z => absurd zh0 z, by rw [xi_eq, zh0], (fun z => by rw [zh0] at z; cases z), (fun z => by rw [zh0] at z; cases z)⟩, (hF.xi (by decide) (by decide)).1, (hF.xi (by decide) (by decide)).2, hL⟩
    · have h178 := bIn h178
      have hgo : q < n ∧ dgt tp q = true := by
        rw [Bool.and_eq_true_iff] at h178
        exact ⟨of_decide_eq_true h178.1, h178.2⟩
      refine xv_aload_n (q := 182) rfl dX7_next_181 rfl rfl ?_
      refine xv_iload_n (q := 183) rfl dX7_next_182 rfl rfl ?_
      refine xv_iconst (v := nI 4) (q := 184) rfl dX7_next_183 rfl ?_
      refine xv_icmp_ge (q := 187) (t := 212) rfl rfl dX7_next_184 (fun h184 => ?_) (fun h184 => ?_)
      · have h184 := nIle h184 (by omega) (by omega)
        refine xv_aload_n (q := 213) rfl dX7_next_212 rfl rfl ?_
        refine xv_getl (q := 216) rfl dX7_next_213 f_X7_160 (hg.1 _ _ rfl) ?_
        refine xv_putl (q := 219) rfl dX7_next_216 f_X7_160 (fun h => by cases h) (hg.1 _ _ rfl) ?_
        refine xv_iinc (q := 222) (v := nI 1) rfl dX7_next_219 rfl rfl ?_
        refine xv_aload_n (q := 223) rfl dX7_next_222 rfl rfl ?_
        refine xv_dup (q := 224) rfl dX7_next_223 rfl ?_
        refine xv_geti (q := 227) rfl dX7_next_224 f_X7_139 (hg.1 _ _ rfl) ?_
        rw [h24]
        refine xv_iconst (v := nI 1) (q := 228) rfl dX7_next_227 rfl ?_
        refine xv_iadd (q := 229) rfl dX7_next_228 ?_
        refine xv_as (w := nI (q + 1)) (nI_add _ _) ?_
        refine xv_puti (q := 232) rfl dX7_next_229 f_X7_139 (fun h => by cases h) (hg.1 _ _ rfl) ?_
        refine xv_goto (t := 160) rfl dX7_next_232 ?_
        rw [nI_add, show q - sta tp n p0 + 1 = q + 1 - sta tp n p0 by omega]
        refine ih (q + 1) (xi J 61 24 (nI (q + 1))) (xg M 61 27 (M 61 27)) (by omega) (by omega) (by omega) (hF.xi (by decide) (by decide)) hL.xg (by rw [xi_ne _ _ _ _ (by decide)]; exact h26) (xi_eq _ _ _ _) ((scn_eq (by omega) (by omega)).trans ((scn_go hgo (by omega)).symm.trans hsc)) (fun z => ?_) (fun i hi => ?_)
        · exact absurd z (by omega)
        · by_cases e : i = q - sta tp n p0
          · rw [e, Nat.add_sub_cancel' zh0]; exact hgo.2
          · exact hd i (by omega)
      · have h184 := nInle h184 (by omega) (by omega)
        obtain ⟨lm, hlm⟩ : ∃ x : Int64, x = 10 * M 61 27 := ⟨_, rfl⟩
        refine xv_ldc2 (q := 190) rfl dX7_next_187 k_X7_164 ?_
        refine xv_aload_n (q := 191) rfl dX7_next_190 rfl rfl ?_
        refine xv_getl (q := 194) rfl dX7_next_191 f_X7_160 (hg.1 _ _ rfl) ?_
        refine xv_lmul (q := 195) rfl dX7_next_194 ?_
        refine xv_asl (w := lm) hlm.symm ?_
        refine xv_aload_n (q := 196) rfl dX7_next_195 rfl rfl ?_
        refine xv_aload_n (q := 197) rfl dX7_next_196 rfl rfl ?_
        refine xv_geti (q := 200) rfl dX7_next_197 f_X7_139 (hg.1 _ _ rfl) ?_
        rw [h24]
        refine xv_cV1 (z := mX7_byteAt) (q := 203) rfl dX7_next_200 l_X7_142 gX7_byteAt (hg.1 _ _ rfl) rfl rfl rfl (m_byte (d := d) hg hTJ (show q < 1000 by omega)) (by omega) ?_
        rw [show btm tp n q = nI (tp q) from if_pos hgo.1]
        refine xv_i2l (q := 204) rfl dX7_next_203 ?_
        refine xv_ladd (q := 205) rfl dX7_next_204 ?_
        refine xv_ldc2 (q := 208) rfl dX7_next_205 k_X7_156 ?_
        refine xv_lsub (q := 209) rfl dX7_next_208 ?_
        refine xv_asl (w := lN (dgv tp (sta tp n p0) (q + 1 - sta tp n p0))) (by
  have hgd := dgt_of hgo.2
  rw [hlm, hv (by omega), show (10 : Int64) = lN 10 from rfl, lN_mul, nI_l (by have := (hTJ.2.2.2.2 q hgo.1).2; omega), lN_add, show (48 : Int64) = lN 48 from rfl, lN_sub (show 48 ≤ 10 * dgv tp (sta tp n p0) (q - sta tp n p0) + tp q by omega)]
  congr 1
  have := dgv_s (s := sta tp n p0) (k := q - sta tp n p0) (by rw [Nat.add_sub_cancel' zh0]; exact hgo.2)
  rw [Nat.add_sub_cancel' zh0, show q - sta tp n p0 + 1 = q + 1 - sta tp n p0 by omega] at this
  omega) ?_
        refine xv_goto (t := 216) rfl dX7_next_209 ?_
        refine xv_putl (q := 219) rfl dX7_next_216 f_X7_160 (fun h => by cases h) (hg.1 _ _ rfl) ?_
        refine xv_iinc (q := 222) (v := nI 1) rfl dX7_next_219 rfl rfl ?_
        refine xv_aload_n (q := 223) rfl dX7_next_222 rfl rfl ?_
        refine xv_dup (q := 224) rfl dX7_next_223 rfl ?_
        refine xv_geti (q := 227) rfl dX7_next_224 f_X7_139 (hg.1 _ _ rfl) ?_
        rw [h24]
        refine xv_iconst (v := nI 1) (q := 228) rfl dX7_next_227 rfl ?_
        refine xv_iadd (q := 229) rfl dX7_next_228 ?_
        refine xv_as (w := nI (q + 1)) (nI_add _ _) ?_
        refine xv_puti (q := 232) rfl dX7_next_229 f_X7_139 (fun h => by cases h) (hg.1 _ _ rfl) ?_
        refine xv_goto (t := 160) rfl dX7_next_232 ?_
        rw [nI_add, show q - sta tp n p0 + 1 = q + 1 - sta tp n p0 by omega]
        refine ih (q + 1) (xi J 61 24 (nI (q + 1))) (xg M 61 27 (lN (dgv tp (sta tp n p0) (q + 1 - sta tp n p0)))) (by omega) (by omega) (by omega) (hF.xi (by decide) (by decide)) hL.xg (by rw [xi_ne _ _ _ _ (by decide)]; exact h26) (xi_eq _ _ _ _) ((scn_eq (by omega) (by omega)).trans ((scn_go hgo (by omega)).symm.trans hsc)) (fun z => ?_) (fun i hi => ?_)
        · rw [xg_row]; simp [vp_updL]
        · by_cases e : i = q - sta tp n p0
          · rw [e, Nat.add_sub_cancel' zh0]; exact hgo.2
          · exact hd i (by omega)
theorem sgn_of {b : Nat} (zhb : b < 256) : sgn b = true ↔ (nI b = nI 40 ∨ nI b = nI 41 ∨ nI b = nI 59 ∨ nI b = nI 43 ∨ nI b = nI 45 ∨ nI b = nI 42 ∨ nI b = nI 60 ∨ nI b = nI 61) := by
  have q : ∀ k, k < 256 → (nI b = nI k ↔ b = k) := fun k hk => nI_eq (by omega) (by omega)
  rw [q 40 (by decide), q 41 (by decide), q 59 (by decide), q 43 (by decide), q 45 (by decide), q 42 (by decide), q 60 (by decide), q 61 (by decide)]
  unfold sgn
  simp only [Bool.or_eq_true, decide_eq_true_iff]
  omega
/-- from the token's first byte on -/
theorem m_tok (hg : XG sh R) (hT : MT I fr tp n) {p0 : Nat} (hp0 : p0 ≤ n) {J : XI} (hF : FNx I J) (h24 : J 61 24 = nI (sta tp n p0)) : XV E mX7_next (d + 1) 0 0 (QNx tp n p0 sh I R L) 0 0 39 [some (.ref 61), none, none] [] sh J R L := by
  have hn := hT.2.2.1
  have hTJ := hT.mv hF.fpa
  have hsn := sta_le (tp := tp) hp0
  have hF1 : FNx I (xi (xi J 61 26 (nI (sta tp n p0))) 61 25 (nI 4)) := (hF.xi (by decide) (by decide)).xi (by decide) (by decide)
  refine xv_aload_n (q := 40) rfl dX7_next_39 rfl rfl ?_
  refine xv_aload_n (q := 41) rfl dX7_next_40 rfl rfl ?_
  refine xv_geti (q := 44) rfl dX7_next_41 f_X7_139 (hg.1 _ _ rfl) ?_
  rw [h24]
  refine xv_puti (q := 47) rfl dX7_next_44 f_X7_146 (fun h => by cases h) (hg.1 _ _ rfl) ?_
  refine xv_aload_n (q := 48) rfl dX7_next_47 rfl rfl ?_
  refine xv_aload_n (q := 49) rfl dX7_next_48 rfl rfl ?_
  refine xv_geti (q := 52) rfl dX7_next_49 f_X7_139 (hg.1 _ _ rfl) ?_
  rw [xi_ne _ _ _ _ (by decide), h24]
  refine xv_cV1 (z := mX7_byteAt) (q := 55) rfl dX7_next_52 l_X7_142 gX7_byteAt (hg.1 _ _ rfl) rfl rfl rfl (m_byte (d := d) hg (hT.mv (hF.xi (j := 26) (x := nI (sta tp n p0)) (by decide) (by decide)).fpa) (show sta tp n p0 < 1000 by omega)) (by omega) ?_
  refine xv_istore_n (q := 56) rfl dX7_next_55 rfl rfl ?_
  refine xv_aload_n (q := 57) rfl dX7_next_56 rfl rfl ?_
  refine xv_iconst (v := nI 4) (q := 58) rfl dX7_next_57 rfl ?_
  refine xv_puti (q := 61) rfl dX7_next_58 f_X7_149 (fun h => by cases h) (hg.1 _ _ rfl) ?_
  refine xv_iload_n (q := 62) rfl dX7_next_61 rfl rfl ?_
  refine xv_if_ge (q := 65) (t := 81) rfl rfl dX7_next_62 (fun h62 => ?_) (fun h62 => ?_)
  · have zhs : sta tp n p0 < n := by
      by_cases h : sta tp n p0 < n
      · exact h
      · rw [show btm tp n (sta tp n p0) = -1 from if_neg h] at h62; exact absurd h62 (by decide)
    have hbt : btm tp n (sta tp n p0) = nI (tp (sta tp n p0)) := if_pos zhs
    have hb256 := (hT.2.2.2.2 _ zhs).2
    refine xv_iload_n (q := 82) rfl dX7_next_81 rfl rfl ?_
    refine xv_i2l (q := 83) rfl dX7_next_82 ?_
    refine xv_ldc2 (q := 86) rfl dX7_next_83 k_X7_152 ?_
    refine xv_ldc2 (q := 89) rfl dX7_next_86 k_X7_154 ?_
    refine xv_cS3 (z := mX7_in) (q := 92) rfl dX7_next_89 l_X7_91 gX7_in rfl (m_in (d := d) _ _ _) (by omega) ?_
    rw [btm_ltr hTJ, decide_eq_true zhs, Bool.true_and]
    refine xv_if_eq (q := 95) (t := 134) rfl rfl dX7_next_92 (fun h92 => ?_) (fun h92 => ?_)
    · have hl : ¬ ltr tp (sta tp n p0) = true := by rw [bIz h92]; decide
      refine xv_iload_n (q := 135) rfl dX7_next_134 rfl rfl ?_
      refine xv_i2l (q := 136) rfl dX7_next_135 ?_
      refine xv_ldc2 (q := 139) rfl dX7_next_136 k_X7_156 ?_
      refine xv_ldc2 (q := 142) rfl dX7_next_139 k_X7_158 ?_
      refine xv_cS3 (z := mX7_in) (q := 145) rfl dX7_next_142 l_X7_91 gX7_in rfl (m_in (d := d) _ _ _) (by omega) ?_
      rw [btm_dgt hTJ, decide_eq_true zhs, Bool.true_and]
      refine xv_if_eq (q := 148) (t := 252) rfl rfl dX7_next_145 (fun h145 => ?_) (fun h145 => ?_)
      · have hdg : ¬ dgt tp (sta tp n p0) = true := by rw [bIz h145]; decide
        rw [hbt]
        refine xv_iload_n (q := 253) rfl dX7_next_252 rfl rfl ?_
        refine xv_bipush (v := nI 40) (q := 255) rfl dX7_next_253 rfl ?_
        refine xv_icmp_eq (q := 258) (t := 300) rfl rfl dX7_next_255 (fun h255 => ?_) (fun h255 => ?_)
        · have hsg : sgn (tp (sta tp n p0)) = true := (sgn_of hb256).mpr (by rw [h255]; decide)
          refine xv_aload_n (q := 301) rfl dX7_next_300 rfl rfl ?_
          refine xv_iconst (v := nI 3) (q := 302) rfl dX7_next_301 rfl ?_
          refine xv_puti (q := 305) rfl dX7_next_302 f_X7_149 (fun h => by cases h) (hg.1 _ _ rfl) ?_
          refine xv_aload_n (q := 306) rfl dX7_next_305 rfl rfl ?_
          refine xv_iload_n (q := 307) rfl dX7_next_306 rfl rfl ?_
          refine xv_i2l (q := 308) rfl dX7_next_307 ?_
          refine xv_asl (w := lN (tp (sta tp n p0))) (nI_l (by omega)) ?_
          refine xv_putl (q := 311) rfl dX7_next_308 f_X7_160 (fun h => by cases h) (hg.1 _ _ rfl) ?_
          refine xv_aload_n (q := 312) rfl dX7_next_311 rfl rfl ?_
          refine xv_dup (q := 313) rfl dX7_next_312 rfl ?_
          refine xv_geti (q := 316) rfl dX7_next_313 f_X7_139 (hg.1 _ _ rfl) ?_
          rw [xi_ne _ _ _ _ (by decide), xi_ne _ _ _ _ (by decide), xi_ne _ _ _ _ (by decide), h24]
          refine xv_iconst (v := nI 1) (q := 317) rfl dX7_next_316 rfl ?_
          refine xv_iadd (q := 318) rfl dX7_next_317 ?_
          refine xv_as (w := nI (sta tp n p0 + 1)) (nI_add _ _) ?_
          refine xv_puti (q := 321) rfl dX7_next_318 f_X7_139 (fun h => by cases h) (hg.1 _ _ rfl) ?_
          refine xv_vret dX7_next_321 rfl ?_
          have zh0 : tkm tp n p0 = 3 := by unfold tkm; rw [if_neg (by omega), if_neg hl, if_neg hdg, if_pos hsg]
          have hF2 := (hF1.xi (j := 25) (x := nI 3) (by decide) (by decide)).xi (j := 24) (x := nI (sta tp n p0 + 1)) (by decide) (by decide)
          refine ⟨rfl, rfl, rfl, ⟨?_, fun _ => ?_, ?_, (fun z => by rw [zh0] at z; cases z), fun _ => by rw [xg_row]; simp [vp_updL]⟩, hF2.1, hF2.2, .xg .rf⟩
          · rw [xi_ne _ _ _ _ (by decide), xi_ne _ _ _ _ (by decide), xi_ne _ _ _ _ (by decide), xi_eq]
          · rw [xi_eq]; unfold nxt; rw [if_neg (by omega), if_neg hl, if_neg hdg]
          · rw [xi_ne _ _ _ _ (by decide), xi_eq, zh0]
        · refine xv_iload_n (q := 259) rfl dX7_next_258 rfl rfl ?_
          refine xv_bipush (v := nI 41) (q := 261) rfl dX7_next_259 rfl ?_
          refine xv_icmp_eq (q := 264) (t := 300) rfl rfl dX7_next_261 (fun h261 => ?_) (fun h261 => ?_)
          · have hsg : sgn (tp (sta tp n p0)) = true := (sgn_of hb256).mpr (by rw [h261]; decide)
            refine xv_aload_n (q := 301) rfl dX7_next_300 rfl rfl ?_
            refine xv_iconst (v := nI 3) (q := 302) rfl dX7_next_301 rfl ?_
            refine xv_puti (q := 305) rfl dX7_next_302 f_X7_149 (fun h => by cases h) (hg.1 _ _ rfl) ?_
            refine xv_aload_n (q := 306) rfl dX7_next_305 rfl rfl ?_
            refine xv_iload_n (q := 307) rfl dX7_next_306 rfl rfl ?_
            refine xv_i2l (q := 308) rfl dX7_next_307 ?_
            refine xv_asl (w := lN (tp (sta tp n p0))) (nI_l (by omega)) ?_
            refine xv_putl (q := 311) rfl dX7_next_308 f_X7_160 (fun h => by cases h) (hg.1 _ _ rfl) ?_
            refine xv_aload_n (q := 312) rfl dX7_next_311 rfl rfl ?_
            refine xv_dup (q := 313) rfl dX7_next_312 rfl ?_
            refine xv_geti (q := 316) rfl dX7_next_313 f_X7_139 (hg.1 _ _ rfl) ?_
            rw [xi_ne _ _ _ _ (by decide), xi_ne _ _ _ _ (by decide), xi_ne _ _ _ _ (by decide), h24]
            refine xv_iconst (v := nI 1) (q := 317) rfl dX7_next_316 rfl ?_
            refine xv_iadd (q := 318) rfl dX7_next_317 ?_
            refine xv_as (w := nI (sta tp n p0 + 1)) (nI_add _ _) ?_
            refine xv_puti (q := 321) rfl dX7_next_318 f_X7_139 (fun h => by cases h) (hg.1 _ _ rfl) ?_
            refine xv_vret dX7_next_321 rfl ?_
            have zh0 : tkm tp n p0 = 3 := by unfold tkm; rw [if_neg (by omega), if_neg hl, if_neg hdg, if_pos hsg]
            have hF2 := (hF1.xi (j := 25) (x := nI 3) (by decide) (by decide)).xi (j := 24) (x := nI (sta tp n p0 + 1)) (by decide) (by decide)
            refine ⟨rfl, rfl, rfl, ⟨?_, fun _ => ?_, ?_, (fun z => by rw [zh0] at z; cases z), fun _ => by rw [xg_row]; simp [vp_updL]⟩, hF2.1, hF2.2, .xg .rf⟩
            · rw [xi_ne _ _ _ _ (by decide), xi_ne _ _ _ _ (by decide), xi_ne _ _ _ _ (by decide), xi_eq]
            · rw [xi_eq]; unfold nxt; rw [if_neg (by omega), if_neg hl, if_neg hdg]
            · rw [xi_ne _ _ _ _ (by decide), xi_eq, zh0]
          · refine xv_iload_n (q := 265) rfl dX7_next_264 rfl rfl ?_
            refine xv_bipush (v := nI 59) (q := 267) rfl dX7_next_265 rfl ?_
            refine xv_icmp_eq (q := 270) (t := 300) rfl rfl dX7_next_267 (fun h267 => ?_) (fun h267 => ?_)
            · have hsg : sgn (tp (sta tp n p0)) = true := (sgn_of hb256).mpr (by rw [h267]; decide)
              refine xv_aload_n (q := 301) rfl dX7_next_300 rfl rfl ?_
              refine xv_iconst (v := nI 3) (q := 302) rfl dX7_next_301 rfl ?_
              refine xv_puti (q := 305) rfl dX7_next_302 f_X7_149 (fun h => by cases h) (hg.1 _ _ rfl) ?_
              refine xv_aload_n (q := 306) rfl dX7_next_305 rfl rfl ?_
              refine xv_iload_n (q := 307) rfl dX7_next_306 rfl rfl ?_
              refine xv_i2l (q := 308) rfl dX7_next_307 ?_
              refine xv_asl (w := lN (tp (sta tp n p0))) (nI_l (by omega)) ?_
              refine xv_putl (q := 311) rfl dX7_next_308 f_X7_160 (fun h => by cases h) (hg.1 _ _ rfl) ?_
              refine xv_aload_n (q := 312) rfl dX7_next_311 rfl rfl ?_
              refine xv_dup (q := 313) rfl dX7_next_312 rfl ?_
              refine xv_geti (q := 316) rfl dX7_next_313 f_X7_139 (hg.1 _ _ rfl) ?_
              rw [xi_ne _ _ _ _ (by decide), xi_ne _ _ _ _ (by decide), xi_ne _ _ _ _ (by decide), h24]
              refine xv_iconst (v := nI 1) (q := 317) rfl dX7_next_316 rfl ?_
              refine xv_iadd (q := 318) rfl dX7_next_317 ?_
              refine xv_as (w := nI (sta tp n p0 + 1)) (nI_add _ _) ?_
              refine xv_puti (q := 321) rfl dX7_next_318 f_X7_139 (fun h => by cases h) (hg.1 _ _ rfl) ?_
              refine xv_vret dX7_next_321 rfl ?_
              have zh0 : tkm tp n p0 = 3 := by unfold tkm; rw [if_neg (by omega), if_neg hl, if_neg hdg, if_pos hsg]
              have hF2 := (hF1.xi (j := 25) (x := nI 3) (by decide) (by decide)).xi (j := 24) (x := nI (sta tp n p0 + 1)) (by decide) (by decide)
              refine ⟨rfl, rfl, rfl, ⟨?_, fun _ => ?_, ?_, (fun z => by rw [zh0] at z; cases z), fun _ => by rw [xg_row]; simp [vp_updL]⟩, hF2.1, hF2.2, .xg .rf⟩
              · rw [xi_ne _ _ _ _ (by decide), xi_ne _ _ _ _ (by decide), xi_ne _ _ _ _ (by decide), xi_eq]
              · rw [xi_eq]; unfold nxt; rw [if_neg (by omega), if_neg hl, if_neg hdg]
              · rw [xi_ne _ _ _ _ (by decide), xi_eq, zh0]
            · refine xv_iload_n (q := 271) rfl dX7_next_270 rfl rfl ?_
              refine xv_bipush (v := nI 43) (q := 273) rfl dX7_next_271 rfl ?_
              refine xv_icmp_eq (q := 276) (t := 300) rfl rfl dX7_next_273 (fun h273 => ?_) (fun h273 => ?_)
              · have hsg : sgn (tp (sta tp n p0)) = true := (sgn_of hb256).mpr (by rw [h273]; decide)
                refine xv_aload_n (q := 301) rfl dX7_next_300 rfl rfl ?_
                refine xv_iconst (v := nI 3) (q := 302) rfl dX7_next_301 rfl ?_
                refine xv_puti (q := 305) rfl dX7_next_302 f_X7_149 (fun h => by cases h) (hg.1 _ _ rfl) ?_
                refine xv_aload_n (q := 306) rfl dX7_next_305 rfl rfl ?_
                refine xv_iload_n (q := 307) rfl dX7_next_306 rfl rfl ?_
                refine xv_i2l (q := 308) rfl dX7_next_307 ?_
                refine xv_asl (w := lN (tp (sta tp n p0))) (nI_l (by omega)) ?_
                refine xv_putl (q := 311) rfl dX7_next_308 f_X7_160 (fun h => by cases h) (hg.1 _ _ rfl) ?_
                refine xv_aload_n (q := 312) rfl dX7_next_311 rfl rfl ?_
                refine xv_dup (q := 313) rfl dX7_next_312 rfl ?_
                refine xv_geti (q := 316) rfl dX7_next_313 f_X7_139 (hg.1 _ _ rfl) ?_
                rw [xi_ne _ _ _ _ (by decide), xi_ne _ _ _ _ (by decide), xi_ne _ _ _ _ (by decide), h24]
                refine xv_iconst (v := nI 1) (q := 317) rfl dX7_next_316 rfl ?_
                refine xv_iadd (q := 318) rfl dX7_next_317 ?_
                refine xv_as (w := nI (sta tp n p0 + 1)) (nI_add _ _) ?_
                refine xv_puti (q := 321) rfl dX7_next_318 f_X7_139 (fun h => by cases h) (hg.1 _ _ rfl) ?_
                refine xv_vret dX7_next_321 rfl ?_
                have zh0 : tkm tp n p0 = 3 := by unfold tkm; rw [if_neg (by omega), if_neg hl, if_neg hdg, if_pos hsg]
                have hF2 := (hF1.xi (j := 25) (x := nI 3) (by decide) (by decide)).xi (j := 24) (x := nI (sta tp n p0 + 1)) (by decide) (by decide)
                refine ⟨rfl, rfl, rfl, ⟨?_, fun _ => ?_, ?_, (fun z => by rw [zh0] at z; cases z), fun _ => by rw [xg_row]; simp [vp_updL]⟩, hF2.1, hF2.2, .xg .rf⟩
                · rw [xi_ne _ _ _ _ (by decide), xi_ne _ _ _ _ (by decide), xi_ne _ _ _ _ (by decide), xi_eq]
                · rw [xi_eq]; unfold nxt; rw [if_neg (by omega), if_neg hl, if_neg hdg]
                · rw [xi_ne _ _ _ _ (by decide), xi_eq, zh0]
              · refine xv_iload_n (q := 277) rfl dX7_next_276 rfl rfl ?_
                refine xv_bipush (v := nI 45) (q := 279) rfl dX7_next_277 rfl ?_
                refine xv_icmp_eq (q := 282) (t := 300) rfl rfl dX7_next_279 (fun h279 => ?_) (fun h279 => ?_)
                · have hsg : sgn (tp (sta tp n p0)) = true := (sgn_of hb256).mpr (by rw [h279]; decide)
                  refine xv_aload_n (q := 301) rfl dX7_next_300 rfl rfl ?_
                  refine xv_iconst (v := nI 3) (q := 302) rfl dX7_next_301 rfl ?_
                  refine xv_puti (q := 305) rfl dX7_next_302 f_X7_149 (fun h => by cases h) (hg.1 _ _ rfl) ?_
                  refine xv_aload_n (q := 306) rfl dX7_next_305 rfl rfl ?_
                  refine xv_iload_n (q := 307) rfl dX7_next_306 rfl rfl ?_
                  refine xv_i2l (q := 308) rfl dX7_next_307 ?_
                  refine xv_asl (w := lN (tp (sta tp n p0))) (nI_l (by omega)) ?_
                  refine xv_putl (q := 311) rfl dX7_next_308 f_X7_160 (fun h => by cases h) (hg.1 _ _ rfl) ?_
                  refine xv_aload_n (q := 312) rfl dX7_next_311 rfl rfl ?_
                  refine xv_dup (q := 313) rfl dX7_next_312 rfl ?_
                  refine xv_geti (q := 316) rfl dX7_next_313 f_X7_139 (hg.1 _ _ rfl) ?_
                  rw [xi_ne _ _ _ _ (by decide), xi_ne _ _ _ _ (by decide), xi_ne _ _ _ _ (by decide), h24]
                  refine xv_iconst (v := nI 1) (q := 317) rfl dX7_next_316 rfl ?_
                  refine xv_iadd (q := 318) rfl dX7_next_317 ?_
                  refine xv_as (w := nI (sta tp n p0 + 1)) (nI_add _ _) ?_
                  refine xv_puti (q := 321) rfl dX7_next_318 f_X7_139 (fun h => by cases h) (hg.1 _ _ rfl) ?_
                  refine xv_vret dX7_next_321 rfl ?_
                  have zh0 : tkm tp n p0 = 3 := by unfold tkm; rw [if_neg (by omega), if_neg hl, if_neg hdg, if_pos hsg]
                  have hF2 := (hF1.xi (j := 25) (x := nI 3) (by decide) (by decide)).xi (j := 24) (x := nI (sta tp n p0 + 1)) (by decide) (by decide)
                  refine ⟨rfl, rfl, rfl, ⟨?_, fun _ => ?_, ?_, (fun z => by rw [zh0] at z; cases z), fun _ => by rw [xg_row]; simp [vp_updL]⟩, hF2.1, hF2.2, .xg .rf⟩
                  · rw [xi_ne _ _ _ _ (by decide), xi_ne _ _ _ _ (by decide), xi_ne _ _ _ _ (by decide), xi_eq]
                  · rw [xi_eq]; unfold nxt; rw [if_neg (by omega), if_neg hl, if_neg hdg]
                  · rw [xi_ne _ _ _ _ (by decide), xi_eq, zh0]
                · refine xv_iload_n (q := 283) rfl dX7_next_282 rfl rfl ?_
                  refine xv_bipush (v := nI 42) (q := 285) rfl dX7_next_283 rfl ?_
                  refine xv_icmp_eq (q := 288) (t := 300) rfl rfl dX7_next_285 (fun h285 => ?_) (fun h285 => ?_)
                  · have hsg : sgn (tp (sta tp n p0)) = true := (sgn_of hb256).mpr (by rw [h285]; decide)
                    refine xv_aload_n (q := 301) rfl dX7_next_300 rfl rfl ?_
                    refine xv_iconst (v := nI 3) (q := 302) rfl dX7_next_301 rfl ?_
                    refine xv_puti (q := 305) rfl dX7_next_302 f_X7_149 (fun h => by cases h) (hg.1 _ _ rfl) ?_
                    refine xv_aload_n (q := 306) rfl dX7_next_305 rfl rfl ?_
                    refine xv_iload_n (q := 307) rfl dX7_next_306 rfl rfl ?_
                    refine xv_i2l (q := 308) rfl dX7_next_307 ?_
                    refine xv_asl (w := lN (tp (sta tp n p0))) (nI_l (by omega)) ?_
                    refine xv_putl (q := 311) rfl dX7_next_308 f_X7_160 (fun h => by cases h) (hg.1 _ _ rfl) ?_
                    refine xv_aload_n (q := 312) rfl dX7_next_311 rfl rfl ?_
                    refine xv_dup (q := 313) rfl dX7_next_312 rfl ?_
                    refine xv_geti (q := 316) rfl dX7_next_313 f_X7_139 (hg.1 _ _ rfl) ?_
                    rw [xi_ne _ _ _ _ (by decide), xi_ne _ _ _ _ (by decide), xi_ne _ _ _ _ (by decide), h24]
                    refine xv_iconst (v := nI 1) (q := 317) rfl dX7_next_316 rfl ?_
                    refine xv_iadd (q := 318) rfl dX7_next_317 ?_
                    refine xv_as (w := nI (sta tp n p0 + 1)) (nI_add _ _) ?_
                    refine xv_puti (q := 321) rfl dX7_next_318 f_X7_139 (fun h => by cases h) (hg.1 _ _ rfl) ?_
                    refine xv_vret dX7_next_321 rfl ?_
                    have zh0 : tkm tp n p0 = 3 := by unfold tkm; rw [if_neg (by omega), if_neg hl, if_neg hdg, if_pos hsg]
                    have hF2 := (hF1.xi (j := 25) (x := nI 3) (by decide) (by decide)).xi (j := 24) (x := nI (sta tp n p0 + 1)) (by decide) (by decide)
                    refine ⟨rfl, rfl, rfl, ⟨?_, fun _ => ?_, ?_, (fun z => by rw [zh0] at z; cases z), fun _ => by rw [xg_row]; simp [vp_updL]⟩, hF2.1, hF2.2, .xg .rf⟩
                    · rw [xi_ne _ _ _ _ (by decide), xi_ne _ _ _ _ (by decide), xi_ne _ _ _ _ (by decide), xi_eq]
                    · rw [xi_eq]; unfold nxt; rw [if_neg (by omega), if_neg hl, if_neg hdg]
                    · rw [xi_ne _ _ _ _ (by decide), xi_eq, zh0]
                  · refine xv_iload_n (q := 289) rfl dX7_next_288 rfl rfl ?_
                    refine xv_bipush (v := nI 60) (q := 291) rfl dX7_next_289 rfl ?_
                    refine xv_icmp_eq (q := 294) (t := 300) rfl rfl dX7_next_291 (fun h291 => ?_) (fun h291 => ?_)
                    · have hsg : sgn (tp (sta tp n p0)) = true := (sgn_of hb256).mpr (by rw [h291]; decide)
                      refine xv_aload_n (q := 301) rfl dX7_next_300 rfl rfl ?_
                      refine xv_iconst (v := nI 3) (q := 302) rfl dX7_next_301 rfl ?_
                      refine xv_puti (q := 305) rfl dX7_next_302 f_X7_149 (fun h => by cases h) (hg.1 _ _ rfl) ?_
                      refine xv_aload_n (q := 306) rfl dX7_next_305 rfl rfl ?_
                      refine xv_iload_n (q := 307) rfl dX7_next_306 rfl rfl ?_
                      refine xv_i2l (q := 308) rfl dX7_next_307 ?_
                      refine xv_asl (w := lN (tp (sta tp n p0))) (nI_l (by omega)) ?_
                      refine xv_putl (q := 311) rfl dX7_next_308 f_X7_160 (fun h => by cases h) (hg.1 _ _ rfl) ?_
                      refine xv_aload_n (q := 312) rfl dX7_next_311 rfl rfl ?_
                      refine xv_dup (q := 313) rfl dX7_next_312 rfl ?_
                      refine xv_geti (q := 316) rfl dX7_next_313 f_X7_139 (hg.1 _ _ rfl) ?_
                      rw [xi_ne _ _ _ _ (by decide), xi_ne _ _ _ _ (by decide), xi_ne _ _ _ _ (by decide), h24]
                      refine xv_iconst (v := nI 1) (q := 317) rfl dX7_next_316 rfl ?_
                      refine xv_iadd (q := 318) rfl dX7_next_317 ?_
                      refine xv_as (w := nI (sta tp n p0 + 1)) (nI_add _ _) ?_
                      refine xv_puti (q := 321) rfl dX7_next_318 f_X7_139 (fun h => by cases h) (hg.1 _ _ rfl) ?_
                      refine xv_vret dX7_next_321 rfl ?_
                      have zh0 : tkm tp n p0 = 3 := by unfold tkm; rw [if_neg (by omega), if_neg hl, if_neg hdg, if_pos hsg]
                      have hF2 := (hF1.xi (j := 25) (x := nI 3) (by decide) (by decide)).xi (j := 24) (x := nI (sta tp n p0 + 1)) (by decide) (by decide)
                      refine ⟨rfl, rfl, rfl, ⟨?_, fun _ => ?_, ?_, (fun z => by rw [zh0] at z; cases z), fun _ => by rw [xg_row]; simp [vp_updL]⟩, hF2.1, hF2.2, .xg .rf⟩
                      · rw [xi_ne _ _ _ _ (by decide), xi_ne _ _ _ _ (by decide), xi_ne _ _ _ _ (by decide), xi_eq]
                      · rw [xi_eq]; unfold nxt; rw [if_neg (by omega), if_neg hl, if_neg hdg]
                      · rw [xi_ne _ _ _ _ (by decide), xi_eq, zh0]
                    · refine xv_iload_n (q := 295) rfl dX7_next_294 rfl rfl ?_
                      refine xv_bipush (v := nI 61) (q := 297) rfl dX7_next_295 rfl ?_
                      refine xv_icmp_ne (q := 300) (t := 321) rfl rfl dX7_next_297 (fun h297 => ?_) (fun h297 => ?_)
                      · have hsg : ¬ sgn (tp (sta tp n p0)) = true := fun z => by
                          rcases (sgn_of hb256).mp z with q | q | q | q | q | q | q | q
                          · exact h255 q
                          · exact h261 q
                          · exact h267 q
                          · exact h273 q
                          · exact h279 q
                          · exact h285 q
                          · exact h291 q
                          · exact h297 q
                        have zh0 : tkm tp n p0 = 4 := by unfold tkm; rw [if_neg (by omega), if_neg hl, if_neg hdg, if_neg hsg]
                        refine xv_vret dX7_next_321 rfl ?_
                        exact ⟨rfl, rfl, rfl, ⟨by rw [xi_ne _ _ _ _ (by decide), xi_eq], fun z => absurd zh0 z, by rw [xi_eq, zh0], (fun z => by rw [zh0] at z; cases z), (fun z => by rw [zh0] at z; cases z)⟩, hF1.1, hF1.2, .rf⟩
                      · have hsg : sgn (tp (sta tp n p0)) = true := (sgn_of hb256).mpr (by rw [h297]; decide)
                        refine xv_aload_n (q := 301) rfl dX7_next_300 rfl rfl ?_
                        refine xv_iconst (v := nI 3) (q := 302) rfl dX7_next_301 rfl ?_
                        refine xv_puti (q := 305) rfl dX7_next_302 f_X7_149 (fun h => by cases h) (hg.1 _ _ rfl) ?_
                        refine xv_aload_n (q := 306) rfl dX7_next_305 rfl rfl ?_
                        refine xv_iload_n (q := 307) rfl dX7_next_306 rfl rfl ?_
                        refine xv_i2l (q := 308) rfl dX7_next_307 ?_
                        refine xv_asl (w := lN (tp (sta tp n p0))) (nI_l (by omega)) ?_
                        refine xv_putl (q := 311) rfl dX7_next_308 f_X7_160 (fun h => by cases h) (hg.1 _ _ rfl) ?_
                        refine xv_aload_n (q := 312) rfl dX7_next_311 rfl rfl ?_
                        refine xv_dup (q := 313) rfl dX7_next_312 rfl ?_
                        refine xv_geti (q := 316) rfl dX7_next_313 f_X7_139 (hg.1 _ _ rfl) ?_
                        rw [xi_ne _ _ _ _ (by decide), xi_ne _ _ _ _ (by decide), xi_ne _ _ _ _ (by decide), h24]
                        refine xv_iconst (v := nI 1) (q := 317) rfl dX7_next_316 rfl ?_
                        refine xv_iadd (q := 318) rfl dX7_next_317 ?_
                        refine xv_as (w := nI (sta tp n p0 + 1)) (nI_add _ _) ?_
                        refine xv_puti (q := 321) rfl dX7_next_318 f_X7_139 (fun h => by cases h) (hg.1 _ _ rfl) ?_
                        refine xv_vret dX7_next_321 rfl ?_
                        have zh0 : tkm tp n p0 = 3 := by unfold tkm; rw [if_neg (by omega), if_neg hl, if_neg hdg, if_pos hsg]
                        have hF2 := (hF1.xi (j := 25) (x := nI 3) (by decide) (by decide)).xi (j := 24) (x := nI (sta tp n p0 + 1)) (by decide) (by decide)
                        refine ⟨rfl, rfl, rfl, ⟨?_, fun _ => ?_, ?_, (fun z => by rw [zh0] at z; cases z), fun _ => by rw [xg_row]; simp [vp_updL]⟩, hF2.1, hF2.2, .xg .rf⟩
                        · rw [xi_ne _ _ _ _ (by decide), xi_ne _ _ _ _ (by decide), xi_ne _ _ _ _ (by decide), xi_eq]
                        · rw [xi_eq]; unfold nxt; rw [if_neg (by omega), if_neg hl, if_neg hdg]
                        · rw [xi_ne _ _ _ _ (by decide), xi_eq, zh0]
      · have hdg := bIn h145
        refine xv_aload_n (q := 149) rfl dX7_next_148 rfl rfl ?_
        refine xv_iconst (v := nI 2) (q := 150) rfl dX7_next_149 rfl ?_
        refine xv_puti (q := 153) rfl dX7_next_150 f_X7_149 (fun h => by cases h) (hg.1 _ _ rfl) ?_
        refine xv_aload_n (q := 154) rfl dX7_next_153 rfl rfl ?_
        refine xv_lconst (v := lN 0) (q := 155) rfl dX7_next_154 rfl ?_
        refine xv_putl (q := 158) rfl dX7_next_155 f_X7_160 (fun h => by cases h) (hg.1 _ _ rfl) ?_
        refine xv_iconst (v := nI 0) (q := 159) rfl dX7_next_158 rfl ?_
        refine xv_istore_n (q := 160) rfl dX7_next_159 rfl rfl ?_
        have zhz := m_dig_loop (E := E) (d := d) (l1 := btm tp n (sta tp n p0)) hg hT zhs hl hdg (n + 1) (sta tp n p0) _ (xg L 61 27 (lN 0)) (Nat.le_refl _) hsn (by omega) (hF1.xi (j := 25) (x := nI 2) (by decide) (by decide)) (.xg .rf) (by rw [xi_ne _ _ _ _ (by decide), xi_ne _ _ _ _ (by decide), xi_eq]) (by rw [xi_ne _ _ _ _ (by decide), xi_ne _ _ _ _ (by decide), xi_ne _ _ _ _ (by decide)]; exact h24) rfl (fun _ => by rw [Nat.sub_self, xg_row]; simp [vp_updL, dgv]) (fun i hi => absurd hi (by omega))
        rw [Nat.sub_self] at zhz
        exact zhz
    · have hl := bIn h92
      refine xv_aload_n (q := 96) rfl dX7_next_95 rfl rfl ?_
      refine xv_iconst (v := nI 1) (q := 97) rfl dX7_next_96 rfl ?_
      refine xv_puti (q := 100) rfl dX7_next_97 f_X7_149 (fun h => by cases h) (hg.1 _ _ rfl) ?_
      exact m_wrd_loop hg hT zhs hl (n + 1) (sta tp n p0) _ hsn (by omega) (hF1.xi (by decide) (by decide)) (by rw [xi_ne _ _ _ _ (by decide), xi_ne _ _ _ _ (by decide), xi_eq]) (xi_eq _ _ _ _) (by rw [xi_ne _ _ _ _ (by decide), xi_ne _ _ _ _ (by decide), xi_ne _ _ _ _ (by decide)]; exact h24) rfl
  · have zhs : n ≤ sta tp n p0 := by
      by_cases h : sta tp n p0 < n
      · rw [show btm tp n (sta tp n p0) = nI (tp (sta tp n p0)) from if_pos h] at h62; exact absurd (nI_pos' (by have := (hT.2.2.2.2 _ h).2; omega)) h62
      · omega
    refine xv_aload_n (q := 66) rfl dX7_next_65 rfl rfl ?_
    refine xv_iconst (v := nI 0) (q := 67) rfl dX7_next_66 rfl ?_
    refine xv_puti (q := 70) rfl dX7_next_67 f_X7_149 (fun h => by cases h) (hg.1 _ _ rfl) ?_
    refine xv_aload_n (q := 71) rfl dX7_next_70 rfl rfl ?_
    refine xv_aload_n (q := 72) rfl dX7_next_71 rfl rfl ?_
    refine xv_geti (q := 75) rfl dX7_next_72 f_X7_133 (hg.1 _ _ rfl) ?_
    rw [xi_ne _ _ _ _ (by decide), xi_ne _ _ _ _ (by decide), xi_ne _ _ _ _ (by decide), hTJ.2.1]
    refine xv_puti (q := 78) rfl dX7_next_75 f_X7_146 (fun h => by cases h) (hg.1 _ _ rfl) ?_
    refine xv_goto (t := 321) rfl dX7_next_78 ?_
    refine xv_vret dX7_next_321 rfl ?_
    have zh0 : tkm tp n p0 = 0 := by unfold tkm; rw [if_pos zhs]
    have hF2 := (hF1.xi (j := 25) (x := nI 0) (by decide) (by decide)).xi (j := 26) (x := nI n) (by decide) (by decide)
    refine ⟨rfl, rfl, rfl, ⟨?_, fun _ => ?_, ?_, (fun z => by rw [zh0] at z; cases z), (fun z => by rw [zh0] at z; cases z)⟩, hF2.1, hF2.2, .rf⟩
    · rw [xi_eq, show sta tp n p0 = n by omega]
    · rw [xi_ne _ _ _ _ (by decide), xi_ne _ _ _ _ (by decide), xi_ne _ _ _ _ (by decide), xi_ne _ _ _ _ (by decide), h24]
      unfold nxt; rw [if_pos zhs]
    · rw [xi_ne _ _ _ _ (by decide), xi_eq, zh0]
end MLEX

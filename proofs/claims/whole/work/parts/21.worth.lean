/-! Text.worth: a text's code, run on a stack -/
def wop (nm : Nat → Int32) (c a b : Int32) : Int32 :=
  if c = -7 then bI (!decide (a = 0) || !decide (b = 0))
  else if c = -8 then bI (!decide (a = 0) && !decide (b = 0))
  else if c = -9 then bI (decide (a < b))
  else if c = -10 then bI (decide (a = b))
  else if c = -11 then a + b
  else if c = -12 then a - b
  else if c = -13 then a * b
  else if c = -14 then bI (decide (a = 0))
  else if c = -15 then -a
  else if c < 0 then nm (-1 - c).toNatClampNeg
  else c
abbrev WS : Type := Nat × (Nat → Int32)
def wlen (c : Int32) (n : Nat) : Nat := if ¬ c ≤ -7 then n + 1 else if ¬ c ≤ -14 then n - 1 else n
def wst (nm : Nat → Int32) (c : Int32) (p : WS) : Option WS :=
  if wlen c p.1 = 0 ∨ 32 ≤ wlen c p.1 then none else some (wlen c p.1, upd p.2 (wlen c p.1 - 1) (wop nm c (p.2 (wlen c p.1 - 1)) (p.2 (wlen c p.1))))
def wrun (nm : Nat → Int32) (cd : Nat → Int32) : Nat → Nat → WS → Option WS
  | 0, _, p => some p
  | k + 1, i, p => (wst nm (cd i) p).bind (wrun nm cd k (i + 1))
/-- a Text at t: its code (N numbers) at ca, its ends at ea -/
def XTx (sh : XSh) (R : XRf) (t ca ea N : Nat) : Prop := sh[t]? = some (4, 2) ∧ R t 0 = some ca ∧ R t 1 = some ea ∧ sh[ca]? = some (8, N) ∧ sh[ea]? = some (8, 3) ∧ N ≤ 160 ∧ ca ≠ 39 ∧ ea ≠ 39
theorem nI_dec (n : Nat) : nI n - nI 1 + nI 1 = nI (n + 1) - nI 1 := by
  rw [show nI (n + 1) = nI n + nI 1 from (nI_add n 1).symm, Int32.sub_add_cancel, Int32.add_sub_cancel]
theorem nI_dec2 (n : Nat) : nI (n + 1) - nI 1 + -1 = nI n - nI 1 := by
  rw [show nI (n + 1) = nI n + nI 1 from (nI_add n 1).symm, Int32.add_sub_cancel, Int32.sub_eq_add_neg]; rfl
theorem nI_dec1 (n : Nat) : nI (n + 1) - nI 1 = nI n := nI_pred n
theorem op15 {c : Int32} (h1 : ¬ c < -15) (h2 : c ≤ -7) : c = -15 ∨ c = -14 ∨ c = -13 ∨ c = -12 ∨ c = -11 ∨ c = -10 ∨ c = -9 ∨ c = -8 ∨ c = -7 := by
  have h1 : (-15 : Int32) ≤ c := Int32.not_lt.mp h1
  rw [Int32.le_iff_toInt_le] at h1 h2
  have e1 : (-15 : Int32).toInt = -15 := by decide
  have e2 : (-7 : Int32).toInt = -7 := by decide
  rw [e1] at h1
  rw [e2] at h2
  simp only [← Int32.toInt_inj]
  have q : ∀ k : Int32, c.toInt = k.toInt ↔ c.toInt = k.toInt := fun _ => Iff.rfl
  rw [show (-14 : Int32).toInt = -14 by decide, show (-13 : Int32).toInt = -13 by decide, show (-12 : Int32).toInt = -12 by decide, show (-11 : Int32).toInt = -11 by decide, show (-10 : Int32).toInt = -10 by decide, show (-9 : Int32).toInt = -9 by decide, show (-8 : Int32).toInt = -8 by decide, e1, e2]
  omega
theorem nm6 {c : Int32} (h1 : ¬ c ≤ -7) (h2 : c < 0) : ∃ j, j < 6 ∧ -1 - c = nI j := by
  have h1 : (-7 : Int32) < c := Int32.not_le.mp h1
  rw [Int32.lt_iff_toInt_lt] at h1 h2
  rw [show (-7 : Int32).toInt = -7 by decide] at h1
  rw [show (0 : Int32).toInt = 0 by decide] at h2
  have : c = -6 ∨ c = -5 ∨ c = -4 ∨ c = -3 ∨ c = -2 ∨ c = -1 := by
    simp only [← Int32.toInt_inj]
    rw [show (-6 : Int32).toInt = -6 by decide, show (-5 : Int32).toInt = -5 by decide, show (-4 : Int32).toInt = -4 by decide, show (-3 : Int32).toInt = -3 by decide, show (-2 : Int32).toInt = -2 by decide, show (-1 : Int32).toInt = -1 by decide]
    omega
  rcases this with rfl | rfl | rfl | rfl | rfl | rfl
  · exact ⟨5, by decide, by decide⟩
  · exact ⟨4, by decide, by decide⟩
  · exact ⟨3, by decide, by decide⟩
  · exact ⟨2, by decide, by decide⟩
  · exact ⟨1, by decide, by decide⟩
  · exact ⟨0, by decide, by decide⟩
section WORTH
variable {E : XE} {d : Nat} {sh : XSh} {I : XI} {R : XRf} {L : XL} {Q : XQ}
theorem c_worth_op (hg : XG sh R) {t m part i : Nat} (hm : m < 31) (cc a b : Int32) (h15 : ¬ cc < -15) (J : XI)
    (kk : XV E mX4_worth d 0 0 Q 0 0 313 [some (.ref t), some (.int (nI part)), some (.ref 38), some (.ref 39), some (.int (nI m)), some (.int (nI i)), some (.int cc), some (.int a), some (.int b)] [] sh (xi J 39 m (wop (J 38) cc a b)) R L) :
    XV E mX4_worth d 0 0 Q 0 0 94 [some (.ref t), some (.int (nI part)), some (.ref 38), some (.ref 39), some (.int (nI m)), some (.int (nI i)), some (.int cc), some (.int a), some (.int b)] [] sh J R L := by
  by_cases h7 : cc ≤ -7
  · rcases op15 h15 h7 with rfl | rfl | rfl | rfl | rfl | rfl | rfl | rfl | rfl
    · refine xv_iload (q := 96) rfl dX4_worth_94 rfl ?_
      refine xv_tableIn (off := 187) (t := 283) dX4_worth_96 (by decide) (by decide) rfl rfl ?_
      refine xv_aload_n (q := 284) rfl dX4_worth_283 rfl rfl ?_
      refine xv_iload (q := 286) rfl dX4_worth_284 rfl ?_
      refine xv_iload (q := 288) rfl dX4_worth_286 rfl ?_
      refine xv_ineg (q := 289) rfl dX4_worth_288 ?_
      refine xv_iast (q := 290) rfl dX4_worth_289 (hg.1 _ _ rfl) rfl (by omega) (by decide) ?_
      refine xv_goto (t := 313) rfl dX4_worth_290 ?_
      exact kk
    · refine xv_iload (q := 96) rfl dX4_worth_94 rfl ?_
      refine xv_tableIn (off := 170) (t := 266) dX4_worth_96 (by decide) (by decide) rfl rfl ?_
      refine xv_aload_n (q := 267) rfl dX4_worth_266 rfl rfl ?_
      refine xv_iload (q := 269) rfl dX4_worth_267 rfl ?_
      refine xv_iload (q := 271) rfl dX4_worth_269 rfl ?_
      refine xv_if_ne (q := 274) (t := 278) rfl rfl dX4_worth_271 (fun h271 => ?_) (fun h271 => ?_)
      · refine xv_iconst (v := nI 0) (q := 279) rfl dX4_worth_278 rfl ?_
        refine xv_iast (q := 280) rfl dX4_worth_279 (hg.1 _ _ rfl) rfl (by omega) (by decide) ?_
        refine xv_goto (t := 313) rfl dX4_worth_280 ?_
        rw [show wop (J 38) (-14) a b = nI 0 from by show bI (decide (a = 0)) = _; rw [decide_eq_false h271]; rfl] at kk
        exact kk
      · refine xv_iconst (v := nI 1) (q := 275) rfl dX4_worth_274 rfl ?_
        refine xv_goto (t := 279) rfl dX4_worth_275 ?_
        refine xv_iast (q := 280) rfl dX4_worth_279 (hg.1 _ _ rfl) rfl (by omega) (by decide) ?_
        refine xv_goto (t := 313) rfl dX4_worth_280 ?_
        rw [show wop (J 38) (-14) a b = nI 1 from by show bI (decide (a = 0)) = _; rw [decide_eq_true h271]; rfl] at kk
        exact kk
    · refine xv_iload (q := 96) rfl dX4_worth_94 rfl ?_
      refine xv_tableIn (off := 158) (t := 254) dX4_worth_96 (by decide) (by decide) rfl rfl ?_
      refine xv_aload_n (q := 255) rfl dX4_worth_254 rfl rfl ?_
      refine xv_iload (q := 257) rfl dX4_worth_255 rfl ?_
      refine xv_iload (q := 259) rfl dX4_worth_257 rfl ?_
      refine xv_iload (q := 261) rfl dX4_worth_259 rfl ?_
      refine xv_imul (q := 262) rfl dX4_worth_261 ?_
      refine xv_iast (q := 263) rfl dX4_worth_262 (hg.1 _ _ rfl) rfl (by omega) (by decide) ?_
      refine xv_goto (t := 313) rfl dX4_worth_263 ?_
      exact kk
    · refine xv_iload (q := 96) rfl dX4_worth_94 rfl ?_
      refine xv_tableIn (off := 146) (t := 242) dX4_worth_96 (by decide) (by decide) rfl rfl ?_
      refine xv_aload_n (q := 243) rfl dX4_worth_242 rfl rfl ?_
      refine xv_iload (q := 245) rfl dX4_worth_243 rfl ?_
      refine xv_iload (q := 247) rfl dX4_worth_245 rfl ?_
      refine xv_iload (q := 249) rfl dX4_worth_247 rfl ?_
      refine xv_isub (q := 250) rfl dX4_worth_249 ?_
      refine xv_iast (q := 251) rfl dX4_worth_250 (hg.1 _ _ rfl) rfl (by omega) (by decide) ?_
      refine xv_goto (t := 313) rfl dX4_worth_251 ?_
      exact kk
    · refine xv_iload (q := 96) rfl dX4_worth_94 rfl ?_
      refine xv_tableIn (off := 134) (t := 230) dX4_worth_96 (by decide) (by decide) rfl rfl ?_
      refine xv_aload_n (q := 231) rfl dX4_worth_230 rfl rfl ?_
      refine xv_iload (q := 233) rfl dX4_worth_231 rfl ?_
      refine xv_iload (q := 235) rfl dX4_worth_233 rfl ?_
      refine xv_iload (q := 237) rfl dX4_worth_235 rfl ?_
      refine xv_iadd (q := 238) rfl dX4_worth_237 ?_
      refine xv_iast (q := 239) rfl dX4_worth_238 (hg.1 _ _ rfl) rfl (by omega) (by decide) ?_
      refine xv_goto (t := 313) rfl dX4_worth_239 ?_
      exact kk
    · refine xv_iload (q := 96) rfl dX4_worth_94 rfl ?_
      refine xv_tableIn (off := 115) (t := 211) dX4_worth_96 (by decide) (by decide) rfl rfl ?_
      refine xv_aload_n (q := 212) rfl dX4_worth_211 rfl rfl ?_
      refine xv_iload (q := 214) rfl dX4_worth_212 rfl ?_
      refine xv_iload (q := 216) rfl dX4_worth_214 rfl ?_
      refine xv_iload (q := 218) rfl dX4_worth_216 rfl ?_
      refine xv_icmp_ne (q := 221) (t := 225) rfl rfl dX4_worth_218 (fun h218 => ?_) (fun h218 => ?_)
      · refine xv_iconst (v := nI 0) (q := 226) rfl dX4_worth_225 rfl ?_
        refine xv_iast (q := 227) rfl dX4_worth_226 (hg.1 _ _ rfl) rfl (by omega) (by decide) ?_
        refine xv_goto (t := 313) rfl dX4_worth_227 ?_
        rw [show wop (J 38) (-10) a b = nI 0 from by show bI (decide (a = b)) = _; rw [decide_eq_false h218]; rfl] at kk
        exact kk
      · refine xv_iconst (v := nI 1) (q := 222) rfl dX4_worth_221 rfl ?_
        refine xv_goto (t := 226) rfl dX4_worth_222 ?_
        refine xv_iast (q := 227) rfl dX4_worth_226 (hg.1 _ _ rfl) rfl (by omega) (by decide) ?_
        refine xv_goto (t := 313) rfl dX4_worth_227 ?_
        rw [show wop (J 38) (-10) a b = nI 1 from by show bI (decide (a = b)) = _; rw [decide_eq_true h218]; rfl] at kk
        exact kk
    · refine xv_iload (q := 96) rfl dX4_worth_94 rfl ?_
      refine xv_tableIn (off := 96) (t := 192) dX4_worth_96 (by decide) (by decide) rfl rfl ?_
      refine xv_aload_n (q := 193) rfl dX4_worth_192 rfl rfl ?_
      refine xv_iload (q := 195) rfl dX4_worth_193 rfl ?_
      refine xv_iload (q := 197) rfl dX4_worth_195 rfl ?_
      refine xv_iload (q := 199) rfl dX4_worth_197 rfl ?_
      refine xv_icmp_ge (q := 202) (t := 206) rfl rfl dX4_worth_199 (fun h199 => ?_) (fun h199 => ?_)
      · refine xv_iconst (v := nI 0) (q := 207) rfl dX4_worth_206 rfl ?_
        refine xv_iast (q := 208) rfl dX4_worth_207 (hg.1 _ _ rfl) rfl (by omega) (by decide) ?_
        refine xv_goto (t := 313) rfl dX4_worth_208 ?_
        rw [show wop (J 38) (-9) a b = nI 0 from by show bI (decide (a < b)) = _; rw [decide_eq_false (ilen h199)]; rfl] at kk
        exact kk
      · refine xv_iconst (v := nI 1) (q := 203) rfl dX4_worth_202 rfl ?_
        refine xv_goto (t := 207) rfl dX4_worth_203 ?_
        refine xv_iast (q := 208) rfl dX4_worth_207 (hg.1 _ _ rfl) rfl (by omega) (by decide) ?_
        refine xv_goto (t := 313) rfl dX4_worth_208 ?_
        rw [show wop (J 38) (-9) a b = nI 1 from by show bI (decide (a < b)) = _; rw [decide_eq_true (ile h199)]; rfl] at kk
        exact kk
    · refine xv_iload (q := 96) rfl dX4_worth_94 rfl ?_
      refine xv_tableIn (off := 74) (t := 170) dX4_worth_96 (by decide) (by decide) rfl rfl ?_
      refine xv_aload_n (q := 171) rfl dX4_worth_170 rfl rfl ?_
      refine xv_iload (q := 173) rfl dX4_worth_171 rfl ?_
      refine xv_iload (q := 175) rfl dX4_worth_173 rfl ?_
      refine xv_if_eq (q := 178) (t := 187) rfl rfl dX4_worth_175 (fun h175 => ?_) (fun h175 => ?_)
      · refine xv_iconst (v := nI 0) (q := 188) rfl dX4_worth_187 rfl ?_
        refine xv_iast (q := 189) rfl dX4_worth_188 (hg.1 _ _ rfl) rfl (by omega) (by decide) ?_
        refine xv_goto (t := 313) rfl dX4_worth_189 ?_
        rw [show wop (J 38) (-8) a b = nI 0 from by show bI (!decide (a = 0) && !decide (b = 0)) = _; rw [decide_eq_true h175]; rfl] at kk
        exact kk
      · refine xv_iload (q := 180) rfl dX4_worth_178 rfl ?_
        refine xv_if_eq (q := 183) (t := 187) rfl rfl dX4_worth_180 (fun h180 => ?_) (fun h180 => ?_)
        · refine xv_iconst (v := nI 0) (q := 188) rfl dX4_worth_187 rfl ?_
          refine xv_iast (q := 189) rfl dX4_worth_188 (hg.1 _ _ rfl) rfl (by omega) (by decide) ?_
          refine xv_goto (t := 313) rfl dX4_worth_189 ?_
          rw [show wop (J 38) (-8) a b = nI 0 from by show bI (!decide (a = 0) && !decide (b = 0)) = _; rw [decide_eq_true h180, Bool.not_true, Bool.and_false]; rfl] at kk
          exact kk
        · refine xv_iconst (v := nI 1) (q := 184) rfl dX4_worth_183 rfl ?_
          refine xv_goto (t := 188) rfl dX4_worth_184 ?_
          refine xv_iast (q := 189) rfl dX4_worth_188 (hg.1 _ _ rfl) rfl (by omega) (by decide) ?_
          refine xv_goto (t := 313) rfl dX4_worth_189 ?_
          rw [show wop (J 38) (-8) a b = nI 1 from by show bI (!decide (a = 0) && !decide (b = 0)) = _; rw [decide_eq_false h175, decide_eq_false h180]; rfl] at kk
          exact kk
    · refine xv_iload (q := 96) rfl dX4_worth_94 rfl ?_
      refine xv_tableIn (off := 52) (t := 148) dX4_worth_96 (by decide) (by decide) rfl rfl ?_
      refine xv_aload_n (q := 149) rfl dX4_worth_148 rfl rfl ?_
      refine xv_iload (q := 151) rfl dX4_worth_149 rfl ?_
      refine xv_iload (q := 153) rfl dX4_worth_151 rfl ?_
      refine xv_if_ne (q := 156) (t := 161) rfl rfl dX4_worth_153 (fun h153 => ?_) (fun h153 => ?_)
      · refine xv_iconst (v := nI 1) (q := 162) rfl dX4_worth_161 rfl ?_
        refine xv_goto (t := 166) rfl dX4_worth_162 ?_
        refine xv_iast (q := 167) rfl dX4_worth_166 (hg.1 _ _ rfl) rfl (by omega) (by decide) ?_
        refine xv_goto (t := 313) rfl dX4_worth_167 ?_
        rw [show wop (J 38) (-7) a b = nI 1 from by show bI (!decide (a = 0) || !decide (b = 0)) = _; rw [decide_eq_false h153]; rfl] at kk
        exact kk
      · refine xv_iload (q := 158) rfl dX4_worth_156 rfl ?_
        refine xv_if_eq (q := 161) (t := 165) rfl rfl dX4_worth_158 (fun h158 => ?_) (fun h158 => ?_)
        · refine xv_iconst (v := nI 0) (q := 166) rfl dX4_worth_165 rfl ?_
          refine xv_iast (q := 167) rfl dX4_worth_166 (hg.1 _ _ rfl) rfl (by omega) (by decide) ?_
          refine xv_goto (t := 313) rfl dX4_worth_167 ?_
          rw [show wop (J 38) (-7) a b = nI 0 from by show bI (!decide (a = 0) || !decide (b = 0)) = _; rw [decide_eq_true h153, decide_eq_true h158]; rfl] at kk
          exact kk
        · refine xv_iconst (v := nI 1) (q := 162) rfl dX4_worth_161 rfl ?_
          refine xv_goto (t := 166) rfl dX4_worth_162 ?_
          refine xv_iast (q := 167) rfl dX4_worth_166 (hg.1 _ _ rfl) rfl (by omega) (by decide) ?_
          refine xv_goto (t := 313) rfl dX4_worth_167 ?_
          rw [show wop (J 38) (-7) a b = nI 1 from by show bI (!decide (a = 0) || !decide (b = 0)) = _; rw [decide_eq_true h153, decide_eq_false h158]; rfl] at kk
          exact kk
  · have h7' : -7 < cc.toInt := by
      have := Int32.lt_iff_toInt_lt.mp (Int32.not_le.mp h7)
      rwa [show (-7 : Int32).toInt = -7 by decide] at this
    have hne : ∀ k : Int32, k ≤ -7 → ¬ cc = k := fun k hk q => h7 (q ▸ hk)
    have hw : wop (J 38) cc a b = if cc < 0 then J 38 (-1 - cc).toNatClampNeg else cc := by
      unfold wop
      rw [if_neg (hne _ (by decide)), if_neg (hne _ (by decide)), if_neg (hne _ (by decide)), if_neg (hne _ (by decide)), if_neg (hne _ (by decide)), if_neg (hne _ (by decide)), if_neg (hne _ (by decide)), if_neg (hne _ (by decide)), if_neg (hne _ (by decide))]
    rw [hw] at kk
    refine xv_iload (q := 96) rfl dX4_worth_94 rfl ?_
    refine xv_tableOut (t := 293) dX4_worth_96 (Or.inr h7') rfl ?_
    refine xv_aload_n (q := 294) rfl dX4_worth_293 rfl rfl ?_
    refine xv_iload (q := 296) rfl dX4_worth_294 rfl ?_
    refine xv_iload (q := 298) rfl dX4_worth_296 rfl ?_
    refine xv_if_lt (q := 301) (t := 306) rfl rfl dX4_worth_298 (fun h298 => ?_) (fun h298 => ?_)
    · rw [if_pos h298] at kk
      obtain ⟨j, hj, ej⟩ := nm6 h7 h298
      rw [ej, nI_clamp (n := j) (by omega)] at kk
      refine xv_aload_n (q := 307) rfl dX4_worth_306 rfl rfl ?_
      refine xv_iconst (v := (-1)) (q := 308) rfl dX4_worth_307 rfl ?_
      refine xv_iload (q := 310) rfl dX4_worth_308 rfl ?_
      refine xv_isub (q := 311) rfl dX4_worth_310 ?_
      rw [ej]
      refine xv_iald (q := 312) rfl dX4_worth_311 (hg.1 _ _ rfl) rfl hj (by decide) ?_
      refine xv_iast (q := 313) rfl dX4_worth_312 (hg.1 _ _ rfl) rfl (by omega) (by decide) ?_
      exact kk
    · rw [if_neg h298] at kk
      refine xv_iload (q := 303) rfl dX4_worth_301 rfl ?_
      refine xv_goto (t := 312) rfl dX4_worth_303 ?_
      refine xv_iast (q := 313) rfl dX4_worth_312 (hg.1 _ _ rfl) rfl (by omega) (by decide) ?_
      exact kk
theorem c_worth_loop (hg : XG sh R) {t ca ea N part e : Nat} {f' : Nat → Int32} (ht : XTx sh R t ca ea N) (hp : part < 3) (he : I ea part = nI e) (heN : e ≤ N) (hcode : ∀ i, i < e → ¬ I ca i < -15) :
    ∀ (k i len : Nat) (f : Nat → Int32) (l6 l7 l8 : Option Value), i + k = e → len ≤ 31 → wrun (I 38) (I ca) k i (len, f) = some (1, f') → XV E mX4_worth d 0 0 (xq (some (.int (f' 0))) sh (xic I 39 f') R L) 0 0 21 [some (.ref t), some (.int (nI part)), some (.ref 38), some (.ref 39), some (.int (nI len - nI 1)), some (.int (nI i)), l6, l7, l8] [] sh (xic I 39 f) R L := by
  obtain ⟨t1, t2, t3, t4, t5, t6, t7, t8⟩ := ht
  intro k
  induction k with
  | zero =>
    intro i len f l6 l7 l8 hi hlen hr
    obtain ⟨rfl, rfl⟩ : len = 1 ∧ f = f' := by have := Option.some.inj hr; exact ⟨congrArg Prod.fst this, congrArg Prod.snd this⟩
    refine xv_iload (q := 23) rfl dX4_worth_21 rfl ?_
    refine xv_aload_n (q := 24) rfl dX4_worth_23 rfl rfl ?_
    refine xv_geta (q := 27) rfl dX4_worth_24 f_X4_15 t1 t3 ?_
    refine xv_iload_n (q := 28) rfl dX4_worth_27 rfl rfl ?_
    refine xv_iald (q := 29) rfl dX4_worth_28 t5 rfl (by omega) (by decide) ?_
    rw [xic_off _ _ _ t8, he]
    refine xv_icmp_ge (q := 32) (t := 319) rfl rfl dX4_worth_29 (fun h29 => ?_) (fun h29 => ?_)
    · refine xv_iload (q := 321) rfl dX4_worth_319 rfl ?_
      refine xv_if_ne (q := 324) (t := 330) rfl rfl dX4_worth_321 (fun h321 => ?_) (fun h321 => ?_)
      · exact absurd (by decide) h321
      · refine xv_aload_n (q := 325) rfl dX4_worth_324 rfl rfl ?_
        refine xv_iconst (v := nI 0) (q := 326) rfl dX4_worth_325 rfl ?_
        refine xv_iald (q := 327) rfl dX4_worth_326 (hg.1 _ _ rfl) rfl (by omega) (by decide) ?_
        rw [xic_row]
        refine xv_goto (t := 331) rfl dX4_worth_327 ?_
        refine xv_iret dX4_worth_331 rfl ?_
        exact xq_rfl
    · exact absurd (nI_le (show e ≤ i by omega) (by omega)) h29
  | succ k ih =>
    intro i len f l6 l7 l8 hi hlen hr
    have hr : (wst (I 38) (I ca i) (len, f)).bind (wrun (I 38) (I ca) k (i + 1)) = some (1, f') := hr
    have hcd := hcode i (by omega)
    generalize hcc : I ca i = cc at hr hcd
    refine xv_iload (q := 23) rfl dX4_worth_21 rfl ?_
    refine xv_aload_n (q := 24) rfl dX4_worth_23 rfl rfl ?_
    refine xv_geta (q := 27) rfl dX4_worth_24 f_X4_15 t1 t3 ?_
    refine xv_iload_n (q := 28) rfl dX4_worth_27 rfl rfl ?_
    refine xv_iald (q := 29) rfl dX4_worth_28 t5 rfl (by omega) (by decide) ?_
    rw [xic_off _ _ _ t8, he]
    refine xv_icmp_ge (q := 32) (t := 319) rfl rfl dX4_worth_29 (fun h29 => ?_) (fun h29 => ?_)
    · exact absurd (nIle h29 (by omega) (by omega)) (by omega)
    · refine xv_aload_n (q := 33) rfl dX4_worth_32 rfl rfl ?_
      refine xv_geta (q := 36) rfl dX4_worth_33 f_X4_9 t1 t2 ?_
      refine xv_iload (q := 38) rfl dX4_worth_36 rfl ?_
      refine xv_iald (q := 39) rfl dX4_worth_38 t4 rfl (by omega) (by omega) ?_
      rw [xic_off _ _ _ t7, hcc]
      refine xv_istore (q := 41) rfl dX4_worth_39 rfl ?_
      have key : XV E mX4_worth d 0 0 (xq (some (.int (f' 0))) sh (xic I 39 f') R L) 0 0 64 [some (.ref t), some (.int (nI part)), some (.ref 38), some (.ref 39), some (.int (nI (wlen cc len) - nI 1)), some (.int (nI i)), some (.int cc), l7, l8] [] sh (xic I 39 f) R L := by
        by_cases hw : wlen cc len = 0 ∨ 32 ≤ wlen cc len
        · rw [show wst (I 38) cc (len, f) = none from if_pos hw] at hr; cases hr
        · rw [show wst (I 38) cc (len, f) = some (wlen cc len, upd f (wlen cc len - 1) (wop (I 38) cc (f (wlen cc len - 1)) (f (wlen cc len)))) from if_neg hw] at hr
          obtain ⟨m, hm⟩ : ∃ m, wlen cc len = m + 1 := ⟨wlen cc len - 1, by omega⟩
          rw [hm] at hr hw ⊢
          rw [nI_dec1]
          have hr : wrun (I 38) (I ca) k (i + 1) (m + 1, upd f m (wop (I 38) cc (f m) (f (m + 1)))) = some (1, f') := hr
          refine xv_iload (q := 66) rfl dX4_worth_64 rfl ?_
          refine xv_if_lt (q := 69) (t := 78) rfl rfl dX4_worth_66 (fun h66 => ?_) (fun h66 => ?_)
          · exact absurd h66 (nI_pos (by omega))
          · refine xv_iload (q := 71) rfl dX4_worth_69 rfl ?_
            refine xv_iconst (v := nI 1) (q := 72) rfl dX4_worth_71 rfl ?_
            refine xv_iadd (q := 73) rfl dX4_worth_72 ?_
            refine xv_as (w := nI (m + 1)) (nI_add _ _) ?_
            refine xv_aload_n (q := 74) rfl dX4_worth_73 rfl rfl ?_
            refine xv_alen (q := 75) rfl dX4_worth_74 (hg.1 _ _ rfl) (by decide) ?_
            refine xv_icmp_lt (q := 78) (t := 80) rfl rfl dX4_worth_75 (fun h75 => ?_) (fun h75 => ?_)
            · refine xv_aload_n (q := 81) rfl dX4_worth_80 rfl rfl ?_
              refine xv_iload (q := 83) rfl dX4_worth_81 rfl ?_
              refine xv_iald (q := 84) rfl dX4_worth_83 (hg.1 _ _ rfl) rfl (by omega) (by decide) ?_
              rw [xic_row]
              refine xv_istore (q := 86) rfl dX4_worth_84 rfl ?_
              refine xv_aload_n (q := 87) rfl dX4_worth_86 rfl rfl ?_
              refine xv_iload (q := 89) rfl dX4_worth_87 rfl ?_
              refine xv_iconst (v := nI 1) (q := 90) rfl dX4_worth_89 rfl ?_
              refine xv_iadd (q := 91) rfl dX4_worth_90 ?_
              refine xv_as (w := nI (m + 1)) (nI_add _ _) ?_
              refine xv_iald (q := 92) rfl dX4_worth_91 (hg.1 _ _ rfl) rfl (by omega) (by decide) ?_
              rw [xic_row]
              refine xv_istore (q := 94) rfl dX4_worth_92 rfl ?_
              refine c_worth_op hg (by omega) cc (f m) (f (m + 1)) hcd _ ?_
              rw [xi_xic, xic_off _ _ _ (show 38 ≠ 39 by omega)]
              refine xv_iinc (q := 316) (v := nI 1) rfl dX4_worth_313 rfl rfl ?_
              refine xv_goto (t := 21) rfl dX4_worth_316 ?_
              rw [nI_add, show nI m = nI (m + 1) - nI 1 from (nI_dec1 m).symm]
              exact ih (i + 1) (m + 1) _ _ _ _ (by omega) (by omega) hr
            · exact absurd (nI_lt (show m + 1 < 32 by omega) (by omega)) h75
      refine xv_iload (q := 43) rfl dX4_worth_41 rfl ?_
      refine xv_bipush (v := (-7)) (q := 45) rfl dX4_worth_43 rfl ?_
      refine xv_icmp_le (q := 48) (t := 54) rfl rfl dX4_worth_45 (fun h45 => ?_) (fun h45 => ?_)
      · refine xv_iload (q := 56) rfl dX4_worth_54 rfl ?_
        refine xv_bipush (v := (-14)) (q := 58) rfl dX4_worth_56 rfl ?_
        refine xv_icmp_le (q := 61) (t := 64) rfl rfl dX4_worth_58 (fun h58 => ?_) (fun h58 => ?_)
        · refine xv_ls (ls' := [some (.ref t), some (.int (nI part)), some (.ref 38), some (.ref 39), some (.int (nI (wlen cc len) - nI 1)), some (.int (nI i)), some (.int cc), l7, l8]) ?_ key
          rw [show wlen cc len = len from (if_neg (fun q => q h45)).trans (if_neg (fun q => q h58))]
          rfl
        · refine xv_iinc (q := 64) (v := (-1)) rfl dX4_worth_61 rfl rfl ?_
          refine xv_ls (ls' := [some (.ref t), some (.int (nI part)), some (.ref 38), some (.ref 39), some (.int (nI (wlen cc len) - nI 1)), some (.int (nI i)), some (.int cc), l7, l8]) ?_ key
          rw [show wlen cc len = len - 1 from (if_neg (fun q => q h45)).trans (if_pos h58)]
          rcases (show len = 0 ∨ ∃ j, len = j + 1 by cases len; exact Or.inl rfl; exact Or.inr ⟨_, rfl⟩) with rfl | ⟨j, rfl⟩
          · rw [show wst (I 38) cc (0, f) = none from if_pos (Or.inl ((if_neg (fun q => q h45)).trans (if_pos h58)))] at hr
            cases hr
          · rw [Nat.add_sub_cancel, ← nI_dec2 j]
            rfl
      · refine xv_iinc (q := 51) (v := nI 1) rfl dX4_worth_48 rfl rfl ?_
        refine xv_goto (t := 64) rfl dX4_worth_51 ?_
        refine xv_ls (ls' := [some (.ref t), some (.int (nI part)), some (.ref 38), some (.ref 39), some (.int (nI (wlen cc len) - nI 1)), some (.int (nI i)), some (.int cc), l7, l8]) ?_ key
        rw [show wlen cc len = len + 1 from if_pos h45, ← nI_dec len]
        rfl
/-- worth(part, names, stack), where the code runs to one number -/
theorem c_worth (hg : XG sh R) {t ca ea N part s e : Nat} {f' : Nat → Int32} (ht : XTx sh R t ca ea N) (hp : part < 3) (hs : if part = 0 then s = 0 else I ea (part - 1) = nI s) (hse : s ≤ e) (he : I ea part = nI e) (heN : e ≤ N) (hcode : ∀ i, i < e → ¬ I ca i < -15) (hr : wrun (I 38) (I ca) (e - s) s (0, I 39) = some (1, f')) : XC E mX4_worth d 0 0 [.ref t, .int (nI part), .ref 38, .ref 39] sh I R L (xq (some (.int (f' 0))) sh (xic I 39 f') R L) := by
  obtain ⟨t1, t2, t3, t4, t5, t6, t7, t8⟩ := id ht
  have hl := c_worth_loop (E := E) (d := d) (L := L) hg ht hp he heN hcode (e - s) s 0 (I 39) none none none (by omega) (by omega) hr
  rw [xic_self] at hl
  refine XC.of (by decide) rfl rfl ?_
  refine xv_iconst (v := (-1)) (q := 1) rfl dX4_worth_0 rfl ?_
  refine xv_istore (q := 3) rfl dX4_worth_1 rfl ?_
  refine xv_iload_n (q := 4) rfl dX4_worth_3 rfl rfl ?_
  refine xv_if_ne (q := 7) (t := 11) rfl rfl dX4_worth_4 (fun h4 => ?_) (fun h4 => ?_)
  · have h4 : ¬ part = 0 := fun q => h4 (by rw [q]; rfl)
    rw [if_neg h4] at hs
    refine xv_aload_n (q := 12) rfl dX4_worth_11 rfl rfl ?_
    refine xv_geta (q := 15) rfl dX4_worth_12 f_X4_15 t1 t3 ?_
    refine xv_iload_n (q := 16) rfl dX4_worth_15 rfl rfl ?_
    refine xv_iconst (v := nI 1) (q := 17) rfl dX4_worth_16 rfl ?_
    refine xv_isub (q := 18) rfl dX4_worth_17 ?_
    refine xv_as (w := nI (part - 1)) (pk_sub (by omega)) ?_
    refine xv_iald (q := 19) rfl dX4_worth_18 t5 rfl (by omega) (by decide) ?_
    rw [hs]
    refine xv_istore (q := 21) rfl dX4_worth_19 rfl ?_
    exact hl
  · have h4 : part = 0 := by have := nIe (b := 0) h4 (by omega) (by omega); exact this
    rw [if_pos h4] at hs
    subst hs
    refine xv_iconst (v := nI 0) (q := 8) rfl dX4_worth_7 rfl ?_
    refine xv_goto (t := 19) rfl dX4_worth_8 ?_
    refine xv_istore (q := 21) rfl dX4_worth_19 rfl ?_
    exact hl
end WORTH

/-! the law's cases -/
/-- both hold one state -/
def JB (sh : XSh) (I : XI) (R : XRf) : Prop := ∃ (n : Nat) (c : CR) (dd u : Nat) (im : Option CG) (sg : SG) (tl : Nat) (tp : Nat → Nat) (tc : Nat) (tx : TXS), JC sh I R n c dd u im sg tl tp tc tx ∧ JM I n c dd u im sg tl tp tc tx ∧ JW n c u im tc
theorem lg_self (x : Int64) : lg_cmp x x = 0 := by
  unfold lg_cmp
  rw [if_neg (fun h => by exact absurd h (Int64.lt_irrefl)), if_pos rfl]
section LAWCASES
variable {E : XE} {qb qN : Nat} {qx : Nat → Int32} {kc ks i : Nat} {sh : XSh} {I : XI} {R : XRf} {L : XL}
abbrev LLs (qb i : Nat) : List (Option Value) := [some (.retAddr qb), some (.ref 0), some (.ref 61), some (.int (nI i))]
theorem law_rider (hN : qN ≤ 3072) (hi : i + 6 ≤ qN) (hJ : JB sh I R) (KK : ∀ (sh : XSh) (I : XI) (R : XRf) (L : XL), JB sh I R → XW E qb qN qx kc ks 1026 (LLs qb i) [] sh I R L) : XW E qb qN qx (kc + 3) (ks + 170) 160 (LLs qb i) [] sh I R L := by
  obtain ⟨n, c, dd, u, im, sg, tl, tp, tc, tx, hC, hM, hW⟩ := hJ
  refine xw_aload_n (q := 161) rfl dL_law_160 rfl rfl ?_
  refine xw_arg (i := i) (k := 1) (q := 166) dL_law_161 dL_law_162 dL_law_163 dL_law_164 dL_law_165 rfl rfl rfl (by omega) hN rfl ?_
  refine xw_arg (i := i) (k := 2) (q := 171) dL_law_166 dL_law_167 dL_law_168 dL_law_169 dL_law_170 rfl rfl rfl (by omega) hN rfl ?_
  refine xw_arg (i := i) (k := 3) (q := 176) dL_law_171 dL_law_172 dL_law_173 dL_law_174 dL_law_175 rfl rfl rfl (by omega) hN rfl ?_
  refine xw_callV (z := mX6_rider) (kc' := kc + 3) (ks' := ks + 170) (as := [.int (qx (i + 1)), .int (qx (i + 2)), .int (qx (i + 3))]) (q := 179) rfl dL_law_176 l_L_13 gX6_rider (hC.1.1 0 _ rfl) rfl (by decide) rfl rfl (Nat.le_of_ble_eq_true rfl) (x_rider (d := 0) hC.1 hC.2.1 (qx (i + 1)) (qx (i + 2)) (qx (i + 3))) (by omega) (by omega) (by omega) ?_
  rintro v1 sh1 I1 R1 L1 ⟨rfl, rfl, rfl, rfl, hK1, hF1⟩
  obtain ⟨hC1, hf1⟩ := hC.fxc hK1 hF1
  have hM1 := hM.mv hf1
  refine xw_aload_n (q := 180) rfl dL_law_179 rfl rfl ?_
  refine xw_arg (i := i) (k := 1) (q := 185) dL_law_180 dL_law_181 dL_law_182 dL_law_183 dL_law_184 rfl rfl rfl (by omega) hN rfl ?_
  refine xw_arg (i := i) (k := 2) (q := 190) dL_law_185 dL_law_186 dL_law_187 dL_law_188 dL_law_189 rfl rfl rfl (by omega) hN rfl ?_
  refine xw_arg (i := i) (k := 3) (q := 195) dL_law_190 dL_law_191 dL_law_192 dL_law_193 dL_law_194 rfl rfl rfl (by omega) hN rfl ?_
  refine xw_callV (z := mX7_rider) (kc' := kc + 3) (ks' := ks + 170) (as := [.int (qx (i + 1)), .int (qx (i + 2)), .int (qx (i + 3))]) (q := 198) rfl dL_law_195 l_L_17 gX7_rider (hC1.1.1 61 _ rfl) rfl (by decide) rfl rfl (Nat.le_of_ble_eq_true rfl) (y_rider (d := 0) hC1.1 hM1.1 (qx (i + 1)) (qx (i + 2)) (qx (i + 3))) (by omega) (by omega) (by omega) ?_
  rintro v2 sh2 I2 R2 L2 ⟨rfl, rfl, rfl, rfl, hK2, hF2⟩
  obtain ⟨hM2, hf2⟩ := hM1.fmr hK2 hF2 (by omega)
  have hC2 := hC1.mv hf2
  refine xw_icmp_eq (q := 201) (t := 1026) rfl rfl dL_law_198 (fun _ => ?_) (fun h => absurd rfl h)
  exact xw_less (by omega) (by omega) (KK _ _ _ _ ⟨_, _, _, _, _, _, _, _, _, _, hC2, hM2, hW.grow (rider_grw _ _ _)⟩)
theorem law_set (hN : qN ≤ 3072) (hi : i + 6 ≤ qN) (hJ : JB sh I R) (KK : ∀ (sh : XSh) (I : XI) (R : XRf) (L : XL), JB sh I R → XW E qb qN qx kc ks 1026 (LLs qb i) [] sh I R L) : XW E qb qN qx (kc + 3) (ks + 170) 203 (LLs qb i) [] sh I R L := by
  obtain ⟨n, c, dd, u, im, sg, tl, tp, tc, tx, hC, hM, hW⟩ := hJ
  refine xw_aload_n (q := 204) rfl dL_law_203 rfl rfl ?_
  refine xw_arg (i := i) (k := 1) (q := 209) dL_law_204 dL_law_205 dL_law_206 dL_law_207 dL_law_208 rfl rfl rfl (by omega) hN rfl ?_
  refine xw_arg (i := i) (k := 2) (q := 214) dL_law_209 dL_law_210 dL_law_211 dL_law_212 dL_law_213 rfl rfl rfl (by omega) hN rfl ?_
  refine xw_arg (i := i) (k := 3) (q := 219) dL_law_214 dL_law_215 dL_law_216 dL_law_217 dL_law_218 rfl rfl rfl (by omega) hN rfl ?_
  refine xw_callV (z := mX6_set) (kc' := kc + 3) (ks' := ks + 170) (as := [.int (qx (i + 1)), .int (qx (i + 2)), .int (qx (i + 3))]) (q := 222) rfl dL_law_219 l_L_18 gX6_set (hC.1.1 0 _ rfl) rfl (by decide) rfl rfl (Nat.le_of_ble_eq_true rfl) (x_set (d := 0) hC.1 hC.2.1 (qx (i + 1)) (qx (i + 2)) (qx (i + 3))) (by omega) (by omega) (by omega) ?_
  rintro v1 sh1 I1 R1 L1 ⟨rfl, rfl, rfl, rfl, hK1, hF1⟩
  obtain ⟨hC1, hf1⟩ := hC.fxc hK1 hF1
  have hM1 := hM.mv hf1
  refine xw_aload_n (q := 223) rfl dL_law_222 rfl rfl ?_
  refine xw_arg (i := i) (k := 1) (q := 228) dL_law_223 dL_law_224 dL_law_225 dL_law_226 dL_law_227 rfl rfl rfl (by omega) hN rfl ?_
  refine xw_arg (i := i) (k := 2) (q := 233) dL_law_228 dL_law_229 dL_law_230 dL_law_231 dL_law_232 rfl rfl rfl (by omega) hN rfl ?_
  refine xw_arg (i := i) (k := 3) (q := 238) dL_law_233 dL_law_234 dL_law_235 dL_law_236 dL_law_237 rfl rfl rfl (by omega) hN rfl ?_
  refine xw_callV (z := mX7_set) (kc' := kc + 3) (ks' := ks + 170) (as := [.int (qx (i + 1)), .int (qx (i + 2)), .int (qx (i + 3))]) (q := 241) rfl dL_law_238 l_L_21 gX7_set (hC1.1.1 61 _ rfl) rfl (by decide) rfl rfl (Nat.le_of_ble_eq_true rfl) (y_set (d := 0) hC1.1 hM1.1 (qx (i + 1)) (qx (i + 2)) (qx (i + 3))) (by omega) (by omega) (by omega) ?_
  rintro v2 sh2 I2 R2 L2 ⟨rfl, rfl, rfl, rfl, hK2, hF2⟩
  obtain ⟨hM2, hf2⟩ := hM1.fmr hK2 hF2 (by omega)
  have hC2 := hC1.mv hf2
  refine xw_icmp_eq (q := 244) (t := 1026) rfl rfl dL_law_241 (fun _ => ?_) (fun h => absurd rfl h)
  exact xw_less (by omega) (by omega) (KK _ _ _ _ ⟨_, _, _, _, _, _, _, _, _, _, hC2, hM2, hW.set _ _ _⟩)
theorem law_told (hN : qN ≤ 3072) (hi : i + 6 ≤ qN) (hJ : JB sh I R) (KK : ∀ (sh : XSh) (I : XI) (R : XRf) (L : XL), JB sh I R → XW E qb qN qx kc ks 1026 (LLs qb i) [] sh I R L) : XW E qb qN qx (kc + 3) (ks + 170) 246 (LLs qb i) [] sh I R L := by
  obtain ⟨n, c, dd, u, im, sg, tl, tp, tc, tx, hC, hM, hW⟩ := hJ
  refine xw_aload_n (q := 247) rfl dL_law_246 rfl rfl ?_
  refine xw_arg (i := i) (k := 1) (q := 252) dL_law_247 dL_law_248 dL_law_249 dL_law_250 dL_law_251 rfl rfl rfl (by omega) hN rfl ?_
  refine xw_arg (i := i) (k := 2) (q := 257) dL_law_252 dL_law_253 dL_law_254 dL_law_255 dL_law_256 rfl rfl rfl (by omega) hN rfl ?_
  refine xw_callV (z := mX6_told) (kc' := kc + 3) (ks' := ks + 170) (as := [.int (qx (i + 1)), .int (qx (i + 2))]) (q := 260) rfl dL_law_257 l_L_22 gX6_told (hC.1.1 0 _ rfl) rfl (by decide) rfl rfl (Nat.le_of_ble_eq_true rfl) (x_told (d := 0) hC.1 hC.2.1 (qx (i + 1)) (qx (i + 2))) (by omega) (by omega) (by omega) ?_
  rintro v1 sh1 I1 R1 L1 ⟨rfl, rfl, rfl, rfl, rfl⟩
  have hC1 := hC
  have hM1 := hM
  refine xw_aload_n (q := 261) rfl dL_law_260 rfl rfl ?_
  refine xw_arg (i := i) (k := 1) (q := 266) dL_law_261 dL_law_262 dL_law_263 dL_law_264 dL_law_265 rfl rfl rfl (by omega) hN rfl ?_
  refine xw_arg (i := i) (k := 2) (q := 271) dL_law_266 dL_law_267 dL_law_268 dL_law_269 dL_law_270 rfl rfl rfl (by omega) hN rfl ?_
  refine xw_callV (z := mX7_told) (kc' := kc + 3) (ks' := ks + 170) (as := [.int (qx (i + 1)), .int (qx (i + 2))]) (q := 274) rfl dL_law_271 l_L_26 gX7_told (hC1.1.1 61 _ rfl) rfl (by decide) rfl rfl (Nat.le_of_ble_eq_true rfl) (y_told (d := 0) hC1.1 hM1.1 (qx (i + 1)) (qx (i + 2))) (by omega) (by omega) (by omega) ?_
  rintro v2 sh2 I2 R2 L2 ⟨rfl, rfl, rfl, rfl, rfl⟩
  have hC2 := hC1
  have hM2 := hM1
  refine xw_icmp_eq (q := 277) (t := 1026) rfl rfl dL_law_274 (fun _ => ?_) (fun h => absurd rfl h)
  exact xw_less (by omega) (by omega) (KK _ _ _ _ ⟨_, _, _, _, _, _, _, _, _, _, hC2, hM2, hW⟩)
theorem law_lets (hN : qN ≤ 3072) (hi : i + 6 ≤ qN) (hJ : JB sh I R) (KK : ∀ (sh : XSh) (I : XI) (R : XRf) (L : XL), JB sh I R → XW E qb qN qx kc ks 1026 (LLs qb i) [] sh I R L) : XW E qb qN qx (kc + 3) (ks + 170) 279 (LLs qb i) [] sh I R L := by
  obtain ⟨n, c, dd, u, im, sg, tl, tp, tc, tx, hC, hM, hW⟩ := hJ
  refine xw_aload_n (q := 280) rfl dL_law_279 rfl rfl ?_
  refine xw_arg (i := i) (k := 1) (q := 285) dL_law_280 dL_law_281 dL_law_282 dL_law_283 dL_law_284 rfl rfl rfl (by omega) hN rfl ?_
  refine xw_arg (i := i) (k := 2) (q := 290) dL_law_285 dL_law_286 dL_law_287 dL_law_288 dL_law_289 rfl rfl rfl (by omega) hN rfl ?_
  refine xw_callV (z := mX6_lets) (kc' := kc + 3) (ks' := ks + 170) (as := [.int (qx (i + 1)), .int (qx (i + 2))]) (q := 293) rfl dL_law_290 l_L_27 gX6_lets (hC.1.1 0 _ rfl) rfl (by decide) rfl rfl (Nat.le_of_ble_eq_true rfl) (x_lets (d := 0) hC.1 hC.2.1 (qx (i + 1)) (qx (i + 2))) (by omega) (by omega) (by omega) ?_
  rintro v1 sh1 I1 R1 L1 ⟨rfl, rfl, rfl, rfl, rfl⟩
  have hC1 := hC
  have hM1 := hM
  refine xw_aload_n (q := 294) rfl dL_law_293 rfl rfl ?_
  refine xw_arg (i := i) (k := 1) (q := 299) dL_law_294 dL_law_295 dL_law_296 dL_law_297 dL_law_298 rfl rfl rfl (by omega) hN rfl ?_
  refine xw_arg (i := i) (k := 2) (q := 304) dL_law_299 dL_law_300 dL_law_301 dL_law_302 dL_law_303 rfl rfl rfl (by omega) hN rfl ?_
  refine xw_callV (z := mX7_lets) (kc' := kc + 3) (ks' := ks + 170) (as := [.int (qx (i + 1)), .int (qx (i + 2))]) (q := 307) rfl dL_law_304 l_L_30 gX7_lets (hC1.1.1 61 _ rfl) rfl (by decide) rfl rfl (Nat.le_of_ble_eq_true rfl) (y_lets (d := 0) hC1.1 hM1.1 (qx (i + 1)) (qx (i + 2))) (by omega) (by omega) (by omega) ?_
  rintro v2 sh2 I2 R2 L2 ⟨rfl, rfl, rfl, rfl, rfl⟩
  have hC2 := hC1
  have hM2 := hM1
  refine xw_icmp_eq (q := 310) (t := 1026) rfl rfl dL_law_307 (fun _ => ?_) (fun h => absurd rfl h)
  exact xw_less (by omega) (by omega) (KK _ _ _ _ ⟨_, _, _, _, _, _, _, _, _, _, hC2, hM2, hW⟩)
theorem law_feed (hN : qN ≤ 3072) (hi : i + 6 ≤ qN) (hJ : JB sh I R) (KK : ∀ (sh : XSh) (I : XI) (R : XRf) (L : XL), JB sh I R → XW E qb qN qx kc ks 1026 (LLs qb i) [] sh I R L) : XW E qb qN qx (kc + 3) (ks + 170) 312 (LLs qb i) [] sh I R L := by
  obtain ⟨n, c, dd, u, im, sg, tl, tp, tc, tx, hC, hM, hW⟩ := hJ
  refine xw_aload_n (q := 313) rfl dL_law_312 rfl rfl ?_
  refine xw_arg (i := i) (k := 1) (q := 318) dL_law_313 dL_law_314 dL_law_315 dL_law_316 dL_law_317 rfl rfl rfl (by omega) hN rfl ?_
  refine xw_callV (z := mX6_feed) (kc' := kc + 3) (ks' := ks + 170) (as := [.int (qx (i + 1))]) (q := 321) rfl dL_law_318 l_L_31 gX6_feed (hC.1.1 0 _ rfl) rfl (by decide) rfl rfl (Nat.le_of_ble_eq_true rfl) (x_feed (d := 0) hC.1 hC.2.2.2.1 (qx (i + 1))) (by omega) (by omega) (by omega) ?_
  rintro v1 sh1 I1 R1 L1 ⟨rfl, rfl, rfl, rfl, hK1, hF1⟩
  obtain ⟨hC1, hf1⟩ := hC.feed hK1 hF1
  have hM1 := hM.mv hf1
  refine xw_aload_n (q := 322) rfl dL_law_321 rfl rfl ?_
  refine xw_arg (i := i) (k := 1) (q := 327) dL_law_322 dL_law_323 dL_law_324 dL_law_325 dL_law_326 rfl rfl rfl (by omega) hN rfl ?_
  refine xw_callV (z := mX7_feed) (kc' := kc + 3) (ks' := ks + 170) (as := [.int (qx (i + 1))]) (q := 330) rfl dL_law_327 l_L_35 gX7_feed (hC1.1.1 61 _ rfl) rfl (by decide) rfl rfl (Nat.le_of_ble_eq_true rfl) (y_feed (d := 0) hC1.1 hM1.2.2.1 (qx (i + 1))) (by omega) (by omega) (by omega) ?_
  rintro v2 sh2 I2 R2 L2 ⟨rfl, rfl, rfl, rfl, hK2, hF2, hG2⟩
  obtain ⟨hM2, hf2⟩ := hM1.feed hK2 hF2 hG2
  have hC2 := hC1.mv hf2
  refine xw_icmp_eq (q := 333) (t := 1026) rfl rfl dL_law_330 (fun _ => ?_) (fun h => absurd rfl h)
  exact xw_less (by omega) (by omega) (KK _ _ _ _ ⟨_, _, _, _, _, _, _, _, _, _, hC2, hM2, hW⟩)
theorem law_text (hN : qN ≤ 3072) (hi : i + 6 ≤ qN) (hJ : JB sh I R) (KK : ∀ (sh : XSh) (I : XI) (R : XRf) (L : XL), JB sh I R → XW E qb qN qx kc ks 1026 (LLs qb i) [] sh I R L) : XW E qb qN qx (kc + 3) (ks + 170) 335 (LLs qb i) [] sh I R L := by
  obtain ⟨n, c, dd, u, im, sg, tl, tp, tc, tx, hC, hM, hW⟩ := hJ
  refine xw_aload_n (q := 336) rfl dL_law_335 rfl rfl ?_
  refine xw_callV (z := mX6_text) (kc' := kc) (ks' := ks) (as := []) (q := 339) rfl dL_law_336 l_L_36 gX6_text (hC.1.1 0 _ rfl) rfl (by decide) rfl rfl (Nat.le_of_ble_eq_true rfl) (x_text (d := 0) hC.1 hC.2.2.2.1 hC.2.2.2.2.2.1 ) (by omega) (by omega) (by omega) ?_
  intro v1 sh1 I1 R1 L1 hQ1
  obtain ⟨hC1, hf1⟩ := hC.text hQ1
  obtain ⟨rfl, rfl, -⟩ := hQ1
  have hM1 := hM.mv hf1
  refine xw_aload_n (q := 340) rfl dL_law_339 rfl rfl ?_
  refine xw_callV (z := mX7_text) (kc' := kc) (ks' := ks) (as := []) (q := 343) rfl dL_law_340 l_L_40 gX7_text (hC1.1.1 61 _ rfl) rfl (by decide) rfl rfl (Nat.le_of_ble_eq_true rfl) (m_text (d := 0) hC1.1 hM1.2.2.1 hM1.2.2.2.2 ) (by omega) (by omega) (by omega) ?_
  intro v2 sh2 I2 R2 L2 hQ2
  obtain ⟨hM2, hf2⟩ := hM1.text hQ2
  obtain ⟨rfl, rfl, rfl, -⟩ := hQ2
  have hC2 := hC1.mv hf2
  refine xw_icmp_eq (q := 346) (t := 1026) rfl rfl dL_law_343 (fun _ => ?_) (fun h => absurd rfl h)
  exact xw_less (by omega) (by omega) (KK _ _ _ _ ⟨_, _, _, _, _, _, _, _, _, _, hC2, hM2, hW.text⟩)
theorem law_force (hN : qN ≤ 3072) (hi : i + 6 ≤ qN) (hJ : JB sh I R) (KK : ∀ (sh : XSh) (I : XI) (R : XRf) (L : XL), JB sh I R → XW E qb qN qx kc ks 1026 (LLs qb i) [] sh I R L) : XW E qb qN qx (kc + 3) (ks + 170) 348 (LLs qb i) [] sh I R L := by
  obtain ⟨n, c, dd, u, im, sg, tl, tp, tc, tx, hC, hM, hW⟩ := hJ
  refine xw_aload_n (q := 349) rfl dL_law_348 rfl rfl ?_
  refine xw_arg (i := i) (k := 1) (q := 354) dL_law_349 dL_law_350 dL_law_351 dL_law_352 dL_law_353 rfl rfl rfl (by omega) hN rfl ?_
  refine xw_callV (z := mX6_force) (kc' := kc + 3) (ks' := ks + 170) (as := [.int (qx (i + 1))]) (q := 357) rfl dL_law_354 l_L_41 gX6_force (hC.1.1 0 _ rfl) rfl (by decide) rfl rfl (Nat.le_of_ble_eq_true rfl) (x_force (d := 0) hC.1 hC.2.1 hC.2.2.2.2.2.1.1 hC.2.2.2.2.2.1.2.1 (qx (i + 1))) (by omega) (by omega) (by omega) ?_
  rintro v1 sh1 I1 R1 L1 ⟨rfl, rfl, rfl, rfl, hK1, hF1⟩
  obtain ⟨hC1, hf1⟩ := hC.fxc hK1 hF1
  have hM1 := hM.mv hf1
  refine xw_aload_n (q := 358) rfl dL_law_357 rfl rfl ?_
  refine xw_arg (i := i) (k := 1) (q := 363) dL_law_358 dL_law_359 dL_law_360 dL_law_361 dL_law_362 rfl rfl rfl (by omega) hN rfl ?_
  refine xw_callV (z := mX7_force) (kc' := kc + 3) (ks' := ks + 170) (as := [.int (qx (i + 1))]) (q := 366) rfl dL_law_363 l_L_44 gX7_force (hC1.1.1 61 _ rfl) rfl (by decide) rfl rfl (Nat.le_of_ble_eq_true rfl) (y_force (d := 0) hC1.1 hM1.1 hM1.2.2.2.2.1 hM1.2.2.2.2.2.1 (qx (i + 1))) (by omega) (by omega) (by omega) ?_
  rintro v2 sh2 I2 R2 L2 ⟨rfl, rfl, rfl, rfl, hK2, hF2⟩
  obtain ⟨hM2, hf2⟩ := hM1.fmr hK2 hF2 (by omega)
  have hC2 := hC1.mv hf2
  refine xw_icmp_eq (q := 369) (t := 1026) rfl rfl dL_law_366 (fun _ => ?_) (fun h => absurd rfl h)
  exact xw_less (by omega) (by omega) (KK _ _ _ _ ⟨_, _, _, _, _, _, _, _, _, _, hC2, hM2, hW.force hC.2.2.2.2.2.1.2.1 _⟩)
theorem law_ride (hN : qN ≤ 3072) (hi : i + 6 ≤ qN) (hJ : JB sh I R) (KK : ∀ (sh : XSh) (I : XI) (R : XRf) (L : XL), JB sh I R → XW E qb qN qx kc ks 1026 (LLs qb i) [] sh I R L) : XW E qb qN qx (kc + 3) (ks + 170) 371 (LLs qb i) [] sh I R L := by
  obtain ⟨n, c, dd, u, im, sg, tl, tp, tc, tx, hC, hM, hW⟩ := hJ
  refine xw_aload_n (q := 372) rfl dL_law_371 rfl rfl ?_
  refine xw_arg (i := i) (k := 1) (q := 377) dL_law_372 dL_law_373 dL_law_374 dL_law_375 dL_law_376 rfl rfl rfl (by omega) hN rfl ?_
  refine xw_callV (z := mX6_ride) (kc' := kc + 3) (ks' := ks + 170) (as := [.int (qx (i + 1))]) (q := 380) rfl dL_law_377 l_L_45 gX6_ride (hC.1.1 0 _ rfl) rfl (by decide) rfl rfl (Nat.le_of_ble_eq_true rfl) (x_ride (d := 0) hC.1 hC.2.1 hC.2.2.2.2.2.1 hW.1 (qx (i + 1))) (by omega) (by omega) (by omega) ?_
  rintro v1 sh1 I1 R1 L1 ⟨rfl, rfl, hR1, rfl, hF1⟩
  obtain ⟨hC1, hf1⟩ := hC.ft hF1 hR1
  have hM1 := hM.mv hf1
  refine xw_aload_n (q := 381) rfl dL_law_380 rfl rfl ?_
  refine xw_arg (i := i) (k := 1) (q := 386) dL_law_381 dL_law_382 dL_law_383 dL_law_384 dL_law_385 rfl rfl rfl (by omega) hN rfl ?_
  refine xw_callV (z := mX7_ride) (kc' := kc + 3) (ks' := ks + 170) (as := [.int (qx (i + 1))]) (q := 389) rfl dL_law_386 l_L_48 gX7_ride (hC1.1.1 61 _ rfl) rfl (by decide) rfl rfl (Nat.le_of_ble_eq_true rfl) (m_ride (d := 0) hC1.1 hM1.1 hM1.2.2.2.2 hW.1 (qx (i + 1))) (by omega) (by omega) (by omega) ?_
  rintro v2 sh2 I2 R2 L2 ⟨rfl, rfl, rfl, hF2, hL2⟩
  obtain ⟨hM2, hf2⟩ := hM1.fmq hF2
  have hC2 := hC1.mv hf2
  refine xw_icmp_eq (q := 392) (t := 1026) rfl rfl dL_law_389 (fun _ => ?_) (fun h => absurd rfl h)
  exact xw_less (by omega) (by omega) (KK _ _ _ _ ⟨_, _, _, _, _, _, _, _, _, _, hC2, hM2, hW⟩)
theorem law_floor (hN : qN ≤ 3072) (hi : i + 6 ≤ qN) (hJ : JB sh I R) (KK : ∀ (sh : XSh) (I : XI) (R : XRf) (L : XL), JB sh I R → XW E qb qN qx kc ks 1026 (LLs qb i) [] sh I R L) : XW E qb qN qx (kc + 3) (ks + 170) 394 (LLs qb i) [] sh I R L := by
  obtain ⟨n, c, dd, u, im, sg, tl, tp, tc, tx, hC, hM, hW⟩ := hJ
  refine xw_aload_n (q := 395) rfl dL_law_394 rfl rfl ?_
  refine xw_arg (i := i) (k := 1) (q := 400) dL_law_395 dL_law_396 dL_law_397 dL_law_398 dL_law_399 rfl rfl rfl (by omega) hN rfl ?_
  refine xw_arg (i := i) (k := 2) (q := 405) dL_law_400 dL_law_401 dL_law_402 dL_law_403 dL_law_404 rfl rfl rfl (by omega) hN rfl ?_
  refine xw_callV (z := mX6_floor) (kc' := kc + 3) (ks' := ks + 170) (as := [.int (qx (i + 1)), .int (qx (i + 2))]) (q := 408) rfl dL_law_405 l_L_49 gX6_floor (hC.1.1 0 _ rfl) rfl (by decide) rfl rfl (Nat.le_of_ble_eq_true rfl) (x_floor (d := 0) hC.1 hC.2.1 hC.2.2.2.2.2.1 hW.1 (qx (i + 1)) (qx (i + 2))) (by omega) (by omega) (by omega) ?_
  rintro v1 sh1 I1 R1 L1 ⟨rfl, rfl, hR1, rfl, hF1⟩
  obtain ⟨hC1, hf1⟩ := hC.ft hF1 hR1
  have hM1 := hM.mv hf1
  refine xw_aload_n (q := 409) rfl dL_law_408 rfl rfl ?_
  refine xw_arg (i := i) (k := 1) (q := 414) dL_law_409 dL_law_410 dL_law_411 dL_law_412 dL_law_413 rfl rfl rfl (by omega) hN rfl ?_
  refine xw_arg (i := i) (k := 2) (q := 419) dL_law_414 dL_law_415 dL_law_416 dL_law_417 dL_law_418 rfl rfl rfl (by omega) hN rfl ?_
  refine xw_callV (z := mX7_floor) (kc' := kc + 3) (ks' := ks + 170) (as := [.int (qx (i + 1)), .int (qx (i + 2))]) (q := 422) rfl dL_law_419 l_L_52 gX7_floor (hC1.1.1 61 _ rfl) rfl (by decide) rfl rfl (Nat.le_of_ble_eq_true rfl) (m_floor (d := 0) hC1.1 hM1.1 hM1.2.2.2.2 hW.1 (qx (i + 1)) (qx (i + 2))) (by omega) (by omega) (by omega) ?_
  rintro v2 sh2 I2 R2 L2 ⟨rfl, rfl, rfl, hF2, hL2⟩
  obtain ⟨hM2, hf2⟩ := hM1.fmq hF2
  have hC2 := hC1.mv hf2
  refine xw_icmp_eq (q := 425) (t := 1026) rfl rfl dL_law_422 (fun _ => ?_) (fun h => absurd rfl h)
  exact xw_less (by omega) (by omega) (KK _ _ _ _ ⟨_, _, _, _, _, _, _, _, _, _, hC2, hM2, hW⟩)
theorem law_stand (hN : qN ≤ 3072) (hi : i + 6 ≤ qN) (hJ : JB sh I R) (KK : ∀ (sh : XSh) (I : XI) (R : XRf) (L : XL), JB sh I R → XW E qb qN qx kc ks 1026 (LLs qb i) [] sh I R L) : XW E qb qN qx (kc + 3) (ks + 170) 427 (LLs qb i) [] sh I R L := by
  obtain ⟨n, c, dd, u, im, sg, tl, tp, tc, tx, hC0, hM0, hW0⟩ := hJ
  have hC := hC0.nc
  have hM := hM0.nc
  have hW := hW0.nc
  refine xw_aload_n (q := 428) rfl dL_law_427 rfl rfl ?_
  refine xw_arg (i := i) (k := 1) (q := 433) dL_law_428 dL_law_429 dL_law_430 dL_law_431 dL_law_432 rfl rfl rfl (by omega) hN rfl ?_
  refine xw_callV (z := mX6_stand) (kc' := kc + 3) (ks' := ks + 170) (as := [.int (qx (i + 1))]) (q := 436) rfl dL_law_433 l_L_53 gX6_stand (hC.1.1 0 _ rfl) rfl (by decide) rfl rfl (Nat.le_of_ble_eq_true rfl) (x_stand (d := 0) hC.1 hC.2.1 hC.2.2.2.2.2.1 hW.1 nrm_nc hC.2.2.2.2.2.2 (qx (i + 1))) (by omega) (by omega) (by omega) ?_
  rintro v1 sh1 I1 R1 L1 ⟨rfl, rfl, hR1, rfl, hK1, hF1⟩
  obtain ⟨hC1, hf1⟩ := hC.f42 hK1 hF1 hR1
  have hM1 := hM.mv hf1
  refine xw_aload_n (q := 437) rfl dL_law_436 rfl rfl ?_
  refine xw_arg (i := i) (k := 1) (q := 442) dL_law_437 dL_law_438 dL_law_439 dL_law_440 dL_law_441 rfl rfl rfl (by omega) hN rfl ?_
  refine xw_callV (z := mX7_stand) (kc' := kc + 3) (ks' := ks + 170) (as := [.int (qx (i + 1))]) (q := 445) rfl dL_law_442 l_L_56 gX7_stand (hC1.1.1 61 _ rfl) rfl (by decide) rfl rfl (Nat.le_of_ble_eq_true rfl) (m_stand (d := 0) hC1.1 hM1.1 hM1.2.2.2.2 hW.1 (qx (i + 1))) (by omega) (by omega) (by omega) ?_
  rintro v2 sh2 I2 R2 L2 ⟨rfl, rfl, rfl, hF2, hL2⟩
  obtain ⟨hM2, hf2⟩ := hM1.fmq hF2
  have hC2 := hC1.mv hf2
  refine xw_icmp_eq (q := 448) (t := 1026) rfl rfl dL_law_445 (fun _ => ?_) (fun h => absurd rfl h)
  exact xw_less (by omega) (by omega) (KK _ _ _ _ ⟨_, _, _, _, _, _, _, _, _, _, hC2, hM2, hW⟩)
theorem law_one (hN : qN ≤ 3072) (hi : i + 6 ≤ qN) (hJ : JB sh I R) (KK : ∀ (sh : XSh) (I : XI) (R : XRf) (L : XL), JB sh I R → XW E qb qN qx kc ks 1026 (LLs qb i) [] sh I R L) : XW E qb qN qx (kc + 3) (ks + 170) 450 (LLs qb i) [] sh I R L := by
  obtain ⟨n, c, dd, u, im, sg, tl, tp, tc, tx, hC, hM, hW⟩ := hJ
  refine xw_aload_n (q := 451) rfl dL_law_450 rfl rfl ?_
  refine xw_arg (i := i) (k := 1) (q := 456) dL_law_451 dL_law_452 dL_law_453 dL_law_454 dL_law_455 rfl rfl rfl (by omega) hN rfl ?_
  refine xw_arg (i := i) (k := 2) (q := 461) dL_law_456 dL_law_457 dL_law_458 dL_law_459 dL_law_460 rfl rfl rfl (by omega) hN rfl ?_
  refine xw_callV (z := mX6_one) (kc' := kc + 3) (ks' := ks + 170) (as := [.int (qx (i + 1)), .int (qx (i + 2))]) (q := 464) rfl dL_law_461 l_L_57 gX6_one (hC.1.1 0 _ rfl) rfl (by decide) rfl rfl (Nat.le_of_ble_eq_true rfl) (x_one (d := 0) hC.1 hC.2.1 hC.2.2.2.2.2.1 hW.1 (qx (i + 1)) (qx (i + 2))) (by omega) (by omega) (by omega) ?_
  rintro v1 sh1 I1 R1 L1 ⟨rfl, rfl, hR1, rfl, hF1⟩
  obtain ⟨hC1, hf1⟩ := hC.ft hF1 hR1
  have hM1 := hM.mv hf1
  refine xw_aload_n (q := 465) rfl dL_law_464 rfl rfl ?_
  refine xw_arg (i := i) (k := 1) (q := 470) dL_law_465 dL_law_466 dL_law_467 dL_law_468 dL_law_469 rfl rfl rfl (by omega) hN rfl ?_
  refine xw_arg (i := i) (k := 2) (q := 475) dL_law_470 dL_law_471 dL_law_472 dL_law_473 dL_law_474 rfl rfl rfl (by omega) hN rfl ?_
  refine xw_callV (z := mX7_one) (kc' := kc + 3) (ks' := ks + 170) (as := [.int (qx (i + 1)), .int (qx (i + 2))]) (q := 478) rfl dL_law_475 l_L_60 gX7_one (hC1.1.1 61 _ rfl) rfl (by decide) rfl rfl (Nat.le_of_ble_eq_true rfl) (m_one (d := 0) hC1.1 hM1.1 hM1.2.2.2.2 hW.1 (qx (i + 1)) (qx (i + 2))) (by omega) (by omega) (by omega) ?_
  rintro v2 sh2 I2 R2 L2 ⟨rfl, rfl, rfl, hF2, hL2⟩
  obtain ⟨hM2, hf2⟩ := hM1.fmq hF2
  have hC2 := hC1.mv hf2
  refine xw_icmp_eq (q := 481) (t := 1026) rfl rfl dL_law_478 (fun _ => ?_) (fun h => absurd rfl h)
  exact xw_less (by omega) (by omega) (KK _ _ _ _ ⟨_, _, _, _, _, _, _, _, _, _, hC2, hM2, hW⟩)
theorem law_change (hN : qN ≤ 3072) (hi : i + 6 ≤ qN) (hJ : JB sh I R) (KK : ∀ (sh : XSh) (I : XI) (R : XRf) (L : XL), JB sh I R → XW E qb qN qx kc ks 1026 (LLs qb i) [] sh I R L) : XW E qb qN qx (kc + 3) (ks + 170) 483 (LLs qb i) [] sh I R L := by
  obtain ⟨n, c, dd, u, im, sg, tl, tp, tc, tx, hC, hM, hW⟩ := hJ
  refine xw_aload_n (q := 484) rfl dL_law_483 rfl rfl ?_
  refine xw_arg (i := i) (k := 1) (q := 489) dL_law_484 dL_law_485 dL_law_486 dL_law_487 dL_law_488 rfl rfl rfl (by omega) hN rfl ?_
  refine xw_callV (z := mX6_change) (kc' := kc + 3) (ks' := ks + 170) (as := [.int (qx (i + 1))]) (q := 492) rfl dL_law_489 l_L_61 gX6_change (hC.1.1 0 _ rfl) rfl (by decide) rfl rfl (Nat.le_of_ble_eq_true rfl) (x_change (d := 0) hC.1 hC.2.1 hC.2.2.2.2.2.1 hW.1 (qx (i + 1))) (by omega) (by omega) (by omega) ?_
  rintro v1 sh1 I1 R1 L1 ⟨rfl, rfl, hR1, rfl, hF1⟩
  obtain ⟨hC1, hf1⟩ := hC.ft hF1 hR1
  have hM1 := hM.mv hf1
  refine xw_aload_n (q := 493) rfl dL_law_492 rfl rfl ?_
  refine xw_arg (i := i) (k := 1) (q := 498) dL_law_493 dL_law_494 dL_law_495 dL_law_496 dL_law_497 rfl rfl rfl (by omega) hN rfl ?_
  refine xw_callV (z := mX7_change) (kc' := kc + 3) (ks' := ks + 170) (as := [.int (qx (i + 1))]) (q := 501) rfl dL_law_498 l_L_64 gX7_change (hC1.1.1 61 _ rfl) rfl (by decide) rfl rfl (Nat.le_of_ble_eq_true rfl) (m_change (d := 0) hC1.1 hM1.1 hM1.2.2.2.2 hW.1 (qx (i + 1))) (by omega) (by omega) (by omega) ?_
  rintro v2 sh2 I2 R2 L2 ⟨rfl, rfl, rfl, hF2, hL2⟩
  obtain ⟨hM2, hf2⟩ := hM1.fmq hF2
  have hC2 := hC1.mv hf2
  refine xw_icmp_eq (q := 504) (t := 1026) rfl rfl dL_law_501 (fun _ => ?_) (fun h => absurd rfl h)
  exact xw_less (by omega) (by omega) (KK _ _ _ _ ⟨_, _, _, _, _, _, _, _, _, _, hC2, hM2, hW⟩)
theorem law_second (hN : qN ≤ 3072) (hi : i + 6 ≤ qN) (hJ : JB sh I R) (KK : ∀ (sh : XSh) (I : XI) (R : XRf) (L : XL), JB sh I R → XW E qb qN qx kc ks 1026 (LLs qb i) [] sh I R L) : XW E qb qN qx (kc + 3) (ks + 170) 506 (LLs qb i) [] sh I R L := by
  obtain ⟨n, c, dd, u, im, sg, tl, tp, tc, tx, hC, hM, hW⟩ := hJ
  refine xw_aload_n (q := 507) rfl dL_law_506 rfl rfl ?_
  refine xw_arg (i := i) (k := 1) (q := 512) dL_law_507 dL_law_508 dL_law_509 dL_law_510 dL_law_511 rfl rfl rfl (by omega) hN rfl ?_
  refine xw_callV (z := mX6_second) (kc' := kc + 3) (ks' := ks + 170) (as := [.int (qx (i + 1))]) (q := 515) rfl dL_law_512 l_L_65 gX6_second (hC.1.1 0 _ rfl) rfl (by decide) rfl rfl (Nat.le_of_ble_eq_true rfl) (x_second (d := 0) hC.1 hC.2.1 hC.2.2.2.2.2.1 hW.1 (qx (i + 1))) (by omega) (by omega) (by omega) ?_
  rintro v1 sh1 I1 R1 L1 ⟨rfl, rfl, hR1, rfl, hF1⟩
  obtain ⟨hC1, hf1⟩ := hC.ft hF1 hR1
  have hM1 := hM.mv hf1
  refine xw_aload_n (q := 516) rfl dL_law_515 rfl rfl ?_
  refine xw_arg (i := i) (k := 1) (q := 521) dL_law_516 dL_law_517 dL_law_518 dL_law_519 dL_law_520 rfl rfl rfl (by omega) hN rfl ?_
  refine xw_callV (z := mX7_second) (kc' := kc + 3) (ks' := ks + 170) (as := [.int (qx (i + 1))]) (q := 524) rfl dL_law_521 l_L_68 gX7_second (hC1.1.1 61 _ rfl) rfl (by decide) rfl rfl (Nat.le_of_ble_eq_true rfl) (m_second (d := 0) hC1.1 hM1.1 hM1.2.2.2.2 hW.1 (qx (i + 1))) (by omega) (by omega) (by omega) ?_
  rintro v2 sh2 I2 R2 L2 ⟨rfl, rfl, rfl, hF2, hL2⟩
  obtain ⟨hM2, hf2⟩ := hM1.fmq hF2
  have hC2 := hC1.mv hf2
  refine xw_icmp_eq (q := 527) (t := 1026) rfl rfl dL_law_524 (fun _ => ?_) (fun h => absurd rfl h)
  exact xw_less (by omega) (by omega) (KK _ _ _ _ ⟨_, _, _, _, _, _, _, _, _, _, hC2, hM2, hW⟩)
theorem law_stands (hN : qN ≤ 3072) (hi : i + 6 ≤ qN) (hJ : JB sh I R) (KK : ∀ (sh : XSh) (I : XI) (R : XRf) (L : XL), JB sh I R → XW E qb qN qx kc ks 1026 (LLs qb i) [] sh I R L) : XW E qb qN qx (kc + 3) (ks + 170) 529 (LLs qb i) [] sh I R L := by
  obtain ⟨n, c, dd, u, im, sg, tl, tp, tc, tx, hC0, hM0, hW0⟩ := hJ
  have hC := hC0.nc
  have hM := hM0.nc
  have hW := hW0.nc
  refine xw_aload_n (q := 530) rfl dL_law_529 rfl rfl ?_
  refine xw_callV (z := mX6_stands) (kc' := kc + 3) (ks' := ks + 170) (as := []) (q := 533) rfl dL_law_530 l_L_69 gX6_stands (hC.1.1 0 _ rfl) rfl (by decide) rfl rfl (Nat.le_of_ble_eq_true rfl) (x_stands (d := 0) hC.1 hC.2.1 hC.2.2.2.2.2.1 hW.1 nrm_nc hC.2.2.2.2.2.2 ) (by omega) (by omega) (by omega) ?_
  rintro v1 sh1 I1 R1 L1 ⟨rfl, rfl, hR1, rfl, hK1, hH1, hF1⟩
  obtain ⟨hC1, hf1⟩ := hC.stands hK1 hH1 hF1 hR1
  have hM1 := hM.mv hf1
  refine xw_aload_n (q := 534) rfl dL_law_533 rfl rfl ?_
  refine xw_callV (z := mX7_stands) (kc' := kc + 3) (ks' := ks + 170) (as := []) (q := 537) rfl dL_law_534 l_L_72 gX7_stands (hC1.1.1 61 _ rfl) rfl (by decide) rfl rfl (Nat.le_of_ble_eq_true rfl) (m_stands (d := 0) hC1.1 hM1.1 hM1.2.2.2.2 hW.1 ) (by omega) (by omega) (by omega) ?_
  rintro v2 sh2 I2 R2 L2 ⟨rfl, rfl, rfl, hL2, hF2, hK2⟩
  obtain ⟨hM2, hf2⟩ := hM1.fmf hK2 hF2
  have hC2 := hC1.mv hf2
  refine xw_icmp_eq (q := 540) (t := 1026) rfl rfl dL_law_537 (fun _ => ?_) (fun h => absurd rfl h)
  exact xw_less (by omega) (by omega) (KK _ _ _ _ ⟨_, _, _, _, _, _, _, _, _, _, hC2, hM2, hW.stands _⟩)
theorem law_mean (hN : qN ≤ 3072) (hi : i + 6 ≤ qN) (hJ : JB sh I R) (KK : ∀ (sh : XSh) (I : XI) (R : XRf) (L : XL), JB sh I R → XW E qb qN qx kc ks 1026 (LLs qb i) [] sh I R L) : XW E qb qN qx (kc + 3) (ks + 170) 542 (LLs qb i) [] sh I R L := by
  obtain ⟨n, c, dd, u, im, sg, tl, tp, tc, tx, hC, hM, hW⟩ := hJ
  refine xw_aload_n (q := 543) rfl dL_law_542 rfl rfl ?_
  refine xw_arg (i := i) (k := 1) (q := 548) dL_law_543 dL_law_544 dL_law_545 dL_law_546 dL_law_547 rfl rfl rfl (by omega) hN rfl ?_
  refine xw_arg (i := i) (k := 2) (q := 553) dL_law_548 dL_law_549 dL_law_550 dL_law_551 dL_law_552 rfl rfl rfl (by omega) hN rfl ?_
  refine xw_callV (z := mX6_mean) (kc' := kc + 3) (ks' := ks + 170) (as := [.int (qx (i + 1)), .int (qx (i + 2))]) (q := 556) rfl dL_law_553 l_L_73 gX6_mean (hC.1.1 0 _ rfl) rfl (by decide) rfl rfl (Nat.le_of_ble_eq_true rfl) (x_mean (d := 0) hC.1 hC.2.1 hC.2.2.2.2.2.1 hW.1 (qx (i + 1)) (qx (i + 2))) (by omega) (by omega) (by omega) ?_
  rintro v1 sh1 I1 R1 L1 ⟨rfl, rfl, hR1, rfl, hF1⟩
  obtain ⟨hC1, hf1⟩ := hC.ft hF1 hR1
  have hM1 := hM.mv hf1
  refine xw_aload_n (q := 557) rfl dL_law_556 rfl rfl ?_
  refine xw_arg (i := i) (k := 1) (q := 562) dL_law_557 dL_law_558 dL_law_559 dL_law_560 dL_law_561 rfl rfl rfl (by omega) hN rfl ?_
  refine xw_arg (i := i) (k := 2) (q := 567) dL_law_562 dL_law_563 dL_law_564 dL_law_565 dL_law_566 rfl rfl rfl (by omega) hN rfl ?_
  refine xw_callV (z := mX7_mean) (kc' := kc + 3) (ks' := ks + 170) (as := [.int (qx (i + 1)), .int (qx (i + 2))]) (q := 570) rfl dL_law_567 l_L_77 gX7_mean (hC1.1.1 61 _ rfl) rfl (by decide) rfl rfl (Nat.le_of_ble_eq_true rfl) (m_mean (d := 0) hC1.1 hM1.1 hM1.2.2.2.2 hW.1 (qx (i + 1)) (qx (i + 2))) (by omega) (by omega) (by omega) ?_
  rintro v2 sh2 I2 R2 L2 ⟨rfl, rfl, rfl, hF2, hL2⟩
  obtain ⟨hM2, hf2⟩ := hM1.fmq hF2
  have hC2 := hC1.mv hf2
  refine xw_lcmp (q := 571) rfl dL_law_570 ?_
  refine xw_if_eq (q := 574) (t := 1026) rfl rfl dL_law_571 (fun _ => ?_) (fun h => absurd (lg_self _) h)
  exact xw_less (by omega) (by omega) (KK _ _ _ _ ⟨_, _, _, _, _, _, _, _, _, _, hC2, hM2, hW⟩)
theorem law_landings (hN : qN ≤ 3072) (hi : i + 6 ≤ qN) (hJ : JB sh I R) (KK : ∀ (sh : XSh) (I : XI) (R : XRf) (L : XL), JB sh I R → XW E qb qN qx kc ks 1026 (LLs qb i) [] sh I R L) : XW E qb qN qx (kc + 3) (ks + 170) 576 (LLs qb i) [] sh I R L := by
  obtain ⟨n, c, dd, u, im, sg, tl, tp, tc, tx, hC, hM, hW⟩ := hJ
  refine xw_aload_n (q := 577) rfl dL_law_576 rfl rfl ?_
  refine xw_arg (i := i) (k := 1) (q := 582) dL_law_577 dL_law_578 dL_law_579 dL_law_580 dL_law_581 rfl rfl rfl (by omega) hN rfl ?_
  refine xw_callV (z := mX6_landings) (kc' := kc + 3) (ks' := ks + 170) (as := [.int (qx (i + 1))]) (q := 585) rfl dL_law_582 l_L_78 gX6_landings (hC.1.1 0 _ rfl) rfl (by decide) rfl rfl (Nat.le_of_ble_eq_true rfl) (x_landings (d := 0) hC.1 hC.2.1 hC.2.2.2.2.2.1 hW.1 hC.2.2.2.2.1 (qx (i + 1))) (by omega) (by omega) (by omega) ?_
  rintro v1 sh1 I1 R1 L1 ⟨rfl, rfl, hR1, rfl, hF1⟩
  obtain ⟨hC1, hf1⟩ := hC.ft hF1 hR1
  have hM1 := hM.mv hf1
  refine xw_aload_n (q := 586) rfl dL_law_585 rfl rfl ?_
  refine xw_arg (i := i) (k := 1) (q := 591) dL_law_586 dL_law_587 dL_law_588 dL_law_589 dL_law_590 rfl rfl rfl (by omega) hN rfl ?_
  refine xw_callV (z := mX7_landings) (kc' := kc + 3) (ks' := ks + 170) (as := [.int (qx (i + 1))]) (q := 594) rfl dL_law_591 l_L_81 gX7_landings (hC1.1.1 61 _ rfl) rfl (by decide) rfl rfl (Nat.le_of_ble_eq_true rfl) (m_landings (d := 0) hC1.1 hM1.1 hM1.2.2.2.1 (qx (i + 1))) (by omega) (by omega) (by omega) ?_
  rintro v2 sh2 I2 R2 L2 ⟨rfl, rfl, rfl, hF2, hL2⟩
  obtain ⟨hM2, hf2⟩ := hM1.fmq hF2
  have hC2 := hC1.mv hf2
  refine xw_icmp_eq (q := 597) (t := 1026) rfl rfl dL_law_594 (fun _ => ?_) (fun h => absurd rfl h)
  exact xw_less (by omega) (by omega) (KK _ _ _ _ ⟨_, _, _, _, _, _, _, _, _, _, hC2, hM2, hW⟩)
theorem law_seen (hN : qN ≤ 3072) (hi : i + 6 ≤ qN) (hJ : JB sh I R) (KK : ∀ (sh : XSh) (I : XI) (R : XRf) (L : XL), JB sh I R → XW E qb qN qx kc ks 1026 (LLs qb i) [] sh I R L) : XW E qb qN qx (kc + 3) (ks + 170) 599 (LLs qb i) [] sh I R L := by
  obtain ⟨n, c, dd, u, im, sg, tl, tp, tc, tx, hC, hM, hW⟩ := hJ
  refine xw_aload_n (q := 600) rfl dL_law_599 rfl rfl ?_
  refine xw_arg (i := i) (k := 1) (q := 605) dL_law_600 dL_law_601 dL_law_602 dL_law_603 dL_law_604 rfl rfl rfl (by omega) hN rfl ?_
  refine xw_arg (i := i) (k := 2) (q := 610) dL_law_605 dL_law_606 dL_law_607 dL_law_608 dL_law_609 rfl rfl rfl (by omega) hN rfl ?_
  refine xw_arg (i := i) (k := 3) (q := 615) dL_law_610 dL_law_611 dL_law_612 dL_law_613 dL_law_614 rfl rfl rfl (by omega) hN rfl ?_
  refine xw_callV (z := mX6_seen) (kc' := kc + 3) (ks' := ks + 170) (as := [.int (qx (i + 1)), .int (qx (i + 2)), .int (qx (i + 3))]) (q := 618) rfl dL_law_615 l_L_82 gX6_seen (hC.1.1 0 _ rfl) rfl (by decide) rfl rfl (Nat.le_of_ble_eq_true rfl) (x_seen (d := 0) hC.1 hC.2.1 hC.2.2.2.2.2.1 hW.1 hC.2.2.2.2.1 (qx (i + 1)) (qx (i + 2)) (qx (i + 3))) (by omega) (by omega) (by omega) ?_
  rintro v1 sh1 I1 R1 L1 ⟨rfl, rfl, hR1, rfl, hF1⟩
  obtain ⟨hC1, hf1⟩ := hC.ft hF1 hR1
  have hM1 := hM.mv hf1
  refine xw_aload_n (q := 619) rfl dL_law_618 rfl rfl ?_
  refine xw_arg (i := i) (k := 1) (q := 624) dL_law_619 dL_law_620 dL_law_621 dL_law_622 dL_law_623 rfl rfl rfl (by omega) hN rfl ?_
  refine xw_arg (i := i) (k := 2) (q := 629) dL_law_624 dL_law_625 dL_law_626 dL_law_627 dL_law_628 rfl rfl rfl (by omega) hN rfl ?_
  refine xw_arg (i := i) (k := 3) (q := 634) dL_law_629 dL_law_630 dL_law_631 dL_law_632 dL_law_633 rfl rfl rfl (by omega) hN rfl ?_
  refine xw_callV (z := mX7_seen) (kc' := kc + 3) (ks' := ks + 170) (as := [.int (qx (i + 1)), .int (qx (i + 2)), .int (qx (i + 3))]) (q := 637) rfl dL_law_634 l_L_85 gX7_seen (hC1.1.1 61 _ rfl) rfl (by decide) rfl rfl (Nat.le_of_ble_eq_true rfl) (m_seen (d := 0) hC1.1 hM1.1 hM1.2.2.2.1 (qx (i + 1)) (qx (i + 2)) (qx (i + 3))) (by omega) (by omega) (by omega) ?_
  rintro v2 sh2 I2 R2 L2 ⟨rfl, rfl, rfl, hF2, hL2⟩
  obtain ⟨hM2, hf2⟩ := hM1.fmq hF2
  have hC2 := hC1.mv hf2
  refine xw_icmp_eq (q := 640) (t := 1026) rfl rfl dL_law_637 (fun _ => ?_) (fun h => absurd rfl h)
  exact xw_less (by omega) (by omega) (KK _ _ _ _ ⟨_, _, _, _, _, _, _, _, _, _, hC2, hM2, hW⟩)
theorem law_film (hN : qN ≤ 3072) (hi : i + 6 ≤ qN) (hJ : JB sh I R) (KK : ∀ (sh : XSh) (I : XI) (R : XRf) (L : XL), JB sh I R → XW E qb qN qx kc ks 1026 (LLs qb i) [] sh I R L) : XW E qb qN qx (kc + 3) (ks + 170) 642 (LLs qb i) [] sh I R L := by
  obtain ⟨n, c, dd, u, im, sg, tl, tp, tc, tx, hC, hM, hW⟩ := hJ
  refine xw_aload_n (q := 643) rfl dL_law_642 rfl rfl ?_
  refine xw_arg (i := i) (k := 1) (q := 648) dL_law_643 dL_law_644 dL_law_645 dL_law_646 dL_law_647 rfl rfl rfl (by omega) hN rfl ?_
  refine xw_arg (i := i) (k := 2) (q := 653) dL_law_648 dL_law_649 dL_law_650 dL_law_651 dL_law_652 rfl rfl rfl (by omega) hN rfl ?_
  refine xw_callV (z := mX6_film) (kc' := kc + 3) (ks' := ks + 170) (as := [.int (qx (i + 1)), .int (qx (i + 2))]) (q := 656) rfl dL_law_653 l_L_86 gX6_film (hC.1.1 0 _ rfl) rfl (by decide) rfl rfl (Nat.le_of_ble_eq_true rfl) (x_film (d := 0) hC.1 hC.2.1 hC.2.2.2.2.2.1 hW.1 hC.2.2.2.2.1 (qx (i + 1)) (qx (i + 2))) (by omega) (by omega) (by omega) ?_
  rintro v1 sh1 I1 R1 L1 ⟨rfl, rfl, hR1, rfl, hK1, hF1⟩
  obtain ⟨hC1, hf1⟩ := hC.fs hK1 hF1 hR1
  have hM1 := hM.mv hf1
  refine xw_aload_n (q := 657) rfl dL_law_656 rfl rfl ?_
  refine xw_arg (i := i) (k := 1) (q := 662) dL_law_657 dL_law_658 dL_law_659 dL_law_660 dL_law_661 rfl rfl rfl (by omega) hN rfl ?_
  refine xw_arg (i := i) (k := 2) (q := 667) dL_law_662 dL_law_663 dL_law_664 dL_law_665 dL_law_666 rfl rfl rfl (by omega) hN rfl ?_
  refine xw_callV (z := mX7_film) (kc' := kc + 3) (ks' := ks + 170) (as := [.int (qx (i + 1)), .int (qx (i + 2))]) (q := 670) rfl dL_law_667 l_L_89 gX7_film (hC1.1.1 61 _ rfl) rfl (by decide) rfl rfl (Nat.le_of_ble_eq_true rfl) (m_film (d := 0) hC1.1 hM1.1 hM1.2.2.2.1 (qx (i + 1)) (qx (i + 2))) (by omega) (by omega) (by omega) ?_
  rintro v2 sh2 I2 R2 L2 ⟨rfl, rfl, rfl, rfl, hK2, hF2⟩
  obtain ⟨hM2, hf2⟩ := hM1.fmm hK2 hF2
  have hC2 := hC1.mv hf2
  refine xw_icmp_eq (q := 673) (t := 1026) rfl rfl dL_law_670 (fun _ => ?_) (fun h => absurd rfl h)
  exact xw_less (by omega) (by omega) (KK _ _ _ _ ⟨_, _, _, _, _, _, _, _, _, _, hC2, hM2, hW⟩)
theorem law_drawn (hN : qN ≤ 3072) (hi : i + 6 ≤ qN) (hJ : JB sh I R) (KK : ∀ (sh : XSh) (I : XI) (R : XRf) (L : XL), JB sh I R → XW E qb qN qx kc ks 1026 (LLs qb i) [] sh I R L) : XW E qb qN qx (kc + 3) (ks + 170) 675 (LLs qb i) [] sh I R L := by
  obtain ⟨n, c, dd, u, im, sg, tl, tp, tc, tx, hC, hM, hW⟩ := hJ
  refine xw_aload_n (q := 676) rfl dL_law_675 rfl rfl ?_
  refine xw_arg (i := i) (k := 1) (q := 681) dL_law_676 dL_law_677 dL_law_678 dL_law_679 dL_law_680 rfl rfl rfl (by omega) hN rfl ?_
  refine xw_callV (z := mX6_drawn) (kc' := kc + 3) (ks' := ks + 170) (as := [.int (qx (i + 1))]) (q := 684) rfl dL_law_681 l_L_90 gX6_drawn (hC.1.1 0 _ rfl) rfl (by decide) rfl rfl (Nat.le_of_ble_eq_true rfl) (x_drawn (d := 0) hC.1 hC.2.1 hC.2.2.2.2.2.1 hW.1 (qx (i + 1))) (by omega) (by omega) (by omega) ?_
  rintro v1 sh1 I1 R1 L1 ⟨rfl, rfl, hR1, rfl, hF1⟩
  obtain ⟨hC1, hf1⟩ := hC.ft hF1 hR1
  have hM1 := hM.mv hf1
  refine xw_aload_n (q := 685) rfl dL_law_684 rfl rfl ?_
  refine xw_arg (i := i) (k := 1) (q := 690) dL_law_685 dL_law_686 dL_law_687 dL_law_688 dL_law_689 rfl rfl rfl (by omega) hN rfl ?_
  refine xw_callV (z := mX7_drawn) (kc' := kc + 3) (ks' := ks + 170) (as := [.int (qx (i + 1))]) (q := 693) rfl dL_law_690 l_L_93 gX7_drawn (hC1.1.1 61 _ rfl) rfl (by decide) rfl rfl (Nat.le_of_ble_eq_true rfl) (m_drawn (d := 0) hC1.1 hM1.1 hM1.2.2.2.2 hW.1 (qx (i + 1))) (by omega) (by omega) (by omega) ?_
  rintro v2 sh2 I2 R2 L2 ⟨rfl, rfl, rfl, hF2, hL2⟩
  obtain ⟨hM2, hf2⟩ := hM1.fmq hF2
  have hC2 := hC1.mv hf2
  refine xw_icmp_eq (q := 696) (t := 1026) rfl rfl dL_law_693 (fun _ => ?_) (fun h => absurd rfl h)
  exact xw_less (by omega) (by omega) (KK _ _ _ _ ⟨_, _, _, _, _, _, _, _, _, _, hC2, hM2, hW⟩)
theorem law_chance (hN : qN ≤ 3072) (hi : i + 6 ≤ qN) (hJ : JB sh I R) (KK : ∀ (sh : XSh) (I : XI) (R : XRf) (L : XL), JB sh I R → XW E qb qN qx kc ks 1026 (LLs qb i) [] sh I R L) : XW E qb qN qx (kc + 3) (ks + 170) 698 (LLs qb i) [] sh I R L := by
  obtain ⟨n, c, dd, u, im, sg, tl, tp, tc, tx, hC, hM, hW⟩ := hJ
  refine xw_aload_n (q := 699) rfl dL_law_698 rfl rfl ?_
  refine xw_arg (i := i) (k := 1) (q := 704) dL_law_699 dL_law_700 dL_law_701 dL_law_702 dL_law_703 rfl rfl rfl (by omega) hN rfl ?_
  refine xw_arg (i := i) (k := 2) (q := 709) dL_law_704 dL_law_705 dL_law_706 dL_law_707 dL_law_708 rfl rfl rfl (by omega) hN rfl ?_
  refine xw_arg (i := i) (k := 3) (q := 714) dL_law_709 dL_law_710 dL_law_711 dL_law_712 dL_law_713 rfl rfl rfl (by omega) hN rfl ?_
  refine xw_callV (z := mX6_chance) (kc' := kc + 3) (ks' := ks + 170) (as := [.int (qx (i + 1)), .int (qx (i + 2)), .int (qx (i + 3))]) (q := 717) rfl dL_law_714 l_L_94 gX6_chance (hC.1.1 0 _ rfl) rfl (by decide) rfl rfl (Nat.le_of_ble_eq_true rfl) (x_chance (d := 0) hC.1 hC.2.1 hC.2.2.2.2.2.1 hW.1 (qx (i + 1)) (qx (i + 2)) (qx (i + 3))) (by omega) (by omega) (by omega) ?_
  rintro v1 sh1 I1 R1 L1 ⟨rfl, rfl, hR1, rfl, hF1⟩
  obtain ⟨hC1, hf1⟩ := hC.ft hF1 hR1
  have hM1 := hM.mv hf1
  refine xw_aload_n (q := 718) rfl dL_law_717 rfl rfl ?_
  refine xw_arg (i := i) (k := 1) (q := 723) dL_law_718 dL_law_719 dL_law_720 dL_law_721 dL_law_722 rfl rfl rfl (by omega) hN rfl ?_
  refine xw_arg (i := i) (k := 2) (q := 728) dL_law_723 dL_law_724 dL_law_725 dL_law_726 dL_law_727 rfl rfl rfl (by omega) hN rfl ?_
  refine xw_arg (i := i) (k := 3) (q := 733) dL_law_728 dL_law_729 dL_law_730 dL_law_731 dL_law_732 rfl rfl rfl (by omega) hN rfl ?_
  refine xw_callV (z := mX7_chance) (kc' := kc + 3) (ks' := ks + 170) (as := [.int (qx (i + 1)), .int (qx (i + 2)), .int (qx (i + 3))]) (q := 736) rfl dL_law_733 l_L_98 gX7_chance (hC1.1.1 61 _ rfl) rfl (by decide) rfl rfl (Nat.le_of_ble_eq_true rfl) (m_chance (d := 0) hC1.1 hM1.1 hM1.2.2.2.2 hW.1 (qx (i + 1)) (qx (i + 2)) (qx (i + 3))) (by omega) (by omega) (by omega) ?_
  rintro v2 sh2 I2 R2 L2 ⟨rfl, rfl, rfl, hF2, hL2⟩
  obtain ⟨hM2, hf2⟩ := hM1.fmq hF2
  have hC2 := hC1.mv hf2
  refine xw_lcmp (q := 737) rfl dL_law_736 ?_
  refine xw_if_eq (q := 740) (t := 1026) rfl rfl dL_law_737 (fun _ => ?_) (fun h => absurd (lg_self _) h)
  exact xw_less (by omega) (by omega) (KK _ _ _ _ ⟨_, _, _, _, _, _, _, _, _, _, hC2, hM2, hW⟩)
theorem law_image (hN : qN ≤ 3072) (hi : i + 6 ≤ qN) (hJ : JB sh I R) (KK : ∀ (sh : XSh) (I : XI) (R : XRf) (L : XL), JB sh I R → XW E qb qN qx kc ks 1026 (LLs qb i) [] sh I R L) : XW E qb qN qx (kc + 3) (ks + 170) 742 (LLs qb i) [] sh I R L := by
  obtain ⟨n, c, dd, u, im, sg, tl, tp, tc, tx, hC, hM, hW⟩ := hJ
  refine xw_aload_n (q := 743) rfl dL_law_742 rfl rfl ?_
  refine xw_callV (z := mX6_image) (kc' := kc + 3) (ks' := ks + 170) (as := []) (q := 746) rfl dL_law_743 l_L_99 gX6_image (hC.1.1 0 _ rfl) rfl (by decide) rfl rfl (Nat.le_of_ble_eq_true rfl) (x_image (d := 0) hC.1 hC.2.1 ) (by omega) (by omega) (by omega) ?_
  rintro v1 sh1 I1 R1 L1 ⟨rfl, rfl, rfl, rfl, hK1, hF1, hG1⟩
  obtain ⟨hC1, hf1⟩ := hC.image hK1 hF1 hG1
  have hM1 := hM.mv hf1
  refine xw_aload_n (q := 747) rfl dL_law_746 rfl rfl ?_
  refine xw_callV (z := mX7_image) (kc' := kc + 3) (ks' := ks + 170) (as := []) (q := 750) rfl dL_law_747 l_L_102 gX7_image (hC1.1.1 61 _ rfl) rfl (by decide) rfl rfl (Nat.le_of_ble_eq_true rfl) (y_image (d := 0) hC1.1 hM1.1 ) (by omega) (by omega) (by omega) ?_
  rintro v2 sh2 I2 R2 L2 ⟨rfl, rfl, rfl, rfl, hK2, hF2, hG2⟩
  obtain ⟨hM2, hf2⟩ := hM1.image hK2 hF2 hG2
  have hC2 := hC1.mv hf2
  refine xw_icmp_eq (q := 753) (t := 1026) rfl rfl dL_law_750 (fun _ => ?_) (fun h => absurd rfl h)
  exact xw_less (by omega) (by omega) (KK _ _ _ _ ⟨_, _, _, _, _, _, _, _, _, _, hC2, hM2, hW.image⟩)
theorem law_back (hN : qN ≤ 3072) (hi : i + 6 ≤ qN) (hJ : JB sh I R) (KK : ∀ (sh : XSh) (I : XI) (R : XRf) (L : XL), JB sh I R → XW E qb qN qx kc ks 1026 (LLs qb i) [] sh I R L) : XW E qb qN qx (kc + 3) (ks + 170) 755 (LLs qb i) [] sh I R L := by
  obtain ⟨n, c, dd, u, im, sg, tl, tp, tc, tx, hC, hM, hW⟩ := hJ
  refine xw_aload_n (q := 756) rfl dL_law_755 rfl rfl ?_
  refine xw_callV (z := mX6_back) (kc' := kc + 3) (ks' := ks + 170) (as := []) (q := 759) rfl dL_law_756 l_L_103 gX6_back (hC.1.1 0 _ rfl) rfl (by decide) rfl rfl (Nat.le_of_ble_eq_true rfl) (x_back (d := 0) hC.1 hC.2.1 im hC.2.2.1 ) (by omega) (by omega) (by omega) ?_
  rintro v1 sh1 I1 R1 L1 ⟨rfl, rfl, rfl, rfl, hK1, hF1⟩
  obtain ⟨hC1, hf1⟩ := hC.fxc hK1 hF1
  have hM1 := hM.mv hf1
  refine xw_aload_n (q := 760) rfl dL_law_759 rfl rfl ?_
  refine xw_callV (z := mX7_back) (kc' := kc + 3) (ks' := ks + 170) (as := []) (q := 763) rfl dL_law_760 l_L_106 gX7_back (hC1.1.1 61 _ rfl) rfl (by decide) rfl rfl (Nat.le_of_ble_eq_true rfl) (y_back (d := 0) hC1.1 hM1.1 im hM1.2.1 hW.2.1 ) (by omega) (by omega) (by omega) ?_
  rintro v2 sh2 I2 R2 L2 ⟨rfl, rfl, rfl, rfl, hK2, hF2, hG2⟩
  obtain ⟨hM2, hf2⟩ := hM1.back hK2 hF2 hG2
  have hC2 := hC1.mv hf2
  refine xw_icmp_eq (q := 766) (t := 1026) rfl rfl dL_law_763 (fun _ => ?_) (fun h => absurd rfl h)
  exact xw_less (by omega) (by omega) (KK _ _ _ _ ⟨_, _, _, _, _, _, _, _, _, _, hC2, hM2, hW.back⟩)
theorem law_count (hN : qN ≤ 3072) (hi : i + 6 ≤ qN) (hJ : JB sh I R) (KK : ∀ (sh : XSh) (I : XI) (R : XRf) (L : XL), JB sh I R → XW E qb qN qx kc ks 1026 (LLs qb i) [] sh I R L) : XW E qb qN qx (kc + 3) (ks + 170) 768 (LLs qb i) [] sh I R L := by
  obtain ⟨n, c, dd, u, im, sg, tl, tp, tc, tx, hC, hM, hW⟩ := hJ
  refine xw_aload_n (q := 769) rfl dL_law_768 rfl rfl ?_
  refine xw_arg (i := i) (k := 1) (q := 774) dL_law_769 dL_law_770 dL_law_771 dL_law_772 dL_law_773 rfl rfl rfl (by omega) hN rfl ?_
  refine xw_callV (z := mX6_count) (kc' := kc + 3) (ks' := ks + 170) (as := [.int (qx (i + 1))]) (q := 777) rfl dL_law_774 l_L_107 gX6_count (hC.1.1 0 _ rfl) rfl (by decide) rfl rfl (Nat.le_of_ble_eq_true rfl) (x_count (d := 0) hC.1 hC.2.1 hC.2.2.2.2.2.1.1 hC.2.2.2.1.1 (qx (i + 1))) (by omega) (by omega) (by omega) ?_
  rintro v1 sh1 I1 R1 L1 ⟨rfl, rfl, rfl, rfl, rfl⟩
  have hC1 := hC
  have hM1 := hM
  refine xw_aload_n (q := 778) rfl dL_law_777 rfl rfl ?_
  refine xw_arg (i := i) (k := 1) (q := 783) dL_law_778 dL_law_779 dL_law_780 dL_law_781 dL_law_782 rfl rfl rfl (by omega) hN rfl ?_
  refine xw_callV (z := mX7_count) (kc' := kc + 3) (ks' := ks + 170) (as := [.int (qx (i + 1))]) (q := 786) rfl dL_law_783 l_L_110 gX7_count (hC1.1.1 61 _ rfl) rfl (by decide) rfl rfl (Nat.le_of_ble_eq_true rfl) (y_count (d := 0) hC1.1 hM1.1 hM1.2.2.2.2.1 hM1.2.2.1.1 (qx (i + 1))) (by omega) (by omega) (by omega) ?_
  rintro v2 sh2 I2 R2 L2 ⟨rfl, rfl, rfl, rfl, rfl⟩
  have hC2 := hC1
  have hM2 := hM1
  refine xw_icmp_eq (q := 789) (t := 1026) rfl rfl dL_law_786 (fun _ => ?_) (fun h => absurd rfl h)
  exact xw_less (by omega) (by omega) (KK _ _ _ _ ⟨_, _, _, _, _, _, _, _, _, _, hC2, hM2, hW⟩)
theorem law_sheet (hN : qN ≤ 3072) (hi : i + 6 ≤ qN) (hJ : JB sh I R) (KK : ∀ (sh : XSh) (I : XI) (R : XRf) (L : XL), JB sh I R → XW E qb qN qx kc ks 1026 (LLs qb i) [] sh I R L) : XW E qb qN qx (kc + 3) (ks + 170) 791 (LLs qb i) [] sh I R L := by
  obtain ⟨n, c, dd, u, im, sg, tl, tp, tc, tx, hC, hM, hW⟩ := hJ
  refine xw_aload_n (q := 792) rfl dL_law_791 rfl rfl ?_
  refine xw_arg (i := i) (k := 1) (q := 797) dL_law_792 dL_law_793 dL_law_794 dL_law_795 dL_law_796 rfl rfl rfl (by omega) hN rfl ?_
  refine xw_arg (i := i) (k := 2) (q := 802) dL_law_797 dL_law_798 dL_law_799 dL_law_800 dL_law_801 rfl rfl rfl (by omega) hN rfl ?_
  refine xw_arg (i := i) (k := 3) (q := 807) dL_law_802 dL_law_803 dL_law_804 dL_law_805 dL_law_806 rfl rfl rfl (by omega) hN rfl ?_
  refine xw_callV (z := mX6_sheet) (kc' := kc + 3) (ks' := ks + 170) (as := [.int (qx (i + 1)), .int (qx (i + 2)), .int (qx (i + 3))]) (q := 810) rfl dL_law_807 l_L_111 gX6_sheet (hC.1.1 0 _ rfl) rfl (by decide) rfl rfl (Nat.le_of_ble_eq_true rfl) (x_sheet (d := 0) hC.1 hC.2.2.2.2.1 (qx (i + 1)) (qx (i + 2)) (qx (i + 3))) (by omega) (by omega) (by omega) ?_
  rintro v1 sh1 I1 R1 L1 ⟨rfl, rfl, rfl, rfl, hK1, hF1⟩
  obtain ⟨hC1, hf1⟩ := hC.fx hK1 hF1
  have hM1 := hM.mv hf1
  refine xw_aload_n (q := 811) rfl dL_law_810 rfl rfl ?_
  refine xw_arg (i := i) (k := 1) (q := 816) dL_law_811 dL_law_812 dL_law_813 dL_law_814 dL_law_815 rfl rfl rfl (by omega) hN rfl ?_
  refine xw_arg (i := i) (k := 2) (q := 821) dL_law_816 dL_law_817 dL_law_818 dL_law_819 dL_law_820 rfl rfl rfl (by omega) hN rfl ?_
  refine xw_arg (i := i) (k := 3) (q := 826) dL_law_821 dL_law_822 dL_law_823 dL_law_824 dL_law_825 rfl rfl rfl (by omega) hN rfl ?_
  refine xw_callV (z := mX7_sheet) (kc' := kc + 3) (ks' := ks + 170) (as := [.int (qx (i + 1)), .int (qx (i + 2)), .int (qx (i + 3))]) (q := 829) rfl dL_law_826 l_L_114 gX7_sheet (hC1.1.1 61 _ rfl) rfl (by decide) rfl rfl (Nat.le_of_ble_eq_true rfl) (y_sheet (d := 0) hC1.1 hM1.2.2.2.1 (qx (i + 1)) (qx (i + 2)) (qx (i + 3))) (by omega) (by omega) (by omega) ?_
  rintro v2 sh2 I2 R2 L2 ⟨rfl, rfl, rfl, rfl, hK2, hF2⟩
  obtain ⟨hM2, hf2⟩ := hM1.fms hK2 hF2
  have hC2 := hC1.mv hf2
  refine xw_icmp_eq (q := 832) (t := 1026) rfl rfl dL_law_829 (fun _ => ?_) (fun h => absurd rfl h)
  exact xw_less (by omega) (by omega) (KK _ _ _ _ ⟨_, _, _, _, _, _, _, _, _, _, hC2, hM2, hW⟩)
theorem law_cell (hN : qN ≤ 3072) (hi : i + 6 ≤ qN) (hJ : JB sh I R) (KK : ∀ (sh : XSh) (I : XI) (R : XRf) (L : XL), JB sh I R → XW E qb qN qx kc ks 1026 (LLs qb i) [] sh I R L) : XW E qb qN qx (kc + 3) (ks + 170) 834 (LLs qb i) [] sh I R L := by
  obtain ⟨n, c, dd, u, im, sg, tl, tp, tc, tx, hC, hM, hW⟩ := hJ
  refine xw_aload_n (q := 835) rfl dL_law_834 rfl rfl ?_
  refine xw_arg (i := i) (k := 1) (q := 840) dL_law_835 dL_law_836 dL_law_837 dL_law_838 dL_law_839 rfl rfl rfl (by omega) hN rfl ?_
  refine xw_arg (i := i) (k := 2) (q := 845) dL_law_840 dL_law_841 dL_law_842 dL_law_843 dL_law_844 rfl rfl rfl (by omega) hN rfl ?_
  refine xw_arg (i := i) (k := 3) (q := 850) dL_law_845 dL_law_846 dL_law_847 dL_law_848 dL_law_849 rfl rfl rfl (by omega) hN rfl ?_
  refine xw_callV (z := mX6_cell) (kc' := kc + 3) (ks' := ks + 170) (as := [.int (qx (i + 1)), .int (qx (i + 2)), .int (qx (i + 3))]) (q := 853) rfl dL_law_850 l_L_115 gX6_cell (hC.1.1 0 _ rfl) rfl (by decide) rfl rfl (Nat.le_of_ble_eq_true rfl) (x_cell (d := 0) hC.1 hC.2.2.2.2.1 (qx (i + 1)) (qx (i + 2)) (qx (i + 3))) (by omega) (by omega) (by omega) ?_
  rintro v1 sh1 I1 R1 L1 ⟨rfl, rfl, rfl, rfl, hK1, hF1⟩
  obtain ⟨hC1, hf1⟩ := hC.fx hK1 hF1
  have hM1 := hM.mv hf1
  refine xw_aload_n (q := 854) rfl dL_law_853 rfl rfl ?_
  refine xw_arg (i := i) (k := 1) (q := 859) dL_law_854 dL_law_855 dL_law_856 dL_law_857 dL_law_858 rfl rfl rfl (by omega) hN rfl ?_
  refine xw_arg (i := i) (k := 2) (q := 864) dL_law_859 dL_law_860 dL_law_861 dL_law_862 dL_law_863 rfl rfl rfl (by omega) hN rfl ?_
  refine xw_arg (i := i) (k := 3) (q := 869) dL_law_864 dL_law_865 dL_law_866 dL_law_867 dL_law_868 rfl rfl rfl (by omega) hN rfl ?_
  refine xw_callV (z := mX7_cell) (kc' := kc + 3) (ks' := ks + 170) (as := [.int (qx (i + 1)), .int (qx (i + 2)), .int (qx (i + 3))]) (q := 872) rfl dL_law_869 l_L_118 gX7_cell (hC1.1.1 61 _ rfl) rfl (by decide) rfl rfl (Nat.le_of_ble_eq_true rfl) (y_cell (d := 0) hC1.1 hM1.2.2.2.1 (qx (i + 1)) (qx (i + 2)) (qx (i + 3))) (by omega) (by omega) (by omega) ?_
  rintro v2 sh2 I2 R2 L2 ⟨rfl, rfl, rfl, rfl, hK2, hF2⟩
  obtain ⟨hM2, hf2⟩ := hM1.fms hK2 hF2
  have hC2 := hC1.mv hf2
  refine xw_icmp_eq (q := 875) (t := 1026) rfl rfl dL_law_872 (fun _ => ?_) (fun h => absurd rfl h)
  exact xw_less (by omega) (by omega) (KK _ _ _ _ ⟨_, _, _, _, _, _, _, _, _, _, hC2, hM2, hW⟩)
theorem law_copy (hN : qN ≤ 3072) (hi : i + 6 ≤ qN) (hJ : JB sh I R) (KK : ∀ (sh : XSh) (I : XI) (R : XRf) (L : XL), JB sh I R → XW E qb qN qx kc ks 1026 (LLs qb i) [] sh I R L) : XW E qb qN qx (kc + 3) (ks + 170) 877 (LLs qb i) [] sh I R L := by
  obtain ⟨n, c, dd, u, im, sg, tl, tp, tc, tx, hC, hM, hW⟩ := hJ
  refine xw_aload_n (q := 878) rfl dL_law_877 rfl rfl ?_
  refine xw_arg (i := i) (k := 1) (q := 883) dL_law_878 dL_law_879 dL_law_880 dL_law_881 dL_law_882 rfl rfl rfl (by omega) hN rfl ?_
  refine xw_arg (i := i) (k := 2) (q := 888) dL_law_883 dL_law_884 dL_law_885 dL_law_886 dL_law_887 rfl rfl rfl (by omega) hN rfl ?_
  refine xw_arg (i := i) (k := 3) (q := 893) dL_law_888 dL_law_889 dL_law_890 dL_law_891 dL_law_892 rfl rfl rfl (by omega) hN rfl ?_
  refine xw_arg (i := i) (k := 4) (q := 898) dL_law_893 dL_law_894 dL_law_895 dL_law_896 dL_law_897 rfl rfl rfl (by omega) hN rfl ?_
  refine xw_arg (i := i) (k := 5) (q := 903) dL_law_898 dL_law_899 dL_law_900 dL_law_901 dL_law_902 rfl rfl rfl (by omega) hN rfl ?_
  refine xw_callV (z := mX6_copy) (kc' := kc + 3) (ks' := ks + 170) (as := [.int (qx (i + 1)), .int (qx (i + 2)), .int (qx (i + 3)), .int (qx (i + 4)), .int (qx (i + 5))]) (q := 906) rfl dL_law_903 l_L_119 gX6_copy (hC.1.1 0 _ rfl) rfl (by decide) rfl rfl (Nat.le_of_ble_eq_true rfl) (x_copy (d := 0) hC.1 hC.2.2.2.2.1 (qx (i + 1)) (qx (i + 2)) (qx (i + 3)) (qx (i + 4)) (qx (i + 5))) (by omega) (by omega) (by omega) ?_
  rintro v1 sh1 I1 R1 L1 ⟨rfl, rfl, rfl, rfl, hK1, hF1⟩
  obtain ⟨hC1, hf1⟩ := hC.fx hK1 hF1
  have hM1 := hM.mv hf1
  refine xw_aload_n (q := 907) rfl dL_law_906 rfl rfl ?_
  refine xw_arg (i := i) (k := 1) (q := 912) dL_law_907 dL_law_908 dL_law_909 dL_law_910 dL_law_911 rfl rfl rfl (by omega) hN rfl ?_
  refine xw_arg (i := i) (k := 2) (q := 917) dL_law_912 dL_law_913 dL_law_914 dL_law_915 dL_law_916 rfl rfl rfl (by omega) hN rfl ?_
  refine xw_arg (i := i) (k := 3) (q := 922) dL_law_917 dL_law_918 dL_law_919 dL_law_920 dL_law_921 rfl rfl rfl (by omega) hN rfl ?_
  refine xw_arg (i := i) (k := 4) (q := 927) dL_law_922 dL_law_923 dL_law_924 dL_law_925 dL_law_926 rfl rfl rfl (by omega) hN rfl ?_
  refine xw_arg (i := i) (k := 5) (q := 932) dL_law_927 dL_law_928 dL_law_929 dL_law_930 dL_law_931 rfl rfl rfl (by omega) hN rfl ?_
  refine xw_callV (z := mX7_copy) (kc' := kc + 3) (ks' := ks + 170) (as := [.int (qx (i + 1)), .int (qx (i + 2)), .int (qx (i + 3)), .int (qx (i + 4)), .int (qx (i + 5))]) (q := 935) rfl dL_law_932 l_L_123 gX7_copy (hC1.1.1 61 _ rfl) rfl (by decide) rfl rfl (Nat.le_of_ble_eq_true rfl) (y_copy (d := 0) hC1.1 hM1.2.2.2.1 (qx (i + 1)) (qx (i + 2)) (qx (i + 3)) (qx (i + 4)) (qx (i + 5))) (by omega) (by omega) (by omega) ?_
  rintro v2 sh2 I2 R2 L2 ⟨rfl, rfl, rfl, rfl, hK2, hF2⟩
  obtain ⟨hM2, hf2⟩ := hM1.fms hK2 hF2
  have hC2 := hC1.mv hf2
  refine xw_icmp_eq (q := 938) (t := 1026) rfl rfl dL_law_935 (fun _ => ?_) (fun h => absurd rfl h)
  exact xw_less (by omega) (by omega) (KK _ _ _ _ ⟨_, _, _, _, _, _, _, _, _, _, hC2, hM2, hW⟩)
theorem law_riders (hN : qN ≤ 3072) (hi : i + 6 ≤ qN) (hJ : JB sh I R) (KK : ∀ (sh : XSh) (I : XI) (R : XRf) (L : XL), JB sh I R → XW E qb qN qx kc ks 1026 (LLs qb i) [] sh I R L) : XW E qb qN qx (kc + 3) (ks + 170) 940 (LLs qb i) [] sh I R L := by
  obtain ⟨n, c, dd, u, im, sg, tl, tp, tc, tx, hC, hM, hW⟩ := hJ
  refine xw_aload_n (q := 941) rfl dL_law_940 rfl rfl ?_
  refine xw_arg (i := i) (k := 1) (q := 946) dL_law_941 dL_law_942 dL_law_943 dL_law_944 dL_law_945 rfl rfl rfl (by omega) hN rfl ?_
  refine xw_arg (i := i) (k := 2) (q := 951) dL_law_946 dL_law_947 dL_law_948 dL_law_949 dL_law_950 rfl rfl rfl (by omega) hN rfl ?_
  refine xw_arg (i := i) (k := 3) (q := 956) dL_law_951 dL_law_952 dL_law_953 dL_law_954 dL_law_955 rfl rfl rfl (by omega) hN rfl ?_
  refine xw_arg (i := i) (k := 4) (q := 961) dL_law_956 dL_law_957 dL_law_958 dL_law_959 dL_law_960 rfl rfl rfl (by omega) hN rfl ?_
  refine xw_callV (z := mX6_riders) (kc' := kc + 3) (ks' := ks + 170) (as := [.int (qx (i + 1)), .int (qx (i + 2)), .int (qx (i + 3)), .int (qx (i + 4))]) (q := 964) rfl dL_law_961 l_L_124 gX6_riders (hC.1.1 0 _ rfl) rfl (by decide) rfl rfl (Nat.le_of_ble_eq_true rfl) (x_riders (d := 0) hC.1 hC.2.1 hC.2.2.2.2.1 (qx (i + 1)) (qx (i + 2)) (qx (i + 3)) (qx (i + 4))) (by omega) (by omega) (by omega) ?_
  rintro v1 sh1 I1 R1 L1 ⟨rfl, rfl, rfl, rfl, hK1, hF1⟩
  obtain ⟨hC1, hf1⟩ := hC.fxc hK1 hF1
  have hM1 := hM.mv hf1
  refine xw_aload_n (q := 965) rfl dL_law_964 rfl rfl ?_
  refine xw_arg (i := i) (k := 1) (q := 970) dL_law_965 dL_law_966 dL_law_967 dL_law_968 dL_law_969 rfl rfl rfl (by omega) hN rfl ?_
  refine xw_arg (i := i) (k := 2) (q := 975) dL_law_970 dL_law_971 dL_law_972 dL_law_973 dL_law_974 rfl rfl rfl (by omega) hN rfl ?_
  refine xw_arg (i := i) (k := 3) (q := 980) dL_law_975 dL_law_976 dL_law_977 dL_law_978 dL_law_979 rfl rfl rfl (by omega) hN rfl ?_
  refine xw_arg (i := i) (k := 4) (q := 985) dL_law_980 dL_law_981 dL_law_982 dL_law_983 dL_law_984 rfl rfl rfl (by omega) hN rfl ?_
  refine xw_callV (z := mX7_riders) (kc' := kc + 3) (ks' := ks + 170) (as := [.int (qx (i + 1)), .int (qx (i + 2)), .int (qx (i + 3)), .int (qx (i + 4))]) (q := 988) rfl dL_law_985 l_L_128 gX7_riders (hC1.1.1 61 _ rfl) rfl (by decide) rfl rfl (Nat.le_of_ble_eq_true rfl) (y_riders (d := 0) hC1.1 hM1.1 hM1.2.2.2.1 (qx (i + 1)) (qx (i + 2)) (qx (i + 3)) (qx (i + 4))) (by omega) (by omega) (by omega) ?_
  rintro v2 sh2 I2 R2 L2 ⟨rfl, rfl, rfl, rfl, hK2, hF2⟩
  obtain ⟨hM2, hf2⟩ := hM1.fmr hK2 hF2 (by omega)
  have hC2 := hC1.mv hf2
  refine xw_icmp_eq (q := 991) (t := 1026) rfl rfl dL_law_988 (fun _ => ?_) (fun h => absurd rfl h)
  exact xw_less (by omega) (by omega) (KK _ _ _ _ ⟨_, _, _, _, _, _, _, _, _, _, hC2, hM2, hW.grow (riders_grw _ _ _ _)⟩)
theorem law_taken (hN : qN ≤ 3072) (hi : i + 6 ≤ qN) (hJ : JB sh I R) (KK : ∀ (sh : XSh) (I : XI) (R : XRf) (L : XL), JB sh I R → XW E qb qN qx kc ks 1026 (LLs qb i) [] sh I R L) : XW E qb qN qx (kc + 3) (ks + 170) 993 (LLs qb i) [] sh I R L := by
  obtain ⟨n, c, dd, u, im, sg, tl, tp, tc, tx, hC, hM, hW⟩ := hJ
  refine xw_aload_n (q := 994) rfl dL_law_993 rfl rfl ?_
  refine xw_arg (i := i) (k := 1) (q := 999) dL_law_994 dL_law_995 dL_law_996 dL_law_997 dL_law_998 rfl rfl rfl (by omega) hN rfl ?_
  refine xw_arg (i := i) (k := 2) (q := 1004) dL_law_999 dL_law_1000 dL_law_1001 dL_law_1002 dL_law_1003 rfl rfl rfl (by omega) hN rfl ?_
  refine xw_callV (z := mX6_taken) (kc' := kc + 3) (ks' := ks + 170) (as := [.int (qx (i + 1)), .int (qx (i + 2))]) (q := 1007) rfl dL_law_1004 l_L_129 gX6_taken (hC.1.1 0 _ rfl) rfl (by decide) rfl rfl (Nat.le_of_ble_eq_true rfl) (x_taken (d := 0) hC.1 hC.2.1 (qx (i + 1)) (qx (i + 2))) (by omega) (by omega) (by omega) ?_
  rintro v1 sh1 I1 R1 L1 ⟨rfl, rfl, rfl, rfl, rfl⟩
  have hC1 := hC
  have hM1 := hM
  refine xw_aload_n (q := 1008) rfl dL_law_1007 rfl rfl ?_
  refine xw_arg (i := i) (k := 1) (q := 1013) dL_law_1008 dL_law_1009 dL_law_1010 dL_law_1011 dL_law_1012 rfl rfl rfl (by omega) hN rfl ?_
  refine xw_arg (i := i) (k := 2) (q := 1018) dL_law_1013 dL_law_1014 dL_law_1015 dL_law_1016 dL_law_1017 rfl rfl rfl (by omega) hN rfl ?_
  refine xw_callV (z := mX7_taken) (kc' := kc + 3) (ks' := ks + 170) (as := [.int (qx (i + 1)), .int (qx (i + 2))]) (q := 1021) rfl dL_law_1018 l_L_132 gX7_taken (hC1.1.1 61 _ rfl) rfl (by decide) rfl rfl (Nat.le_of_ble_eq_true rfl) (y_taken (d := 0) hC1.1 hM1.1 (qx (i + 1)) (qx (i + 2))) (by omega) (by omega) (by omega) ?_
  rintro v2 sh2 I2 R2 L2 ⟨rfl, rfl, rfl, rfl, rfl⟩
  have hC2 := hC1
  have hM2 := hM1
  refine xw_icmp_eq (q := 1024) (t := 1026) rfl rfl dL_law_1021 (fun _ => ?_) (fun h => absurd rfl h)
  exact xw_less (by omega) (by omega) (KK _ _ _ _ ⟨_, _, _, _, _, _, _, _, _, _, hC2, hM2, hW⟩)
end LAWCASES

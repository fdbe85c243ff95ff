/-! the model: copy, riders -/
theorem sub_toInt {a b : Nat} (ha : a ≤ 40) (zhb : b < 2 ^ 31) : (nI a - nI b).toInt = (a : Int) - b := by
  rw [Int32.toInt_sub, nI_toInt (by omega), nI_toInt (by omega)]
  exact Int.bmod_eq_of_le (by omega) (by omega)
theorem hld_t {ln a b : Nat} (h : a + b ≤ ln) (hl : ln ≤ 40) : hld (nI ln) (nI a) (nI b) = true := by
  unfold hld
  rw [decide_eq_false (nI_pos (n := a) (by omega)), decide_eq_false (nI_pos (n := b) (by omega)), decide_eq_false (show ¬ nI ln < nI a from fun q => absurd (nIlt q (by omega) (by omega)) (by omega)), pk_sub (show a ≤ ln by omega), decide_eq_false (show ¬ nI (ln - a) < nI b from fun q => absurd (nIlt q (by omega) (by omega)) (by omega))]
  rfl
theorem hld_f {ln : Nat} {i n : Int32} (hl : ln ≤ 40) (h : ¬ ∃ a b, a + b ≤ ln ∧ i = nI a ∧ n = nI b) : hld (nI ln) i n = false := by
  cases zhq : hld (nI ln) i n with
  | false => rfl
  | true => exact absurd (hld_of hl zhq) h
/-- the model's look whether b numbers from a on lie in a row of ln -/
theorem hld_m {ln : Nat} {i n : Int32} (hl : ln ≤ 40) (hn : ¬ n < 0) (hi : ¬ i < 0) : (nI ln - n < i ∧ hld (nI ln) i n = false) ∨ (¬ nI ln - n < i ∧ ∃ a b, a + b ≤ ln ∧ i = nI a ∧ n = nI b) := by
  obtain ⟨b, zhb, rfl⟩ := nI_of hn
  obtain ⟨a, ha, rfl⟩ := nI_of hi
  have e : nI ln - nI b < nI a ↔ ((ln : Int) - b < a) := by rw [Int32.lt_iff_toInt_lt, sub_toInt hl zhb, nI_toInt ha]
  by_cases h : a + b ≤ ln
  · exact Or.inr ⟨fun q => by have := e.mp q; omega, a, b, h, rfl, rfl⟩
  · refine Or.inl ⟨e.mpr (by omega), hld_f hl ?_⟩
    rintro ⟨a', b', zh1, zh2, zh3⟩
    have zh2 := nIe zh2 ha (by omega)
    have zh3 := nIe zh3 zhb (by omega)
    omega
section MCOPY
variable {E : XE} {d : Nat} {sh : XSh} {I : XI} {R : XRf} {L : XL} {n dd u : Nat} {c : CR} {sg : SG}
theorem m_cpy_loop (hg : XG sh R) {s t a b m : Nat} (zhs : s < 4) (ht : t < 4) (ha : a + m ≤ 40) (zhb : b + m ≤ 40) {up : Int32} (hup : up = nI 1 ∨ up = nI 0) (zh1 : up = nI 1 → s = t ∧ a < b) (zh0 : up = nI 0 → ¬ (s = t ∧ a < b)) {Q : XQ}
    (KK : ∀ l8 : Option Value, XV E mX7_copy (d + 2) 0 0 Q 0 0 182 [some (.ref 61), some (.int (nI s)), some (.int (nI a)), some (.int (nI t)), some (.int (nI b)), some (.int (nI m)), some (.int up), some (.int (nI m)), l8] [] sh (xic I 81 (va_cpy (I 81) (I 81) (40 * s + a) (40 * t + b) m)) R L) :
    ∀ (k j : Nat) (f : Nat → Int32) (l8 : Option Value), j ≤ m → m < j + k → (∀ x, f x = if (if up = nI 1 then 40 * t + b + (m - j) ≤ x ∧ x < 40 * t + b + m else 40 * t + b ≤ x ∧ x < 40 * t + b + j) then I 81 (40 * s + a + (x - (40 * t + b))) else I 81 x) →
      XV E mX7_copy (d + 2) 0 0 Q 0 0 121 [some (.ref 61), some (.int (nI s)), some (.int (nI a)), some (.int (nI t)), some (.int (nI b)), some (.int (nI m)), some (.int up), some (.int (nI j)), l8] [] sh (xic I 81 f) R L := by
  intro k
  induction k with
  | zero => intro j f l8 zh2 zh3; exact absurd zh3 (by omega)
  | succ k ih =>
    intro j f l8 zh2 zh3 hf
    refine xv_iload (q := 123) rfl dX7_copy_121 rfl ?_
    refine xv_iload (q := 125) rfl dX7_copy_123 rfl ?_
    refine xv_icmp_ge (q := 128) (t := 182) rfl rfl dX7_copy_125 (fun h125 => ?_) (fun h125 => ?_)
    · have zhj : j = m := by have := nIle h125 (by omega) (by omega); omega
      subst zhj
      have hff : f = va_cpy (I 81) (I 81) (40 * s + a) (40 * t + b) j := by
        funext x
        rw [hf]
        unfold va_cpy
        rcases hup with hu | hu
        · simp only [if_pos hu, Nat.sub_self, Nat.add_zero]
        · simp only [if_neg (show ¬ up = nI 1 from fun q => by rw [hu] at q; exact absurd q (by decide))]
      rw [hff]
      exact KK _
    · have zhj : j < m := nInle h125 (by omega) (by omega)
      refine xv_iload (q := 130) rfl dX7_copy_128 rfl ?_
      refine xv_if_eq (q := 133) (t := 143) rfl rfl dX7_copy_130 (fun h130 => ?_) (fun h130 => ?_)
      · have hu : up = nI 0 := h130
        have hnu : ¬ up = nI 1 := fun q => by rw [hu] at q; exact absurd q (by decide)
        have hno := zh0 hu
        simp only [if_neg hnu] at hf
        refine xv_iload (q := 145) rfl dX7_copy_143 rfl ?_
        refine xv_istore (q := 147) rfl dX7_copy_145 rfl ?_
        refine xv_aload_n (q := 148) rfl dX7_copy_147 rfl rfl ?_
        refine xv_geta (q := 151) rfl dX7_copy_148 f_X7_78 (hg.1 _ _ rfl) (hg.2 _ _ _ rfl) ?_
        refine xv_bipush (v := nI 40) (q := 153) rfl dX7_copy_151 rfl ?_
        refine xv_iload_n (q := 154) rfl dX7_copy_153 rfl rfl ?_
        refine xv_imul (q := 155) rfl dX7_copy_154 ?_
        refine xv_as (w := nI (40 * t)) (pk_mul _ _) ?_
        refine xv_iload (q := 157) rfl dX7_copy_155 rfl ?_
        refine xv_iadd (q := 158) rfl dX7_copy_157 ?_
        refine xv_as (w := nI (40 * t + b)) (nI_add _ _) ?_
        refine xv_iload (q := 160) rfl dX7_copy_158 rfl ?_
        refine xv_iadd (q := 161) rfl dX7_copy_160 ?_
        refine xv_as (w := nI (40 * t + b + j)) (nI_add _ _) ?_
        refine xv_aload_n (q := 162) rfl dX7_copy_161 rfl rfl ?_
        refine xv_geta (q := 165) rfl dX7_copy_162 f_X7_78 (hg.1 _ _ rfl) (hg.2 _ _ _ rfl) ?_
        refine xv_bipush (v := nI 40) (q := 167) rfl dX7_copy_165 rfl ?_
        refine xv_iload_n (q := 168) rfl dX7_copy_167 rfl rfl ?_
        refine xv_imul (q := 169) rfl dX7_copy_168 ?_
        refine xv_as (w := nI (40 * s)) (pk_mul _ _) ?_
        refine xv_iload_n (q := 170) rfl dX7_copy_169 rfl rfl ?_
        refine xv_iadd (q := 171) rfl dX7_copy_170 ?_
        refine xv_as (w := nI (40 * s + a)) (nI_add _ _) ?_
        refine xv_iload (q := 173) rfl dX7_copy_171 rfl ?_
        refine xv_iadd (q := 174) rfl dX7_copy_173 ?_
        refine xv_as (w := nI (40 * s + a + j)) (nI_add _ _) ?_
        refine xv_iald (q := 175) rfl dX7_copy_174 (hg.1 _ _ rfl) rfl (by omega) (by decide) ?_
        rw [xic_row, hf, if_neg (show ¬ (40 * t + b ≤ 40 * s + a + j ∧ 40 * s + a + j < 40 * t + b + j) from fun q => hno (by omega))]
        refine xv_iast (q := 176) rfl dX7_copy_175 (hg.1 _ _ rfl) rfl (by omega) (by decide) ?_
        refine xv_iinc (q := 179) (v := nI 1) rfl dX7_copy_176 rfl rfl ?_
        refine xv_goto (t := 121) rfl dX7_copy_179 ?_
        rw [nI_add, xi_xic]
        refine ih (j + 1) _ _ (by omega) (by omega) (fun x => ?_)
        simp only [if_neg hnu]
        show (if x = _ then _ else f x) = _
        rw [hf]
        by_cases e : x = 40 * t + b + j
        · subst e; rw [if_pos rfl, if_pos (by omega)]; congr 1; omega
        · rw [if_neg e]
          by_cases ze2 : 40 * t + b ≤ x ∧ x < 40 * t + b + j
          · rw [if_pos ze2, if_pos (by omega)]
          · rw [if_neg ze2, if_neg (by omega)]
      · have hu : up = nI 1 := hup.resolve_right h130
        have hyes := zh1 hu
        simp only [if_pos hu] at hf
        refine xv_iload (q := 135) rfl dX7_copy_133 rfl ?_
        refine xv_iconst (v := nI 1) (q := 136) rfl dX7_copy_135 rfl ?_
        refine xv_isub (q := 137) rfl dX7_copy_136 ?_
        refine xv_as (w := nI (m - 1)) (pk_sub (by omega)) ?_
        refine xv_iload (q := 139) rfl dX7_copy_137 rfl ?_
        refine xv_isub (q := 140) rfl dX7_copy_139 ?_
        refine xv_as (w := nI (m - 1 - j)) (pk_sub (by omega)) ?_
        refine xv_goto (t := 145) rfl dX7_copy_140 ?_
        refine xv_istore (q := 147) rfl dX7_copy_145 rfl ?_
        refine xv_aload_n (q := 148) rfl dX7_copy_147 rfl rfl ?_
        refine xv_geta (q := 151) rfl dX7_copy_148 f_X7_78 (hg.1 _ _ rfl) (hg.2 _ _ _ rfl) ?_
        refine xv_bipush (v := nI 40) (q := 153) rfl dX7_copy_151 rfl ?_
        refine xv_iload_n (q := 154) rfl dX7_copy_153 rfl rfl ?_
        refine xv_imul (q := 155) rfl dX7_copy_154 ?_
        refine xv_as (w := nI (40 * t)) (pk_mul _ _) ?_
        refine xv_iload (q := 157) rfl dX7_copy_155 rfl ?_
        refine xv_iadd (q := 158) rfl dX7_copy_157 ?_
        refine xv_as (w := nI (40 * t + b)) (nI_add _ _) ?_
        refine xv_iload (q := 160) rfl dX7_copy_158 rfl ?_
        refine xv_iadd (q := 161) rfl dX7_copy_160 ?_
        refine xv_as (w := nI (40 * t + b + (m - 1 - j))) (nI_add _ _) ?_
        refine xv_aload_n (q := 162) rfl dX7_copy_161 rfl rfl ?_
        refine xv_geta (q := 165) rfl dX7_copy_162 f_X7_78 (hg.1 _ _ rfl) (hg.2 _ _ _ rfl) ?_
        refine xv_bipush (v := nI 40) (q := 167) rfl dX7_copy_165 rfl ?_
        refine xv_iload_n (q := 168) rfl dX7_copy_167 rfl rfl ?_
        refine xv_imul (q := 169) rfl dX7_copy_168 ?_
        refine xv_as (w := nI (40 * s)) (pk_mul _ _) ?_
        refine xv_iload_n (q := 170) rfl dX7_copy_169 rfl rfl ?_
        refine xv_iadd (q := 171) rfl dX7_copy_170 ?_
        refine xv_as (w := nI (40 * s + a)) (nI_add _ _) ?_
        refine xv_iload (q := 173) rfl dX7_copy_171 rfl ?_
        refine xv_iadd (q := 174) rfl dX7_copy_173 ?_
        refine xv_as (w := nI (40 * s + a + (m - 1 - j))) (nI_add _ _) ?_
        refine xv_iald (q := 175) rfl dX7_copy_174 (hg.1 _ _ rfl) rfl (by omega) (by decide) ?_
        rw [xic_row, hf, if_neg (show ¬ (40 * t + b + (m - j) ≤ 40 * s + a + (m - 1 - j) ∧ 40 * s + a + (m - 1 - j) < 40 * t + b + m) from fun q => by omega)]
        refine xv_iast (q := 176) rfl dX7_copy_175 (hg.1 _ _ rfl) rfl (by omega) (by decide) ?_
        refine xv_iinc (q := 179) (v := nI 1) rfl dX7_copy_176 rfl rfl ?_
        refine xv_goto (t := 121) rfl dX7_copy_179 ?_
        rw [nI_add, xi_xic]
        refine ih (j + 1) _ _ (by omega) (by omega) (fun x => ?_)
        simp only [if_pos hu]
        show (if x = _ then _ else f x) = _
        rw [hf]
        by_cases e : x = 40 * t + b + (m - 1 - j)
        · subst e; rw [if_pos rfl, if_pos (by omega)]; congr 1; omega
        · rw [if_neg e]
          by_cases ze2 : 40 * t + b + (m - j) ≤ x ∧ x < 40 * t + b + m
          · rw [if_pos ze2, if_pos (by omega)]
          · rw [if_neg ze2, if_neg (by omega)]
theorem y_copy (hg : XG sh R) (hK : KMs I sg) (x i z j m : Int32) : XC E mX7_copy (d + 2) 0 0 [.ref 61, .int x, .int i, .int z, .int j, .int m] sh I R L (QMS (sp_copy sg x i z j m).1 (sp_copy sg x i z j m).2 sh I R L) := by
  refine XC.of (by decide) rfl rfl ?_
  refine xv_iload_n (q := 1) rfl dX7_copy_0 rfl rfl ?_
  refine xv_cS1 (z := mX7_isSheet) (q := 4) rfl dX7_copy_1 l_X7_329 gX7_isSheet rfl (m_isSh (d := d) x) (by omega) ?_
  refine xv_if_eq (q := 7) (t := 14) rfl rfl dX7_copy_4 (fun zh4 => ?_) (fun zh4 => ?_)
  · have zh4 := bIz zh4
    refine xv_bipush (v := (-2)) (q := 16) rfl dX7_copy_14 rfl ?_
    refine xv_iret dX7_copy_16 rfl ?_
    rw [show sp_copy sg x i z j m = (-2, sg) from if_pos (Or.inl zh4)]
    exact QMS.same hK
  · have zh4 := bIn zh4
    refine xv_iload_n (q := 8) rfl dX7_copy_7 rfl rfl ?_
    refine xv_cS1 (z := mX7_isSheet) (q := 11) rfl dX7_copy_8 l_X7_329 gX7_isSheet rfl (m_isSh (d := d) z) (by omega) ?_
    refine xv_if_ne (q := 14) (t := 17) rfl rfl dX7_copy_11 (fun h11 => ?_) (fun h11 => ?_)
    · have h11 := bIn h11
      obtain ⟨s, hs4, rfl⟩ := isSh_of zh4
      obtain ⟨t, ht4, rfl⟩ := isSh_of h11
      refine xv_aload_n (q := 18) rfl dX7_copy_17 rfl rfl ?_
      refine xv_geta (q := 21) rfl dX7_copy_18 f_X7_68 (hg.1 _ _ rfl) (hg.2 _ _ _ rfl) ?_
      refine xv_iload_n (q := 22) rfl dX7_copy_21 rfl rfl ?_
      refine xv_zald (q := 23) rfl dX7_copy_22 (hg.1 _ _ rfl) rfl hs4 (by decide) ?_
      refine xv_if_eq (q := 26) (t := 35) rfl rfl dX7_copy_23 (fun h23 => ?_) (fun h23 => ?_)
      · have hn : sg s = none := by
          rcases hK.miss hs4 with ⟨y, -⟩ | ⟨so, ln, it, e, zq1, zq2, zq3, -⟩
          · exact y
          · rw [h23] at zq3; exact absurd zq3 (by decide)
        refine xv_bipush (v := (-11)) (q := 37) rfl dX7_copy_35 rfl ?_
        refine xv_iret dX7_copy_37 rfl ?_
        rw [sp_copy_n1 zh4 h11 hs4 ht4 (Or.inl hn)]
        exact QMS.same hK
      · rcases hK.miss hs4 with ⟨-, y⟩ | ⟨so, ln, it, ze1, zq1, zq2, zq3, zq4, zq5, zq6⟩
        · exact absurd y h23
        refine xv_aload_n (q := 27) rfl dX7_copy_26 rfl rfl ?_
        refine xv_geta (q := 30) rfl dX7_copy_27 f_X7_68 (hg.1 _ _ rfl) (hg.2 _ _ _ rfl) ?_
        refine xv_iload_n (q := 31) rfl dX7_copy_30 rfl rfl ?_
        refine xv_zald (q := 32) rfl dX7_copy_31 (hg.1 _ _ rfl) rfl ht4 (by decide) ?_
        refine xv_if_ne (q := 35) (t := 38) rfl rfl dX7_copy_32 (fun h32 => ?_) (fun h32 => ?_)
        · rcases hK.miss ht4 with ⟨-, y⟩ | ⟨so2, ln2, it2, ze2, p1, p2, p3, p4, pp5, p6⟩
          · exact absurd y h32
          have zhq := sp_copy_s (i := i) (j := j) (n := m) zh4 h11 hs4 ht4 ze1 ze2
          refine xv_aload_n (q := 39) rfl dX7_copy_38 rfl rfl ?_
          refine xv_geta (q := 42) rfl dX7_copy_39 f_X7_72 (hg.1 _ _ rfl) (hg.2 _ _ _ rfl) ?_
          refine xv_iload_n (q := 43) rfl dX7_copy_42 rfl rfl ?_
          refine xv_iald (q := 44) rfl dX7_copy_43 (hg.1 _ _ rfl) rfl hs4 (by decide) ?_
          rw [zq4]
          refine xv_aload_n (q := 45) rfl dX7_copy_44 rfl rfl ?_
          refine xv_geta (q := 48) rfl dX7_copy_45 f_X7_72 (hg.1 _ _ rfl) (hg.2 _ _ _ rfl) ?_
          refine xv_iload_n (q := 49) rfl dX7_copy_48 rfl rfl ?_
          refine xv_iald (q := 50) rfl dX7_copy_49 (hg.1 _ _ rfl) rfl ht4 (by decide) ?_
          rw [p4]
          refine xv_icmp_eq (q := 53) (t := 56) rfl rfl dX7_copy_50 (fun h50 => ?_) (fun h50 => ?_)
          · have h50 : so = so2 := nIe h50 (by omega) (by omega)
            rw [zhq, if_neg (fun y => y h50)]
            refine xv_iload (q := 58) rfl dX7_copy_56 rfl ?_
            refine xv_if_lt (q := 61) (t := 97) rfl rfl dX7_copy_58 (fun h58 => ?_) (fun h58 => ?_)
            · refine xv_bipush (v := (-12)) (q := 99) rfl dX7_copy_97 rfl ?_
              refine xv_iret dX7_copy_99 rfl ?_
              rw [if_pos (Or.inl (show hld _ _ _ = false by unfold hld; simp [h58]))]
              exact QMS.same hK
            · refine xv_iload_n (q := 62) rfl dX7_copy_61 rfl rfl ?_
              refine xv_if_lt (q := 65) (t := 97) rfl rfl dX7_copy_62 (fun h62 => ?_) (fun h62 => ?_)
              · refine xv_bipush (v := (-12)) (q := 99) rfl dX7_copy_97 rfl ?_
                refine xv_iret dX7_copy_99 rfl ?_
                rw [if_pos (Or.inl (show hld _ _ _ = false by unfold hld; simp [h62]))]
                exact QMS.same hK
              · refine xv_iload (q := 67) rfl dX7_copy_65 rfl ?_
                refine xv_if_lt (q := 70) (t := 97) rfl rfl dX7_copy_67 (fun h67 => ?_) (fun h67 => ?_)
                · refine xv_bipush (v := (-12)) (q := 99) rfl dX7_copy_97 rfl ?_
                  refine xv_iret dX7_copy_99 rfl ?_
                  rw [if_pos (Or.inr (show hld _ _ _ = false by unfold hld; simp [h67]))]
                  exact QMS.same hK
                · refine xv_iload_n (q := 71) rfl dX7_copy_70 rfl rfl ?_
                  refine xv_aload_n (q := 72) rfl dX7_copy_71 rfl rfl ?_
                  refine xv_geta (q := 75) rfl dX7_copy_72 f_X7_75 (hg.1 _ _ rfl) (hg.2 _ _ _ rfl) ?_
                  refine xv_iload_n (q := 76) rfl dX7_copy_75 rfl rfl ?_
                  refine xv_iald (q := 77) rfl dX7_copy_76 (hg.1 _ _ rfl) rfl hs4 (by decide) ?_
                  rw [zq5]
                  refine xv_iload (q := 79) rfl dX7_copy_77 rfl ?_
                  refine xv_isub (q := 80) rfl dX7_copy_79 ?_
                  refine xv_icmp_gt (q := 83) (t := 97) rfl rfl dX7_copy_80 (fun h80 => ?_) (fun h80 => ?_)
                  · have hh : hld (nI ln) i m = false := ((hld_m zq2 h58 h62).resolve_right (fun y => y.1 h80)).2
                    refine xv_bipush (v := (-12)) (q := 99) rfl dX7_copy_97 rfl ?_
                    refine xv_iret dX7_copy_99 rfl ?_
                    rw [if_pos (Or.inl hh)]
                    exact QMS.same hK
                  · obtain ⟨-, a, m, ham, rfl, rfl⟩ := (hld_m zq2 h58 h62).resolve_left (fun y => h80 y.1)
                    refine xv_iload (q := 85) rfl dX7_copy_83 rfl ?_
                    refine xv_aload_n (q := 86) rfl dX7_copy_85 rfl rfl ?_
                    refine xv_geta (q := 89) rfl dX7_copy_86 f_X7_75 (hg.1 _ _ rfl) (hg.2 _ _ _ rfl) ?_
                    refine xv_iload_n (q := 90) rfl dX7_copy_89 rfl rfl ?_
                    refine xv_iald (q := 91) rfl dX7_copy_90 (hg.1 _ _ rfl) rfl ht4 (by decide) ?_
                    rw [pp5]
                    refine xv_iload (q := 93) rfl dX7_copy_91 rfl ?_
                    refine xv_isub (q := 94) rfl dX7_copy_93 ?_
                    refine xv_icmp_le (q := 97) (t := 100) rfl rfl dX7_copy_94 (fun h94 => ?_) (fun h94 => ?_)
                    · obtain ⟨-, b, m', hbm, rfl, hmm⟩ := (hld_m p2 h58 h67).resolve_left (fun y => absurd y.1 (Int32.not_lt.mpr h94))
                      have hmm := nIe hmm (by omega) (by omega)
                      subst hmm
                      have hfin : QMS (nI m) (va_up sg t (some (so2, ln2, va_cpy it it2 a b m))) sh I R L (some (.int (nI m))) sh (xic I 81 (va_cpy (I 81) (I 81) (40 * s + a) (40 * t + b) m)) R L := by
                        refine ⟨rfl, rfl, rfl, rfl, hK.put ⟨p1, p2, ?_, ?_, ?_, fun y zhy => ?_⟩ (fun y zhy => ⟨congrFun (xic_off _ _ _ (by decide)) y, congrFun (xic_off _ _ _ (by decide)) y, congrFun (xic_off _ _ _ (by decide)) y⟩) (fun y w zhy hne hw => ?_), fun k _ _ _ zk4 => xic_off _ _ _ zk4⟩
                        · rw [xic_off _ _ _ (by decide)]; exact p3
                        · rw [xic_off _ _ _ (by decide)]; exact p4
                        · rw [xic_off _ _ _ (by decide)]; exact pp5
                        · have zhy : y < ln2 := zhy
                          rw [xic_row]
                          show va_cpy (I 81) (I 81) (40 * s + a) (40 * t + b) m (40 * t + y) = va_cpy it it2 a b m y
                          unfold va_cpy
                          by_cases e : b ≤ y ∧ y < b + m
                          · rw [if_pos e, if_pos (by omega), ← zq6 _ (show a + (y - b) < ln by omega)]; congr 1; omega
                          · rw [if_neg e, if_neg (by omega)]; exact p6 y zhy
                        · rw [xic_row]
                          unfold va_cpy
                          rw [if_neg (by omega)]
                      have hres : (if hld (nI ln) (nI a) (nI m) = false ∨ hld (nI ln2) (nI b) (nI m) = false then (-12, sg) else (nI m, va_up sg (nI t).toNatClampNeg (some (so2, ln2, va_cpy it it2 (nI a).toNatClampNeg (nI b).toNatClampNeg (nI m).toNatClampNeg)))) = (nI m, va_up sg t (some (so2, ln2, va_cpy it it2 a b m))) := by
                        rw [if_neg (by rw [hld_t ham zq2, hld_t hbm p2]; simp), nI_clamp (n := t) (by omega), nI_clamp (n := a) (by omega), nI_clamp (n := b) (by omega), nI_clamp (n := m) (by omega)]
                      rw [nI_clamp (n := t) (by omega)] at hres
                      rw [hres]
                      refine xv_iload_n (q := 101) rfl dX7_copy_100 rfl rfl ?_
                      refine xv_iload_n (q := 102) rfl dX7_copy_101 rfl rfl ?_
                      refine xv_icmp_ne (q := 105) (t := 115) rfl rfl dX7_copy_102 (fun h102 => ?_) (fun h102 => ?_)
                      · have h102 : ¬ s = t := fun q => h102 (by rw [q])
                        refine xv_iconst (v := nI 0) (q := 116) rfl dX7_copy_115 rfl ?_
                        refine xv_istore (q := 118) rfl dX7_copy_116 rfl ?_
                        refine xv_iconst (v := nI 0) (q := 119) rfl dX7_copy_118 rfl ?_
                        refine xv_istore (q := 121) rfl dX7_copy_119 rfl ?_
                        refine xv_mem (J := xic I 81 (I 81)) (xic_self I 81).symm ?_
                        refine m_cpy_loop hg hs4 ht4 (show a + m ≤ 40 by omega) (show b + m ≤ 40 by omega) (Or.inr rfl) (fun q => absurd q (by decide)) (fun _ q => h102 q.1) (fun zm8 => ?_) (m + 1) 0 (I 81) none (by omega) (by omega) (fun x => ?_)
                        · refine xv_iload (q := 184) rfl dX7_copy_182 rfl ?_
                          refine xv_iret dX7_copy_184 rfl ?_
                          exact hfin
                        · simp only [if_neg (by decide : ¬ nI 0 = nI 1)]
                          rw [if_neg (by omega)]
                      · have h102 : s = t := nIe h102 (by omega) (by omega)
                        refine xv_iload_n (q := 106) rfl dX7_copy_105 rfl rfl ?_
                        refine xv_iload (q := 108) rfl dX7_copy_106 rfl ?_
                        refine xv_icmp_ge (q := 111) (t := 115) rfl rfl dX7_copy_108 (fun h108 => ?_) (fun h108 => ?_)
                        · have h108 : b ≤ a := nIle h108 (by omega) (by omega)
                          refine xv_iconst (v := nI 0) (q := 116) rfl dX7_copy_115 rfl ?_
                          refine xv_istore (q := 118) rfl dX7_copy_116 rfl ?_
                          refine xv_iconst (v := nI 0) (q := 119) rfl dX7_copy_118 rfl ?_
                          refine xv_istore (q := 121) rfl dX7_copy_119 rfl ?_
                          refine xv_mem (J := xic I 81 (I 81)) (xic_self I 81).symm ?_
                          refine m_cpy_loop hg hs4 ht4 (show a + m ≤ 40 by omega) (show b + m ≤ 40 by omega) (Or.inr rfl) (fun q => absurd q (by decide)) (fun _ q => by omega) (fun zm8 => ?_) (m + 1) 0 (I 81) none (by omega) (by omega) (fun x => ?_)
                          · refine xv_iload (q := 184) rfl dX7_copy_182 rfl ?_
                            refine xv_iret dX7_copy_184 rfl ?_
                            exact hfin
                          · simp only [if_neg (by decide : ¬ nI 0 = nI 1)]
                            rw [if_neg (by omega)]
                        · have h108 : a < b := nInle h108 (by omega) (by omega)
                          refine xv_iconst (v := nI 1) (q := 112) rfl dX7_copy_111 rfl ?_
                          refine xv_goto (t := 116) rfl dX7_copy_112 ?_
                          refine xv_istore (q := 118) rfl dX7_copy_116 rfl ?_
                          refine xv_iconst (v := nI 0) (q := 119) rfl dX7_copy_118 rfl ?_
                          refine xv_istore (q := 121) rfl dX7_copy_119 rfl ?_
                          refine xv_mem (J := xic I 81 (I 81)) (xic_self I 81).symm ?_
                          refine m_cpy_loop hg hs4 ht4 (show a + m ≤ 40 by omega) (show b + m ≤ 40 by omega) (Or.inl rfl) (fun _ => ⟨h102, h108⟩) (fun q => absurd q (by decide)) (fun zm8 => ?_) (m + 1) 0 (I 81) none (by omega) (by omega) (fun x => ?_)
                          · refine xv_iload (q := 184) rfl dX7_copy_182 rfl ?_
                            refine xv_iret dX7_copy_184 rfl ?_
                            exact hfin
                          · simp only [eq_self_iff_true, if_true]
                            rw [if_neg (by omega)]
                    · have hh2 : hld (nI ln2) j (nI m) = false := ((hld_m p2 h58 h67).resolve_right (fun y => y.1 (Int32.not_le.mp h94))).2
                      refine xv_bipush (v := (-12)) (q := 99) rfl dX7_copy_97 rfl ?_
                      refine xv_iret dX7_copy_99 rfl ?_
                      rw [if_pos (Or.inr hh2)]
                      exact QMS.same hK
          · have h50 : ¬ so = so2 := fun q => h50 (by rw [q])
            refine xv_bipush (v := (-13)) (q := 55) rfl dX7_copy_53 rfl ?_
            refine xv_iret dX7_copy_55 rfl ?_
            rw [zhq, if_pos h50]
            exact QMS.same hK
        · have hn : sg t = none := by
            rcases hK.miss ht4 with ⟨y, -⟩ | ⟨so2, ln2, it2, ze2, p1, p2, p3, -⟩
            · exact y
            · rw [h32] at p3; exact absurd p3 (by decide)
          refine xv_bipush (v := (-11)) (q := 37) rfl dX7_copy_35 rfl ?_
          refine xv_iret dX7_copy_37 rfl ?_
          rw [sp_copy_n1 zh4 h11 hs4 ht4 (Or.inr hn)]
          exact QMS.same hK
    · have h11 := bIz h11
      refine xv_bipush (v := (-2)) (q := 16) rfl dX7_copy_14 rfl ?_
      refine xv_iret dX7_copy_16 rfl ?_
      rw [show sp_copy sg x i z j m = (-2, sg) from if_pos (Or.inr h11)]
      exact QMS.same hK
end MCOPY

/-! riders: the crew's abstract rows c : Nat → Nat → Nat, the first n of them -/
abbrev CR : Type := Nat → Nat → Nat
def ci (c : CR) : XI := fun w r => nI (c w r)
def wfr (c : CR) (r : Nat) : Prop := c 0 r < 6 ∧ c 1 r < 10 ∧ c 2 r < 10 ∧ c 3 r < 9 ∧ c 4 r < 10 ∧ c 5 r < 6 ∧ c 6 r ≤ 100 ∧ c 3 r < c 4 r
def wfc (c : CR) (n : Nat) : Prop := (∀ r, r < n → wfr c r) ∧ aks (ci c) n = true
/-- the class's crew (cell 1) -/
def KXc (I : XI) (n : Nat) (c : CR) (dd u : Nat) : Prop := XCm I 1 (ci c) n ∧ I 1 7 = nI n ∧ n ≤ 5 ∧ I 1 8 = nI dd ∧ (dd = 1 ∨ dd = 2) ∧ I 1 9 = nI u ∧ wfc c n
/-- cells 1 .. 8 may have changed -/
def FXc (I I' : XI) : Prop := ∀ k, (k < 1 ∨ 9 ≤ k) → I' k = I k
def wayB (y : Int32) : Bool := decide (¬ y < 0 ∧ y.toNatClampNeg / 100 < 9 ∧ y.toNatClampNeg / 100 < y.toNatClampNeg / 10 % 10 ∧ y.toNatClampNeg % 10 < 6)
def okr (k w y : Int32) : Bool := decide (¬ k < 0 ∧ ¬ nI 6 ≤ k ∧ ¬ w < 0 ∧ ¬ nI 99 < w ∧ wayB y = true)
def crow (k a s f t p ch : Nat) : Nat → Nat := fun w => match w with
  | 0 => k
  | 1 => a
  | 2 => s
  | 3 => f
  | 4 => t
  | 5 => p
  | _ => ch
def putr (c : CR) (n : Nat) (f : Nat → Nat) : CR := fun w r => if r = n then f w else c w r
def newr (c : CR) (n k w y : Nat) : CR := putr c n (crow k (w / 10) (w % 10) (y / 100) (y / 10 % 10) (y % 10) 100)
def sp_rider (n : Nat) (c : CR) (k w y : Int32) : Int32 × Nat × CR :=
  if okr k w y = true then
    if 5 ≤ n then (-4, n, c)
    else if oks (ci (newr c n k.toNatClampNeg w.toNatClampNeg y.toNatClampNeg)) n n = true then (nI n, n + 1, newr c n k.toNatClampNeg w.toNatClampNeg y.toNatClampNeg)
    else (-3, n, c)
  else (-2, n, c)
theorem putr_lt {c : CR} {n w r : Nat} {f : Nat → Nat} (h : r < n) : putr c n f w r = c w r := if_neg (by omega)
theorem putr_at {c : CR} {n w : Nat} {f : Nat → Nat} : putr c n f w n = f w := if_pos rfl
theorem cf_cong {c c' : XI} {o r : Nat} (h : ∀ w, w < 7 → c' w o = c w o) (h2 : ∀ w, w < 7 → c' w r = c w r) : cf c' o r = cf c o r := by
  unfold cf; rw [h 5 (by decide), h2 5 (by decide), h 3 (by decide), h2 4 (by decide), h2 3 (by decide), h 4 (by decide)]
theorem oks_cong {c c' : XI} {r : Nat} : ∀ {n : Nat}, (∀ w o, w < 7 → o < n → c' w o = c w o) → (∀ w, w < 7 → c' w r = c w r) → oks c' r n = oks c r n
  | 0, _, _ => rfl
  | n + 1, h, h2 => by
    show (oks c' r n && _) = (oks c r n && _)
    rw [oks_cong (fun w o hw ho => h w o hw (by omega)) h2, cf_cong (fun w hw => h w n hw (by omega)) h2]
theorem aks_cong {c c' : XI} : ∀ {n : Nat}, (∀ w o, w < 7 → o < n → c' w o = c w o) → aks c' n = aks c n
  | 0, _ => rfl
  | n + 1, h => by
    show (aks c' n && _) = (aks c n && _)
    rw [aks_cong (fun w o hw ho => h w o hw (by omega)), oks_cong (fun w o hw ho => h w o hw (by omega)) (fun w hw => h w n hw (by omega))]
theorem ci_putr {c : CR} {n : Nat} {f : Nat → Nat} (w o : Nat) (h : o < n) : ci (putr c n f) w o = ci c w o := by unfold ci; rw [putr_lt h]
theorem okr_of {k w y : Int32} (h : okr k w y = true) : ∃ a b z, k = nI a ∧ w = nI b ∧ y = nI z ∧ a < 6 ∧ b ≤ 99 ∧ z < 2 ^ 31 ∧ z / 100 < 9 ∧ z / 100 < z / 10 % 10 ∧ z % 10 < 6 := by
  obtain ⟨h1, h2, h3, h4, h5⟩ := of_decide_eq_true h
  obtain ⟨g1, g2, g3, g4⟩ := of_decide_eq_true h5
  obtain ⟨a, ha, rfl⟩ := nI_of h1
  obtain ⟨b, hb, rfl⟩ := nI_of h3
  obtain ⟨z, hz, rfl⟩ := nI_of g1
  rw [nI_clamp hz] at g2 g3 g4
  exact ⟨a, b, z, rfl, rfl, rfl, nInle h2 (by omega) ha, nInlt h4 (by omega) hb, hz, g2, g3, g4⟩
theorem xi7 (I : XI) (n : Nat) (x0 x1 x2 x3 x4 x5 x6 : Int32) : ∀ w r, w < 7 → xi (xi (xi (xi (xi (xi (xi I 2 n x0) 3 n x1) 4 n x2) 5 n x3) 6 n x4) 7 n x5) 8 n x6 (1 + 1 + w) r = if r = n then (match w with | 0 => x0 | 1 => x1 | 2 => x2 | 3 => x3 | 4 => x4 | 5 => x5 | _ => x6) else I (1 + 1 + w) r := by
  intro w r hw
  rcases w7 hw with rfl | rfl | rfl | rfl | rfl | rfl | rfl <;> (by_cases h : r = n <;> simp [xi, upd, h])
theorem xi7o (I : XI) (n : Nat) (x0 x1 x2 x3 x4 x5 x6 : Int32) : ∀ k, (k < 2 ∨ 9 ≤ k) → xi (xi (xi (xi (xi (xi (xi I 2 n x0) 3 n x1) 4 n x2) 5 n x3) 6 n x4) 7 n x5) 8 n x6 k = I k := by
  intro k hk
  rw [xi_off _ _ _ _ (by omega), xi_off _ _ _ _ (by omega), xi_off _ _ _ _ (by omega), xi_off _ _ _ _ (by omega), xi_off _ _ _ _ (by omega), xi_off _ _ _ _ (by omega), xi_off _ _ _ _ (by omega)]
section RIDERS
variable {E : XE} {d : Nat} {sh : XSh} {I : XI} {R : XRf} {L : XL} {n dd u : Nat} {c : CR}
theorem c_isWay (y : Int32) : XC E mX6_isWay d 0 0 [.int y] sh I R L (xq (some (.int (bI (wayB y)))) sh I R L) := by
  refine XC.of (by decide) rfl rfl ?_
  refine xv_iload_n (q := 1) rfl dX6_isWay_0 rfl rfl ?_
  refine xv_if_lt (q := 4) (t := 40) rfl rfl dX6_isWay_1 (fun h1 => ?_) (fun h1 => ?_)
  · refine xv_iconst (v := nI 0) (q := 41) rfl dX6_isWay_40 rfl ?_
    refine xv_zret (ty := .boolean) dX6_isWay_41 rfl rfl ?_
    exact ⟨by rw [show wayB y = false from decide_eq_false (fun q => q.1 h1)]; rfl, rfl, rfl, rfl, rfl⟩
  · obtain ⟨z, hz, rfl⟩ := nI_of h1
    have ez : (nI z).toNatClampNeg = z := nI_clamp hz
    refine xv_iload_n (q := 5) rfl dX6_isWay_4 rfl rfl ?_
    refine xv_bipush (v := nI 100) (q := 7) rfl dX6_isWay_5 rfl ?_
    refine xv_idiv (q := 8) rfl dX6_isWay_7 (by decide) ?_
    refine xv_as (w := nI (z / 100)) (pk_div hz (by decide) (by decide)) ?_
    refine xv_bipush (v := nI 9) (q := 10) rfl dX6_isWay_8 rfl ?_
    refine xv_icmp_ge (q := 13) (t := 40) rfl rfl dX6_isWay_10 (fun h10 => ?_) (fun h10 => ?_)
    · refine xv_iconst (v := nI 0) (q := 41) rfl dX6_isWay_40 rfl ?_
      refine xv_zret (ty := .boolean) dX6_isWay_41 rfl rfl ?_
      exact ⟨by rw [show wayB (nI z) = false from decide_eq_false (fun q => absurd (nIle h10 (by omega) (by omega)) (by rw [ez] at q; omega))]; rfl, rfl, rfl, rfl, rfl⟩
    · refine xv_iload_n (q := 14) rfl dX6_isWay_13 rfl rfl ?_
      refine xv_bipush (v := nI 10) (q := 16) rfl dX6_isWay_14 rfl ?_
      refine xv_idiv (q := 17) rfl dX6_isWay_16 (by decide) ?_
      refine xv_as (w := nI (z / 10)) (pk_div hz (by decide) (by decide)) ?_
      refine xv_bipush (v := nI 10) (q := 19) rfl dX6_isWay_17 rfl ?_
      refine xv_irem (q := 20) rfl dX6_isWay_19 (by decide) ?_
      refine xv_as (w := nI (z / 10 % 10)) (pk_rem (by omega) (by decide) (by decide)) ?_
      refine xv_iload_n (q := 21) rfl dX6_isWay_20 rfl rfl ?_
      refine xv_bipush (v := nI 100) (q := 23) rfl dX6_isWay_21 rfl ?_
      refine xv_idiv (q := 24) rfl dX6_isWay_23 (by decide) ?_
      refine xv_as (w := nI (z / 100)) (pk_div hz (by decide) (by decide)) ?_
      refine xv_icmp_le (q := 27) (t := 40) rfl rfl dX6_isWay_24 (fun h24 => ?_) (fun h24 => ?_)
      · refine xv_iconst (v := nI 0) (q := 41) rfl dX6_isWay_40 rfl ?_
        refine xv_zret (ty := .boolean) dX6_isWay_41 rfl rfl ?_
        exact ⟨by rw [show wayB (nI z) = false from decide_eq_false (fun q => absurd (nIle h24 (by omega) (by omega)) (by rw [ez] at q; omega))]; rfl, rfl, rfl, rfl, rfl⟩
      · refine xv_iload_n (q := 28) rfl dX6_isWay_27 rfl rfl ?_
        refine xv_bipush (v := nI 10) (q := 30) rfl dX6_isWay_28 rfl ?_
        refine xv_irem (q := 31) rfl dX6_isWay_30 (by decide) ?_
        refine xv_as (w := nI (z % 10)) (pk_rem hz (by decide) (by decide)) ?_
        refine xv_bipush (v := nI 6) (q := 33) rfl dX6_isWay_31 rfl ?_
        refine xv_icmp_ge (q := 36) (t := 40) rfl rfl dX6_isWay_33 (fun h33 => ?_) (fun h33 => ?_)
        · refine xv_iconst (v := nI 0) (q := 41) rfl dX6_isWay_40 rfl ?_
          refine xv_zret (ty := .boolean) dX6_isWay_41 rfl rfl ?_
          exact ⟨by rw [show wayB (nI z) = false from decide_eq_false (fun q => absurd (nIle h33 (by omega) (by omega)) (by rw [ez] at q; omega))]; rfl, rfl, rfl, rfl, rfl⟩
        · refine xv_iconst (v := nI 1) (q := 37) rfl dX6_isWay_36 rfl ?_
          refine xv_goto (t := 41) rfl dX6_isWay_37 ?_
          refine xv_zret (ty := .boolean) dX6_isWay_41 rfl rfl ?_
          exact ⟨by rw [show wayB (nI z) = true from decide_eq_true ⟨h1, by rw [ez]; exact ⟨nInle h10 (by omega) (by omega), nInle h24 (by omega) (by omega), nInle h33 (by omega) (by omega)⟩⟩]; rfl, rfl, rfl, rfl, rfl⟩
def QR (q : Int32 × Nat × CR) (n : Nat) (c : CR) (dd u : Nat) (sh : XSh) (I : XI) (R : XRf) (L : XL) : XQ := fun v sh' I' R' L' => v = some (.int q.1) ∧ sh' = sh ∧ R' = R ∧ L' = L ∧ KXc I' q.2.1 q.2.2 dd u ∧ FXc I I'
theorem QR.same {ans : Int32} (h : KXc I n c dd u) : QR (ans, n, c) n c dd u sh I R L (some (.int ans)) sh I R L := ⟨rfl, rfl, rfl, rfl, h, fun _ _ => rfl⟩
theorem sp_rider_b {k w y : Int32} (h : ¬ okr k w y = true) : sp_rider n c k w y = (-2, n, c) := if_neg h
theorem x_comeIn (hg : XG sh R) (hK : KXc I n c dd u) (k w y : Int32) : XC E mX6_comeIn (d + 1) 0 0 [.ref 0, .int k, .int w, .int y] sh I R L (QR (sp_rider n c k w y) n c dd u sh I R L) := by
  refine XC.of (by decide) rfl rfl ?_
  refine xv_iload_n (q := 1) rfl dX6_comeIn_0 rfl rfl ?_
  refine xv_if_lt (q := 4) (t := 27) rfl rfl dX6_comeIn_1 (fun h1 => ?_) (fun h1 => ?_)
  · refine xv_bipush (v := (-2)) (q := 29) rfl dX6_comeIn_27 rfl ?_
    refine xv_iret dX6_comeIn_29 rfl ?_
    rw [sp_rider_b (fun q => (of_decide_eq_true q).1 h1)]
    exact QR.same hK
  · refine xv_iload_n (q := 5) rfl dX6_comeIn_4 rfl rfl ?_
    refine xv_bipush (v := nI 6) (q := 7) rfl dX6_comeIn_5 rfl ?_
    refine xv_icmp_ge (q := 10) (t := 27) rfl rfl dX6_comeIn_7 (fun h7 => ?_) (fun h7 => ?_)
    · refine xv_bipush (v := (-2)) (q := 29) rfl dX6_comeIn_27 rfl ?_
      refine xv_iret dX6_comeIn_29 rfl ?_
      rw [sp_rider_b (fun q => (of_decide_eq_true q).2.1 h7)]
      exact QR.same hK
    · refine xv_iload_n (q := 11) rfl dX6_comeIn_10 rfl rfl ?_
      refine xv_if_lt (q := 14) (t := 27) rfl rfl dX6_comeIn_11 (fun h11 => ?_) (fun h11 => ?_)
      · refine xv_bipush (v := (-2)) (q := 29) rfl dX6_comeIn_27 rfl ?_
        refine xv_iret dX6_comeIn_29 rfl ?_
        rw [sp_rider_b (fun q => (of_decide_eq_true q).2.2.1 h11)]
        exact QR.same hK
      · refine xv_iload_n (q := 15) rfl dX6_comeIn_14 rfl rfl ?_
        refine xv_bipush (v := nI 99) (q := 17) rfl dX6_comeIn_15 rfl ?_
        refine xv_icmp_gt (q := 20) (t := 27) rfl rfl dX6_comeIn_17 (fun h17 => ?_) (fun h17 => ?_)
        · refine xv_bipush (v := (-2)) (q := 29) rfl dX6_comeIn_27 rfl ?_
          refine xv_iret dX6_comeIn_29 rfl ?_
          rw [sp_rider_b (fun q => (of_decide_eq_true q).2.2.2.1 h17)]
          exact QR.same hK
        · refine xv_iload_n (q := 21) rfl dX6_comeIn_20 rfl rfl ?_
          refine xv_cS1 (z := mX6_isWay) (q := 24) rfl dX6_comeIn_21 l_X6_95 gX6_isWay rfl (c_isWay (d := d) y) (by omega) ?_
          refine xv_if_ne (q := 27) (t := 30) rfl rfl dX6_comeIn_24 (fun h24 => ?_) (fun h24 => ?_)
          · have h24 := bIn h24
            have hok : okr k w y = true := decide_eq_true ⟨h1, h7, h11, h17, h24⟩
            obtain ⟨a, b, z, rfl, rfl, rfl, ha, hb, hz, z1, z2, z3⟩ := okr_of hok
            obtain ⟨hm, hn, hn5, hdd, hd2, hu, hwf⟩ := id hK
            refine xv_aload_n (q := 31) rfl dX6_comeIn_30 rfl rfl ?_
            refine xv_geto (q := 34) rfl dX6_comeIn_31 f_X6_10 (hg.1 _ _ rfl) (hg.2 _ _ _ rfl) ?_
            refine xv_geti (q := 37) rfl dX6_comeIn_34 f_X6_98 (hg.1 _ _ rfl) ?_
            rw [hn]
            refine xv_istore (q := 39) rfl dX6_comeIn_37 rfl ?_
            refine xv_iload (q := 41) rfl dX6_comeIn_39 rfl ?_
            refine xv_if_lt (q := 44) (t := 50) rfl rfl dX6_comeIn_41 (fun h41 => ?_) (fun h41 => ?_)
            · exact absurd h41 (nI_pos (by omega))
            · refine xv_iload (q := 46) rfl dX6_comeIn_44 rfl ?_
              refine xv_iconst (v := nI 5) (q := 47) rfl dX6_comeIn_46 rfl ?_
              refine xv_icmp_lt (q := 50) (t := 53) rfl rfl dX6_comeIn_47 (fun h47 => ?_) (fun h47 => ?_)
              · have h47 := nIlt h47 (by omega) (by omega)
                refine xv_aload_n (q := 54) rfl dX6_comeIn_53 rfl rfl ?_
                refine xv_geto (q := 57) rfl dX6_comeIn_54 f_X6_10 (hg.1 _ _ rfl) (hg.2 _ _ _ rfl) ?_
                refine xv_geta (q := 60) rfl dX6_comeIn_57 f_X6_101 (hg.1 _ _ rfl) (hg.2 _ _ _ rfl) ?_
                refine xv_iload (q := 62) rfl dX6_comeIn_60 rfl ?_
                refine xv_iload_n (q := 63) rfl dX6_comeIn_62 rfl rfl ?_
                refine xv_iast (q := 64) rfl dX6_comeIn_63 (hg.1 _ _ rfl) rfl (by omega) (by decide) ?_
                refine xv_aload_n (q := 65) rfl dX6_comeIn_64 rfl rfl ?_
                refine xv_geto (q := 68) rfl dX6_comeIn_65 f_X6_10 (hg.1 _ _ rfl) (hg.2 _ _ _ rfl) ?_
                refine xv_geta (q := 71) rfl dX6_comeIn_68 f_X6_104 (hg.1 _ _ rfl) (hg.2 _ _ _ rfl) ?_
                refine xv_iload (q := 73) rfl dX6_comeIn_71 rfl ?_
                refine xv_iload_n (q := 74) rfl dX6_comeIn_73 rfl rfl ?_
                refine xv_bipush (v := nI 10) (q := 76) rfl dX6_comeIn_74 rfl ?_
                refine xv_idiv (q := 77) rfl dX6_comeIn_76 (by decide) ?_
                refine xv_as (w := nI (b / 10)) (pk_div (by omega) (by decide) (by decide)) ?_
                refine xv_iast (q := 78) rfl dX6_comeIn_77 (hg.1 _ _ rfl) rfl (by omega) (by decide) ?_
                refine xv_aload_n (q := 79) rfl dX6_comeIn_78 rfl rfl ?_
                refine xv_geto (q := 82) rfl dX6_comeIn_79 f_X6_10 (hg.1 _ _ rfl) (hg.2 _ _ _ rfl) ?_
                refine xv_geta (q := 85) rfl dX6_comeIn_82 f_X6_87 (hg.1 _ _ rfl) (hg.2 _ _ _ rfl) ?_
                refine xv_iload (q := 87) rfl dX6_comeIn_85 rfl ?_
                refine xv_iload_n (q := 88) rfl dX6_comeIn_87 rfl rfl ?_
                refine xv_bipush (v := nI 10) (q := 90) rfl dX6_comeIn_88 rfl ?_
                refine xv_irem (q := 91) rfl dX6_comeIn_90 (by decide) ?_
                refine xv_as (w := nI (b % 10)) (pk_rem (by omega) (by decide) (by decide)) ?_
                refine xv_iast (q := 92) rfl dX6_comeIn_91 (hg.1 _ _ rfl) rfl (by omega) (by decide) ?_
                refine xv_aload_n (q := 93) rfl dX6_comeIn_92 rfl rfl ?_
                refine xv_geto (q := 96) rfl dX6_comeIn_93 f_X6_10 (hg.1 _ _ rfl) (hg.2 _ _ _ rfl) ?_
                refine xv_geta (q := 99) rfl dX6_comeIn_96 f_X6_107 (hg.1 _ _ rfl) (hg.2 _ _ _ rfl) ?_
                refine xv_iload (q := 101) rfl dX6_comeIn_99 rfl ?_
                refine xv_iload_n (q := 102) rfl dX6_comeIn_101 rfl rfl ?_
                refine xv_bipush (v := nI 100) (q := 104) rfl dX6_comeIn_102 rfl ?_
                refine xv_idiv (q := 105) rfl dX6_comeIn_104 (by decide) ?_
                refine xv_as (w := nI (z / 100)) (pk_div hz (by decide) (by decide)) ?_
                refine xv_iast (q := 106) rfl dX6_comeIn_105 (hg.1 _ _ rfl) rfl (by omega) (by decide) ?_
                refine xv_aload_n (q := 107) rfl dX6_comeIn_106 rfl rfl ?_
                refine xv_geto (q := 110) rfl dX6_comeIn_107 f_X6_10 (hg.1 _ _ rfl) (hg.2 _ _ _ rfl) ?_
                refine xv_geta (q := 113) rfl dX6_comeIn_110 f_X6_110 (hg.1 _ _ rfl) (hg.2 _ _ _ rfl) ?_
                refine xv_iload (q := 115) rfl dX6_comeIn_113 rfl ?_
                refine xv_iload_n (q := 116) rfl dX6_comeIn_115 rfl rfl ?_
                refine xv_bipush (v := nI 10) (q := 118) rfl dX6_comeIn_116 rfl ?_
                refine xv_idiv (q := 119) rfl dX6_comeIn_118 (by decide) ?_
                refine xv_as (w := nI (z / 10)) (pk_div hz (by decide) (by decide)) ?_
                refine xv_bipush (v := nI 10) (q := 121) rfl dX6_comeIn_119 rfl ?_
                refine xv_irem (q := 122) rfl dX6_comeIn_121 (by decide) ?_
                refine xv_as (w := nI (z / 10 % 10)) (pk_rem (by omega) (by decide) (by decide)) ?_
                refine xv_iast (q := 123) rfl dX6_comeIn_122 (hg.1 _ _ rfl) rfl (by omega) (by decide) ?_
                refine xv_aload_n (q := 124) rfl dX6_comeIn_123 rfl rfl ?_
                refine xv_geto (q := 127) rfl dX6_comeIn_124 f_X6_10 (hg.1 _ _ rfl) (hg.2 _ _ _ rfl) ?_
                refine xv_geta (q := 130) rfl dX6_comeIn_127 f_X6_113 (hg.1 _ _ rfl) (hg.2 _ _ _ rfl) ?_
                refine xv_iload (q := 132) rfl dX6_comeIn_130 rfl ?_
                refine xv_iload_n (q := 133) rfl dX6_comeIn_132 rfl rfl ?_
                refine xv_bipush (v := nI 10) (q := 135) rfl dX6_comeIn_133 rfl ?_
                refine xv_irem (q := 136) rfl dX6_comeIn_135 (by decide) ?_
                refine xv_as (w := nI (z % 10)) (pk_rem hz (by decide) (by decide)) ?_
                refine xv_iast (q := 137) rfl dX6_comeIn_136 (hg.1 _ _ rfl) rfl (by omega) (by decide) ?_
                refine xv_aload_n (q := 138) rfl dX6_comeIn_137 rfl rfl ?_
                refine xv_geto (q := 141) rfl dX6_comeIn_138 f_X6_10 (hg.1 _ _ rfl) (hg.2 _ _ _ rfl) ?_
                refine xv_geta (q := 144) rfl dX6_comeIn_141 f_X6_116 (hg.1 _ _ rfl) (hg.2 _ _ _ rfl) ?_
                refine xv_iload (q := 146) rfl dX6_comeIn_144 rfl ?_
                refine xv_bipush (v := nI 100) (q := 148) rfl dX6_comeIn_146 rfl ?_
                refine xv_iast (q := 149) rfl dX6_comeIn_148 (hg.1 _ _ rfl) rfl (by omega) (by decide) ?_
                have hm' : XCm (xi (xi (xi (xi (xi (xi (xi I 2 n (nI a)) 3 n (nI (b / 10))) 4 n (nI (b % 10))) 5 n (nI (z / 100))) 6 n (nI (z / 10 % 10))) 7 n (nI (z % 10))) 8 n (nI 100)) 1 (ci (newr c n a b z)) (n + 1) := by
                  intro w r hw hr
                  rw [xi7 _ _ _ _ _ _ _ _ _ w r hw]
                  by_cases e : r = n
                  · subst e
                    rw [if_pos rfl]
                    unfold ci newr
                    rw [putr_at]
                    rcases w7 hw with rfl | rfl | rfl | rfl | rfl | rfl | rfl <;> rfl
                  · rw [if_neg e, hm w r hw (by omega)]
                    exact (ci_putr w r (by omega)).symm
                refine xv_aload_n (q := 150) rfl dX6_comeIn_149 rfl rfl ?_
                refine xv_geto (q := 153) rfl dX6_comeIn_150 f_X6_10 (hg.1 _ _ rfl) (hg.2 _ _ _ rfl) ?_
                refine xv_iload (q := 155) rfl dX6_comeIn_153 rfl ?_
                refine xv_iload (q := 157) rfl dX6_comeIn_155 rfl ?_
                refine xv_cV2 (z := mX0_canStand) (q := 160) rfl dX6_comeIn_157 l_X6_119 gX0_canStand (hg.1 _ _ rfl) rfl rfl rfl (c_canStand (d := d) (xg_crew hg (Or.inl rfl)) hm' (by omega) (Nat.le_succ n) (Nat.lt_succ_self n)) (by omega) ?_
                refine xv_if_ne (q := 163) (t := 166) rfl rfl dX6_comeIn_160 (fun h160 => ?_) (fun h160 => ?_)
                · have h160 := bIn h160
                  refine xv_aload_n (q := 167) rfl dX6_comeIn_166 rfl rfl ?_
                  refine xv_geto (q := 170) rfl dX6_comeIn_167 f_X6_10 (hg.1 _ _ rfl) (hg.2 _ _ _ rfl) ?_
                  refine xv_iload (q := 172) rfl dX6_comeIn_170 rfl ?_
                  refine xv_iconst (v := nI 1) (q := 173) rfl dX6_comeIn_172 rfl ?_
                  refine xv_iadd (q := 174) rfl dX6_comeIn_173 ?_
                  refine xv_puti (q := 177) rfl dX6_comeIn_174 f_X6_98 (fun h => by cases h) (hg.1 _ _ rfl) ?_
                  refine xv_iload (q := 179) rfl dX6_comeIn_177 rfl ?_
                  refine xv_iret dX6_comeIn_179 rfl ?_
                  rw [show sp_rider n c (nI a) (nI b) (nI z) = (nI n, n + 1, newr c n a b z) from (if_pos hok).trans ((if_neg (by omega)).trans (by rw [nI_clamp (n := a) (by omega), nI_clamp (n := b) (by omega), nI_clamp (n := z) hz]; exact if_pos h160))]
                  dsimp only [QR]
                  refine ⟨rfl, rfl, rfl, rfl, ⟨fun w r hw hr => ?_, ?_, by omega, ?_, hd2, ?_, ?_, ?_⟩, fun k hk => ?_⟩
                  · rw [xi_off _ _ _ _ (by omega)]; exact hm' w r hw hr
                  · rw [xi_eq, nI_add]
                  · rw [xi_ne _ _ _ _ (by omega), xi7o _ _ _ _ _ _ _ _ _ 1 (by omega)]; exact hdd
                  · rw [xi_ne _ _ _ _ (by omega), xi7o _ _ _ _ _ _ _ _ _ 1 (by omega)]; exact hu
                  · intro r hr
                    by_cases e : r = n
                    · subst e
                      unfold wfr newr
                      simp only [putr_at, crow]
                      omega
                    · have := hwf.1 r (by omega)
                      unfold wfr newr at *
                      simp only [putr_lt (show r < n by omega)]
                      exact this
                  · show (aks _ n && oks _ n n) = true
                    rw [h160, aks_cong (c := ci c) (c' := ci (newr c n a b z)) (fun w o hw ho => ci_putr w o ho), hwf.2]
                    rfl
                  · rw [xi_off _ _ _ _ (by omega)]; exact xi7o _ _ _ _ _ _ _ _ _ k (by omega)
                · have h160 := bIz h160
                  refine xv_bipush (v := (-3)) (q := 165) rfl dX6_comeIn_163 rfl ?_
                  refine xv_iret dX6_comeIn_165 rfl ?_
                  rw [show sp_rider n c (nI a) (nI b) (nI z) = (-3, n, c) from (if_pos hok).trans ((if_neg (by omega)).trans (if_neg (by rw [nI_clamp (n := a) (by omega), nI_clamp (n := b) (by omega), nI_clamp (n := z) hz, h160]; decide)))]
                  dsimp only [QR]
                  refine ⟨rfl, rfl, rfl, rfl, ⟨fun w r hw hr => ?_, ?_, hn5, ?_, hd2, ?_, hwf⟩, fun k hk => xi7o _ _ _ _ _ _ _ _ _ k (by omega)⟩
                  · rw [xi7 _ _ _ _ _ _ _ _ _ w r hw, if_neg (by omega)]; exact hm w r hw hr
                  · rw [xi7o _ _ _ _ _ _ _ _ _ 1 (by omega)]; exact hn
                  · rw [xi7o _ _ _ _ _ _ _ _ _ 1 (by omega)]; exact hdd
                  · rw [xi7o _ _ _ _ _ _ _ _ _ 1 (by omega)]; exact hu
              · have h47 := nInlt h47 (by omega) (by omega)
                refine xv_bipush (v := (-4)) (q := 52) rfl dX6_comeIn_50 rfl ?_
                refine xv_iret dX6_comeIn_52 rfl ?_
                rw [show sp_rider n c (nI a) (nI b) (nI z) = (-4, n, c) from (if_pos hok).trans (if_pos h47)]
                exact QR.same hK
          · have h24 := bIz h24
            refine xv_bipush (v := (-2)) (q := 29) rfl dX6_comeIn_27 rfl ?_
            refine xv_iret dX6_comeIn_29 rfl ?_
            rw [sp_rider_b (fun q => absurd (of_decide_eq_true q).2.2.2.2 (by rw [h24]; decide))]
            exact QR.same hK
theorem x_rider (hg : XG sh R) (hK : KXc I n c dd u) (k w y : Int32) : XC E mX6_rider (d + 2) 0 0 [.ref 0, .int k, .int w, .int y] sh I R L (QR (sp_rider n c k w y) n c dd u sh I R L) := by
  refine XC.of (by decide) rfl rfl ?_
  refine xv_aload_n (q := 1) rfl dX6_rider_0 rfl rfl ?_
  refine xv_iload_n (q := 2) rfl dX6_rider_1 rfl rfl ?_
  refine xv_iload_n (q := 3) rfl dX6_rider_2 rfl rfl ?_
  refine xv_iload_n (q := 4) rfl dX6_rider_3 rfl rfl ?_
  refine xv_rV3 (z := mX6_comeIn) (q := 7) rfl dX6_rider_4 l_X6_60 gX6_comeIn (hg.1 _ _ rfl) rfl rfl rfl (x_comeIn (d := d) hg hK k w y) (by omega) ?_
  rintro _ _ _ _ _ ⟨rfl, rfl, rfl, rfl, h5, h6⟩
  refine xv_iret dX6_rider_7 rfl ?_
  exact ⟨rfl, rfl, rfl, rfl, h5, h6⟩
end RIDERS

/-! the model: draws -/
def pgb (f a b x y : Nat) : Bool := (List.range 5).any fun k => !decide ((f + k) % 6 = a) && (!decide ((f + k) % 6 = b) && (!decide ((f + k) % 6 = x) && !decide ((f + k) % 6 = y)))
theorem pgb6 : ((List.range 6).all fun f => (List.range 6).all fun a => (List.range 6).all fun b => (List.range 6).all fun x => (List.range 6).all fun y => pgb f a b x y) = true := by decide +kernel
theorem pg6 (f : Nat) (hf : f < 6) (a : Nat) (ha : a < 6) (b : Nat) (zhb : b < 6) (x : Nat) (zhx : x < 6) (y : Nat) (zhy : y < 6) : ∃ k, k < 5 ∧ ¬ (f + k) % 6 = a ∧ ¬ (f + k) % 6 = b ∧ ¬ (f + k) % 6 = x ∧ ¬ (f + k) % 6 = y := by
  have zh1 := List.all_eq_true.mp pgb6 f (List.mem_range.mpr hf)
  have zh2 := List.all_eq_true.mp zh1 a (List.mem_range.mpr ha)
  have zh3 := List.all_eq_true.mp zh2 b (List.mem_range.mpr zhb)
  have zh4 := List.all_eq_true.mp zh3 x (List.mem_range.mpr zhx)
  have zh5 := List.all_eq_true.mp zh4 y (List.mem_range.mpr zhy)
  obtain ⟨k, hk, zhz⟩ := List.any_eq_true.mp zh5
  simp only [Bool.and_eq_true, Bool.not_eq_true', decide_eq_false_iff_not] at zhz
  exact ⟨k, List.mem_range.mp hk, zhz.1, zhz.2.1, zhz.2.2.1, zhz.2.2.2⟩
/-- of five places in a row one is free -/
theorem pg_ok {q : CR} {r f : Nat} (hr : r < 5) (zhq : ∀ o, o < r → q 5 o < 6) (hf : f < 6) : ∃ k, k < 5 ∧ oks (ci (setr q 5 r ((f + k) % 6))) r r = true := by
  have zhp : ∀ o, (if o < r then q 5 o else 0) < 6 := fun o => by
    split
    next h => exact zhq o h
    next => decide
  obtain ⟨k, hk, zh0, zh1, zh2, zh3⟩ := pg6 f hf _ (zhp 0) _ (zhp 1) _ (zhp 2) _ (zhp 3)
  refine ⟨k, hk, oks_iff.mpr (fun o ho hne => ?_)⟩
  have hno : ¬ q 5 o = (f + k) % 6 := fun z => by
    have zh4 : o = 0 ∨ o = 1 ∨ o = 2 ∨ o = 3 := by omega
    rcases zh4 with rfl | rfl | rfl | rfl
    · rw [if_pos ho] at zh0; exact zh0 z.symm
    · rw [if_pos ho] at zh1; exact zh1 z.symm
    · rw [if_pos ho] at zh2; exact zh2 z.symm
    · rw [if_pos ho] at zh3; exact zh3 z.symm
  unfold cf ci
  rw [setr_ne (show ¬ ((5 : Nat) = 5 ∧ o = r) from fun z => hne z.2), setr_at, decide_eq_false, Bool.false_and]
  exact fun z => hno ((nI_eq (by have := zhq o ho; omega) (by omega)).mp z)
section MDRAW
variable {E : XE} {d : Nat} {sh : XSh} {I : XI} {R : XRf} {L : XL} {n dd : Nat} {c : CR} {tc u : Nat} {tx : TXS} {tv : TV}
theorem m_drw_in (hg : XG sh R) (hn5 : n ≤ 5) {q x : CR} {r f : Nat} (hr : r < n) (hf : f < 6) (hA : AG q x r) (hqa : aks (ci q) r = true) (hq6 : ∀ o, o < r → q 5 o < 6) {l1 l2 : Int32} {Q : XQ} (KK : ∀ J : XI, MSt I J n c (setr x 5 r ((f + dfi q r f 5 0) % 6)) dd (aln n) tv → XV E mX7_draws (d + 6) 0 0 Q 0 0 77 [some (.ref 61), some (.int l1), some (.int l2), some (.int (nI r))] [] sh J R L) : ∀ (m k : Nat) (J : XI), k + m = 5 → dfi q r f m k = dfi q r f 5 0 → (∀ j, j < k → ¬ oks (ci (setr q 5 r ((f + j) % 6))) r r = true) → MSt I J n c (setr x 5 r ((f + k) % 6)) dd (aln n) tv → XV E mX7_draws (d + 6) 0 0 Q 0 0 47 [some (.ref 61), some (.int l1), some (.int l2), some (.int (nI r))] [] sh J R L := by
  intro m
  induction m with
  | zero =>
    intro k J zh1 zh2 zh3
    obtain ⟨j, zhj, ho⟩ := pg_ok (q := q) (r := r) (f := f) (by omega) hq6 hf
    exact absurd ho (zh3 j (by omega))
  | succ m ih =>
    intro k J zh1 zh2 zh3 hX
    have hak := ag_aks (p := (f + k) % 6) hA hqa
    refine xv_aload_n (q := 48) rfl dX7_draws_47 rfl rfl ?_
    refine xv_iload_n (q := 49) rfl dX7_draws_48 rfl rfl ?_
    refine xv_iconst (v := nI 1) (q := 50) rfl dX7_draws_49 rfl ?_
    refine xv_iadd (q := 51) rfl dX7_draws_50 ?_
    refine xv_as (w := nI (r + 1)) (nI_add _ _) ?_
    refine xv_cV1 (z := mX7_areTwo) (q := 54) rfl dX7_draws_51 l_X7_101 gX7_areTwo (hg.1 _ _ rfl) rfl rfl rfl (m_two (d := d) hg (q := setr x 5 r ((f + k) % 6)) (m := r + 1) (fun w a hw ha => hX.2.1.1 w a hw (by omega)) (by omega)) (by omega) ?_
    rw [hak]
    refine xv_if_eq (q := 57) (t := 77) rfl rfl dX7_draws_54 (fun h54 => ?_) (fun h54 => ?_)
    · have h54 : oks (ci (setr q 5 r ((f + k) % 6))) r r = true := by have := bIz h54; rw [Bool.not_eq_false'] at this; exact this
      rw [show dfi q r f (m + 1) k = k from if_pos h54] at zh2
      rw [zh2] at hX
      exact KK J hX
    · have h54 : ¬ oks (ci (setr q 5 r ((f + k) % 6))) r r = true := by have := bIn h54; rw [Bool.not_eq_true'] at this; rw [this]; decide
      rw [show dfi q r f (m + 1) k = dfi q r f m (k + 1) from if_neg h54] at zh2
      refine xv_aload_n (q := 58) rfl dX7_draws_57 rfl rfl ?_
      refine xv_geta (q := 61) rfl dX7_draws_58 f_X7_41 (hg.1 _ _ rfl) (hg.2 _ _ _ rfl) ?_
      refine xv_iload_n (q := 62) rfl dX7_draws_61 rfl rfl ?_
      refine xv_aload_n (q := 63) rfl dX7_draws_62 rfl rfl ?_
      refine xv_geta (q := 66) rfl dX7_draws_63 f_X7_41 (hg.1 _ _ rfl) (hg.2 _ _ _ rfl) ?_
      refine xv_iload_n (q := 67) rfl dX7_draws_66 rfl rfl ?_
      refine xv_iald (q := 68) rfl dX7_draws_67 (hg.1 _ _ rfl) rfl (by omega) (by decide) ?_
      refine xv_as (w := nI ((f + k) % 6)) ((hX.2.1.1 5 r (by decide) hr).trans (by unfold ci; rw [setr_at])) ?_
      refine xv_iconst (v := nI 1) (q := 69) rfl dX7_draws_68 rfl ?_
      refine xv_iadd (q := 70) rfl dX7_draws_69 ?_
      refine xv_as (w := nI ((f + k) % 6 + 1)) (nI_add _ _) ?_
      refine xv_bipush (v := nI 6) (q := 72) rfl dX7_draws_70 rfl ?_
      refine xv_irem (q := 73) rfl dX7_draws_72 (by decide) ?_
      refine xv_as (w := nI ((f + (k + 1)) % 6)) ((pk_rem (by omega) (by decide) (by decide)).trans (by congr 1; omega)) ?_
      refine xv_iast (q := 74) rfl dX7_draws_73 (hg.1 _ _ rfl) rfl (by omega) (by decide) ?_
      refine xv_goto (t := 47) rfl dX7_draws_74 ?_
      have hX2 := hX.put (r := r) (p := (f + (k + 1)) % 6) (by omega)
      rw [setr_setr] at hX2
      refine ih (k + 1) _ (by omega) zh2 (fun j zhj => ?_) hX2
      by_cases e : j = k
      · rw [e]; exact h54
      · exact zh3 j (by omega)
end MDRAW

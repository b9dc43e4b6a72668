/-! ===== the other small constructors ===== -/
def S_X3_init : Sp := (fun _ _ => (1, 24), fun as h K => ∃ a, as = [vr (some a)] ∧ qk h a = 13 ∧ qt h = a + 1 ∧ qi h a = (fun _ => 0) ∧ ∀ h', Eqj h h' a → qt h' = a + 2 → isLo h' a → qi h' a = (fun _ => 0) → (∀ i, 1 ≤ i → i ≤ 1 → qi h' (a + i) = (fun _ => 0)) → K none h')
abbrev i_X3_init : MI := (cX3_init, 1, RX3, none, "<init>", 2)
theorem k_X3_init_0 : Okop i_X3_init 0 (o_al 0) 1 := k_aln (j := 0) (by decide +kernel)
theorem k_X3_init_1 : Okop i_X3_init 1 (o_oinit) 4 := k_oinit (idx := 3) (by decide +kernel) gw_131 gw_19 gw_20 (by decide)
theorem k_X3_init_4 : Okop i_X3_init 4 (o_al 0) 5 := k_aln (j := 0) (by decide +kernel)
theorem k_X3_init_5 : Okop i_X3_init 5 (o_c 24) 7 := k_bipush (by decide +kernel) rfl
theorem k_X3_init_7 : Okop i_X3_init 7 (o_newa 1) 9 := k_newa (.inl ⟨rfl, rfl⟩) gw_103 (by decide +kernel)
theorem k_X3_init_9 : Okop i_X3_init 9 (o_pr 3 0) 12 := k_pr (idx := 9) fo_3 (by decide) (by decide) gw_132 (by decide +kernel) (.inr ⟨rfl, rfl, rfl⟩)
theorem k_X3_init_12 : Okop i_X3_init 12 (o_vret) 13 := k_vret (by decide +kernel) rfl
theorem s_X3_init_0 : Seg i_X3_init 0 [o_al 0, o_oinit, o_al 0, o_c 24, o_newa 1, o_pr 3 0, o_vret] 13 := Seg.cons k_X3_init_0 (Seg.cons k_X3_init_1 (Seg.cons k_X3_init_4 (Seg.cons k_X3_init_5 (Seg.cons k_X3_init_7 (Seg.cons k_X3_init_9 (Seg.cons k_X3_init_12 (Seg.nil)))))))

theorem m_X3_init : Mth yX3_init cX3_init 1 none 2 S_X3_init := by
  refine Mth.of (by decide) ?_
  rintro x as h ok ⟨a, rfl, k0, ht, hz, hK⟩
  refine ⟨Nat.le_of_ble_eq_true rfl, ?_⟩
  have e01 : ¬ a = (a + 1) := by omega
  have e10 : ¬ (a + 1) = a := by omega
  show V i_X3_init x 0 _ [] h (1, 24)
  refine s_X3_init_0 x ok _ _ _ _ ?_
  simp only [wpS, o_c, o_cl, o_il, o_ll, o_al, o_is, o_ls, o_as, o_inc, o_add, o_sub, o_mul, o_and, o_or, o_xor, o_shl, o_shr, o_div, o_neg, o_ladd, o_lsub, o_lmul, o_ldiv, o_lrem, o_lneg, o_lcmp, o_i2l, o_l2i, o_dup, o_dup2, o_pop, o_go, o_nn, o_sw, swc, o_iret, o_zret, o_lret, o_vret, o_ieq, o_eq0, o_ine, o_ne0, o_ilt, o_lt0, o_ige, o_ge0, o_igt, o_gt0, o_ile, o_le0, o_iald, o_zald, o_lald, o_aald, o_iast, o_zast, o_last, o_aast, o_alen, o_gi, o_gr, o_pi, o_pz, o_pr, o_new, o_newa, o_copy, o_oinit, o_call, o_callV, o_callVc, o_callI, popn, cnO, o_BAD, lgt, lst, isL, kil, st1, st2, entL, List.length_nil, List.length_cons, List.replicate, Nat.reduceAdd, Nat.reduceLeDiff, Nat.reduceSub, true_and, and_true, Nat.zero_le, ne_eq, qk_wi, ql_wi, qr_wi, qj_wi, qt_wi, qk_wj, ql_wj, qr_wj, qi_wj, qt_wj, qk_wr, ql_wr, qi_wr, qj_wr, qt_wr, qi_ws, qj_ws, qr_ws, Int.toNat_natCast, Int.toNat_zero, Int.reduceToNat, not_true_eq_false, not_false_eq_true, false_implies, implies_true, Option.some.injEq, reduceCtorEq, Sp0, true_or, or_true, or_self, wi_wi, wj_wj, qk_al, ql_al, qr_al, qt_al, ht, hz, qi_al, Nat.add_assoc, e01, e10, k0, ↓reduceIte]
  repeat' (first | (with_reducible refine And.intro ?_ ?_) | (with_reducible intro))
  all_goals (try (first | with_reducible assumption | omega | (unfold inI; omega) | (unfold inL; omega) | exact cz_in _ _))
  refine hK _ ?_ ?_ ?_ ?_ (fun i i1 i2 => ?_)
  · refine ⟨fun b hb => ⟨?_, ?_, ?_, ?_⟩, fun b hb => ?_⟩
    · simp only [qk_wr, qk_wi, qk_al, qt_wr, qt_wi, qt_al, ht]
      repeat rw [if_neg (by omega)]
    · simp only [ql_wr, ql_wi, ql_al, qt_wr, qt_wi, qt_al, ht]
      repeat rw [if_neg (by omega)]
    · simp only [qi_wr, qi_wi, qi_al, qt_wr, qt_wi, qt_al, ht]
      repeat rw [if_neg (by omega)]
    · simp only [qr_wr', qr_wi, qr_al, qt_wr, qt_wi, qt_al, ht]
      repeat rw [if_neg (by omega)]
    · simp only [qj_wr, qj_wi, qj_al, qt_wr, qt_wi, qt_al, ht]
      repeat rw [if_neg (by omega)]
  · simp only [qt_wr, qt_wi, qt_al, ht, Nat.add_assoc, Nat.reduceAdd]
  · unfold isLo
    simp only [qk_wr, qk_wi, qk_al, ql_wr, ql_wi, ql_al, qr_wr', qr_wi, qr_al, qt_wr, qt_wi, qt_al, ht, Nat.add_assoc, Nat.reduceAdd, fu, Nat.reduceEqDiff, e01, e10, k0, ↓reduceIte, true_and, and_true]
    all_goals (try simp)
  · simp only [qi_wr, qi_wi, qi_al, qt_wr, qt_wi, qt_al, ht, Nat.add_assoc, Nat.reduceAdd, e01, e10, ↓reduceIte, hz]
  · obtain rfl : i = 1 := by omega
    all_goals simp only [qi_wr, qi_wi, qi_al, qt_wr, qt_wi, qt_al, ht, Nat.add_assoc, Nat.reduceAdd, e01, e10, ↓reduceIte]
def S_X2_init : Sp := (fun _ _ => (3, 36), fun as h K => ∃ a, as = [vr (some a)] ∧ qk h a = 12 ∧ qt h = a + 1 ∧ qi h a = (fun _ => 0) ∧ ∀ h', Eqj h h' a → qt h' = a + 4 → isDr h' a → (∀ i, 1 ≤ i → i ≤ 3 → qi h' (a + i) = (fun _ => 0)) → K none h')
abbrev i_X2_init : MI := (cX2_init, 1, RX2, none, "<init>", 2)
theorem k_X2_init_0 : Okop i_X2_init 0 (o_al 0) 1 := k_aln (j := 0) (by decide +kernel)
theorem k_X2_init_1 : Okop i_X2_init 1 (o_oinit) 4 := k_oinit (idx := 3) (by decide +kernel) gw_173 gw_19 gw_20 (by decide)
theorem k_X2_init_4 : Okop i_X2_init 4 (o_al 0) 5 := k_aln (j := 0) (by decide +kernel)
theorem k_X2_init_5 : Okop i_X2_init 5 (o_c 12) 7 := k_bipush (by decide +kernel) rfl
theorem k_X2_init_7 : Okop i_X2_init 7 (o_newa 1) 9 := k_newa (.inl ⟨rfl, rfl⟩) gw_103 (by decide +kernel)
theorem k_X2_init_9 : Okop i_X2_init 9 (o_pr 2 0) 12 := k_pr (idx := 9) fo_2 (by decide) (by decide) gw_174 (by decide +kernel) (.inr ⟨rfl, rfl, rfl⟩)
theorem k_X2_init_12 : Okop i_X2_init 12 (o_al 0) 13 := k_aln (j := 0) (by decide +kernel)
theorem k_X2_init_13 : Okop i_X2_init 13 (o_c 12) 15 := k_bipush (by decide +kernel) rfl
theorem k_X2_init_15 : Okop i_X2_init 15 (o_newa 1) 17 := k_newa (.inl ⟨rfl, rfl⟩) gw_103 (by decide +kernel)
theorem k_X2_init_17 : Okop i_X2_init 17 (o_pr 2 1) 20 := k_pr (idx := 15) fo_2 (by decide) (by decide) gw_176 (by decide +kernel) (.inr ⟨rfl, rfl, rfl⟩)
theorem k_X2_init_20 : Okop i_X2_init 20 (o_al 0) 21 := k_aln (j := 0) (by decide +kernel)
theorem k_X2_init_21 : Okop i_X2_init 21 (o_c 12) 23 := k_bipush (by decide +kernel) rfl
theorem k_X2_init_23 : Okop i_X2_init 23 (o_newa 1) 25 := k_newa (.inl ⟨rfl, rfl⟩) gw_103 (by decide +kernel)
theorem k_X2_init_25 : Okop i_X2_init 25 (o_pr 2 2) 28 := k_pr (idx := 18) fo_2 (by decide) (by decide) gw_177 (by decide +kernel) (.inr ⟨rfl, rfl, rfl⟩)
theorem k_X2_init_28 : Okop i_X2_init 28 (o_vret) 29 := k_vret (by decide +kernel) rfl
theorem s_X2_init_0 : Seg i_X2_init 0 [o_al 0, o_oinit, o_al 0, o_c 12, o_newa 1, o_pr 2 0, o_al 0, o_c 12, o_newa 1, o_pr 2 1, o_al 0, o_c 12, o_newa 1, o_pr 2 2, o_vret] 29 := Seg.cons k_X2_init_0 (Seg.cons k_X2_init_1 (Seg.cons k_X2_init_4 (Seg.cons k_X2_init_5 (Seg.cons k_X2_init_7 (Seg.cons k_X2_init_9 (Seg.cons k_X2_init_12 (Seg.cons k_X2_init_13 (Seg.cons k_X2_init_15 (Seg.cons k_X2_init_17 (Seg.cons k_X2_init_20 (Seg.cons k_X2_init_21 (Seg.cons k_X2_init_23 (Seg.cons k_X2_init_25 (Seg.cons k_X2_init_28 (Seg.nil)))))))))))))))

theorem m_X2_init : Mth yX2_init cX2_init 1 none 2 S_X2_init := by
  refine Mth.of (by decide) ?_
  rintro x as h ok ⟨a, rfl, k0, ht, hz, hK⟩
  refine ⟨Nat.le_of_ble_eq_true rfl, ?_⟩
  have e01 : ¬ a = (a + 1) := by omega
  have e02 : ¬ a = (a + 2) := by omega
  have e03 : ¬ a = (a + 3) := by omega
  have e10 : ¬ (a + 1) = a := by omega
  have e12 : ¬ (a + 1) = (a + 2) := by omega
  have e13 : ¬ (a + 1) = (a + 3) := by omega
  have e20 : ¬ (a + 2) = a := by omega
  have e21 : ¬ (a + 2) = (a + 1) := by omega
  have e23 : ¬ (a + 2) = (a + 3) := by omega
  have e30 : ¬ (a + 3) = a := by omega
  have e31 : ¬ (a + 3) = (a + 1) := by omega
  have e32 : ¬ (a + 3) = (a + 2) := by omega
  show V i_X2_init x 0 _ [] h (3, 36)
  refine s_X2_init_0 x ok _ _ _ _ ?_
  simp only [wpS, o_c, o_cl, o_il, o_ll, o_al, o_is, o_ls, o_as, o_inc, o_add, o_sub, o_mul, o_and, o_or, o_xor, o_shl, o_shr, o_div, o_neg, o_ladd, o_lsub, o_lmul, o_ldiv, o_lrem, o_lneg, o_lcmp, o_i2l, o_l2i, o_dup, o_dup2, o_pop, o_go, o_nn, o_sw, swc, o_iret, o_zret, o_lret, o_vret, o_ieq, o_eq0, o_ine, o_ne0, o_ilt, o_lt0, o_ige, o_ge0, o_igt, o_gt0, o_ile, o_le0, o_iald, o_zald, o_lald, o_aald, o_iast, o_zast, o_last, o_aast, o_alen, o_gi, o_gr, o_pi, o_pz, o_pr, o_new, o_newa, o_copy, o_oinit, o_call, o_callV, o_callVc, o_callI, popn, cnO, o_BAD, lgt, lst, isL, kil, st1, st2, entL, List.length_nil, List.length_cons, List.replicate, Nat.reduceAdd, Nat.reduceLeDiff, Nat.reduceSub, true_and, and_true, Nat.zero_le, ne_eq, qk_wi, ql_wi, qr_wi, qj_wi, qt_wi, qk_wj, ql_wj, qr_wj, qi_wj, qt_wj, qk_wr, ql_wr, qi_wr, qj_wr, qt_wr, qi_ws, qj_ws, qr_ws, Int.toNat_natCast, Int.toNat_zero, Int.reduceToNat, not_true_eq_false, not_false_eq_true, false_implies, implies_true, Option.some.injEq, reduceCtorEq, Sp0, true_or, or_true, or_self, wi_wi, wj_wj, qk_al, ql_al, qr_al, qt_al, ht, hz, qi_al, Nat.add_assoc, e01, e02, e03, e10, e12, e13, e20, e21, e23, e30, e31, e32, k0, ↓reduceIte]
  repeat' (first | (with_reducible refine And.intro ?_ ?_) | (with_reducible intro))
  all_goals (try (first | with_reducible assumption | omega | (unfold inI; omega) | (unfold inL; omega) | exact cz_in _ _))
  refine hK _ ?_ ?_ ?_  (fun i i1 i2 => ?_)
  · refine ⟨fun b hb => ⟨?_, ?_, ?_, ?_⟩, fun b hb => ?_⟩
    · simp only [qk_wr, qk_wi, qk_al, qt_wr, qt_wi, qt_al, ht]
      repeat rw [if_neg (by omega)]
    · simp only [ql_wr, ql_wi, ql_al, qt_wr, qt_wi, qt_al, ht]
      repeat rw [if_neg (by omega)]
    · simp only [qi_wr, qi_wi, qi_al, qt_wr, qt_wi, qt_al, ht]
      repeat rw [if_neg (by omega)]
    · simp only [qr_wr', qr_wi, qr_al, qt_wr, qt_wi, qt_al, ht]
      repeat rw [if_neg (by omega)]
    · simp only [qj_wr, qj_wi, qj_al, qt_wr, qt_wi, qt_al, ht]
      repeat rw [if_neg (by omega)]
  · simp only [qt_wr, qt_wi, qt_al, ht, Nat.add_assoc, Nat.reduceAdd]
  · unfold isDr
    simp only [qk_wr, qk_wi, qk_al, ql_wr, ql_wi, ql_al, qr_wr', qr_wi, qr_al, qt_wr, qt_wi, qt_al, ht, Nat.add_assoc, Nat.reduceAdd, fu, Nat.reduceEqDiff, e01, e02, e03, e10, e12, e13, e20, e21, e23, e30, e31, e32, k0, ↓reduceIte, true_and, and_true]
    all_goals (try simp)
  · obtain rfl | rfl | rfl : i = 1 ∨ i = 2 ∨ i = 3 := by omega
    all_goals simp only [qi_wr, qi_wi, qi_al, qt_wr, qt_wi, qt_al, ht, Nat.add_assoc, Nat.reduceAdd, e01, e02, e03, e10, e12, e13, e20, e21, e23, e30, e31, e32, ↓reduceIte]
def S_X0_init : Sp := (fun _ _ => (6, 141), fun as h K => ∃ a, as = [vr (some a)] ∧ qk h a = 10 ∧ qt h = a + 1 ∧ qi h a = (fun _ => 0) ∧ ∀ h', Eqj h h' a → qt h' = a + 7 → isCa h' a → (∀ i, 1 ≤ i → i ≤ 6 → qi h' (a + i) = (fun _ => 0)) → K none h')
abbrev i_X0_init : MI := (cX0_init, 1, RX0, none, "<init>", 2)
theorem k_X0_init_0 : Okop i_X0_init 0 (o_al 0) 1 := k_aln (j := 0) (by decide +kernel)
theorem k_X0_init_1 : Okop i_X0_init 1 (o_oinit) 4 := k_oinit (idx := 3) (by decide +kernel) gw_229 gw_19 gw_20 (by decide)
theorem k_X0_init_4 : Okop i_X0_init 4 (o_al 0) 5 := k_aln (j := 0) (by decide +kernel)
theorem k_X0_init_5 : Okop i_X0_init 5 (o_c 8) 7 := k_bipush (by decide +kernel) rfl
theorem k_X0_init_7 : Okop i_X0_init 7 (o_newa 1) 9 := k_newa (.inl ⟨rfl, rfl⟩) gw_103 (by decide +kernel)
theorem k_X0_init_9 : Okop i_X0_init 9 (o_pr 0 0) 12 := k_pr (idx := 9) fo_0 (by decide) (by decide) gw_230 (by decide +kernel) (.inr ⟨rfl, rfl, rfl⟩)
theorem k_X0_init_12 : Okop i_X0_init 12 (o_al 0) 13 := k_aln (j := 0) (by decide +kernel)
theorem k_X0_init_13 : Okop i_X0_init 13 (o_c 8) 15 := k_bipush (by decide +kernel) rfl
theorem k_X0_init_15 : Okop i_X0_init 15 (o_newa 1) 17 := k_newa (.inl ⟨rfl, rfl⟩) gw_103 (by decide +kernel)
theorem k_X0_init_17 : Okop i_X0_init 17 (o_pr 0 2) 20 := k_pr (idx := 15) fo_0 (by decide) (by decide) gw_232 (by decide +kernel) (.inr ⟨rfl, rfl, rfl⟩)
theorem k_X0_init_20 : Okop i_X0_init 20 (o_al 0) 21 := k_aln (j := 0) (by decide +kernel)
theorem k_X0_init_21 : Okop i_X0_init 21 (o_c 8) 23 := k_bipush (by decide +kernel) rfl
theorem k_X0_init_23 : Okop i_X0_init 23 (o_newa 1) 25 := k_newa (.inl ⟨rfl, rfl⟩) gw_103 (by decide +kernel)
theorem k_X0_init_25 : Okop i_X0_init 25 (o_pr 0 3) 28 := k_pr (idx := 18) fo_0 (by decide) (by decide) gw_233 (by decide +kernel) (.inr ⟨rfl, rfl, rfl⟩)
theorem k_X0_init_28 : Okop i_X0_init 28 (o_al 0) 29 := k_aln (j := 0) (by decide +kernel)
theorem k_X0_init_29 : Okop i_X0_init 29 (o_c 9) 31 := k_bipush (by decide +kernel) rfl
theorem k_X0_init_31 : Okop i_X0_init 31 (o_newa 1) 33 := k_newa (.inl ⟨rfl, rfl⟩) gw_103 (by decide +kernel)
theorem k_X0_init_33 : Okop i_X0_init 33 (o_pr 0 5) 36 := k_pr (idx := 21) fo_0 (by decide) (by decide) gw_235 (by decide +kernel) (.inr ⟨rfl, rfl, rfl⟩)
theorem k_X0_init_36 : Okop i_X0_init 36 (o_al 0) 37 := k_aln (j := 0) (by decide +kernel)
theorem k_X0_init_37 : Okop i_X0_init 37 (o_c 54) 39 := k_bipush (by decide +kernel) rfl
theorem k_X0_init_39 : Okop i_X0_init 39 (o_newa 1) 41 := k_newa (.inl ⟨rfl, rfl⟩) gw_103 (by decide +kernel)
theorem k_X0_init_41 : Okop i_X0_init 41 (o_pr 0 6) 44 := k_pr (idx := 24) fo_0 (by decide) (by decide) gw_236 (by decide +kernel) (.inr ⟨rfl, rfl, rfl⟩)
theorem k_X0_init_44 : Okop i_X0_init 44 (o_al 0) 45 := k_aln (j := 0) (by decide +kernel)
theorem k_X0_init_45 : Okop i_X0_init 45 (o_c 54) 47 := k_bipush (by decide +kernel) rfl
theorem k_X0_init_47 : Okop i_X0_init 47 (o_newa 1) 49 := k_newa (.inl ⟨rfl, rfl⟩) gw_103 (by decide +kernel)
theorem k_X0_init_49 : Okop i_X0_init 49 (o_pr 0 7) 52 := k_pr (idx := 27) fo_0 (by decide) (by decide) gw_237 (by decide +kernel) (.inr ⟨rfl, rfl, rfl⟩)
theorem k_X0_init_52 : Okop i_X0_init 52 (o_vret) 53 := k_vret (by decide +kernel) rfl
theorem s_X0_init_0 : Seg i_X0_init 0 [o_al 0, o_oinit, o_al 0, o_c 8, o_newa 1, o_pr 0 0, o_al 0, o_c 8, o_newa 1, o_pr 0 2, o_al 0, o_c 8, o_newa 1, o_pr 0 3, o_al 0, o_c 9, o_newa 1, o_pr 0 5, o_al 0, o_c 54, o_newa 1, o_pr 0 6, o_al 0, o_c 54, o_newa 1, o_pr 0 7, o_vret] 53 := Seg.cons k_X0_init_0 (Seg.cons k_X0_init_1 (Seg.cons k_X0_init_4 (Seg.cons k_X0_init_5 (Seg.cons k_X0_init_7 (Seg.cons k_X0_init_9 (Seg.cons k_X0_init_12 (Seg.cons k_X0_init_13 (Seg.cons k_X0_init_15 (Seg.cons k_X0_init_17 (Seg.cons k_X0_init_20 (Seg.cons k_X0_init_21 (Seg.cons k_X0_init_23 (Seg.cons k_X0_init_25 (Seg.cons k_X0_init_28 (Seg.cons k_X0_init_29 (Seg.cons k_X0_init_31 (Seg.cons k_X0_init_33 (Seg.cons k_X0_init_36 (Seg.cons k_X0_init_37 (Seg.cons k_X0_init_39 (Seg.cons k_X0_init_41 (Seg.cons k_X0_init_44 (Seg.cons k_X0_init_45 (Seg.cons k_X0_init_47 (Seg.cons k_X0_init_49 (Seg.cons k_X0_init_52 (Seg.nil)))))))))))))))))))))))))))

theorem m_X0_init : Mth yX0_init cX0_init 1 none 2 S_X0_init := by
  refine Mth.of (by decide) ?_
  rintro x as h ok ⟨a, rfl, k0, ht, hz, hK⟩
  refine ⟨Nat.le_of_ble_eq_true rfl, ?_⟩
  have e01 : ¬ a = (a + 1) := by omega
  have e02 : ¬ a = (a + 2) := by omega
  have e03 : ¬ a = (a + 3) := by omega
  have e04 : ¬ a = (a + 4) := by omega
  have e05 : ¬ a = (a + 5) := by omega
  have e06 : ¬ a = (a + 6) := by omega
  have e10 : ¬ (a + 1) = a := by omega
  have e12 : ¬ (a + 1) = (a + 2) := by omega
  have e13 : ¬ (a + 1) = (a + 3) := by omega
  have e14 : ¬ (a + 1) = (a + 4) := by omega
  have e15 : ¬ (a + 1) = (a + 5) := by omega
  have e16 : ¬ (a + 1) = (a + 6) := by omega
  have e20 : ¬ (a + 2) = a := by omega
  have e21 : ¬ (a + 2) = (a + 1) := by omega
  have e23 : ¬ (a + 2) = (a + 3) := by omega
  have e24 : ¬ (a + 2) = (a + 4) := by omega
  have e25 : ¬ (a + 2) = (a + 5) := by omega
  have e26 : ¬ (a + 2) = (a + 6) := by omega
  have e30 : ¬ (a + 3) = a := by omega
  have e31 : ¬ (a + 3) = (a + 1) := by omega
  have e32 : ¬ (a + 3) = (a + 2) := by omega
  have e34 : ¬ (a + 3) = (a + 4) := by omega
  have e35 : ¬ (a + 3) = (a + 5) := by omega
  have e36 : ¬ (a + 3) = (a + 6) := by omega
  have e40 : ¬ (a + 4) = a := by omega
  have e41 : ¬ (a + 4) = (a + 1) := by omega
  have e42 : ¬ (a + 4) = (a + 2) := by omega
  have e43 : ¬ (a + 4) = (a + 3) := by omega
  have e45 : ¬ (a + 4) = (a + 5) := by omega
  have e46 : ¬ (a + 4) = (a + 6) := by omega
  have e50 : ¬ (a + 5) = a := by omega
  have e51 : ¬ (a + 5) = (a + 1) := by omega
  have e52 : ¬ (a + 5) = (a + 2) := by omega
  have e53 : ¬ (a + 5) = (a + 3) := by omega
  have e54 : ¬ (a + 5) = (a + 4) := by omega
  have e56 : ¬ (a + 5) = (a + 6) := by omega
  have e60 : ¬ (a + 6) = a := by omega
  have e61 : ¬ (a + 6) = (a + 1) := by omega
  have e62 : ¬ (a + 6) = (a + 2) := by omega
  have e63 : ¬ (a + 6) = (a + 3) := by omega
  have e64 : ¬ (a + 6) = (a + 4) := by omega
  have e65 : ¬ (a + 6) = (a + 5) := by omega
  show V i_X0_init x 0 _ [] h (6, 141)
  refine s_X0_init_0 x ok _ _ _ _ ?_
  simp only [wpS, o_c, o_cl, o_il, o_ll, o_al, o_is, o_ls, o_as, o_inc, o_add, o_sub, o_mul, o_and, o_or, o_xor, o_shl, o_shr, o_div, o_neg, o_ladd, o_lsub, o_lmul, o_ldiv, o_lrem, o_lneg, o_lcmp, o_i2l, o_l2i, o_dup, o_dup2, o_pop, o_go, o_nn, o_sw, swc, o_iret, o_zret, o_lret, o_vret, o_ieq, o_eq0, o_ine, o_ne0, o_ilt, o_lt0, o_ige, o_ge0, o_igt, o_gt0, o_ile, o_le0, o_iald, o_zald, o_lald, o_aald, o_iast, o_zast, o_last, o_aast, o_alen, o_gi, o_gr, o_pi, o_pz, o_pr, o_new, o_newa, o_copy, o_oinit, o_call, o_callV, o_callVc, o_callI, popn, cnO, o_BAD, lgt, lst, isL, kil, st1, st2, entL, List.length_nil, List.length_cons, List.replicate, Nat.reduceAdd, Nat.reduceLeDiff, Nat.reduceSub, true_and, and_true, Nat.zero_le, ne_eq, qk_wi, ql_wi, qr_wi, qj_wi, qt_wi, qk_wj, ql_wj, qr_wj, qi_wj, qt_wj, qk_wr, ql_wr, qi_wr, qj_wr, qt_wr, qi_ws, qj_ws, qr_ws, Int.toNat_natCast, Int.toNat_zero, Int.reduceToNat, not_true_eq_false, not_false_eq_true, false_implies, implies_true, Option.some.injEq, reduceCtorEq, Sp0, true_or, or_true, or_self, wi_wi, wj_wj, qk_al, ql_al, qr_al, qt_al, ht, hz, qi_al, Nat.add_assoc, e01, e02, e03, e04, e05, e06, e10, e12, e13, e14, e15, e16, e20, e21, e23, e24, e25, e26, e30, e31, e32, e34, e35, e36, e40, e41, e42, e43, e45, e46, e50, e51, e52, e53, e54, e56, e60, e61, e62, e63, e64, e65, k0, ↓reduceIte]
  repeat' (first | (with_reducible refine And.intro ?_ ?_) | (with_reducible intro))
  all_goals (try (first | with_reducible assumption | omega | (unfold inI; omega) | (unfold inL; omega) | exact cz_in _ _))
  refine hK _ ?_ ?_ ?_  (fun i i1 i2 => ?_)
  · refine ⟨fun b hb => ⟨?_, ?_, ?_, ?_⟩, fun b hb => ?_⟩
    · simp only [qk_wr, qk_wi, qk_al, qt_wr, qt_wi, qt_al, ht]
      repeat rw [if_neg (by omega)]
    · simp only [ql_wr, ql_wi, ql_al, qt_wr, qt_wi, qt_al, ht]
      repeat rw [if_neg (by omega)]
    · simp only [qi_wr, qi_wi, qi_al, qt_wr, qt_wi, qt_al, ht]
      repeat rw [if_neg (by omega)]
    · simp only [qr_wr', qr_wi, qr_al, qt_wr, qt_wi, qt_al, ht]
      repeat rw [if_neg (by omega)]
    · simp only [qj_wr, qj_wi, qj_al, qt_wr, qt_wi, qt_al, ht]
      repeat rw [if_neg (by omega)]
  · simp only [qt_wr, qt_wi, qt_al, ht, Nat.add_assoc, Nat.reduceAdd]
  · unfold isCa
    simp only [qk_wr, qk_wi, qk_al, ql_wr, ql_wi, ql_al, qr_wr', qr_wi, qr_al, qt_wr, qt_wi, qt_al, ht, Nat.add_assoc, Nat.reduceAdd, fu, Nat.reduceEqDiff, e01, e02, e03, e04, e05, e06, e10, e12, e13, e14, e15, e16, e20, e21, e23, e24, e25, e26, e30, e31, e32, e34, e35, e36, e40, e41, e42, e43, e45, e46, e50, e51, e52, e53, e54, e56, e60, e61, e62, e63, e64, e65, k0, ↓reduceIte, true_and, and_true]
    all_goals (try simp)
  · obtain rfl | rfl | rfl | rfl | rfl | rfl : i = 1 ∨ i = 2 ∨ i = 3 ∨ i = 4 ∨ i = 5 ∨ i = 6 := by omega
    all_goals simp only [qi_wr, qi_wi, qi_al, qt_wr, qt_wi, qt_al, ht, Nat.add_assoc, Nat.reduceAdd, e01, e02, e03, e04, e05, e06, e10, e12, e13, e14, e15, e16, e20, e21, e23, e24, e25, e26, e30, e31, e32, e34, e35, e36, e40, e41, e42, e43, e45, e46, e50, e51, e52, e53, e54, e56, e60, e61, e62, e63, e64, e65, ↓reduceIte]
def S_X5_init : Sp := (fun _ _ => (3, 3045), fun as h K => ∃ a, as = [vr (some a)] ∧ qk h a = 15 ∧ qt h = a + 1 ∧ qi h a = (fun _ => 0) ∧ ∀ h', Eqj h h' a → qt h' = a + 4 → isSp h' a (a + 1) →  ql h' (a + 1) = 2881 → (∀ i, 1 ≤ i → i ≤ 3 → qi h' (a + i) = (fun _ => 0)) → K none h')
abbrev i_X5_init : MI := (cX5_init, 1, RX5, none, "<init>", 2)
theorem k_X5_init_0 : Okop i_X5_init 0 (o_al 0) 1 := k_aln (j := 0) (by decide +kernel)
theorem k_X5_init_1 : Okop i_X5_init 1 (o_oinit) 4 := k_oinit (idx := 3) (by decide +kernel) gw_190 gw_19 gw_20 (by decide)
theorem k_X5_init_4 : Okop i_X5_init 4 (o_al 0) 5 := k_aln (j := 0) (by decide +kernel)
theorem k_X5_init_5 : Okop i_X5_init 5 (o_c 2881) 8 := k_sipush (by decide +kernel) rfl
theorem k_X5_init_8 : Okop i_X5_init 8 (o_newa 2) 10 := k_newa (.inr (.inl ⟨rfl, rfl⟩)) gw_223 (by decide +kernel)
theorem k_X5_init_10 : Okop i_X5_init 10 (o_pr 5 4) 13 := k_pr (idx := 9) fo_5 (by decide) (by decide) gw_199 (by decide +kernel) (.inl rfl)
theorem k_X5_init_13 : Okop i_X5_init 13 (o_al 0) 14 := k_aln (j := 0) (by decide +kernel)
theorem k_X5_init_14 : Okop i_X5_init 14 (o_c 82) 16 := k_bipush (by decide +kernel) rfl
theorem k_X5_init_16 : Okop i_X5_init 16 (o_newa 1) 18 := k_newa (.inl ⟨rfl, rfl⟩) gw_103 (by decide +kernel)
theorem k_X5_init_18 : Okop i_X5_init 18 (o_pr 5 6) 21 := k_pr (idx := 15) fo_5 (by decide) (by decide) gw_201 (by decide +kernel) (.inr ⟨rfl, rfl, rfl⟩)
theorem k_X5_init_21 : Okop i_X5_init 21 (o_al 0) 22 := k_aln (j := 0) (by decide +kernel)
theorem k_X5_init_22 : Okop i_X5_init 22 (o_c 82) 24 := k_bipush (by decide +kernel) rfl
theorem k_X5_init_24 : Okop i_X5_init 24 (o_newa 1) 26 := k_newa (.inl ⟨rfl, rfl⟩) gw_103 (by decide +kernel)
theorem k_X5_init_26 : Okop i_X5_init 26 (o_pr 5 7) 29 := k_pr (idx := 19) fo_5 (by decide) (by decide) gw_202 (by decide +kernel) (.inr ⟨rfl, rfl, rfl⟩)
theorem k_X5_init_29 : Okop i_X5_init 29 (o_vret) 30 := k_vret (by decide +kernel) rfl
theorem s_X5_init_0 : Seg i_X5_init 0 [o_al 0, o_oinit, o_al 0, o_c 2881, o_newa 2, o_pr 5 4, o_al 0, o_c 82, o_newa 1, o_pr 5 6, o_al 0, o_c 82, o_newa 1, o_pr 5 7, o_vret] 30 := Seg.cons k_X5_init_0 (Seg.cons k_X5_init_1 (Seg.cons k_X5_init_4 (Seg.cons k_X5_init_5 (Seg.cons k_X5_init_8 (Seg.cons k_X5_init_10 (Seg.cons k_X5_init_13 (Seg.cons k_X5_init_14 (Seg.cons k_X5_init_16 (Seg.cons k_X5_init_18 (Seg.cons k_X5_init_21 (Seg.cons k_X5_init_22 (Seg.cons k_X5_init_24 (Seg.cons k_X5_init_26 (Seg.cons k_X5_init_29 (Seg.nil)))))))))))))))

theorem m_X5_init : Mth yX5_init cX5_init 1 none 2 S_X5_init := by
  refine Mth.of (by decide) ?_
  rintro x as h ok ⟨a, rfl, k0, ht, hz, hK⟩
  refine ⟨Nat.le_of_ble_eq_true rfl, ?_⟩
  have e01 : ¬ a = (a + 1) := by omega
  have e02 : ¬ a = (a + 2) := by omega
  have e03 : ¬ a = (a + 3) := by omega
  have e10 : ¬ (a + 1) = a := by omega
  have e12 : ¬ (a + 1) = (a + 2) := by omega
  have e13 : ¬ (a + 1) = (a + 3) := by omega
  have e20 : ¬ (a + 2) = a := by omega
  have e21 : ¬ (a + 2) = (a + 1) := by omega
  have e23 : ¬ (a + 2) = (a + 3) := by omega
  have e30 : ¬ (a + 3) = a := by omega
  have e31 : ¬ (a + 3) = (a + 1) := by omega
  have e32 : ¬ (a + 3) = (a + 2) := by omega
  show V i_X5_init x 0 _ [] h (3, 3045)
  refine s_X5_init_0 x ok _ _ _ _ ?_
  simp only [wpS, o_c, o_cl, o_il, o_ll, o_al, o_is, o_ls, o_as, o_inc, o_add, o_sub, o_mul, o_and, o_or, o_xor, o_shl, o_shr, o_div, o_neg, o_ladd, o_lsub, o_lmul, o_ldiv, o_lrem, o_lneg, o_lcmp, o_i2l, o_l2i, o_dup, o_dup2, o_pop, o_go, o_nn, o_sw, swc, o_iret, o_zret, o_lret, o_vret, o_ieq, o_eq0, o_ine, o_ne0, o_ilt, o_lt0, o_ige, o_ge0, o_igt, o_gt0, o_ile, o_le0, o_iald, o_zald, o_lald, o_aald, o_iast, o_zast, o_last, o_aast, o_alen, o_gi, o_gr, o_pi, o_pz, o_pr, o_new, o_newa, o_copy, o_oinit, o_call, o_callV, o_callVc, o_callI, popn, cnO, o_BAD, lgt, lst, isL, kil, st1, st2, entL, List.length_nil, List.length_cons, List.replicate, Nat.reduceAdd, Nat.reduceLeDiff, Nat.reduceSub, true_and, and_true, Nat.zero_le, ne_eq, qk_wi, ql_wi, qr_wi, qj_wi, qt_wi, qk_wj, ql_wj, qr_wj, qi_wj, qt_wj, qk_wr, ql_wr, qi_wr, qj_wr, qt_wr, qi_ws, qj_ws, qr_ws, Int.toNat_natCast, Int.toNat_zero, Int.reduceToNat, not_true_eq_false, not_false_eq_true, false_implies, implies_true, Option.some.injEq, reduceCtorEq, Sp0, true_or, or_true, or_self, wi_wi, wj_wj, qk_al, ql_al, qr_al, qt_al, ht, hz, qi_al, Nat.add_assoc, e01, e02, e03, e10, e12, e13, e20, e21, e23, e30, e31, e32, k0, ↓reduceIte]
  repeat' (first | (with_reducible refine And.intro ?_ ?_) | (with_reducible intro))
  all_goals (try (first | with_reducible assumption | omega | (unfold inI; omega) | (unfold inL; omega) | exact cz_in _ _))
  refine hK _ ?_ ?_ ?_ ?_ (fun i i1 i2 => ?_)
  · refine ⟨fun b hb => ⟨?_, ?_, ?_, ?_⟩, fun b hb => ?_⟩
    · simp only [qk_wr, qk_wi, qk_al, qt_wr, qt_wi, qt_al, ht]
      repeat rw [if_neg (by omega)]
    · simp only [ql_wr, ql_wi, ql_al, qt_wr, qt_wi, qt_al, ht]
      repeat rw [if_neg (by omega)]
    · simp only [qi_wr, qi_wi, qi_al, qt_wr, qt_wi, qt_al, ht]
      repeat rw [if_neg (by omega)]
    · simp only [qr_wr', qr_wi, qr_al, qt_wr, qt_wi, qt_al, ht]
      repeat rw [if_neg (by omega)]
    · simp only [qj_wr, qj_wi, qj_al, qt_wr, qt_wi, qt_al, ht]
      repeat rw [if_neg (by omega)]
  · simp only [qt_wr, qt_wi, qt_al, ht, Nat.add_assoc, Nat.reduceAdd]
  · unfold isSp
    simp only [qk_wr, qk_wi, qk_al, ql_wr, ql_wi, ql_al, qr_wr', qr_wi, qr_al, qt_wr, qt_wi, qt_al, ht, Nat.add_assoc, Nat.reduceAdd, fu, Nat.reduceEqDiff, e01, e02, e03, e10, e12, e13, e20, e21, e23, e30, e31, e32, k0, ↓reduceIte, true_and, and_true]
    all_goals (try simp)
  · simp only [ql_wr, ql_wi, ql_al, qt_wr, qt_wi, qt_al, ht, Nat.add_assoc, Nat.reduceAdd, e01, e02, e03, e10, e12, e13, e20, e21, e23, e30, e31, e32, ↓reduceIte]
  · obtain rfl | rfl | rfl : i = 1 ∨ i = 2 ∨ i = 3 := by omega
    all_goals simp only [qi_wr, qi_wi, qi_al, qt_wr, qt_wi, qt_al, ht, Nat.add_assoc, Nat.reduceAdd, e01, e02, e03, e10, e12, e13, e20, e21, e23, e30, e31, e32, ↓reduceIte]
def S_X4_init : Sp := (fun _ _ => (4, 93), fun as h K => ∃ a, as = [vr (some a)] ∧ qk h a = 14 ∧ qt h = a + 1 ∧ qi h a = (fun _ => 0) ∧ ∀ h', Eqj h h' a → qt h' = a + 5 → isMe h' a → qi h' a = fu (fu (fu (fun _ => 0) 6 (-1)) 7 (-1)) 12 (-1) → (∀ i, 1 ≤ i → i ≤ 4 → qi h' (a + i) = (fun _ => 0)) → K none h')
abbrev i_X4_init : MI := (cX4_init, 1, RX4, none, "<init>", 2)
theorem k_X4_init_0 : Okop i_X4_init 0 (o_al 0) 1 := k_aln (j := 0) (by decide +kernel)
theorem k_X4_init_1 : Okop i_X4_init 1 (o_oinit) 4 := k_oinit (idx := 3) (by decide +kernel) gw_37 gw_19 gw_20 (by decide)
theorem k_X4_init_4 : Okop i_X4_init 4 (o_al 0) 5 := k_aln (j := 0) (by decide +kernel)
theorem k_X4_init_5 : Okop i_X4_init 5 (o_c 81) 7 := k_bipush (by decide +kernel) rfl
theorem k_X4_init_7 : Okop i_X4_init 7 (o_newa 1) 9 := k_newa (.inl ⟨rfl, rfl⟩) gw_103 (by decide +kernel)
theorem k_X4_init_9 : Okop i_X4_init 9 (o_pr 4 5) 12 := k_pr (idx := 9) fo_4 (by decide) (by decide) gw_53 (by decide +kernel) (.inr ⟨rfl, rfl, rfl⟩)
theorem k_X4_init_12 : Okop i_X4_init 12 (o_al 0) 13 := k_aln (j := 0) (by decide +kernel)
theorem k_X4_init_13 : Okop i_X4_init 13 (o_c (-1)) 14 := k_iconst (by decide +kernel)
theorem k_X4_init_14 : Okop i_X4_init 14 (o_pi 4 6) 17 := k_pi (idx := 15) fo_4 (by decide) (by decide) gw_54 (by decide +kernel) (.inl rfl)
theorem k_X4_init_17 : Okop i_X4_init 17 (o_al 0) 18 := k_aln (j := 0) (by decide +kernel)
theorem k_X4_init_18 : Okop i_X4_init 18 (o_c (-1)) 19 := k_iconst (by decide +kernel)
theorem k_X4_init_19 : Okop i_X4_init 19 (o_pi 4 7) 22 := k_pi (idx := 19) fo_4 (by decide) (by decide) gw_57 (by decide +kernel) (.inl rfl)
theorem k_X4_init_22 : Okop i_X4_init 22 (o_al 0) 23 := k_aln (j := 0) (by decide +kernel)
theorem k_X4_init_23 : Okop i_X4_init 23 (o_c 4) 24 := k_iconst (by decide +kernel)
theorem k_X4_init_24 : Okop i_X4_init 24 (o_newa 1) 26 := k_newa (.inl ⟨rfl, rfl⟩) gw_103 (by decide +kernel)
theorem k_X4_init_26 : Okop i_X4_init 26 (o_pr 4 9) 29 := k_pr (idx := 22) fo_4 (by decide) (by decide) gw_64 (by decide +kernel) (.inr ⟨rfl, rfl, rfl⟩)
theorem k_X4_init_29 : Okop i_X4_init 29 (o_al 0) 30 := k_aln (j := 0) (by decide +kernel)
theorem k_X4_init_30 : Okop i_X4_init 30 (o_c 4) 31 := k_iconst (by decide +kernel)
theorem k_X4_init_31 : Okop i_X4_init 31 (o_newa 1) 33 := k_newa (.inl ⟨rfl, rfl⟩) gw_103 (by decide +kernel)
theorem k_X4_init_33 : Okop i_X4_init 33 (o_pr 4 10) 36 := k_pr (idx := 25) fo_4 (by decide) (by decide) gw_67 (by decide +kernel) (.inr ⟨rfl, rfl, rfl⟩)
theorem k_X4_init_36 : Okop i_X4_init 36 (o_al 0) 37 := k_aln (j := 0) (by decide +kernel)
theorem k_X4_init_37 : Okop i_X4_init 37 (o_c 4) 38 := k_iconst (by decide +kernel)
theorem k_X4_init_38 : Okop i_X4_init 38 (o_newa 1) 40 := k_newa (.inl ⟨rfl, rfl⟩) gw_103 (by decide +kernel)
theorem k_X4_init_40 : Okop i_X4_init 40 (o_pr 4 11) 43 := k_pr (idx := 28) fo_4 (by decide) (by decide) gw_70 (by decide +kernel) (.inr ⟨rfl, rfl, rfl⟩)
theorem k_X4_init_43 : Okop i_X4_init 43 (o_al 0) 44 := k_aln (j := 0) (by decide +kernel)
theorem k_X4_init_44 : Okop i_X4_init 44 (o_c (-1)) 45 := k_iconst (by decide +kernel)
theorem k_X4_init_45 : Okop i_X4_init 45 (o_pi 4 12) 48 := k_pi (idx := 31) fo_4 (by decide) (by decide) gw_73 (by decide +kernel) (.inl rfl)
theorem k_X4_init_48 : Okop i_X4_init 48 (o_vret) 49 := k_vret (by decide +kernel) rfl
theorem s_X4_init_0 : Seg i_X4_init 0 [o_al 0, o_oinit, o_al 0, o_c 81, o_newa 1, o_pr 4 5, o_al 0, o_c (-1), o_pi 4 6, o_al 0, o_c (-1), o_pi 4 7, o_al 0, o_c 4, o_newa 1, o_pr 4 9, o_al 0, o_c 4, o_newa 1, o_pr 4 10, o_al 0, o_c 4, o_newa 1, o_pr 4 11, o_al 0, o_c (-1), o_pi 4 12, o_vret] 49 := Seg.cons k_X4_init_0 (Seg.cons k_X4_init_1 (Seg.cons k_X4_init_4 (Seg.cons k_X4_init_5 (Seg.cons k_X4_init_7 (Seg.cons k_X4_init_9 (Seg.cons k_X4_init_12 (Seg.cons k_X4_init_13 (Seg.cons k_X4_init_14 (Seg.cons k_X4_init_17 (Seg.cons k_X4_init_18 (Seg.cons k_X4_init_19 (Seg.cons k_X4_init_22 (Seg.cons k_X4_init_23 (Seg.cons k_X4_init_24 (Seg.cons k_X4_init_26 (Seg.cons k_X4_init_29 (Seg.cons k_X4_init_30 (Seg.cons k_X4_init_31 (Seg.cons k_X4_init_33 (Seg.cons k_X4_init_36 (Seg.cons k_X4_init_37 (Seg.cons k_X4_init_38 (Seg.cons k_X4_init_40 (Seg.cons k_X4_init_43 (Seg.cons k_X4_init_44 (Seg.cons k_X4_init_45 (Seg.cons k_X4_init_48 (Seg.nil))))))))))))))))))))))))))))

theorem m_X4_init : Mth yX4_init cX4_init 1 none 2 S_X4_init := by
  refine Mth.of (by decide) ?_
  rintro x as h ok ⟨a, rfl, k0, ht, hz, hK⟩
  refine ⟨Nat.le_of_ble_eq_true rfl, ?_⟩
  have e01 : ¬ a = (a + 1) := by omega
  have e02 : ¬ a = (a + 2) := by omega
  have e03 : ¬ a = (a + 3) := by omega
  have e04 : ¬ a = (a + 4) := by omega
  have e10 : ¬ (a + 1) = a := by omega
  have e12 : ¬ (a + 1) = (a + 2) := by omega
  have e13 : ¬ (a + 1) = (a + 3) := by omega
  have e14 : ¬ (a + 1) = (a + 4) := by omega
  have e20 : ¬ (a + 2) = a := by omega
  have e21 : ¬ (a + 2) = (a + 1) := by omega
  have e23 : ¬ (a + 2) = (a + 3) := by omega
  have e24 : ¬ (a + 2) = (a + 4) := by omega
  have e30 : ¬ (a + 3) = a := by omega
  have e31 : ¬ (a + 3) = (a + 1) := by omega
  have e32 : ¬ (a + 3) = (a + 2) := by omega
  have e34 : ¬ (a + 3) = (a + 4) := by omega
  have e40 : ¬ (a + 4) = a := by omega
  have e41 : ¬ (a + 4) = (a + 1) := by omega
  have e42 : ¬ (a + 4) = (a + 2) := by omega
  have e43 : ¬ (a + 4) = (a + 3) := by omega
  show V i_X4_init x 0 _ [] h (4, 93)
  refine s_X4_init_0 x ok _ _ _ _ ?_
  simp only [wpS, o_c, o_cl, o_il, o_ll, o_al, o_is, o_ls, o_as, o_inc, o_add, o_sub, o_mul, o_and, o_or, o_xor, o_shl, o_shr, o_div, o_neg, o_ladd, o_lsub, o_lmul, o_ldiv, o_lrem, o_lneg, o_lcmp, o_i2l, o_l2i, o_dup, o_dup2, o_pop, o_go, o_nn, o_sw, swc, o_iret, o_zret, o_lret, o_vret, o_ieq, o_eq0, o_ine, o_ne0, o_ilt, o_lt0, o_ige, o_ge0, o_igt, o_gt0, o_ile, o_le0, o_iald, o_zald, o_lald, o_aald, o_iast, o_zast, o_last, o_aast, o_alen, o_gi, o_gr, o_pi, o_pz, o_pr, o_new, o_newa, o_copy, o_oinit, o_call, o_callV, o_callVc, o_callI, popn, cnO, o_BAD, lgt, lst, isL, kil, st1, st2, entL, List.length_nil, List.length_cons, List.replicate, Nat.reduceAdd, Nat.reduceLeDiff, Nat.reduceSub, true_and, and_true, Nat.zero_le, ne_eq, qk_wi, ql_wi, qr_wi, qj_wi, qt_wi, qk_wj, ql_wj, qr_wj, qi_wj, qt_wj, qk_wr, ql_wr, qi_wr, qj_wr, qt_wr, qi_ws, qj_ws, qr_ws, Int.toNat_natCast, Int.toNat_zero, Int.reduceToNat, not_true_eq_false, not_false_eq_true, false_implies, implies_true, Option.some.injEq, reduceCtorEq, Sp0, true_or, or_true, or_self, wi_wi, wj_wj, qk_al, ql_al, qr_al, qt_al, ht, hz, qi_al, Nat.add_assoc, e01, e02, e03, e04, e10, e12, e13, e14, e20, e21, e23, e24, e30, e31, e32, e34, e40, e41, e42, e43, k0, ↓reduceIte]
  repeat' (first | (with_reducible refine And.intro ?_ ?_) | (with_reducible intro))
  all_goals (try (first | with_reducible assumption | omega | (unfold inI; omega) | (unfold inL; omega) | exact cz_in _ _))
  refine hK _ ?_ ?_ ?_ ?_ (fun i i1 i2 => ?_)
  · refine ⟨fun b hb => ⟨?_, ?_, ?_, ?_⟩, fun b hb => ?_⟩
    · simp only [qk_wr, qk_wi, qk_al, qt_wr, qt_wi, qt_al, ht]
      repeat rw [if_neg (by omega)]
    · simp only [ql_wr, ql_wi, ql_al, qt_wr, qt_wi, qt_al, ht]
      repeat rw [if_neg (by omega)]
    · simp only [qi_wr, qi_wi, qi_al, qt_wr, qt_wi, qt_al, ht]
      repeat rw [if_neg (by omega)]
    · simp only [qr_wr', qr_wi, qr_al, qt_wr, qt_wi, qt_al, ht]
      repeat rw [if_neg (by omega)]
    · simp only [qj_wr, qj_wi, qj_al, qt_wr, qt_wi, qt_al, ht]
      repeat rw [if_neg (by omega)]
  · simp only [qt_wr, qt_wi, qt_al, ht, Nat.add_assoc, Nat.reduceAdd]
  · unfold isMe
    simp only [qk_wr, qk_wi, qk_al, ql_wr, ql_wi, ql_al, qr_wr', qr_wi, qr_al, qt_wr, qt_wi, qt_al, ht, Nat.add_assoc, Nat.reduceAdd, fu, Nat.reduceEqDiff, e01, e02, e03, e04, e10, e12, e13, e14, e20, e21, e23, e24, e30, e31, e32, e34, e40, e41, e42, e43, k0, ↓reduceIte, true_and, and_true]
    all_goals (try simp)
  · simp only [qi_wr, qi_wi, qi_al, qt_wr, qt_wi, qt_al, ht, Nat.add_assoc, Nat.reduceAdd, e01, e02, e03, e04, e10, e12, e13, e14, e20, e21, e23, e24, e30, e31, e32, e34, e40, e41, e42, e43, ↓reduceIte, hz]
  · obtain rfl | rfl | rfl | rfl : i = 1 ∨ i = 2 ∨ i = 3 ∨ i = 4 := by omega
    all_goals simp only [qi_wr, qi_wi, qi_al, qt_wr, qt_wi, qt_al, ht, Nat.add_assoc, Nat.reduceAdd, e01, e02, e03, e04, e10, e12, e13, e14, e20, e21, e23, e24, e30, e31, e32, e34, e40, e41, e42, e43, ↓reduceIte]

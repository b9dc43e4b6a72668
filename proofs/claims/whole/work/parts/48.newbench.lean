/-! ===== new FitBench() ===== -/
/-- the FitBench x, with all its helpers -/
def FB (h : Hp) (x : Nat) (d : Dd) (R : Nat) : Prop := Fbs h x d R ∧ qr h x 1 = some (x + 82) ∧ qk h (x + 82) = 7 ∧ ql h (x + 82) = 3 ∧ qr h x 3 = some (x + 85) ∧ isDr h (x + 85) ∧ qr h x 5 = some (x + 93) ∧ isCa h (x + 93)
theorem s2c (as : List AV) (h : Hp) : S_X2_init.1 as h = (3, 36) := rfl
theorem s5c (as : List AV) (h : Hp) : S_X5_init.1 as h = (3, 3045) := rfl
theorem s0c (as : List AV) (h : Hp) : S_X0_init.1 as h = (6, 141) := rfl
def S_X7_init : Sp := (fun _ _ => (99, 4722), fun as h K => ∃ x, as = [vr (some x)] ∧ qk h x = 17 ∧ qt h = x + 1 ∧ ∀ h', Eqj h h' x → qt h' = x + 100 → FB h' x dI (x + 90) → ql h' (x + 90) = 2881 → (∀ p, qr h' (x + 82) p = none) → K none h')
abbrev i_X7_init : MI := (cX7_init, 1, RX7, none, "<init>", 4)
theorem k_X7_init_0 : Okop i_X7_init 0 (o_al 0) 1 := k_aln (j := 0) (by decide +kernel)
theorem k_X7_init_1 : Okop i_X7_init 1 (o_oinit) 4 := k_oinit (idx := 3) (by decide +kernel) gw_18 gw_19 gw_20 (by decide)
theorem k_X7_init_4 : Okop i_X7_init 4 (o_al 0) 5 := k_aln (j := 0) (by decide +kernel)
theorem k_X7_init_5 : Okop i_X7_init 5 (o_new 6 4) 8 := k_new (idx := 9) fo_6 fd_6 (by decide) gw_21 gw_22 gw_2 (by decide +kernel)
theorem k_X7_init_8 : Okop i_X7_init 8 (o_dup) 9 := k_dup (by decide +kernel)
theorem k_X7_init_9 : Okop i_X7_init 9 (o_callI S_X6_init) 12 := k_callI (idx := 11) m_X6_init ⟨gw_25, gw_2, ⟨by decide, by decide, by decide +kernel⟩, by decide, by decide⟩ gw_23 gw_24 rfl (by decide +kernel)
theorem k_X7_init_12 : Okop i_X7_init 12 (o_pr 7 0) 15 := k_pr (idx := 12) fo_7 (by decide) (by decide) gw_255 (by decide +kernel) (.inr ⟨rfl, rfl, rfl⟩)
theorem k_X7_init_15 : Okop i_X7_init 15 (o_al 0) 16 := k_aln (j := 0) (by decide +kernel)
theorem k_X7_init_16 : Okop i_X7_init 16 (o_c 3) 17 := k_iconst (by decide +kernel)
theorem k_X7_init_17 : Okop i_X7_init 17 (o_newa 7) 20 := k_anew (idx := 9) (by decide) (by decide) rfl (by decide) gw_21 (by decide +kernel)
theorem k_X7_init_20 : Okop i_X7_init 20 (o_pr 7 1) 23 := k_pr (idx := 16) fo_7 (by decide) (by decide) gw_256 (by decide +kernel) (.inr ⟨rfl, rfl, rfl⟩)
theorem k_X7_init_23 : Okop i_X7_init 23 (o_al 0) 24 := k_aln (j := 0) (by decide +kernel)
theorem k_X7_init_24 : Okop i_X7_init 24 (o_new 1 3) 27 := k_new (idx := 20) fo_1 fd_1 (by decide) gw_166 gw_104 gw_4 (by decide +kernel)
theorem k_X7_init_27 : Okop i_X7_init 27 (o_dup) 28 := k_dup (by decide +kernel)
theorem k_X7_init_28 : Okop i_X7_init 28 (o_callI S_X1_init) 31 := k_callIN (idx := 22) m_X1_init ⟨gw_107, gw_4, ⟨by decide, by decide, by decide +kernel⟩, by decide, by decide⟩ (by decide) gw_106 rfl (by decide +kernel)
theorem k_X7_init_31 : Okop i_X7_init 31 (o_pr 7 2) 34 := k_pr (idx := 23) fo_7 (by decide) (by decide) gw_257 (by decide +kernel) (.inr ⟨rfl, rfl, rfl⟩)
theorem k_X7_init_34 : Okop i_X7_init 34 (o_al 0) 35 := k_aln (j := 0) (by decide +kernel)
theorem k_X7_init_35 : Okop i_X7_init 35 (o_new 2 3) 38 := k_new (idx := 27) fo_2 fd_2 (by decide) gw_168 gw_169 gw_7 (by decide +kernel)
theorem k_X7_init_38 : Okop i_X7_init 38 (o_dup) 39 := k_dup (by decide +kernel)
theorem k_X7_init_39 : Okop i_X7_init 39 (o_callI S_X2_init) 42 := k_callIN (idx := 29) m_X2_init ⟨gw_172, gw_7, ⟨by decide, by decide, by decide +kernel⟩, by decide, by decide⟩ (by decide) gw_171 rfl (by decide +kernel)
theorem k_X7_init_42 : Okop i_X7_init 42 (o_pr 7 3) 45 := k_pr (idx := 30) fo_7 (by decide) (by decide) gw_258 (by decide +kernel) (.inr ⟨rfl, rfl, rfl⟩)
theorem k_X7_init_45 : Okop i_X7_init 45 (o_al 0) 46 := k_aln (j := 0) (by decide +kernel)
theorem k_X7_init_46 : Okop i_X7_init 46 (o_new 5 9) 49 := k_new (idx := 34) fo_5 fd_5 (by decide) gw_185 gw_186 gw_8 (by decide +kernel)
theorem k_X7_init_49 : Okop i_X7_init 49 (o_dup) 50 := k_dup (by decide +kernel)
theorem k_X7_init_50 : Okop i_X7_init 50 (o_callI S_X5_init) 53 := k_callIN (idx := 36) m_X5_init ⟨gw_189, gw_8, ⟨by decide, by decide, by decide +kernel⟩, by decide, by decide⟩ (by decide) gw_188 rfl (by decide +kernel)
theorem k_X7_init_53 : Okop i_X7_init 53 (o_pr 7 4) 56 := k_pr (idx := 37) fo_7 (by decide) (by decide) gw_259 (by decide +kernel) (.inr ⟨rfl, rfl, rfl⟩)
theorem k_X7_init_56 : Okop i_X7_init 56 (o_al 0) 57 := k_aln (j := 0) (by decide +kernel)
theorem k_X7_init_57 : Okop i_X7_init 57 (o_new 0 8) 60 := k_new (idx := 41) fo_0 fd_0 (by decide) gw_224 gw_225 gw_9 (by decide +kernel)
theorem k_X7_init_60 : Okop i_X7_init 60 (o_dup) 61 := k_dup (by decide +kernel)
theorem k_X7_init_61 : Okop i_X7_init 61 (o_callI S_X0_init) 64 := k_callIN (idx := 43) m_X0_init ⟨gw_228, gw_9, ⟨by decide, by decide, by decide +kernel⟩, by decide, by decide⟩ (by decide) gw_227 rfl (by decide +kernel)
theorem k_X7_init_64 : Okop i_X7_init 64 (o_pr 7 5) 67 := k_pr (idx := 44) fo_7 (by decide) (by decide) gw_260 (by decide +kernel) (.inr ⟨rfl, rfl, rfl⟩)
theorem k_X7_init_67 : Okop i_X7_init 67 (o_vret) 68 := k_vret (by decide +kernel) rfl
theorem s_X7_init_0 : Seg i_X7_init 0 [o_al 0, o_oinit, o_al 0, o_new 6 4, o_dup, o_callI S_X6_init, o_pr 7 0, o_al 0, o_c 3, o_newa 7, o_pr 7 1, o_al 0, o_new 1 3, o_dup, o_callI S_X1_init, o_pr 7 2, o_al 0, o_new 2 3, o_dup, o_callI S_X2_init, o_pr 7 3, o_al 0, o_new 5 9, o_dup, o_callI S_X5_init, o_pr 7 4, o_al 0, o_new 0 8, o_dup, o_callI S_X0_init, o_pr 7 5, o_vret] 68 := Seg.cons k_X7_init_0 (Seg.cons k_X7_init_1 (Seg.cons k_X7_init_4 (Seg.cons k_X7_init_5 (Seg.cons k_X7_init_8 (Seg.cons k_X7_init_9 (Seg.cons k_X7_init_12 (Seg.cons k_X7_init_15 (Seg.cons k_X7_init_16 (Seg.cons k_X7_init_17 (Seg.cons k_X7_init_20 (Seg.cons k_X7_init_23 (Seg.cons k_X7_init_24 (Seg.cons k_X7_init_27 (Seg.cons k_X7_init_28 (Seg.cons k_X7_init_31 (Seg.cons k_X7_init_34 (Seg.cons k_X7_init_35 (Seg.cons k_X7_init_38 (Seg.cons k_X7_init_39 (Seg.cons k_X7_init_42 (Seg.cons k_X7_init_45 (Seg.cons k_X7_init_46 (Seg.cons k_X7_init_49 (Seg.cons k_X7_init_50 (Seg.cons k_X7_init_53 (Seg.cons k_X7_init_56 (Seg.cons k_X7_init_57 (Seg.cons k_X7_init_60 (Seg.cons k_X7_init_61 (Seg.cons k_X7_init_64 (Seg.cons k_X7_init_67 (Seg.nil))))))))))))))))))))))))))))))))

theorem m_X7_init : Mth yX7_init cX7_init 1 none 4 S_X7_init := by
  refine Mth.of (by decide) ?_
  rintro c as h ok ⟨x, rfl, k0, ht, hK⟩
  refine ⟨Nat.le_of_ble_eq_true rfl, ?_⟩
  show V i_X7_init c 0 _ [] h (99, 4722)
  refine s_X7_init_0 c ok _ _ _ _ ?_
  -- the state
  simp only [wpS, o_c, o_cl, o_il, o_ll, o_al, o_is, o_ls, o_as, o_inc, o_add, o_sub, o_mul, o_and, o_or, o_xor, o_shl, o_shr, o_div, o_neg, o_ladd, o_lsub, o_lmul, o_ldiv, o_lrem, o_lneg, o_lcmp, o_i2l, o_l2i, o_dup, o_dup2, o_pop, o_go, o_nn, o_sw, swc, o_iret, o_zret, o_lret, o_vret, o_ieq, o_eq0, o_ine, o_ne0, o_ilt, o_lt0, o_ige, o_ge0, o_igt, o_gt0, o_ile, o_le0, o_iald, o_zald, o_lald, o_aald, o_iast, o_zast, o_last, o_aast, o_alen, o_gi, o_gr, o_pi, o_pz, o_pr, o_new, o_newa, o_copy, o_oinit, o_call, o_callV, o_callVc, o_callI, popn, cnO, o_BAD, lgt, lst, isL, kil, st1, st2, entL, List.length_nil, List.length_cons, List.replicate, Nat.reduceAdd, Nat.reduceLeDiff, Nat.reduceSub, true_and, and_true, Nat.zero_le, ne_eq, qk_wi, ql_wi, qr_wi, qj_wi, qt_wi, qk_wj, ql_wj, qr_wj, qi_wj, qt_wj, qk_wr, ql_wr, qi_wr, qj_wr, qt_wr, qi_ws, qj_ws, qr_ws, Int.toNat_natCast, Int.toNat_zero, Int.reduceToNat, not_true_eq_false, not_false_eq_true, false_implies, implies_true, Option.some.injEq, reduceCtorEq, Sp0, true_or, or_true, or_self, wi_wi, wj_wj, k0, s6c, ht, qt_al]
  repeat' (first | (with_reducible refine And.intro ?_ ?_) | (with_reducible intro))
  all_goals (try (first | with_reducible assumption | omega | (unfold inI; omega) | (unfold inL; omega) | exact cz_in _ _))
  refine ⟨x + 1, rfl, by rw [qk_al, if_pos ht.symm], by rw [qt_al, ht], fun h1 e1 t1 g1 => ?_⟩
  have w1 := (Eqj.wn h 16 4 (a := x + 1) (by omega)).tr e1 (Nat.le_refl _)
  have k1 : qk h1 x = 17 := by rw [(w1.1 x (by omega)).1]; exact k0
  have n82 : x ≠ x + 82 := by omega
  simp only [wpS, o_c, o_cl, o_il, o_ll, o_al, o_is, o_ls, o_as, o_inc, o_add, o_sub, o_mul, o_and, o_or, o_xor, o_shl, o_shr, o_div, o_neg, o_ladd, o_lsub, o_lmul, o_ldiv, o_lrem, o_lneg, o_lcmp, o_i2l, o_l2i, o_dup, o_dup2, o_pop, o_go, o_nn, o_sw, swc, o_iret, o_zret, o_lret, o_vret, o_ieq, o_eq0, o_ine, o_ne0, o_ilt, o_lt0, o_ige, o_ge0, o_igt, o_gt0, o_ile, o_le0, o_iald, o_zald, o_lald, o_aald, o_iast, o_zast, o_last, o_aast, o_alen, o_gi, o_gr, o_pi, o_pz, o_pr, o_new, o_newa, o_copy, o_oinit, o_call, o_callV, o_callVc, o_callI, popn, cnO, o_BAD, lgt, lst, isL, kil, st1, st2, entL, List.length_nil, List.length_cons, List.replicate, Nat.reduceAdd, Nat.reduceLeDiff, Nat.reduceSub, true_and, and_true, Nat.zero_le, ne_eq, qk_wi, ql_wi, qr_wi, qj_wi, qt_wi, qk_wj, ql_wj, qr_wj, qi_wj, qt_wj, qk_wr, ql_wr, qi_wr, qj_wr, qt_wr, qi_ws, qj_ws, qr_ws, Int.toNat_natCast, Int.toNat_zero, Int.reduceToNat, not_true_eq_false, not_false_eq_true, false_implies, implies_true, Option.some.injEq, reduceCtorEq, Sp0, true_or, or_true, or_self, wi_wi, wj_wj, k1, t1, qk_al, qr_al, n82, ↓reduceIte, s1c, qt_al, Nat.add_assoc]
  repeat' (first | (with_reducible refine And.intro ?_ ?_) | (with_reducible intro))
  all_goals (try (first | with_reducible assumption | omega | (unfold inI; omega) | (unfold inL; omega) | exact cz_in _ _))
  -- the plain chain
  generalize hA : wr (wn (wr h1 x (fu (qr h1 x) 0 (some (x + 1)))) 7 3) x (fu (fu (qr h1 x) 0 (some (x + 1))) 1 (some (x + 82))) = hA1
  have tA : qt hA1 = x + 83 := by rw [← hA, qt_wr, qt_al, qt_wr, t1]
  have kA : qk hA1 x = 17 := by rw [← hA, qk_wr, qk_al, qt_wr, t1, if_neg (by omega), qk_wr, k1]
  have rA : qr hA1 x = fu (fu (qr h1 x) 0 (some (x + 1))) 1 (some (x + 82)) := by rw [← hA, qr_ws]
  have eA : Eqj h hA1 x := by
    rw [← hA]
    exact ((w1.sub (by omega)).tr (Eqj.wr h1 x _ (Nat.le_refl x)) (Nat.le_refl x)).tr ((Eqj.wn _ 7 3 (a := x) (by rw [qt_wr]; omega)).tr (Eqj.wr _ x _ (Nat.le_refl x)) (Nat.le_refl x)) (Nat.le_refl x)
  have sA : Stt hA1 (x + 1) dI := by
    rw [← hA]
    refine ((g1.rg (Rg.wr (by omega))).rg (Rg.eqj (Eqj.wn _ 7 3 (a := x + 82) (by rw [qt_wr]; omega)) (by omega))).rg (Rg.wr (by omega))
  have cA : qk hA1 (x + 82) = 7 ∧ ql hA1 (x + 82) = 3 ∧ ∀ p, qr hA1 (x + 82) p = none := by
    rw [← hA]
    refine ⟨?_, ?_, fun p => ?_⟩
    · rw [qk_wr, qk_al, if_pos (by rw [qt_wr, t1])]
    · rw [ql_wr, ql_al, if_pos (by rw [qt_wr, t1])]
    · rw [qr_wn (by omega), qr_al, if_pos (by rw [qt_wr, t1])]
  refine ⟨x + 83, rfl, by rw [qk_al, if_pos tA.symm], by rw [qt_al, tA], by rw [qi_al, if_pos tA.symm], fun h2 e2 t2 g2 z2 z2' => ?_⟩
  have w2 := (Eqj.wn hA1 11 3 (a := x + 83) (by omega)).tr e2 (Nat.le_refl _)
  have k2 : qk h2 x = 17 := by rw [(w2.1 x (by omega)).1]; exact kA
  have r2 : qr h2 x = qr hA1 x := (w2.1 x (by omega)).2.2.2
  simp only [wpS, o_c, o_cl, o_il, o_ll, o_al, o_is, o_ls, o_as, o_inc, o_add, o_sub, o_mul, o_and, o_or, o_xor, o_shl, o_shr, o_div, o_neg, o_ladd, o_lsub, o_lmul, o_ldiv, o_lrem, o_lneg, o_lcmp, o_i2l, o_l2i, o_dup, o_dup2, o_pop, o_go, o_nn, o_sw, swc, o_iret, o_zret, o_lret, o_vret, o_ieq, o_eq0, o_ine, o_ne0, o_ilt, o_lt0, o_ige, o_ge0, o_igt, o_gt0, o_ile, o_le0, o_iald, o_zald, o_lald, o_aald, o_iast, o_zast, o_last, o_aast, o_alen, o_gi, o_gr, o_pi, o_pz, o_pr, o_new, o_newa, o_copy, o_oinit, o_call, o_callV, o_callVc, o_callI, popn, cnO, o_BAD, lgt, lst, isL, kil, st1, st2, entL, List.length_nil, List.length_cons, List.replicate, Nat.reduceAdd, Nat.reduceLeDiff, Nat.reduceSub, true_and, and_true, Nat.zero_le, ne_eq, qk_wi, ql_wi, qr_wi, qj_wi, qt_wi, qk_wj, ql_wj, qr_wj, qi_wj, qt_wj, qk_wr, ql_wr, qi_wr, qj_wr, qt_wr, qi_ws, qj_ws, qr_ws, Int.toNat_natCast, Int.toNat_zero, Int.reduceToNat, not_true_eq_false, not_false_eq_true, false_implies, implies_true, Option.some.injEq, reduceCtorEq, Sp0, true_or, or_true, or_self, wi_wi, wj_wj, k2, t2, s2c, qt_al, Nat.add_assoc]
  repeat' (first | (with_reducible refine And.intro ?_ ?_) | (with_reducible intro))
  all_goals (try (first | with_reducible assumption | omega | (unfold inI; omega) | (unfold inL; omega) | exact cz_in _ _))
  -- the drawing
  refine ⟨x + 85, rfl, by rw [qk_al, if_pos (by rw [qt_wr, t2])], by rw [qt_al, qt_wr, t2], by rw [qi_al, if_pos (by rw [qt_wr, t2])], fun h3 e3 t3 g3 z3 => ?_⟩
  have w3 := (Eqj.wn (wr h2 x (fu (qr h2 x) 2 (some (x + 83)))) 12 3 (a := x + 85) (by rw [qt_wr]; omega)).tr e3 (Nat.le_refl _)
  have k3 : qk h3 x = 17 := by rw [(w3.1 x (by omega)).1]; exact k2
  have r3 : qr h3 x = fu (qr hA1 x) 2 (some (x + 83)) := by rw [(w3.1 x (by omega)).2.2.2, qr_ws, r2]
  simp only [wpS, o_c, o_cl, o_il, o_ll, o_al, o_is, o_ls, o_as, o_inc, o_add, o_sub, o_mul, o_and, o_or, o_xor, o_shl, o_shr, o_div, o_neg, o_ladd, o_lsub, o_lmul, o_ldiv, o_lrem, o_lneg, o_lcmp, o_i2l, o_l2i, o_dup, o_dup2, o_pop, o_go, o_nn, o_sw, swc, o_iret, o_zret, o_lret, o_vret, o_ieq, o_eq0, o_ine, o_ne0, o_ilt, o_lt0, o_ige, o_ge0, o_igt, o_gt0, o_ile, o_le0, o_iald, o_zald, o_lald, o_aald, o_iast, o_zast, o_last, o_aast, o_alen, o_gi, o_gr, o_pi, o_pz, o_pr, o_new, o_newa, o_copy, o_oinit, o_call, o_callV, o_callVc, o_callI, popn, cnO, o_BAD, lgt, lst, isL, kil, st1, st2, entL, List.length_nil, List.length_cons, List.replicate, Nat.reduceAdd, Nat.reduceLeDiff, Nat.reduceSub, true_and, and_true, Nat.zero_le, ne_eq, qk_wi, ql_wi, qr_wi, qj_wi, qt_wi, qk_wj, ql_wj, qr_wj, qi_wj, qt_wj, qk_wr, ql_wr, qi_wr, qj_wr, qt_wr, qi_ws, qj_ws, qr_ws, Int.toNat_natCast, Int.toNat_zero, Int.reduceToNat, not_true_eq_false, not_false_eq_true, false_implies, implies_true, Option.some.injEq, reduceCtorEq, Sp0, true_or, or_true, or_self, wi_wi, wj_wj, k3, t3, s5c, qt_al, Nat.add_assoc]
  repeat' (first | (with_reducible refine And.intro ?_ ?_) | (with_reducible intro))
  all_goals (try (first | with_reducible assumption | omega | (unfold inI; omega) | (unfold inL; omega) | exact cz_in _ _))
  -- the spread
  refine ⟨x + 89, rfl, by rw [qk_al, if_pos (by rw [qt_wr, t3])], by rw [qt_al, qt_wr, t3], by rw [qi_al, if_pos (by rw [qt_wr, t3])], fun h4 e4 t4 g4 l4 z4 => ?_⟩
  have w4 := (Eqj.wn (wr h3 x (fu (qr h3 x) 3 (some (x + 85)))) 15 9 (a := x + 89) (by rw [qt_wr]; omega)).tr e4 (Nat.le_refl _)
  have k4 : qk h4 x = 17 := by rw [(w4.1 x (by omega)).1]; exact k3
  have r4 : qr h4 x = fu (qr h3 x) 3 (some (x + 85)) := by rw [(w4.1 x (by omega)).2.2.2, qr_ws]
  simp only [wpS, o_c, o_cl, o_il, o_ll, o_al, o_is, o_ls, o_as, o_inc, o_add, o_sub, o_mul, o_and, o_or, o_xor, o_shl, o_shr, o_div, o_neg, o_ladd, o_lsub, o_lmul, o_ldiv, o_lrem, o_lneg, o_lcmp, o_i2l, o_l2i, o_dup, o_dup2, o_pop, o_go, o_nn, o_sw, swc, o_iret, o_zret, o_lret, o_vret, o_ieq, o_eq0, o_ine, o_ne0, o_ilt, o_lt0, o_ige, o_ge0, o_igt, o_gt0, o_ile, o_le0, o_iald, o_zald, o_lald, o_aald, o_iast, o_zast, o_last, o_aast, o_alen, o_gi, o_gr, o_pi, o_pz, o_pr, o_new, o_newa, o_copy, o_oinit, o_call, o_callV, o_callVc, o_callI, popn, cnO, o_BAD, lgt, lst, isL, kil, st1, st2, entL, List.length_nil, List.length_cons, List.replicate, Nat.reduceAdd, Nat.reduceLeDiff, Nat.reduceSub, true_and, and_true, Nat.zero_le, ne_eq, qk_wi, ql_wi, qr_wi, qj_wi, qt_wi, qk_wj, ql_wj, qr_wj, qi_wj, qt_wj, qk_wr, ql_wr, qi_wr, qj_wr, qt_wr, qi_ws, qj_ws, qr_ws, Int.toNat_natCast, Int.toNat_zero, Int.reduceToNat, not_true_eq_false, not_false_eq_true, false_implies, implies_true, Option.some.injEq, reduceCtorEq, Sp0, true_or, or_true, or_self, wi_wi, wj_wj, k4, t4, s0c, qt_al, Nat.add_assoc]
  repeat' (first | (with_reducible refine And.intro ?_ ?_) | (with_reducible intro))
  all_goals (try (first | with_reducible assumption | omega | (unfold inI; omega) | (unfold inL; omega) | exact cz_in _ _))
  -- the care
  refine ⟨x + 93, rfl, by rw [qk_al, if_pos (by rw [qt_wr, t4])], by rw [qt_al, qt_wr, t4], by rw [qi_al, if_pos (by rw [qt_wr, t4])], fun h5 e5 t5 g5 z5 => ?_⟩
  have w5 := (Eqj.wn (wr h4 x (fu (qr h4 x) 4 (some (x + 89)))) 10 8 (a := x + 93) (by rw [qt_wr]; omega)).tr e5 (Nat.le_refl _)
  have k5 : qk h5 x = 17 := by rw [(w5.1 x (by omega)).1]; exact k4
  have r5 : qr h5 x = fu (qr h4 x) 4 (some (x + 89)) := by rw [(w5.1 x (by omega)).2.2.2, qr_ws]
  simp only [wpS, o_c, o_cl, o_il, o_ll, o_al, o_is, o_ls, o_as, o_inc, o_add, o_sub, o_mul, o_and, o_or, o_xor, o_shl, o_shr, o_div, o_neg, o_ladd, o_lsub, o_lmul, o_ldiv, o_lrem, o_lneg, o_lcmp, o_i2l, o_l2i, o_dup, o_dup2, o_pop, o_go, o_nn, o_sw, swc, o_iret, o_zret, o_lret, o_vret, o_ieq, o_eq0, o_ine, o_ne0, o_ilt, o_lt0, o_ige, o_ge0, o_igt, o_gt0, o_ile, o_le0, o_iald, o_zald, o_lald, o_aald, o_iast, o_zast, o_last, o_aast, o_alen, o_gi, o_gr, o_pi, o_pz, o_pr, o_new, o_newa, o_copy, o_oinit, o_call, o_callV, o_callVc, o_callI, popn, cnO, o_BAD, lgt, lst, isL, kil, st1, st2, entL, List.length_nil, List.length_cons, List.replicate, Nat.reduceAdd, Nat.reduceLeDiff, Nat.reduceSub, true_and, and_true, Nat.zero_le, ne_eq, qk_wi, ql_wi, qr_wi, qj_wi, qt_wi, qk_wj, ql_wj, qr_wj, qi_wj, qt_wj, qk_wr, ql_wr, qi_wr, qj_wr, qt_wr, qi_ws, qj_ws, qr_ws, Int.toNat_natCast, Int.toNat_zero, Int.reduceToNat, not_true_eq_false, not_false_eq_true, false_implies, implies_true, Option.some.injEq, reduceCtorEq, Sp0, true_or, or_true, or_self, wi_wi, wj_wj, k5, t5]
  repeat' (first | (with_reducible refine And.intro ?_ ?_) | (with_reducible intro))
  all_goals (try (first | with_reducible assumption | omega | (unfold inI; omega) | (unfold inL; omega) | exact cz_in _ _))
  have x1 : Rg h5 (wr h5 x (fu (qr h5 x) 5 (some (x + 93)))) (x + 1) (x + 100) := Rg.wr (by omega)
  have x2 : Rg h4 h5 (x + 1) (x + 93) := (Rg.wr (by omega)).tr (Rg.eqj w5 (by omega))
  have x3 : Rg h3 h4 (x + 1) (x + 89) := (Rg.wr (by omega)).tr (Rg.eqj w4 (by omega))
  have x4 : Rg h2 h3 (x + 1) (x + 85) := (Rg.wr (by omega)).tr (Rg.eqj w3 (by omega))
  have x5 : Rg hA1 h2 (x + 1) (x + 83) := Rg.eqj w2 (by omega)
  have y2 : Rg h4 (wr h5 x (fu (qr h5 x) 5 (some (x + 93)))) (x + 1) (x + 93) := x2.tr (x1.sub (by omega) (by omega))
  have y3 : Rg h3 (wr h5 x (fu (qr h5 x) 5 (some (x + 93)))) (x + 1) (x + 89) := x3.tr (y2.sub (by omega) (by omega))
  have y4 : Rg h2 (wr h5 x (fu (qr h5 x) 5 (some (x + 93)))) (x + 1) (x + 85) := x4.tr (y3.sub (by omega) (by omega))
  have y5 : Rg hA1 (wr h5 x (fu (qr h5 x) 5 (some (x + 93)))) (x + 1) (x + 83) := x5.tr (y4.sub (by omega) (by omega))
  have rr : qr (wr h5 x (fu (qr h5 x) 5 (some (x + 93)))) x = fu (fu (fu (fu (fu (fu (qr h1 x) 0 (some (x + 1))) 1 (some (x + 82))) 2 (some (x + 83))) 3 (some (x + 85))) 4 (some (x + 89))) 5 (some (x + 93)) := by rw [qr_ws, r5, r4, r3, rA]
  have ee : Eqj h (wr h5 x (fu (qr h5 x) 5 (some (x + 93)))) x := by
    refine Eqj.tr (b := x) ?_ (Eqj.wr h5 x _ (Nat.le_refl x)) (Nat.le_refl x)
    refine Eqj.tr (b := x) ?_ (w5.sub (by omega)) (Nat.le_refl x)
    refine Eqj.tr (b := x) ?_ (Eqj.wr h4 x _ (Nat.le_refl x)) (Nat.le_refl x)
    refine Eqj.tr (b := x) ?_ (w4.sub (by omega)) (Nat.le_refl x)
    refine Eqj.tr (b := x) ?_ (Eqj.wr h3 x _ (Nat.le_refl x)) (Nat.le_refl x)
    refine Eqj.tr (b := x) ?_ (w3.sub (by omega)) (Nat.le_refl x)
    refine Eqj.tr (b := x) ?_ (Eqj.wr h2 x _ (Nat.le_refl x)) (Nat.le_refl x)
    exact Eqj.tr (b := x) eA (w2.sub (by omega)) (Nat.le_refl x)
  have qtH : qt (wr h5 x (fu (qr h5 x) 5 (some (x + 93)))) = x + 100 := by rw [qt_wr, t5]
  have kH : qk (wr h5 x (fu (qr h5 x) 5 (some (x + 93)))) x = 17 := k5
  generalize (wr h5 x (fu (qr h5 x) 5 (some (x + 93)))) = H at *
  have f0 : qr H x 0 = some (x + 1) := by rw [rr]; rfl
  have f1 : qr H x 1 = some (x + 82) := by rw [rr]; rfl
  have f2 : qr H x 2 = some (x + 83) := by rw [rr]; rfl
  have f3 : qr H x 3 = some (x + 85) := by rw [rr]; rfl
  have f4 : qr H x 4 = some (x + 89) := by rw [rr]; rfl
  have f5 : qr H x 5 = some (x + 93) := by rw [rr]; rfl
  have q83 := y4 (x + 83) (by omega) (by omega)
  have q84 := y4 (x + 84) (by omega) (by omega)
  have q90 := y2 (x + 90) (by omega) (by omega)
  have q82 := y5 (x + 82) (by omega) (by omega)
  refine hK H ee qtH ⟨⟨⟨kH, f0, sA.rg (y5.sub (by omega) (by omega))⟩, f2, ⟨g2.rg (y4.sub (by omega) (by omega)), fun m hm => ?_, fun m hm => by dsimp only; omega⟩, ⟨?_, ?_⟩, f4, g4.rg (y2.sub (by omega) (by omega)), by omega, by omega⟩, f1, ?_, ?_, f3, g3.rg (y3.sub (by omega) (by omega)), f5, g5.rg (x1.sub (by omega) (by omega))⟩ ?_ ?_
  · rw [q84.2.2.1, z2']
  · rw [q83.2.2.1, z2]
  · rw [q83.2.2.1, z2]
  · rw [q82.1]; exact cA.1
  · rw [q82.2.1]; exact cA.2.1
  · rw [q90.2.1]; exact l4
  · intro p; rw [q82.2.2.2]; exact cA.2.2 p

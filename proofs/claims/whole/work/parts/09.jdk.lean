/-! ===== the JDK's own: Math, Arrays ===== -/
def o_BAD : OPP := fun _ _ _ _ _ _ _ => False
theorem k_BAD {i : MI} {pc pe : Nat} : Okop i pc o_BAD pe := fun _ _ _ _ _ _ _ _ h => h.elim
theorem Mth.ofF {y : MethodName} {cc : ByteArray} {nL lev : Nat} {ret : Option FieldType} {S : Sp} (hy : plainFor y = true)
    (body : ∀ (x : Ctx) (as : List AV) (h : Hp), OkC (cc, nL, y.cls, ret, y.name, lev) x → S.2 as h (xR x) → aln as ≤ nL ∧ V (cc, nL, y.cls, ret, y.name, lev) x 0 (entL nL as) [] h (S.1 as h)) : Mth y cc nL ret lev S := by
  intro l g as h Rt hS
  refine va_MetF (cc := cc) (maxL := nL) (ret := ret) hy rfl ?_
  intro p e s m args below meth c s₁ B hml hv
  obtain ⟨rfl, hKF, hH⟩ := hv
  have hts := atoms_spec (ws := wy y cc nL ret) B.pre
  obtain ⟨hal, hV⟩ := body (p, l, e, rmL lev (S.1 as h), s, m, (as.map cv).toArray, below, meth, c, g, Rt) as h ⟨B.exec, B.bytes, hml, findClass_of_methodNamed B.named, fun w hw => hts w (List.mem_cons_of_mem _ hw), B.returns, (name_of_methodNamed B.named B.method).1, B.notSynchronized, hKF, rfl, rfl⟩ hS
  have hl := lv_entry (as.map cv) (n := nL) (by rw [aln_sl]; exact hal)
  rw [lg_entry_eq]
  refine hV s.heap [] _ 0 0 hH (fun _ h => by cases h) (Lcl.of hl (fun j v hv => ?_)) (by show 0 + _ ≤ (S.1 as h).1; omega) (by show 0 + _ ≤ (S.1 as h).2; omega)
  have := ent_in nL 0 as j v hv
  rw [Nat.zero_add] at this
  exact this
def iab (z : Int) : Int := if z < 0 then -z else z
def T_J9_abs_0f7a4 : TT := fun as h K => ∃ z : Int, as = [vi z] ∧ inI z ∧ K (some (vi (iab z))) h
theorem c_abs {h : Hp} {z : Int} {K : RT} (h1 : inI z ∧ K (some (vi (iab z))) h) : T_J9_abs_0f7a4 [vi z] h K := ⟨z, rfl, h1⟩
abbrev i_J9_abs_0f7a4 : MI := (cJ9_abs_0f7a4, 1, RJ9, (some .int), "abs", 2)
theorem k_J9_abs_0f7a4_0 : Okop i_J9_abs_0f7a4 0 (o_il 0) 1 := k_iln (j := 0) (by decide +kernel)
theorem k_J9_abs_0f7a4_1 : Okop i_J9_abs_0f7a4 1 (o_ge0 9) 4 := k_ge0 (off := 8) (by decide +kernel) (by decide)
theorem k_J9_abs_0f7a4_4 : Okop i_J9_abs_0f7a4 4 (o_il 0) 5 := k_iln (j := 0) (by decide +kernel)
theorem k_J9_abs_0f7a4_5 : Okop i_J9_abs_0f7a4 5 (o_neg) 6 := k_neg (by decide +kernel)
theorem k_J9_abs_0f7a4_6 : Okop i_J9_abs_0f7a4 6 (o_go 10) 9 := k_go (off := 4) (by decide +kernel) (by decide)
theorem k_J9_abs_0f7a4_9 : Okop i_J9_abs_0f7a4 9 (o_il 0) 10 := k_iln (j := 0) (by decide +kernel)
theorem k_J9_abs_0f7a4_10 : Okop i_J9_abs_0f7a4 10 (o_iret) 11 := k_iret (by decide +kernel) rfl
theorem s_J9_abs_0f7a4_0 : Seg i_J9_abs_0f7a4 0 [o_il 0, o_ge0 9, o_il 0, o_neg, o_go 10] 9 := Seg.cons k_J9_abs_0f7a4_0 (Seg.cons k_J9_abs_0f7a4_1 (Seg.cons k_J9_abs_0f7a4_4 (Seg.cons k_J9_abs_0f7a4_5 (Seg.cons k_J9_abs_0f7a4_6 (Seg.nil)))))
theorem s_J9_abs_0f7a4_9 : Seg i_J9_abs_0f7a4 9 [o_il 0, o_iret] 11 := Seg.cons k_J9_abs_0f7a4_9 (Seg.cons k_J9_abs_0f7a4_10 (Seg.nil))
theorem s_J9_abs_0f7a4_10 : Seg i_J9_abs_0f7a4 10 [o_iret] 11 := Seg.cons k_J9_abs_0f7a4_10 (Seg.nil)

theorem m_J9_abs_0f7a4 : Mth yJ9_abs_0f7a4 cJ9_abs_0f7a4 1 (some .int) 2 (Sp0 T_J9_abs_0f7a4) := by
  refine Mth.ofF (by decide +kernel) ?_
  rintro x as h ok ⟨z, rfl, hz, hK⟩
  refine ⟨Nat.le_of_ble_eq_true rfl, ?_⟩
  unfold inI at hz
  have hK' : ∀ r, r = iab z → xR x (some (vi r)) h := fun r e => e ▸ hK
  all_goals (try ((first | (refine s_J9_abs_0f7a4_0 x ok _ _ _ _ ?_) | (refine s_J9_abs_0f7a4_9 x ok _ _ _ _ ?_) | (refine s_J9_abs_0f7a4_10 x ok _ _ _ _ ?_)); (try simp only [wpS, o_c, o_cl, o_il, o_ll, o_al, o_is, o_ls, o_as, o_inc, o_add, o_sub, o_mul, o_and, o_or, o_xor, o_shl, o_shr, o_div, o_neg, o_ladd, o_lsub, o_lmul, o_ldiv, o_lrem, o_lneg, o_lcmp, o_i2l, o_l2i, o_dup, o_dup2, o_pop, o_go, o_nn, o_sw, swc, o_iret, o_zret, o_lret, o_vret, o_ieq, o_eq0, o_ine, o_ne0, o_ilt, o_lt0, o_ige, o_ge0, o_igt, o_gt0, o_ile, o_le0, o_iald, o_zald, o_lald, o_aald, o_iast, o_zast, o_last, o_aast, o_alen, o_gi, o_gr, o_pi, o_pz, o_pr, o_new, o_newa, o_copy, o_oinit, o_call, o_callV, o_callVc, o_callI, popn, cnO, o_BAD, lgt, lst, isL, kil, st1, st2, entL, List.length_nil, List.length_cons, List.replicate, Nat.reduceAdd, Nat.reduceLeDiff, Nat.reduceSub, true_and, and_true, Nat.zero_le, ne_eq, qk_wi, ql_wi, qr_wi, qj_wi, qt_wi, qk_wj, ql_wj, qr_wj, qi_wj, qt_wj, qk_wr, ql_wr, qi_wr, qj_wr, qt_wr, qi_ws, qj_ws, qr_ws, Int.toNat_natCast, Int.toNat_zero, Int.reduceToNat, not_true_eq_false, not_false_eq_true, false_implies, implies_true, Option.some.injEq, reduceCtorEq, Sp0, true_or, or_true, or_self, wi_wi, wj_wj]); (repeat' (first | (with_reducible refine And.intro ?_ ?_) | (with_reducible intro))); (all_goals (try (first | assumption | omega | (unfold inI; omega))))))
  all_goals (try ((first | (refine s_J9_abs_0f7a4_0 x ok _ _ _ _ ?_) | (refine s_J9_abs_0f7a4_9 x ok _ _ _ _ ?_) | (refine s_J9_abs_0f7a4_10 x ok _ _ _ _ ?_)); (try simp only [wpS, o_c, o_cl, o_il, o_ll, o_al, o_is, o_ls, o_as, o_inc, o_add, o_sub, o_mul, o_and, o_or, o_xor, o_shl, o_shr, o_div, o_neg, o_ladd, o_lsub, o_lmul, o_ldiv, o_lrem, o_lneg, o_lcmp, o_i2l, o_l2i, o_dup, o_dup2, o_pop, o_go, o_nn, o_sw, swc, o_iret, o_zret, o_lret, o_vret, o_ieq, o_eq0, o_ine, o_ne0, o_ilt, o_lt0, o_ige, o_ge0, o_igt, o_gt0, o_ile, o_le0, o_iald, o_zald, o_lald, o_aald, o_iast, o_zast, o_last, o_aast, o_alen, o_gi, o_gr, o_pi, o_pz, o_pr, o_new, o_newa, o_copy, o_oinit, o_call, o_callV, o_callVc, o_callI, popn, cnO, o_BAD, lgt, lst, isL, kil, st1, st2, entL, List.length_nil, List.length_cons, List.replicate, Nat.reduceAdd, Nat.reduceLeDiff, Nat.reduceSub, true_and, and_true, Nat.zero_le, ne_eq, qk_wi, ql_wi, qr_wi, qj_wi, qt_wi, qk_wj, ql_wj, qr_wj, qi_wj, qt_wj, qk_wr, ql_wr, qi_wr, qj_wr, qt_wr, qi_ws, qj_ws, qr_ws, Int.toNat_natCast, Int.toNat_zero, Int.reduceToNat, not_true_eq_false, not_false_eq_true, false_implies, implies_true, Option.some.injEq, reduceCtorEq, Sp0, true_or, or_true, or_self, wi_wi, wj_wj]); (repeat' (first | (with_reducible refine And.intro ?_ ?_) | (with_reducible intro))); (all_goals (try (first | assumption | omega | (unfold inI; omega))))))
  all_goals (try ((first | (refine s_J9_abs_0f7a4_0 x ok _ _ _ _ ?_) | (refine s_J9_abs_0f7a4_9 x ok _ _ _ _ ?_) | (refine s_J9_abs_0f7a4_10 x ok _ _ _ _ ?_)); (try simp only [wpS, o_c, o_cl, o_il, o_ll, o_al, o_is, o_ls, o_as, o_inc, o_add, o_sub, o_mul, o_and, o_or, o_xor, o_shl, o_shr, o_div, o_neg, o_ladd, o_lsub, o_lmul, o_ldiv, o_lrem, o_lneg, o_lcmp, o_i2l, o_l2i, o_dup, o_dup2, o_pop, o_go, o_nn, o_sw, swc, o_iret, o_zret, o_lret, o_vret, o_ieq, o_eq0, o_ine, o_ne0, o_ilt, o_lt0, o_ige, o_ge0, o_igt, o_gt0, o_ile, o_le0, o_iald, o_zald, o_lald, o_aald, o_iast, o_zast, o_last, o_aast, o_alen, o_gi, o_gr, o_pi, o_pz, o_pr, o_new, o_newa, o_copy, o_oinit, o_call, o_callV, o_callVc, o_callI, popn, cnO, o_BAD, lgt, lst, isL, kil, st1, st2, entL, List.length_nil, List.length_cons, List.replicate, Nat.reduceAdd, Nat.reduceLeDiff, Nat.reduceSub, true_and, and_true, Nat.zero_le, ne_eq, qk_wi, ql_wi, qr_wi, qj_wi, qt_wi, qk_wj, ql_wj, qr_wj, qi_wj, qt_wj, qk_wr, ql_wr, qi_wr, qj_wr, qt_wr, qi_ws, qj_ws, qr_ws, Int.toNat_natCast, Int.toNat_zero, Int.reduceToNat, not_true_eq_false, not_false_eq_true, false_implies, implies_true, Option.some.injEq, reduceCtorEq, Sp0, true_or, or_true, or_self, wi_wi, wj_wj]); (repeat' (first | (with_reducible refine And.intro ?_ ?_) | (with_reducible intro))); (all_goals (try (first | assumption | omega | (unfold inI; omega))))))
  all_goals (refine hK' _ ?_; unfold iab; grind)
def T_J9_abs_067f4 : TT := fun as h K => ∃ z : Int, as = [vl z] ∧ inL z ∧ K (some (vl (iab z))) h
theorem c_absL {h : Hp} {z : Int} {K : RT} (h1 : inL z ∧ K (some (vl (iab z))) h) : T_J9_abs_067f4 [vl z] h K := ⟨z, rfl, h1⟩
abbrev i_J9_abs_067f4 : MI := (cJ9_abs_067f4, 2, RJ9, (some .long), "abs", 2)
theorem k_J9_abs_067f4_0 : Okop i_J9_abs_067f4 0 (o_ll 0) 1 := k_lln (j := 0) (by decide +kernel)
theorem k_J9_abs_067f4_1 : Okop i_J9_abs_067f4 1 (o_cl 0) 2 := k_lconst (n := 0) (by decide +kernel) rfl
theorem k_J9_abs_067f4_2 : Okop i_J9_abs_067f4 2 (o_lcmp) 3 := k_lcmp (by decide +kernel)
theorem k_J9_abs_067f4_3 : Okop i_J9_abs_067f4 3 (o_ge0 11) 6 := k_ge0 (off := 8) (by decide +kernel) (by decide)
theorem k_J9_abs_067f4_6 : Okop i_J9_abs_067f4 6 (o_ll 0) 7 := k_lln (j := 0) (by decide +kernel)
theorem k_J9_abs_067f4_7 : Okop i_J9_abs_067f4 7 (o_lneg) 8 := k_lneg (by decide +kernel)
theorem k_J9_abs_067f4_8 : Okop i_J9_abs_067f4 8 (o_go 12) 11 := k_go (off := 4) (by decide +kernel) (by decide)
theorem k_J9_abs_067f4_11 : Okop i_J9_abs_067f4 11 (o_ll 0) 12 := k_lln (j := 0) (by decide +kernel)
theorem k_J9_abs_067f4_12 : Okop i_J9_abs_067f4 12 (o_lret) 13 := k_lret (by decide +kernel) rfl
theorem s_J9_abs_067f4_0 : Seg i_J9_abs_067f4 0 [o_ll 0, o_cl 0, o_lcmp, o_ge0 11, o_ll 0, o_lneg, o_go 12] 11 := Seg.cons k_J9_abs_067f4_0 (Seg.cons k_J9_abs_067f4_1 (Seg.cons k_J9_abs_067f4_2 (Seg.cons k_J9_abs_067f4_3 (Seg.cons k_J9_abs_067f4_6 (Seg.cons k_J9_abs_067f4_7 (Seg.cons k_J9_abs_067f4_8 (Seg.nil)))))))
theorem s_J9_abs_067f4_11 : Seg i_J9_abs_067f4 11 [o_ll 0, o_lret] 13 := Seg.cons k_J9_abs_067f4_11 (Seg.cons k_J9_abs_067f4_12 (Seg.nil))
theorem s_J9_abs_067f4_12 : Seg i_J9_abs_067f4 12 [o_lret] 13 := Seg.cons k_J9_abs_067f4_12 (Seg.nil)

theorem m_J9_abs_067f4 : Mth yJ9_abs_067f4 cJ9_abs_067f4 2 (some .long) 2 (Sp0 T_J9_abs_067f4) := by
  refine Mth.ofF (by decide +kernel) ?_
  rintro x as h ok ⟨z, rfl, hz, hK⟩
  refine ⟨Nat.le_of_ble_eq_true rfl, ?_⟩
  unfold inL at hz
  have hK' : ∀ r, r = iab z → xR x (some (vl r)) h := fun r e => e ▸ hK
  all_goals (try ((first | (refine s_J9_abs_067f4_0 x ok _ _ _ _ ?_) | (refine s_J9_abs_067f4_11 x ok _ _ _ _ ?_) | (refine s_J9_abs_067f4_12 x ok _ _ _ _ ?_)); (try simp only [wpS, o_c, o_cl, o_il, o_ll, o_al, o_is, o_ls, o_as, o_inc, o_add, o_sub, o_mul, o_and, o_or, o_xor, o_shl, o_shr, o_div, o_neg, o_ladd, o_lsub, o_lmul, o_ldiv, o_lrem, o_lneg, o_lcmp, o_i2l, o_l2i, o_dup, o_dup2, o_pop, o_go, o_nn, o_sw, swc, o_iret, o_zret, o_lret, o_vret, o_ieq, o_eq0, o_ine, o_ne0, o_ilt, o_lt0, o_ige, o_ge0, o_igt, o_gt0, o_ile, o_le0, o_iald, o_zald, o_lald, o_aald, o_iast, o_zast, o_last, o_aast, o_alen, o_gi, o_gr, o_pi, o_pz, o_pr, o_new, o_newa, o_copy, o_oinit, o_call, o_callV, o_callVc, o_callI, popn, cnO, o_BAD, lgt, lst, isL, kil, st1, st2, entL, List.length_nil, List.length_cons, List.replicate, Nat.reduceAdd, Nat.reduceLeDiff, Nat.reduceSub, true_and, and_true, Nat.zero_le, ne_eq, qk_wi, ql_wi, qr_wi, qj_wi, qt_wi, qk_wj, ql_wj, qr_wj, qi_wj, qt_wj, qk_wr, ql_wr, qi_wr, qj_wr, qt_wr, qi_ws, qj_ws, qr_ws, Int.toNat_natCast, Int.toNat_zero, Int.reduceToNat, not_true_eq_false, not_false_eq_true, false_implies, implies_true, Option.some.injEq, reduceCtorEq, Sp0, true_or, or_true, or_self, wi_wi, wj_wj, cz_ge]); (repeat' (first | (with_reducible refine And.intro ?_ ?_) | (with_reducible intro))); (all_goals (try (first | assumption | omega | (unfold inI; omega))))))
  all_goals (try ((first | (refine s_J9_abs_067f4_0 x ok _ _ _ _ ?_) | (refine s_J9_abs_067f4_11 x ok _ _ _ _ ?_) | (refine s_J9_abs_067f4_12 x ok _ _ _ _ ?_)); (try simp only [wpS, o_c, o_cl, o_il, o_ll, o_al, o_is, o_ls, o_as, o_inc, o_add, o_sub, o_mul, o_and, o_or, o_xor, o_shl, o_shr, o_div, o_neg, o_ladd, o_lsub, o_lmul, o_ldiv, o_lrem, o_lneg, o_lcmp, o_i2l, o_l2i, o_dup, o_dup2, o_pop, o_go, o_nn, o_sw, swc, o_iret, o_zret, o_lret, o_vret, o_ieq, o_eq0, o_ine, o_ne0, o_ilt, o_lt0, o_ige, o_ge0, o_igt, o_gt0, o_ile, o_le0, o_iald, o_zald, o_lald, o_aald, o_iast, o_zast, o_last, o_aast, o_alen, o_gi, o_gr, o_pi, o_pz, o_pr, o_new, o_newa, o_copy, o_oinit, o_call, o_callV, o_callVc, o_callI, popn, cnO, o_BAD, lgt, lst, isL, kil, st1, st2, entL, List.length_nil, List.length_cons, List.replicate, Nat.reduceAdd, Nat.reduceLeDiff, Nat.reduceSub, true_and, and_true, Nat.zero_le, ne_eq, qk_wi, ql_wi, qr_wi, qj_wi, qt_wi, qk_wj, ql_wj, qr_wj, qi_wj, qt_wj, qk_wr, ql_wr, qi_wr, qj_wr, qt_wr, qi_ws, qj_ws, qr_ws, Int.toNat_natCast, Int.toNat_zero, Int.reduceToNat, not_true_eq_false, not_false_eq_true, false_implies, implies_true, Option.some.injEq, reduceCtorEq, Sp0, true_or, or_true, or_self, wi_wi, wj_wj, cz_ge]); (repeat' (first | (with_reducible refine And.intro ?_ ?_) | (with_reducible intro))); (all_goals (try (first | assumption | omega | (unfold inI; omega))))))
  all_goals (try ((first | (refine s_J9_abs_067f4_0 x ok _ _ _ _ ?_) | (refine s_J9_abs_067f4_11 x ok _ _ _ _ ?_) | (refine s_J9_abs_067f4_12 x ok _ _ _ _ ?_)); (try simp only [wpS, o_c, o_cl, o_il, o_ll, o_al, o_is, o_ls, o_as, o_inc, o_add, o_sub, o_mul, o_and, o_or, o_xor, o_shl, o_shr, o_div, o_neg, o_ladd, o_lsub, o_lmul, o_ldiv, o_lrem, o_lneg, o_lcmp, o_i2l, o_l2i, o_dup, o_dup2, o_pop, o_go, o_nn, o_sw, swc, o_iret, o_zret, o_lret, o_vret, o_ieq, o_eq0, o_ine, o_ne0, o_ilt, o_lt0, o_ige, o_ge0, o_igt, o_gt0, o_ile, o_le0, o_iald, o_zald, o_lald, o_aald, o_iast, o_zast, o_last, o_aast, o_alen, o_gi, o_gr, o_pi, o_pz, o_pr, o_new, o_newa, o_copy, o_oinit, o_call, o_callV, o_callVc, o_callI, popn, cnO, o_BAD, lgt, lst, isL, kil, st1, st2, entL, List.length_nil, List.length_cons, List.replicate, Nat.reduceAdd, Nat.reduceLeDiff, Nat.reduceSub, true_and, and_true, Nat.zero_le, ne_eq, qk_wi, ql_wi, qr_wi, qj_wi, qt_wi, qk_wj, ql_wj, qr_wj, qi_wj, qt_wj, qk_wr, ql_wr, qi_wr, qj_wr, qt_wr, qi_ws, qj_ws, qr_ws, Int.toNat_natCast, Int.toNat_zero, Int.reduceToNat, not_true_eq_false, not_false_eq_true, false_implies, implies_true, Option.some.injEq, reduceCtorEq, Sp0, true_or, or_true, or_self, wi_wi, wj_wj, cz_ge]); (repeat' (first | (with_reducible refine And.intro ?_ ?_) | (with_reducible intro))); (all_goals (try (first | assumption | omega | (unfold inI; omega))))))
  all_goals (first | (refine hK' _ ?_; unfold iab; grind) | exact cz_in _ _ | (unfold inL; omega))
def T_J9_max_7cf53 : TT := fun as h K => ∃ z w : Int, as = [vi z, vi w] ∧ inI z ∧ inI w ∧ K (some (vi (if z < w then w else z))) h
theorem c_max {h : Hp} {z w : Int} {K : RT} (h1 : inI z ∧ inI w ∧ K (some (vi (if z < w then w else z))) h) : T_J9_max_7cf53 [vi z, vi w] h K := ⟨z, w, rfl, h1⟩
abbrev i_J9_max_7cf53 : MI := (cJ9_max_7cf53, 2, RJ9, (some .int), "max", 2)
theorem k_J9_max_7cf53_0 : Okop i_J9_max_7cf53 0 (o_il 0) 1 := k_iln (j := 0) (by decide +kernel)
theorem k_J9_max_7cf53_1 : Okop i_J9_max_7cf53 1 (o_il 1) 2 := k_iln (j := 1) (by decide +kernel)
theorem k_J9_max_7cf53_2 : Okop i_J9_max_7cf53 2 (o_ilt 9) 5 := k_ilt (off := 7) (by decide +kernel) (by decide)
theorem k_J9_max_7cf53_5 : Okop i_J9_max_7cf53 5 (o_il 0) 6 := k_iln (j := 0) (by decide +kernel)
theorem k_J9_max_7cf53_6 : Okop i_J9_max_7cf53 6 (o_go 10) 9 := k_go (off := 4) (by decide +kernel) (by decide)
theorem k_J9_max_7cf53_9 : Okop i_J9_max_7cf53 9 (o_il 1) 10 := k_iln (j := 1) (by decide +kernel)
theorem k_J9_max_7cf53_10 : Okop i_J9_max_7cf53 10 (o_iret) 11 := k_iret (by decide +kernel) rfl
theorem s_J9_max_7cf53_0 : Seg i_J9_max_7cf53 0 [o_il 0, o_il 1, o_ilt 9, o_il 0, o_go 10] 9 := Seg.cons k_J9_max_7cf53_0 (Seg.cons k_J9_max_7cf53_1 (Seg.cons k_J9_max_7cf53_2 (Seg.cons k_J9_max_7cf53_5 (Seg.cons k_J9_max_7cf53_6 (Seg.nil)))))
theorem s_J9_max_7cf53_9 : Seg i_J9_max_7cf53 9 [o_il 1, o_iret] 11 := Seg.cons k_J9_max_7cf53_9 (Seg.cons k_J9_max_7cf53_10 (Seg.nil))
theorem s_J9_max_7cf53_10 : Seg i_J9_max_7cf53 10 [o_iret] 11 := Seg.cons k_J9_max_7cf53_10 (Seg.nil)

theorem m_J9_max_7cf53 : Mth yJ9_max_7cf53 cJ9_max_7cf53 2 (some .int) 2 (Sp0 T_J9_max_7cf53) := by
  refine Mth.ofF (by decide +kernel) ?_
  rintro x as h ok ⟨z, w, rfl, hz, hw, hK⟩
  refine ⟨Nat.le_of_ble_eq_true rfl, ?_⟩
  have hK' : ∀ r, r = (if z < w then w else z) → xR x (some (vi r)) h := fun r e => e ▸ hK
  all_goals (try ((first | (refine s_J9_max_7cf53_0 x ok _ _ _ _ ?_) | (refine s_J9_max_7cf53_9 x ok _ _ _ _ ?_) | (refine s_J9_max_7cf53_10 x ok _ _ _ _ ?_)); (try simp only [wpS, o_c, o_cl, o_il, o_ll, o_al, o_is, o_ls, o_as, o_inc, o_add, o_sub, o_mul, o_and, o_or, o_xor, o_shl, o_shr, o_div, o_neg, o_ladd, o_lsub, o_lmul, o_ldiv, o_lrem, o_lneg, o_lcmp, o_i2l, o_l2i, o_dup, o_dup2, o_pop, o_go, o_nn, o_sw, swc, o_iret, o_zret, o_lret, o_vret, o_ieq, o_eq0, o_ine, o_ne0, o_ilt, o_lt0, o_ige, o_ge0, o_igt, o_gt0, o_ile, o_le0, o_iald, o_zald, o_lald, o_aald, o_iast, o_zast, o_last, o_aast, o_alen, o_gi, o_gr, o_pi, o_pz, o_pr, o_new, o_newa, o_copy, o_oinit, o_call, o_callV, o_callVc, o_callI, popn, cnO, o_BAD, lgt, lst, isL, kil, st1, st2, entL, List.length_nil, List.length_cons, List.replicate, Nat.reduceAdd, Nat.reduceLeDiff, Nat.reduceSub, true_and, and_true, Nat.zero_le, ne_eq, qk_wi, ql_wi, qr_wi, qj_wi, qt_wi, qk_wj, ql_wj, qr_wj, qi_wj, qt_wj, qk_wr, ql_wr, qi_wr, qj_wr, qt_wr, qi_ws, qj_ws, qr_ws, Int.toNat_natCast, Int.toNat_zero, Int.reduceToNat, not_true_eq_false, not_false_eq_true, false_implies, implies_true, Option.some.injEq, reduceCtorEq, Sp0, true_or, or_true, or_self, wi_wi, wj_wj]); (repeat' (first | (with_reducible refine And.intro ?_ ?_) | (with_reducible intro))); (all_goals (try (first | assumption | omega | (unfold inI; omega))))))
  all_goals (try ((first | (refine s_J9_max_7cf53_0 x ok _ _ _ _ ?_) | (refine s_J9_max_7cf53_9 x ok _ _ _ _ ?_) | (refine s_J9_max_7cf53_10 x ok _ _ _ _ ?_)); (try simp only [wpS, o_c, o_cl, o_il, o_ll, o_al, o_is, o_ls, o_as, o_inc, o_add, o_sub, o_mul, o_and, o_or, o_xor, o_shl, o_shr, o_div, o_neg, o_ladd, o_lsub, o_lmul, o_ldiv, o_lrem, o_lneg, o_lcmp, o_i2l, o_l2i, o_dup, o_dup2, o_pop, o_go, o_nn, o_sw, swc, o_iret, o_zret, o_lret, o_vret, o_ieq, o_eq0, o_ine, o_ne0, o_ilt, o_lt0, o_ige, o_ge0, o_igt, o_gt0, o_ile, o_le0, o_iald, o_zald, o_lald, o_aald, o_iast, o_zast, o_last, o_aast, o_alen, o_gi, o_gr, o_pi, o_pz, o_pr, o_new, o_newa, o_copy, o_oinit, o_call, o_callV, o_callVc, o_callI, popn, cnO, o_BAD, lgt, lst, isL, kil, st1, st2, entL, List.length_nil, List.length_cons, List.replicate, Nat.reduceAdd, Nat.reduceLeDiff, Nat.reduceSub, true_and, and_true, Nat.zero_le, ne_eq, qk_wi, ql_wi, qr_wi, qj_wi, qt_wi, qk_wj, ql_wj, qr_wj, qi_wj, qt_wj, qk_wr, ql_wr, qi_wr, qj_wr, qt_wr, qi_ws, qj_ws, qr_ws, Int.toNat_natCast, Int.toNat_zero, Int.reduceToNat, not_true_eq_false, not_false_eq_true, false_implies, implies_true, Option.some.injEq, reduceCtorEq, Sp0, true_or, or_true, or_self, wi_wi, wj_wj]); (repeat' (first | (with_reducible refine And.intro ?_ ?_) | (with_reducible intro))); (all_goals (try (first | assumption | omega | (unfold inI; omega))))))
  all_goals (try ((first | (refine s_J9_max_7cf53_0 x ok _ _ _ _ ?_) | (refine s_J9_max_7cf53_9 x ok _ _ _ _ ?_) | (refine s_J9_max_7cf53_10 x ok _ _ _ _ ?_)); (try simp only [wpS, o_c, o_cl, o_il, o_ll, o_al, o_is, o_ls, o_as, o_inc, o_add, o_sub, o_mul, o_and, o_or, o_xor, o_shl, o_shr, o_div, o_neg, o_ladd, o_lsub, o_lmul, o_ldiv, o_lrem, o_lneg, o_lcmp, o_i2l, o_l2i, o_dup, o_dup2, o_pop, o_go, o_nn, o_sw, swc, o_iret, o_zret, o_lret, o_vret, o_ieq, o_eq0, o_ine, o_ne0, o_ilt, o_lt0, o_ige, o_ge0, o_igt, o_gt0, o_ile, o_le0, o_iald, o_zald, o_lald, o_aald, o_iast, o_zast, o_last, o_aast, o_alen, o_gi, o_gr, o_pi, o_pz, o_pr, o_new, o_newa, o_copy, o_oinit, o_call, o_callV, o_callVc, o_callI, popn, cnO, o_BAD, lgt, lst, isL, kil, st1, st2, entL, List.length_nil, List.length_cons, List.replicate, Nat.reduceAdd, Nat.reduceLeDiff, Nat.reduceSub, true_and, and_true, Nat.zero_le, ne_eq, qk_wi, ql_wi, qr_wi, qj_wi, qt_wi, qk_wj, ql_wj, qr_wj, qi_wj, qt_wj, qk_wr, ql_wr, qi_wr, qj_wr, qt_wr, qi_ws, qj_ws, qr_ws, Int.toNat_natCast, Int.toNat_zero, Int.reduceToNat, not_true_eq_false, not_false_eq_true, false_implies, implies_true, Option.some.injEq, reduceCtorEq, Sp0, true_or, or_true, or_self, wi_wi, wj_wj]); (repeat' (first | (with_reducible refine And.intro ?_ ?_) | (with_reducible intro))); (all_goals (try (first | assumption | omega | (unfold inI; omega))))))
  all_goals (refine hK' _ ?_; grind)
def T_J9_min_7cf53 : TT := fun as h K => ∃ z w : Int, as = [vi z, vi w] ∧ inI z ∧ inI w ∧ K (some (vi (if w < z then w else z))) h
theorem c_min {h : Hp} {z w : Int} {K : RT} (h1 : inI z ∧ inI w ∧ K (some (vi (if w < z then w else z))) h) : T_J9_min_7cf53 [vi z, vi w] h K := ⟨z, w, rfl, h1⟩
abbrev i_J9_min_7cf53 : MI := (cJ9_min_7cf53, 2, RJ9, (some .int), "min", 2)
theorem k_J9_min_7cf53_0 : Okop i_J9_min_7cf53 0 (o_il 0) 1 := k_iln (j := 0) (by decide +kernel)
theorem k_J9_min_7cf53_1 : Okop i_J9_min_7cf53 1 (o_il 1) 2 := k_iln (j := 1) (by decide +kernel)
theorem k_J9_min_7cf53_2 : Okop i_J9_min_7cf53 2 (o_igt 9) 5 := k_igt (off := 7) (by decide +kernel) (by decide)
theorem k_J9_min_7cf53_5 : Okop i_J9_min_7cf53 5 (o_il 0) 6 := k_iln (j := 0) (by decide +kernel)
theorem k_J9_min_7cf53_6 : Okop i_J9_min_7cf53 6 (o_go 10) 9 := k_go (off := 4) (by decide +kernel) (by decide)
theorem k_J9_min_7cf53_9 : Okop i_J9_min_7cf53 9 (o_il 1) 10 := k_iln (j := 1) (by decide +kernel)
theorem k_J9_min_7cf53_10 : Okop i_J9_min_7cf53 10 (o_iret) 11 := k_iret (by decide +kernel) rfl
theorem s_J9_min_7cf53_0 : Seg i_J9_min_7cf53 0 [o_il 0, o_il 1, o_igt 9, o_il 0, o_go 10] 9 := Seg.cons k_J9_min_7cf53_0 (Seg.cons k_J9_min_7cf53_1 (Seg.cons k_J9_min_7cf53_2 (Seg.cons k_J9_min_7cf53_5 (Seg.cons k_J9_min_7cf53_6 (Seg.nil)))))
theorem s_J9_min_7cf53_9 : Seg i_J9_min_7cf53 9 [o_il 1, o_iret] 11 := Seg.cons k_J9_min_7cf53_9 (Seg.cons k_J9_min_7cf53_10 (Seg.nil))
theorem s_J9_min_7cf53_10 : Seg i_J9_min_7cf53 10 [o_iret] 11 := Seg.cons k_J9_min_7cf53_10 (Seg.nil)

theorem m_J9_min_7cf53 : Mth yJ9_min_7cf53 cJ9_min_7cf53 2 (some .int) 2 (Sp0 T_J9_min_7cf53) := by
  refine Mth.ofF (by decide +kernel) ?_
  rintro x as h ok ⟨z, w, rfl, hz, hw, hK⟩
  refine ⟨Nat.le_of_ble_eq_true rfl, ?_⟩
  have hK' : ∀ r, r = (if w < z then w else z) → xR x (some (vi r)) h := fun r e => e ▸ hK
  all_goals (try ((first | (refine s_J9_min_7cf53_0 x ok _ _ _ _ ?_) | (refine s_J9_min_7cf53_9 x ok _ _ _ _ ?_) | (refine s_J9_min_7cf53_10 x ok _ _ _ _ ?_)); (try simp only [wpS, o_c, o_cl, o_il, o_ll, o_al, o_is, o_ls, o_as, o_inc, o_add, o_sub, o_mul, o_and, o_or, o_xor, o_shl, o_shr, o_div, o_neg, o_ladd, o_lsub, o_lmul, o_ldiv, o_lrem, o_lneg, o_lcmp, o_i2l, o_l2i, o_dup, o_dup2, o_pop, o_go, o_nn, o_sw, swc, o_iret, o_zret, o_lret, o_vret, o_ieq, o_eq0, o_ine, o_ne0, o_ilt, o_lt0, o_ige, o_ge0, o_igt, o_gt0, o_ile, o_le0, o_iald, o_zald, o_lald, o_aald, o_iast, o_zast, o_last, o_aast, o_alen, o_gi, o_gr, o_pi, o_pz, o_pr, o_new, o_newa, o_copy, o_oinit, o_call, o_callV, o_callVc, o_callI, popn, cnO, o_BAD, lgt, lst, isL, kil, st1, st2, entL, List.length_nil, List.length_cons, List.replicate, Nat.reduceAdd, Nat.reduceLeDiff, Nat.reduceSub, true_and, and_true, Nat.zero_le, ne_eq, qk_wi, ql_wi, qr_wi, qj_wi, qt_wi, qk_wj, ql_wj, qr_wj, qi_wj, qt_wj, qk_wr, ql_wr, qi_wr, qj_wr, qt_wr, qi_ws, qj_ws, qr_ws, Int.toNat_natCast, Int.toNat_zero, Int.reduceToNat, not_true_eq_false, not_false_eq_true, false_implies, implies_true, Option.some.injEq, reduceCtorEq, Sp0, true_or, or_true, or_self, wi_wi, wj_wj]); (repeat' (first | (with_reducible refine And.intro ?_ ?_) | (with_reducible intro))); (all_goals (try (first | assumption | omega | (unfold inI; omega))))))
  all_goals (try ((first | (refine s_J9_min_7cf53_0 x ok _ _ _ _ ?_) | (refine s_J9_min_7cf53_9 x ok _ _ _ _ ?_) | (refine s_J9_min_7cf53_10 x ok _ _ _ _ ?_)); (try simp only [wpS, o_c, o_cl, o_il, o_ll, o_al, o_is, o_ls, o_as, o_inc, o_add, o_sub, o_mul, o_and, o_or, o_xor, o_shl, o_shr, o_div, o_neg, o_ladd, o_lsub, o_lmul, o_ldiv, o_lrem, o_lneg, o_lcmp, o_i2l, o_l2i, o_dup, o_dup2, o_pop, o_go, o_nn, o_sw, swc, o_iret, o_zret, o_lret, o_vret, o_ieq, o_eq0, o_ine, o_ne0, o_ilt, o_lt0, o_ige, o_ge0, o_igt, o_gt0, o_ile, o_le0, o_iald, o_zald, o_lald, o_aald, o_iast, o_zast, o_last, o_aast, o_alen, o_gi, o_gr, o_pi, o_pz, o_pr, o_new, o_newa, o_copy, o_oinit, o_call, o_callV, o_callVc, o_callI, popn, cnO, o_BAD, lgt, lst, isL, kil, st1, st2, entL, List.length_nil, List.length_cons, List.replicate, Nat.reduceAdd, Nat.reduceLeDiff, Nat.reduceSub, true_and, and_true, Nat.zero_le, ne_eq, qk_wi, ql_wi, qr_wi, qj_wi, qt_wi, qk_wj, ql_wj, qr_wj, qi_wj, qt_wj, qk_wr, ql_wr, qi_wr, qj_wr, qt_wr, qi_ws, qj_ws, qr_ws, Int.toNat_natCast, Int.toNat_zero, Int.reduceToNat, not_true_eq_false, not_false_eq_true, false_implies, implies_true, Option.some.injEq, reduceCtorEq, Sp0, true_or, or_true, or_self, wi_wi, wj_wj]); (repeat' (first | (with_reducible refine And.intro ?_ ?_) | (with_reducible intro))); (all_goals (try (first | assumption | omega | (unfold inI; omega))))))
  all_goals (try ((first | (refine s_J9_min_7cf53_0 x ok _ _ _ _ ?_) | (refine s_J9_min_7cf53_9 x ok _ _ _ _ ?_) | (refine s_J9_min_7cf53_10 x ok _ _ _ _ ?_)); (try simp only [wpS, o_c, o_cl, o_il, o_ll, o_al, o_is, o_ls, o_as, o_inc, o_add, o_sub, o_mul, o_and, o_or, o_xor, o_shl, o_shr, o_div, o_neg, o_ladd, o_lsub, o_lmul, o_ldiv, o_lrem, o_lneg, o_lcmp, o_i2l, o_l2i, o_dup, o_dup2, o_pop, o_go, o_nn, o_sw, swc, o_iret, o_zret, o_lret, o_vret, o_ieq, o_eq0, o_ine, o_ne0, o_ilt, o_lt0, o_ige, o_ge0, o_igt, o_gt0, o_ile, o_le0, o_iald, o_zald, o_lald, o_aald, o_iast, o_zast, o_last, o_aast, o_alen, o_gi, o_gr, o_pi, o_pz, o_pr, o_new, o_newa, o_copy, o_oinit, o_call, o_callV, o_callVc, o_callI, popn, cnO, o_BAD, lgt, lst, isL, kil, st1, st2, entL, List.length_nil, List.length_cons, List.replicate, Nat.reduceAdd, Nat.reduceLeDiff, Nat.reduceSub, true_and, and_true, Nat.zero_le, ne_eq, qk_wi, ql_wi, qr_wi, qj_wi, qt_wi, qk_wj, ql_wj, qr_wj, qi_wj, qt_wj, qk_wr, ql_wr, qi_wr, qj_wr, qt_wr, qi_ws, qj_ws, qr_ws, Int.toNat_natCast, Int.toNat_zero, Int.reduceToNat, not_true_eq_false, not_false_eq_true, false_implies, implies_true, Option.some.injEq, reduceCtorEq, Sp0, true_or, or_true, or_self, wi_wi, wj_wj]); (repeat' (first | (with_reducible refine And.intro ?_ ?_) | (with_reducible intro))); (all_goals (try (first | assumption | omega | (unfold inI; omega))))))
  all_goals (refine hK' _ ?_; grind)
def fillF (f : Nat → Int) (lo hi : Nat) (v : Int) : Nat → Int := fun k => if lo ≤ k ∧ k < hi then v else f k
theorem fillF_0 (f : Nat → Int) (lo : Nat) (v : Int) : fillF f lo lo v = f := by
  funext k
  unfold fillF
  rw [if_neg (by omega)]
theorem fillF_s (f : Nat → Int) {lo hi : Nat} (h : lo ≤ hi) (v : Int) : fu (fillF f lo hi v) hi v = fillF f lo (hi + 1) v := by
  funext k
  unfold fu fillF
  grind
def T_J7_fill_53178 : TT := fun as h K => ∃ (a : Nat) (v : Int), as = [vr (some a), vi v] ∧ qk h a = 1 ∧ ql h a < 2147483647 ∧ K none (wi h a (fillF (qi h a) 0 (ql h a) v))
theorem c_fillI {h : Hp} {a : Nat} {v : Int} {K : RT} (h1 : qk h a = 1) (h2 : ql h a < 2147483647) (h3 : K none (wi h a (fillF (qi h a) 0 (ql h a) v))) : T_J7_fill_53178 [vr (some a), vi v] h K := ⟨a, v, rfl, h1, h2, h3⟩
abbrev i_J7_fill_53178 : MI := (cJ7_fill_53178, 4, RJ7, none, "fill", 2)
theorem k_J7_fill_53178_0 : Okop i_J7_fill_53178 0 (o_c 0) 1 := k_iconst (by decide +kernel)
theorem k_J7_fill_53178_1 : Okop i_J7_fill_53178 1 (o_is 2) 2 := k_isn (j := 2) (by decide +kernel) (by decide)
theorem k_J7_fill_53178_2 : Okop i_J7_fill_53178 2 (o_al 0) 3 := k_aln (j := 0) (by decide +kernel)
theorem k_J7_fill_53178_3 : Okop i_J7_fill_53178 3 (o_alen) 4 := k_alen (by decide +kernel)
theorem k_J7_fill_53178_4 : Okop i_J7_fill_53178 4 (o_is 3) 5 := k_isn (j := 3) (by decide +kernel) (by decide)
theorem k_J7_fill_53178_5 : Okop i_J7_fill_53178 5 (o_il 2) 6 := k_iln (j := 2) (by decide +kernel)
theorem k_J7_fill_53178_6 : Okop i_J7_fill_53178 6 (o_il 3) 7 := k_iln (j := 3) (by decide +kernel)
theorem k_J7_fill_53178_7 : Okop i_J7_fill_53178 7 (o_ige 20) 10 := k_ige (off := 13) (by decide +kernel) (by decide)
theorem k_J7_fill_53178_10 : Okop i_J7_fill_53178 10 (o_al 0) 11 := k_aln (j := 0) (by decide +kernel)
theorem k_J7_fill_53178_11 : Okop i_J7_fill_53178 11 (o_il 2) 12 := k_iln (j := 2) (by decide +kernel)
theorem k_J7_fill_53178_12 : Okop i_J7_fill_53178 12 (o_il 1) 13 := k_iln (j := 1) (by decide +kernel)
theorem k_J7_fill_53178_13 : Okop i_J7_fill_53178 13 (o_iast) 14 := k_iast (by decide +kernel)
theorem k_J7_fill_53178_14 : Okop i_J7_fill_53178 14 (o_inc 2 1) 17 := k_inc (by decide +kernel) (by decide)
theorem k_J7_fill_53178_17 : Okop i_J7_fill_53178 17 (o_go 5) 20 := k_go (off := -12) (by decide +kernel) (by decide)
theorem k_J7_fill_53178_20 : Okop i_J7_fill_53178 20 (o_vret) 21 := k_vret (by decide +kernel) rfl
theorem s_J7_fill_53178_0 : Seg i_J7_fill_53178 0 [o_c 0, o_is 2, o_al 0, o_alen, o_is 3] 5 := Seg.cons k_J7_fill_53178_0 (Seg.cons k_J7_fill_53178_1 (Seg.cons k_J7_fill_53178_2 (Seg.cons k_J7_fill_53178_3 (Seg.cons k_J7_fill_53178_4 (Seg.nil)))))
theorem s_J7_fill_53178_5 : Seg i_J7_fill_53178 5 [o_il 2, o_il 3, o_ige 20, o_al 0, o_il 2, o_il 1, o_iast, o_inc 2 1, o_go 5] 20 := Seg.cons k_J7_fill_53178_5 (Seg.cons k_J7_fill_53178_6 (Seg.cons k_J7_fill_53178_7 (Seg.cons k_J7_fill_53178_10 (Seg.cons k_J7_fill_53178_11 (Seg.cons k_J7_fill_53178_12 (Seg.cons k_J7_fill_53178_13 (Seg.cons k_J7_fill_53178_14 (Seg.cons k_J7_fill_53178_17 (Seg.nil)))))))))
theorem s_J7_fill_53178_20 : Seg i_J7_fill_53178 20 [o_vret] 21 := Seg.cons k_J7_fill_53178_20 (Seg.nil)

theorem m_J7_fill_53178 : Mth yJ7_fill_53178 cJ7_fill_53178 4 none 2 (Sp0 T_J7_fill_53178) := by
  refine Mth.of (by decide) ?_
  rintro x as h ok ⟨a, v, rfl, k1, l1, hK⟩
  refine ⟨Nat.le_of_ble_eq_true rfl, ?_⟩
  have loop : ∀ j, j ≤ ql h a → V i_J7_fill_53178 x 5 [some (vr (some a)), some (vi v), some (vi j), some (vi (ql h a))] [] (wi h a (fillF (qi h a) 0 j v)) (0, 0) := by
    refine bwd _ ?_ ?_
    · refine s_J7_fill_53178_5 x ok _ _ _ _ ?_
      simp only [wpS, o_c, o_cl, o_il, o_ll, o_al, o_is, o_ls, o_as, o_inc, o_add, o_sub, o_mul, o_and, o_or, o_xor, o_shl, o_shr, o_div, o_neg, o_ladd, o_lsub, o_lmul, o_ldiv, o_lrem, o_lneg, o_lcmp, o_i2l, o_l2i, o_dup, o_dup2, o_pop, o_go, o_nn, o_sw, swc, o_iret, o_zret, o_lret, o_vret, o_ieq, o_eq0, o_ine, o_ne0, o_ilt, o_lt0, o_ige, o_ge0, o_igt, o_gt0, o_ile, o_le0, o_iald, o_zald, o_lald, o_aald, o_iast, o_zast, o_last, o_aast, o_alen, o_gi, o_gr, o_pi, o_pz, o_pr, o_new, o_newa, o_copy, o_oinit, o_call, o_callV, o_callVc, o_callI, popn, cnO, o_BAD, lgt, lst, isL, kil, st1, st2, entL, List.length_nil, List.length_cons, List.replicate, Nat.reduceAdd, Nat.reduceLeDiff, Nat.reduceSub, true_and, and_true, Nat.zero_le, ne_eq, qk_wi, ql_wi, qr_wi, qj_wi, qt_wi, qk_wj, ql_wj, qr_wj, qi_wj, qt_wj, qk_wr, ql_wr, qi_wr, qj_wr, qt_wr, qi_ws, qj_ws, qr_ws, Int.toNat_natCast, Int.toNat_zero, Int.reduceToNat, not_true_eq_false, not_false_eq_true, false_implies, implies_true, Option.some.injEq, reduceCtorEq, Sp0, true_or, or_true, or_self, wi_wi, wj_wj, k1]
      repeat' (first | (with_reducible refine And.intro ?_ ?_) | (with_reducible intro))
      all_goals (try (first | assumption | omega | (unfold inI; omega)))
      all_goals (try ((first | (refine s_J7_fill_53178_0 x ok _ _ _ _ ?_) | (refine s_J7_fill_53178_20 x ok _ _ _ _ ?_)); (try simp only [wpS, o_c, o_cl, o_il, o_ll, o_al, o_is, o_ls, o_as, o_inc, o_add, o_sub, o_mul, o_and, o_or, o_xor, o_shl, o_shr, o_div, o_neg, o_ladd, o_lsub, o_lmul, o_ldiv, o_lrem, o_lneg, o_lcmp, o_i2l, o_l2i, o_dup, o_dup2, o_pop, o_go, o_nn, o_sw, swc, o_iret, o_zret, o_lret, o_vret, o_ieq, o_eq0, o_ine, o_ne0, o_ilt, o_lt0, o_ige, o_ge0, o_igt, o_gt0, o_ile, o_le0, o_iald, o_zald, o_lald, o_aald, o_iast, o_zast, o_last, o_aast, o_alen, o_gi, o_gr, o_pi, o_pz, o_pr, o_new, o_newa, o_copy, o_oinit, o_call, o_callV, o_callVc, o_callI, popn, cnO, o_BAD, lgt, lst, isL, kil, st1, st2, entL, List.length_nil, List.length_cons, List.replicate, Nat.reduceAdd, Nat.reduceLeDiff, Nat.reduceSub, true_and, and_true, Nat.zero_le, ne_eq, qk_wi, ql_wi, qr_wi, qj_wi, qt_wi, qk_wj, ql_wj, qr_wj, qi_wj, qt_wj, qk_wr, ql_wr, qi_wr, qj_wr, qt_wr, qi_ws, qj_ws, qr_ws, Int.toNat_natCast, Int.toNat_zero, Int.reduceToNat, not_true_eq_false, not_false_eq_true, false_implies, implies_true, Option.some.injEq, reduceCtorEq, Sp0, true_or, or_true, or_self, wi_wi, wj_wj]); (repeat' (first | (with_reducible refine And.intro ?_ ?_) | (with_reducible intro))); (all_goals (try (first | assumption | omega | (unfold inI; omega))))))
    · intro j hj ih
      refine s_J7_fill_53178_5 x ok _ _ _ _ ?_
      simp only [wpS, o_c, o_cl, o_il, o_ll, o_al, o_is, o_ls, o_as, o_inc, o_add, o_sub, o_mul, o_and, o_or, o_xor, o_shl, o_shr, o_div, o_neg, o_ladd, o_lsub, o_lmul, o_ldiv, o_lrem, o_lneg, o_lcmp, o_i2l, o_l2i, o_dup, o_dup2, o_pop, o_go, o_nn, o_sw, swc, o_iret, o_zret, o_lret, o_vret, o_ieq, o_eq0, o_ine, o_ne0, o_ilt, o_lt0, o_ige, o_ge0, o_igt, o_gt0, o_ile, o_le0, o_iald, o_zald, o_lald, o_aald, o_iast, o_zast, o_last, o_aast, o_alen, o_gi, o_gr, o_pi, o_pz, o_pr, o_new, o_newa, o_copy, o_oinit, o_call, o_callV, o_callVc, o_callI, popn, cnO, o_BAD, lgt, lst, isL, kil, st1, st2, entL, List.length_nil, List.length_cons, List.replicate, Nat.reduceAdd, Nat.reduceLeDiff, Nat.reduceSub, true_and, and_true, Nat.zero_le, ne_eq, qk_wi, ql_wi, qr_wi, qj_wi, qt_wi, qk_wj, ql_wj, qr_wj, qi_wj, qt_wj, qk_wr, ql_wr, qi_wr, qj_wr, qt_wr, qi_ws, qj_ws, qr_ws, Int.toNat_natCast, Int.toNat_zero, Int.reduceToNat, not_true_eq_false, not_false_eq_true, false_implies, implies_true, Option.some.injEq, reduceCtorEq, Sp0, true_or, or_true, or_self, wi_wi, wj_wj, k1]
      repeat' (first | (with_reducible refine And.intro ?_ ?_) | (with_reducible intro))
      all_goals (try (first | assumption | omega | (unfold inI; omega)))
      rw [fillF_s _ (by omega)]
      exact ih
  all_goals (try ((first | (refine s_J7_fill_53178_0 x ok _ _ _ _ ?_) | (refine s_J7_fill_53178_20 x ok _ _ _ _ ?_)); (try simp only [wpS, o_c, o_cl, o_il, o_ll, o_al, o_is, o_ls, o_as, o_inc, o_add, o_sub, o_mul, o_and, o_or, o_xor, o_shl, o_shr, o_div, o_neg, o_ladd, o_lsub, o_lmul, o_ldiv, o_lrem, o_lneg, o_lcmp, o_i2l, o_l2i, o_dup, o_dup2, o_pop, o_go, o_nn, o_sw, swc, o_iret, o_zret, o_lret, o_vret, o_ieq, o_eq0, o_ine, o_ne0, o_ilt, o_lt0, o_ige, o_ge0, o_igt, o_gt0, o_ile, o_le0, o_iald, o_zald, o_lald, o_aald, o_iast, o_zast, o_last, o_aast, o_alen, o_gi, o_gr, o_pi, o_pz, o_pr, o_new, o_newa, o_copy, o_oinit, o_call, o_callV, o_callVc, o_callI, popn, cnO, o_BAD, lgt, lst, isL, kil, st1, st2, entL, List.length_nil, List.length_cons, List.replicate, Nat.reduceAdd, Nat.reduceLeDiff, Nat.reduceSub, true_and, and_true, Nat.zero_le, ne_eq, qk_wi, ql_wi, qr_wi, qj_wi, qt_wi, qk_wj, ql_wj, qr_wj, qi_wj, qt_wj, qk_wr, ql_wr, qi_wr, qj_wr, qt_wr, qi_ws, qj_ws, qr_ws, Int.toNat_natCast, Int.toNat_zero, Int.reduceToNat, not_true_eq_false, not_false_eq_true, false_implies, implies_true, Option.some.injEq, reduceCtorEq, Sp0, true_or, or_true, or_self, wi_wi, wj_wj, k1]); (repeat' (first | (with_reducible refine And.intro ?_ ?_) | (with_reducible intro))); (all_goals (try (first | assumption | omega | (unfold inI; omega))))))
  have := loop 0 (by omega)
  rw [fillF_0, wi_self] at this
  exact this
def T_J7_rangeCheck_23922 : TT := fun as h K => ∃ (n lo hi : Int), as = [vi n, vi lo, vi hi] ∧ 0 ≤ lo ∧ lo ≤ hi ∧ hi ≤ n ∧ n ≤ 2147483647 ∧ K none h
theorem c_rangeCheck {h : Hp} {n lo hi : Int} {K : RT} (h1 : 0 ≤ lo ∧ lo ≤ hi ∧ hi ≤ n ∧ n ≤ 2147483647 ∧ K none h) : T_J7_rangeCheck_23922 [vi n, vi lo, vi hi] h K := ⟨n, lo, hi, rfl, h1⟩
abbrev i_J7_rangeCheck_23922 : MI := (cJ7_rangeCheck_23922, 3, RJ7, none, "rangeCheck", 2)
theorem k_J7_rangeCheck_23922_0 : Okop i_J7_rangeCheck_23922 0 (o_il 1) 1 := k_iln (j := 1) (by decide +kernel)
theorem k_J7_rangeCheck_23922_1 : Okop i_J7_rangeCheck_23922 1 (o_il 2) 2 := k_iln (j := 2) (by decide +kernel)
theorem k_J7_rangeCheck_23922_2 : Okop i_J7_rangeCheck_23922 2 (o_ile 46) 5 := k_ile (off := 44) (by decide +kernel) (by decide)
theorem k_J7_rangeCheck_23922_5 : Okop i_J7_rangeCheck_23922 5 (o_BAD) 8 := k_BAD
theorem k_J7_rangeCheck_23922_8 : Okop i_J7_rangeCheck_23922 8 (o_dup) 9 := k_dup (by decide +kernel)
theorem k_J7_rangeCheck_23922_9 : Okop i_J7_rangeCheck_23922 9 (o_BAD) 12 := k_BAD
theorem k_J7_rangeCheck_23922_12 : Okop i_J7_rangeCheck_23922 12 (o_dup) 13 := k_dup (by decide +kernel)
theorem k_J7_rangeCheck_23922_13 : Okop i_J7_rangeCheck_23922 13 (o_BAD) 16 := k_BAD
theorem k_J7_rangeCheck_23922_16 : Okop i_J7_rangeCheck_23922 16 (o_BAD) 18 := k_BAD
theorem k_J7_rangeCheck_23922_18 : Okop i_J7_rangeCheck_23922 18 (o_BAD) 21 := k_BAD
theorem k_J7_rangeCheck_23922_21 : Okop i_J7_rangeCheck_23922 21 (o_il 1) 22 := k_iln (j := 1) (by decide +kernel)
theorem k_J7_rangeCheck_23922_22 : Okop i_J7_rangeCheck_23922 22 (o_BAD) 25 := k_BAD
theorem k_J7_rangeCheck_23922_25 : Okop i_J7_rangeCheck_23922 25 (o_BAD) 27 := k_BAD
theorem k_J7_rangeCheck_23922_27 : Okop i_J7_rangeCheck_23922 27 (o_BAD) 30 := k_BAD
theorem k_J7_rangeCheck_23922_30 : Okop i_J7_rangeCheck_23922 30 (o_il 2) 31 := k_iln (j := 2) (by decide +kernel)
theorem k_J7_rangeCheck_23922_31 : Okop i_J7_rangeCheck_23922 31 (o_BAD) 34 := k_BAD
theorem k_J7_rangeCheck_23922_34 : Okop i_J7_rangeCheck_23922 34 (o_BAD) 36 := k_BAD
theorem k_J7_rangeCheck_23922_36 : Okop i_J7_rangeCheck_23922 36 (o_BAD) 39 := k_BAD
theorem k_J7_rangeCheck_23922_39 : Okop i_J7_rangeCheck_23922 39 (o_BAD) 42 := k_BAD
theorem k_J7_rangeCheck_23922_42 : Okop i_J7_rangeCheck_23922 42 (o_BAD) 45 := k_BAD
theorem k_J7_rangeCheck_23922_45 : Okop i_J7_rangeCheck_23922 45 (o_BAD) 46 := k_BAD
theorem k_J7_rangeCheck_23922_46 : Okop i_J7_rangeCheck_23922 46 (o_il 1) 47 := k_iln (j := 1) (by decide +kernel)
theorem k_J7_rangeCheck_23922_47 : Okop i_J7_rangeCheck_23922 47 (o_ge0 59) 50 := k_ge0 (off := 12) (by decide +kernel) (by decide)
theorem k_J7_rangeCheck_23922_50 : Okop i_J7_rangeCheck_23922 50 (o_BAD) 53 := k_BAD
theorem k_J7_rangeCheck_23922_53 : Okop i_J7_rangeCheck_23922 53 (o_dup) 54 := k_dup (by decide +kernel)
theorem k_J7_rangeCheck_23922_54 : Okop i_J7_rangeCheck_23922 54 (o_il 1) 55 := k_iln (j := 1) (by decide +kernel)
theorem k_J7_rangeCheck_23922_55 : Okop i_J7_rangeCheck_23922 55 (o_BAD) 58 := k_BAD
theorem k_J7_rangeCheck_23922_58 : Okop i_J7_rangeCheck_23922 58 (o_BAD) 59 := k_BAD
theorem k_J7_rangeCheck_23922_59 : Okop i_J7_rangeCheck_23922 59 (o_il 2) 60 := k_iln (j := 2) (by decide +kernel)
theorem k_J7_rangeCheck_23922_60 : Okop i_J7_rangeCheck_23922 60 (o_il 0) 61 := k_iln (j := 0) (by decide +kernel)
theorem k_J7_rangeCheck_23922_61 : Okop i_J7_rangeCheck_23922 61 (o_ile 73) 64 := k_ile (off := 12) (by decide +kernel) (by decide)
theorem k_J7_rangeCheck_23922_64 : Okop i_J7_rangeCheck_23922 64 (o_BAD) 67 := k_BAD
theorem k_J7_rangeCheck_23922_67 : Okop i_J7_rangeCheck_23922 67 (o_dup) 68 := k_dup (by decide +kernel)
theorem k_J7_rangeCheck_23922_68 : Okop i_J7_rangeCheck_23922 68 (o_il 2) 69 := k_iln (j := 2) (by decide +kernel)
theorem k_J7_rangeCheck_23922_69 : Okop i_J7_rangeCheck_23922 69 (o_BAD) 72 := k_BAD
theorem k_J7_rangeCheck_23922_72 : Okop i_J7_rangeCheck_23922 72 (o_BAD) 73 := k_BAD
theorem k_J7_rangeCheck_23922_73 : Okop i_J7_rangeCheck_23922 73 (o_vret) 74 := k_vret (by decide +kernel) rfl
theorem s_J7_rangeCheck_23922_0 : Seg i_J7_rangeCheck_23922 0 [o_il 1, o_il 2, o_ile 46, o_BAD, o_dup, o_BAD, o_dup, o_BAD, o_BAD, o_BAD, o_il 1, o_BAD, o_BAD, o_BAD, o_il 2, o_BAD, o_BAD, o_BAD, o_BAD, o_BAD, o_BAD, o_il 1, o_ge0 59, o_BAD, o_dup, o_il 1, o_BAD, o_BAD, o_il 2, o_il 0, o_ile 73, o_BAD, o_dup, o_il 2, o_BAD, o_BAD, o_vret] 74 := Seg.cons k_J7_rangeCheck_23922_0 (Seg.cons k_J7_rangeCheck_23922_1 (Seg.cons k_J7_rangeCheck_23922_2 (Seg.cons k_J7_rangeCheck_23922_5 (Seg.cons k_J7_rangeCheck_23922_8 (Seg.cons k_J7_rangeCheck_23922_9 (Seg.cons k_J7_rangeCheck_23922_12 (Seg.cons k_J7_rangeCheck_23922_13 (Seg.cons k_J7_rangeCheck_23922_16 (Seg.cons k_J7_rangeCheck_23922_18 (Seg.cons k_J7_rangeCheck_23922_21 (Seg.cons k_J7_rangeCheck_23922_22 (Seg.cons k_J7_rangeCheck_23922_25 (Seg.cons k_J7_rangeCheck_23922_27 (Seg.cons k_J7_rangeCheck_23922_30 (Seg.cons k_J7_rangeCheck_23922_31 (Seg.cons k_J7_rangeCheck_23922_34 (Seg.cons k_J7_rangeCheck_23922_36 (Seg.cons k_J7_rangeCheck_23922_39 (Seg.cons k_J7_rangeCheck_23922_42 (Seg.cons k_J7_rangeCheck_23922_45 (Seg.cons k_J7_rangeCheck_23922_46 (Seg.cons k_J7_rangeCheck_23922_47 (Seg.cons k_J7_rangeCheck_23922_50 (Seg.cons k_J7_rangeCheck_23922_53 (Seg.cons k_J7_rangeCheck_23922_54 (Seg.cons k_J7_rangeCheck_23922_55 (Seg.cons k_J7_rangeCheck_23922_58 (Seg.cons k_J7_rangeCheck_23922_59 (Seg.cons k_J7_rangeCheck_23922_60 (Seg.cons k_J7_rangeCheck_23922_61 (Seg.cons k_J7_rangeCheck_23922_64 (Seg.cons k_J7_rangeCheck_23922_67 (Seg.cons k_J7_rangeCheck_23922_68 (Seg.cons k_J7_rangeCheck_23922_69 (Seg.cons k_J7_rangeCheck_23922_72 (Seg.cons k_J7_rangeCheck_23922_73 (Seg.nil)))))))))))))))))))))))))))))))))))))
theorem s_J7_rangeCheck_23922_46 : Seg i_J7_rangeCheck_23922 46 [o_il 1, o_ge0 59, o_BAD, o_dup, o_il 1, o_BAD, o_BAD, o_il 2, o_il 0, o_ile 73, o_BAD, o_dup, o_il 2, o_BAD, o_BAD, o_vret] 74 := Seg.cons k_J7_rangeCheck_23922_46 (Seg.cons k_J7_rangeCheck_23922_47 (Seg.cons k_J7_rangeCheck_23922_50 (Seg.cons k_J7_rangeCheck_23922_53 (Seg.cons k_J7_rangeCheck_23922_54 (Seg.cons k_J7_rangeCheck_23922_55 (Seg.cons k_J7_rangeCheck_23922_58 (Seg.cons k_J7_rangeCheck_23922_59 (Seg.cons k_J7_rangeCheck_23922_60 (Seg.cons k_J7_rangeCheck_23922_61 (Seg.cons k_J7_rangeCheck_23922_64 (Seg.cons k_J7_rangeCheck_23922_67 (Seg.cons k_J7_rangeCheck_23922_68 (Seg.cons k_J7_rangeCheck_23922_69 (Seg.cons k_J7_rangeCheck_23922_72 (Seg.cons k_J7_rangeCheck_23922_73 (Seg.nil))))))))))))))))
theorem s_J7_rangeCheck_23922_59 : Seg i_J7_rangeCheck_23922 59 [o_il 2, o_il 0, o_ile 73, o_BAD, o_dup, o_il 2, o_BAD, o_BAD, o_vret] 74 := Seg.cons k_J7_rangeCheck_23922_59 (Seg.cons k_J7_rangeCheck_23922_60 (Seg.cons k_J7_rangeCheck_23922_61 (Seg.cons k_J7_rangeCheck_23922_64 (Seg.cons k_J7_rangeCheck_23922_67 (Seg.cons k_J7_rangeCheck_23922_68 (Seg.cons k_J7_rangeCheck_23922_69 (Seg.cons k_J7_rangeCheck_23922_72 (Seg.cons k_J7_rangeCheck_23922_73 (Seg.nil)))))))))
theorem s_J7_rangeCheck_23922_73 : Seg i_J7_rangeCheck_23922 73 [o_vret] 74 := Seg.cons k_J7_rangeCheck_23922_73 (Seg.nil)

theorem m_J7_rangeCheck_23922 : Mth yJ7_rangeCheck_23922 cJ7_rangeCheck_23922 3 none 2 (Sp0 T_J7_rangeCheck_23922) := by
  refine Mth.of (by decide) ?_
  rintro x as h ok ⟨n, lo, hi, rfl, h1, h2, h3, h4, hK⟩
  refine ⟨Nat.le_of_ble_eq_true rfl, ?_⟩
  all_goals (try ((first | (refine s_J7_rangeCheck_23922_0 x ok _ _ _ _ ?_) | (refine s_J7_rangeCheck_23922_46 x ok _ _ _ _ ?_) | (refine s_J7_rangeCheck_23922_59 x ok _ _ _ _ ?_) | (refine s_J7_rangeCheck_23922_73 x ok _ _ _ _ ?_)); (try simp only [wpS, o_c, o_cl, o_il, o_ll, o_al, o_is, o_ls, o_as, o_inc, o_add, o_sub, o_mul, o_and, o_or, o_xor, o_shl, o_shr, o_div, o_neg, o_ladd, o_lsub, o_lmul, o_ldiv, o_lrem, o_lneg, o_lcmp, o_i2l, o_l2i, o_dup, o_dup2, o_pop, o_go, o_nn, o_sw, swc, o_iret, o_zret, o_lret, o_vret, o_ieq, o_eq0, o_ine, o_ne0, o_ilt, o_lt0, o_ige, o_ge0, o_igt, o_gt0, o_ile, o_le0, o_iald, o_zald, o_lald, o_aald, o_iast, o_zast, o_last, o_aast, o_alen, o_gi, o_gr, o_pi, o_pz, o_pr, o_new, o_newa, o_copy, o_oinit, o_call, o_callV, o_callVc, o_callI, popn, cnO, o_BAD, lgt, lst, isL, kil, st1, st2, entL, List.length_nil, List.length_cons, List.replicate, Nat.reduceAdd, Nat.reduceLeDiff, Nat.reduceSub, true_and, and_true, Nat.zero_le, ne_eq, qk_wi, ql_wi, qr_wi, qj_wi, qt_wi, qk_wj, ql_wj, qr_wj, qi_wj, qt_wj, qk_wr, ql_wr, qi_wr, qj_wr, qt_wr, qi_ws, qj_ws, qr_ws, Int.toNat_natCast, Int.toNat_zero, Int.reduceToNat, not_true_eq_false, not_false_eq_true, false_implies, implies_true, Option.some.injEq, reduceCtorEq, Sp0, true_or, or_true, or_self, wi_wi, wj_wj]); (repeat' (first | (with_reducible refine And.intro ?_ ?_) | (with_reducible intro))); (all_goals (try (first | assumption | omega | (unfold inI; omega))))))
  all_goals (try ((first | (refine s_J7_rangeCheck_23922_0 x ok _ _ _ _ ?_) | (refine s_J7_rangeCheck_23922_46 x ok _ _ _ _ ?_) | (refine s_J7_rangeCheck_23922_59 x ok _ _ _ _ ?_) | (refine s_J7_rangeCheck_23922_73 x ok _ _ _ _ ?_)); (try simp only [wpS, o_c, o_cl, o_il, o_ll, o_al, o_is, o_ls, o_as, o_inc, o_add, o_sub, o_mul, o_and, o_or, o_xor, o_shl, o_shr, o_div, o_neg, o_ladd, o_lsub, o_lmul, o_ldiv, o_lrem, o_lneg, o_lcmp, o_i2l, o_l2i, o_dup, o_dup2, o_pop, o_go, o_nn, o_sw, swc, o_iret, o_zret, o_lret, o_vret, o_ieq, o_eq0, o_ine, o_ne0, o_ilt, o_lt0, o_ige, o_ge0, o_igt, o_gt0, o_ile, o_le0, o_iald, o_zald, o_lald, o_aald, o_iast, o_zast, o_last, o_aast, o_alen, o_gi, o_gr, o_pi, o_pz, o_pr, o_new, o_newa, o_copy, o_oinit, o_call, o_callV, o_callVc, o_callI, popn, cnO, o_BAD, lgt, lst, isL, kil, st1, st2, entL, List.length_nil, List.length_cons, List.replicate, Nat.reduceAdd, Nat.reduceLeDiff, Nat.reduceSub, true_and, and_true, Nat.zero_le, ne_eq, qk_wi, ql_wi, qr_wi, qj_wi, qt_wi, qk_wj, ql_wj, qr_wj, qi_wj, qt_wj, qk_wr, ql_wr, qi_wr, qj_wr, qt_wr, qi_ws, qj_ws, qr_ws, Int.toNat_natCast, Int.toNat_zero, Int.reduceToNat, not_true_eq_false, not_false_eq_true, false_implies, implies_true, Option.some.injEq, reduceCtorEq, Sp0, true_or, or_true, or_self, wi_wi, wj_wj]); (repeat' (first | (with_reducible refine And.intro ?_ ?_) | (with_reducible intro))); (all_goals (try (first | assumption | omega | (unfold inI; omega))))))
  all_goals (try ((first | (refine s_J7_rangeCheck_23922_0 x ok _ _ _ _ ?_) | (refine s_J7_rangeCheck_23922_46 x ok _ _ _ _ ?_) | (refine s_J7_rangeCheck_23922_59 x ok _ _ _ _ ?_) | (refine s_J7_rangeCheck_23922_73 x ok _ _ _ _ ?_)); (try simp only [wpS, o_c, o_cl, o_il, o_ll, o_al, o_is, o_ls, o_as, o_inc, o_add, o_sub, o_mul, o_and, o_or, o_xor, o_shl, o_shr, o_div, o_neg, o_ladd, o_lsub, o_lmul, o_ldiv, o_lrem, o_lneg, o_lcmp, o_i2l, o_l2i, o_dup, o_dup2, o_pop, o_go, o_nn, o_sw, swc, o_iret, o_zret, o_lret, o_vret, o_ieq, o_eq0, o_ine, o_ne0, o_ilt, o_lt0, o_ige, o_ge0, o_igt, o_gt0, o_ile, o_le0, o_iald, o_zald, o_lald, o_aald, o_iast, o_zast, o_last, o_aast, o_alen, o_gi, o_gr, o_pi, o_pz, o_pr, o_new, o_newa, o_copy, o_oinit, o_call, o_callV, o_callVc, o_callI, popn, cnO, o_BAD, lgt, lst, isL, kil, st1, st2, entL, List.length_nil, List.length_cons, List.replicate, Nat.reduceAdd, Nat.reduceLeDiff, Nat.reduceSub, true_and, and_true, Nat.zero_le, ne_eq, qk_wi, ql_wi, qr_wi, qj_wi, qt_wi, qk_wj, ql_wj, qr_wj, qi_wj, qt_wj, qk_wr, ql_wr, qi_wr, qj_wr, qt_wr, qi_ws, qj_ws, qr_ws, Int.toNat_natCast, Int.toNat_zero, Int.reduceToNat, not_true_eq_false, not_false_eq_true, false_implies, implies_true, Option.some.injEq, reduceCtorEq, Sp0, true_or, or_true, or_self, wi_wi, wj_wj]); (repeat' (first | (with_reducible refine And.intro ?_ ?_) | (with_reducible intro))); (all_goals (try (first | assumption | omega | (unfold inI; omega))))))
  all_goals (try ((first | (refine s_J7_rangeCheck_23922_0 x ok _ _ _ _ ?_) | (refine s_J7_rangeCheck_23922_46 x ok _ _ _ _ ?_) | (refine s_J7_rangeCheck_23922_59 x ok _ _ _ _ ?_) | (refine s_J7_rangeCheck_23922_73 x ok _ _ _ _ ?_)); (try simp only [wpS, o_c, o_cl, o_il, o_ll, o_al, o_is, o_ls, o_as, o_inc, o_add, o_sub, o_mul, o_and, o_or, o_xor, o_shl, o_shr, o_div, o_neg, o_ladd, o_lsub, o_lmul, o_ldiv, o_lrem, o_lneg, o_lcmp, o_i2l, o_l2i, o_dup, o_dup2, o_pop, o_go, o_nn, o_sw, swc, o_iret, o_zret, o_lret, o_vret, o_ieq, o_eq0, o_ine, o_ne0, o_ilt, o_lt0, o_ige, o_ge0, o_igt, o_gt0, o_ile, o_le0, o_iald, o_zald, o_lald, o_aald, o_iast, o_zast, o_last, o_aast, o_alen, o_gi, o_gr, o_pi, o_pz, o_pr, o_new, o_newa, o_copy, o_oinit, o_call, o_callV, o_callVc, o_callI, popn, cnO, o_BAD, lgt, lst, isL, kil, st1, st2, entL, List.length_nil, List.length_cons, List.replicate, Nat.reduceAdd, Nat.reduceLeDiff, Nat.reduceSub, true_and, and_true, Nat.zero_le, ne_eq, qk_wi, ql_wi, qr_wi, qj_wi, qt_wi, qk_wj, ql_wj, qr_wj, qi_wj, qt_wj, qk_wr, ql_wr, qi_wr, qj_wr, qt_wr, qi_ws, qj_ws, qr_ws, Int.toNat_natCast, Int.toNat_zero, Int.reduceToNat, not_true_eq_false, not_false_eq_true, false_implies, implies_true, Option.some.injEq, reduceCtorEq, Sp0, true_or, or_true, or_self, wi_wi, wj_wj]); (repeat' (first | (with_reducible refine And.intro ?_ ?_) | (with_reducible intro))); (all_goals (try (first | assumption | omega | (unfold inI; omega))))))
def T_J7_fill_bad5a : TT := fun as h K => ∃ (a lo hi : Nat) (v : Int), as = [vr (some a), vi lo, vi hi, vl v] ∧ qk h a = 2 ∧ lo ≤ hi ∧ hi ≤ ql h a ∧ ql h a < 2147483647 ∧ K none (wj h a (fillF (qj h a) lo hi v))
theorem c_fillL {h : Hp} {a lo hi : Nat} {v : Int} {K : RT} (h1 : qk h a = 2) (h2 : lo ≤ hi) (h3 : hi ≤ ql h a) (h4 : ql h a < 2147483647) (h5 : K none (wj h a (fillF (qj h a) lo hi v))) : T_J7_fill_bad5a [vr (some a), vi lo, vi hi, vl v] h K := ⟨a, lo, hi, v, rfl, h1, h2, h3, h4, h5⟩
abbrev i_J7_fill_bad5a : MI := (cJ7_fill_bad5a, 6, RJ7, none, "fill", 3)
theorem k_J7_fill_bad5a_0 : Okop i_J7_fill_bad5a 0 (o_al 0) 1 := k_aln (j := 0) (by decide +kernel)
theorem k_J7_fill_bad5a_1 : Okop i_J7_fill_bad5a 1 (o_alen) 2 := k_alen (by decide +kernel)
theorem k_J7_fill_bad5a_2 : Okop i_J7_fill_bad5a 2 (o_il 1) 3 := k_iln (j := 1) (by decide +kernel)
theorem k_J7_fill_bad5a_3 : Okop i_J7_fill_bad5a 3 (o_il 2) 4 := k_iln (j := 2) (by decide +kernel)
theorem k_J7_fill_bad5a_4 : Okop i_J7_fill_bad5a 4 (o_call 3 T_J7_rangeCheck_23922) 7 := k_call (idx := 13) m_J7_rangeCheck_23922 ⟨gw_446, gw_6, ⟨by decide, by decide, by decide +kernel⟩, by decide, by decide⟩ gw_444 gw_445 (by decide +kernel)
theorem k_J7_fill_bad5a_7 : Okop i_J7_fill_bad5a 7 (o_il 1) 8 := k_iln (j := 1) (by decide +kernel)
theorem k_J7_fill_bad5a_8 : Okop i_J7_fill_bad5a 8 (o_is 5) 10 := k_is (by decide +kernel) (by decide)
theorem k_J7_fill_bad5a_10 : Okop i_J7_fill_bad5a 10 (o_il 5) 12 := k_il (by decide +kernel)
theorem k_J7_fill_bad5a_12 : Okop i_J7_fill_bad5a 12 (o_il 2) 13 := k_iln (j := 2) (by decide +kernel)
theorem k_J7_fill_bad5a_13 : Okop i_J7_fill_bad5a 13 (o_ige 27) 16 := k_ige (off := 14) (by decide +kernel) (by decide)
theorem k_J7_fill_bad5a_16 : Okop i_J7_fill_bad5a 16 (o_al 0) 17 := k_aln (j := 0) (by decide +kernel)
theorem k_J7_fill_bad5a_17 : Okop i_J7_fill_bad5a 17 (o_il 5) 19 := k_il (by decide +kernel)
theorem k_J7_fill_bad5a_19 : Okop i_J7_fill_bad5a 19 (o_ll 3) 20 := k_lln (j := 3) (by decide +kernel)
theorem k_J7_fill_bad5a_20 : Okop i_J7_fill_bad5a 20 (o_last) 21 := k_last (by decide +kernel)
theorem k_J7_fill_bad5a_21 : Okop i_J7_fill_bad5a 21 (o_inc 5 1) 24 := k_inc (by decide +kernel) (by decide)
theorem k_J7_fill_bad5a_24 : Okop i_J7_fill_bad5a 24 (o_go 10) 27 := k_go (off := -14) (by decide +kernel) (by decide)
theorem k_J7_fill_bad5a_27 : Okop i_J7_fill_bad5a 27 (o_vret) 28 := k_vret (by decide +kernel) rfl
theorem s_J7_fill_bad5a_0 : Seg i_J7_fill_bad5a 0 [o_al 0, o_alen, o_il 1, o_il 2, o_call 3 T_J7_rangeCheck_23922, o_il 1, o_is 5] 10 := Seg.cons k_J7_fill_bad5a_0 (Seg.cons k_J7_fill_bad5a_1 (Seg.cons k_J7_fill_bad5a_2 (Seg.cons k_J7_fill_bad5a_3 (Seg.cons k_J7_fill_bad5a_4 (Seg.cons k_J7_fill_bad5a_7 (Seg.cons k_J7_fill_bad5a_8 (Seg.nil)))))))
theorem s_J7_fill_bad5a_10 : Seg i_J7_fill_bad5a 10 [o_il 5, o_il 2, o_ige 27, o_al 0, o_il 5, o_ll 3, o_last, o_inc 5 1, o_go 10] 27 := Seg.cons k_J7_fill_bad5a_10 (Seg.cons k_J7_fill_bad5a_12 (Seg.cons k_J7_fill_bad5a_13 (Seg.cons k_J7_fill_bad5a_16 (Seg.cons k_J7_fill_bad5a_17 (Seg.cons k_J7_fill_bad5a_19 (Seg.cons k_J7_fill_bad5a_20 (Seg.cons k_J7_fill_bad5a_21 (Seg.cons k_J7_fill_bad5a_24 (Seg.nil)))))))))
theorem s_J7_fill_bad5a_27 : Seg i_J7_fill_bad5a 27 [o_vret] 28 := Seg.cons k_J7_fill_bad5a_27 (Seg.nil)

theorem m_J7_fill_bad5a : Mth yJ7_fill_bad5a cJ7_fill_bad5a 6 none 3 (Sp0 T_J7_fill_bad5a) := by
  refine Mth.of (by decide) ?_
  rintro x as h ok ⟨a, lo, hi, v, rfl, k1, hlh, hhl, l1, hK⟩
  refine ⟨Nat.le_of_ble_eq_true rfl, ?_⟩
  obtain ⟨n, rfl⟩ : ∃ n, hi = lo + n := ⟨hi - lo, by omega⟩
  have loop : ∀ j, j ≤ n → V i_J7_fill_bad5a x 10 [some (vr (some a)), some (vi lo), some (vi ((lo + n : Nat))), some (vl v), none, some (vi ((lo + j : Nat)))] [] (wj h a (fillF (qj h a) lo (lo + j) v)) (0, 0) := by
    refine bwd _ ?_ ?_
    · refine s_J7_fill_bad5a_10 x ok _ _ _ _ ?_
      simp only [wpS, o_c, o_cl, o_il, o_ll, o_al, o_is, o_ls, o_as, o_inc, o_add, o_sub, o_mul, o_and, o_or, o_xor, o_shl, o_shr, o_div, o_neg, o_ladd, o_lsub, o_lmul, o_ldiv, o_lrem, o_lneg, o_lcmp, o_i2l, o_l2i, o_dup, o_dup2, o_pop, o_go, o_nn, o_sw, swc, o_iret, o_zret, o_lret, o_vret, o_ieq, o_eq0, o_ine, o_ne0, o_ilt, o_lt0, o_ige, o_ge0, o_igt, o_gt0, o_ile, o_le0, o_iald, o_zald, o_lald, o_aald, o_iast, o_zast, o_last, o_aast, o_alen, o_gi, o_gr, o_pi, o_pz, o_pr, o_new, o_newa, o_copy, o_oinit, o_call, o_callV, o_callVc, o_callI, popn, cnO, o_BAD, lgt, lst, isL, kil, st1, st2, entL, List.length_nil, List.length_cons, List.replicate, Nat.reduceAdd, Nat.reduceLeDiff, Nat.reduceSub, true_and, and_true, Nat.zero_le, ne_eq, qk_wi, ql_wi, qr_wi, qj_wi, qt_wi, qk_wj, ql_wj, qr_wj, qi_wj, qt_wj, qk_wr, ql_wr, qi_wr, qj_wr, qt_wr, qi_ws, qj_ws, qr_ws, Int.toNat_natCast, Int.toNat_zero, Int.reduceToNat, not_true_eq_false, not_false_eq_true, false_implies, implies_true, Option.some.injEq, reduceCtorEq, Sp0, true_or, or_true, or_self, wi_wi, wj_wj, k1]
      repeat' (first | (with_reducible refine And.intro ?_ ?_) | (with_reducible intro))
      all_goals (try (first | assumption | omega | (unfold inI; omega)))
      all_goals (try ((first | (refine s_J7_fill_bad5a_0 x ok _ _ _ _ ?_) | (refine s_J7_fill_bad5a_27 x ok _ _ _ _ ?_)); (try simp only [wpS, o_c, o_cl, o_il, o_ll, o_al, o_is, o_ls, o_as, o_inc, o_add, o_sub, o_mul, o_and, o_or, o_xor, o_shl, o_shr, o_div, o_neg, o_ladd, o_lsub, o_lmul, o_ldiv, o_lrem, o_lneg, o_lcmp, o_i2l, o_l2i, o_dup, o_dup2, o_pop, o_go, o_nn, o_sw, swc, o_iret, o_zret, o_lret, o_vret, o_ieq, o_eq0, o_ine, o_ne0, o_ilt, o_lt0, o_ige, o_ge0, o_igt, o_gt0, o_ile, o_le0, o_iald, o_zald, o_lald, o_aald, o_iast, o_zast, o_last, o_aast, o_alen, o_gi, o_gr, o_pi, o_pz, o_pr, o_new, o_newa, o_copy, o_oinit, o_call, o_callV, o_callVc, o_callI, popn, cnO, o_BAD, lgt, lst, isL, kil, st1, st2, entL, List.length_nil, List.length_cons, List.replicate, Nat.reduceAdd, Nat.reduceLeDiff, Nat.reduceSub, true_and, and_true, Nat.zero_le, ne_eq, qk_wi, ql_wi, qr_wi, qj_wi, qt_wi, qk_wj, ql_wj, qr_wj, qi_wj, qt_wj, qk_wr, ql_wr, qi_wr, qj_wr, qt_wr, qi_ws, qj_ws, qr_ws, Int.toNat_natCast, Int.toNat_zero, Int.reduceToNat, not_true_eq_false, not_false_eq_true, false_implies, implies_true, Option.some.injEq, reduceCtorEq, Sp0, true_or, or_true, or_self, wi_wi, wj_wj]); (repeat' (first | (with_reducible refine And.intro ?_ ?_) | (with_reducible intro))); (all_goals (try (first | assumption | omega | (unfold inI; omega))))))
    · intro j hj ih
      refine s_J7_fill_bad5a_10 x ok _ _ _ _ ?_
      simp only [wpS, o_c, o_cl, o_il, o_ll, o_al, o_is, o_ls, o_as, o_inc, o_add, o_sub, o_mul, o_and, o_or, o_xor, o_shl, o_shr, o_div, o_neg, o_ladd, o_lsub, o_lmul, o_ldiv, o_lrem, o_lneg, o_lcmp, o_i2l, o_l2i, o_dup, o_dup2, o_pop, o_go, o_nn, o_sw, swc, o_iret, o_zret, o_lret, o_vret, o_ieq, o_eq0, o_ine, o_ne0, o_ilt, o_lt0, o_ige, o_ge0, o_igt, o_gt0, o_ile, o_le0, o_iald, o_zald, o_lald, o_aald, o_iast, o_zast, o_last, o_aast, o_alen, o_gi, o_gr, o_pi, o_pz, o_pr, o_new, o_newa, o_copy, o_oinit, o_call, o_callV, o_callVc, o_callI, popn, cnO, o_BAD, lgt, lst, isL, kil, st1, st2, entL, List.length_nil, List.length_cons, List.replicate, Nat.reduceAdd, Nat.reduceLeDiff, Nat.reduceSub, true_and, and_true, Nat.zero_le, ne_eq, qk_wi, ql_wi, qr_wi, qj_wi, qt_wi, qk_wj, ql_wj, qr_wj, qi_wj, qt_wj, qk_wr, ql_wr, qi_wr, qj_wr, qt_wr, qi_ws, qj_ws, qr_ws, Int.toNat_natCast, Int.toNat_zero, Int.reduceToNat, not_true_eq_false, not_false_eq_true, false_implies, implies_true, Option.some.injEq, reduceCtorEq, Sp0, true_or, or_true, or_self, wi_wi, wj_wj, k1]
      repeat' (first | (with_reducible refine And.intro ?_ ?_) | (with_reducible intro))
      all_goals (try (first | assumption | omega | (unfold inI; omega)))
      rw [fillF_s _ (by omega)]
      exact ih
  all_goals (try ((first | (refine s_J7_fill_bad5a_0 x ok _ _ _ _ ?_) | (refine s_J7_fill_bad5a_27 x ok _ _ _ _ ?_)); (try simp only [wpS, o_c, o_cl, o_il, o_ll, o_al, o_is, o_ls, o_as, o_inc, o_add, o_sub, o_mul, o_and, o_or, o_xor, o_shl, o_shr, o_div, o_neg, o_ladd, o_lsub, o_lmul, o_ldiv, o_lrem, o_lneg, o_lcmp, o_i2l, o_l2i, o_dup, o_dup2, o_pop, o_go, o_nn, o_sw, swc, o_iret, o_zret, o_lret, o_vret, o_ieq, o_eq0, o_ine, o_ne0, o_ilt, o_lt0, o_ige, o_ge0, o_igt, o_gt0, o_ile, o_le0, o_iald, o_zald, o_lald, o_aald, o_iast, o_zast, o_last, o_aast, o_alen, o_gi, o_gr, o_pi, o_pz, o_pr, o_new, o_newa, o_copy, o_oinit, o_call, o_callV, o_callVc, o_callI, popn, cnO, o_BAD, lgt, lst, isL, kil, st1, st2, entL, List.length_nil, List.length_cons, List.replicate, Nat.reduceAdd, Nat.reduceLeDiff, Nat.reduceSub, true_and, and_true, Nat.zero_le, ne_eq, qk_wi, ql_wi, qr_wi, qj_wi, qt_wi, qk_wj, ql_wj, qr_wj, qi_wj, qt_wj, qk_wr, ql_wr, qi_wr, qj_wr, qt_wr, qi_ws, qj_ws, qr_ws, Int.toNat_natCast, Int.toNat_zero, Int.reduceToNat, not_true_eq_false, not_false_eq_true, false_implies, implies_true, Option.some.injEq, reduceCtorEq, Sp0, true_or, or_true, or_self, wi_wi, wj_wj, k1]); (repeat' (first | (with_reducible refine And.intro ?_ ?_) | (with_reducible intro))); (all_goals (try (first | assumption | omega | (unfold inI; omega))))))
  refine c_rangeCheck ⟨by omega, by omega, by omega, by omega, ?_⟩
  simp only [wpS, o_c, o_cl, o_il, o_ll, o_al, o_is, o_ls, o_as, o_inc, o_add, o_sub, o_mul, o_and, o_or, o_xor, o_shl, o_shr, o_div, o_neg, o_ladd, o_lsub, o_lmul, o_ldiv, o_lrem, o_lneg, o_lcmp, o_i2l, o_l2i, o_dup, o_dup2, o_pop, o_go, o_nn, o_sw, swc, o_iret, o_zret, o_lret, o_vret, o_ieq, o_eq0, o_ine, o_ne0, o_ilt, o_lt0, o_ige, o_ge0, o_igt, o_gt0, o_ile, o_le0, o_iald, o_zald, o_lald, o_aald, o_iast, o_zast, o_last, o_aast, o_alen, o_gi, o_gr, o_pi, o_pz, o_pr, o_new, o_newa, o_copy, o_oinit, o_call, o_callV, o_callVc, o_callI, popn, cnO, o_BAD, lgt, lst, isL, kil, st1, st2, entL, List.length_nil, List.length_cons, List.replicate, Nat.reduceAdd, Nat.reduceLeDiff, Nat.reduceSub, true_and, and_true, Nat.zero_le, ne_eq, qk_wi, ql_wi, qr_wi, qj_wi, qt_wi, qk_wj, ql_wj, qr_wj, qi_wj, qt_wj, qk_wr, ql_wr, qi_wr, qj_wr, qt_wr, qi_ws, qj_ws, qr_ws, Int.toNat_natCast, Int.toNat_zero, Int.reduceToNat, not_true_eq_false, not_false_eq_true, false_implies, implies_true, Option.some.injEq, reduceCtorEq, Sp0, true_or, or_true, or_self, wi_wi, wj_wj]
  have := loop 0 (by omega)
  rw [Nat.add_zero, fillF_0, wj_self] at this
  exact this
theorem xor_sign {z w : Int} (hz : inI z) (hw : inI w) (h0 : 0 ≤ w) : 0 ≤ (jI z ^^^ jI w).toInt ↔ 0 ≤ z := by
  have e1 : (jI z ^^^ jI w).toInt = ((jI z).toBitVec ^^^ (jI w).toBitVec).toInt := rfl
  have m1 : (jI z).toBitVec.msb = decide (z < 0) := by
    rw [BitVec.msb_eq_toInt]
    show decide ((jI z).toInt < 0) = _
    rw [jI_toInt hz]
  have m2 : (jI w).toBitVec.msb = false := by
    rw [BitVec.msb_eq_toInt]
    show decide ((jI w).toInt < 0) = _
    rw [jI_toInt hw]
    simp
    exact h0
  have m3 : ((jI z).toBitVec ^^^ (jI w).toBitVec).msb = decide (((jI z).toBitVec ^^^ (jI w).toBitVec).toInt < 0) := BitVec.msb_eq_toInt
  rw [BitVec.msb_xor, m1, m2, Bool.xor_false] at m3
  rw [e1]
  have := of_decide_eq_true (p := (z < 0 ↔ ((jI z).toBitVec ^^^ (jI w).toBitVec).toInt < 0)) (by simpa using m3)
  omega
theorem tdiv_floor {z w : Int} (hw : 0 < w) : z / w = if 0 ≤ z ∨ z.tdiv w * w = z then z.tdiv w else z.tdiv w - 1 := by
  split
  · rename_i h
    rcases h with h | h
    · rw [Int.tdiv_eq_ediv_of_nonneg h]
    · rw [← h, Int.mul_ediv_cancel _ (by omega), Int.mul_tdiv_cancel _ (by omega)]
  · rename_i h
    have h1 : ¬ 0 ≤ z := fun q => h (.inl q)
    have h2 : ¬ z.tdiv w * w = z := fun q => h (.inr q)
    rw [Int.tdiv_eq_ediv, if_neg (by
      intro q
      rcases q with q | q
      · omega
      · exact h2 (by rw [Int.tdiv_mul_cancel q]))] 
    rw [Int.sign_eq_one_of_pos hw]
    omega
def T_J9_floorDiv_7cf53 : TT := fun as h K => ∃ z w : Int, as = [vi z, vi w] ∧ inI z ∧ (0 < w ∧ w ≤ 2147483647) ∧ K (some (vi (z / w))) h
theorem c_floorDiv {h : Hp} {z w : Int} {K : RT} (h1 : inI z ∧ (0 < w ∧ w ≤ 2147483647) ∧ K (some (vi (z / w))) h) : T_J9_floorDiv_7cf53 [vi z, vi w] h K := ⟨z, w, rfl, h1⟩
abbrev i_J9_floorDiv_7cf53 : MI := (cJ9_floorDiv_7cf53, 3, RJ9, (some .int), "floorDiv", 2)
theorem k_J9_floorDiv_7cf53_0 : Okop i_J9_floorDiv_7cf53 0 (o_il 0) 1 := k_iln (j := 0) (by decide +kernel)
theorem k_J9_floorDiv_7cf53_1 : Okop i_J9_floorDiv_7cf53 1 (o_il 1) 2 := k_iln (j := 1) (by decide +kernel)
theorem k_J9_floorDiv_7cf53_2 : Okop i_J9_floorDiv_7cf53 2 (o_div) 3 := k_div (by decide +kernel)
theorem k_J9_floorDiv_7cf53_3 : Okop i_J9_floorDiv_7cf53 3 (o_is 2) 4 := k_isn (j := 2) (by decide +kernel) (by decide)
theorem k_J9_floorDiv_7cf53_4 : Okop i_J9_floorDiv_7cf53 4 (o_il 0) 5 := k_iln (j := 0) (by decide +kernel)
theorem k_J9_floorDiv_7cf53_5 : Okop i_J9_floorDiv_7cf53 5 (o_il 1) 6 := k_iln (j := 1) (by decide +kernel)
theorem k_J9_floorDiv_7cf53_6 : Okop i_J9_floorDiv_7cf53 6 (o_xor) 7 := k_xor (by decide +kernel)
theorem k_J9_floorDiv_7cf53_7 : Okop i_J9_floorDiv_7cf53 7 (o_ge0 21) 10 := k_ge0 (off := 14) (by decide +kernel) (by decide)
theorem k_J9_floorDiv_7cf53_10 : Okop i_J9_floorDiv_7cf53 10 (o_il 2) 11 := k_iln (j := 2) (by decide +kernel)
theorem k_J9_floorDiv_7cf53_11 : Okop i_J9_floorDiv_7cf53 11 (o_il 1) 12 := k_iln (j := 1) (by decide +kernel)
theorem k_J9_floorDiv_7cf53_12 : Okop i_J9_floorDiv_7cf53 12 (o_mul) 13 := k_mul (by decide +kernel)
theorem k_J9_floorDiv_7cf53_13 : Okop i_J9_floorDiv_7cf53 13 (o_il 0) 14 := k_iln (j := 0) (by decide +kernel)
theorem k_J9_floorDiv_7cf53_14 : Okop i_J9_floorDiv_7cf53 14 (o_ieq 21) 17 := k_ieq (off := 7) (by decide +kernel) (by decide)
theorem k_J9_floorDiv_7cf53_17 : Okop i_J9_floorDiv_7cf53 17 (o_il 2) 18 := k_iln (j := 2) (by decide +kernel)
theorem k_J9_floorDiv_7cf53_18 : Okop i_J9_floorDiv_7cf53 18 (o_c 1) 19 := k_iconst (by decide +kernel)
theorem k_J9_floorDiv_7cf53_19 : Okop i_J9_floorDiv_7cf53 19 (o_sub) 20 := k_sub (by decide +kernel)
theorem k_J9_floorDiv_7cf53_20 : Okop i_J9_floorDiv_7cf53 20 (o_iret) 21 := k_iret (by decide +kernel) rfl
theorem k_J9_floorDiv_7cf53_21 : Okop i_J9_floorDiv_7cf53 21 (o_il 2) 22 := k_iln (j := 2) (by decide +kernel)
theorem k_J9_floorDiv_7cf53_22 : Okop i_J9_floorDiv_7cf53 22 (o_iret) 23 := k_iret (by decide +kernel) rfl
theorem s_J9_floorDiv_7cf53_0 : Seg i_J9_floorDiv_7cf53 0 [o_il 0, o_il 1, o_div, o_is 2, o_il 0, o_il 1, o_xor, o_ge0 21, o_il 2, o_il 1, o_mul, o_il 0, o_ieq 21, o_il 2, o_c 1, o_sub, o_iret] 21 := Seg.cons k_J9_floorDiv_7cf53_0 (Seg.cons k_J9_floorDiv_7cf53_1 (Seg.cons k_J9_floorDiv_7cf53_2 (Seg.cons k_J9_floorDiv_7cf53_3 (Seg.cons k_J9_floorDiv_7cf53_4 (Seg.cons k_J9_floorDiv_7cf53_5 (Seg.cons k_J9_floorDiv_7cf53_6 (Seg.cons k_J9_floorDiv_7cf53_7 (Seg.cons k_J9_floorDiv_7cf53_10 (Seg.cons k_J9_floorDiv_7cf53_11 (Seg.cons k_J9_floorDiv_7cf53_12 (Seg.cons k_J9_floorDiv_7cf53_13 (Seg.cons k_J9_floorDiv_7cf53_14 (Seg.cons k_J9_floorDiv_7cf53_17 (Seg.cons k_J9_floorDiv_7cf53_18 (Seg.cons k_J9_floorDiv_7cf53_19 (Seg.cons k_J9_floorDiv_7cf53_20 (Seg.nil)))))))))))))))))
theorem s_J9_floorDiv_7cf53_21 : Seg i_J9_floorDiv_7cf53 21 [o_il 2, o_iret] 23 := Seg.cons k_J9_floorDiv_7cf53_21 (Seg.cons k_J9_floorDiv_7cf53_22 (Seg.nil))

theorem m_J9_floorDiv_7cf53 : Mth yJ9_floorDiv_7cf53 cJ9_floorDiv_7cf53 3 (some .int) 2 (Sp0 T_J9_floorDiv_7cf53) := by
  refine Mth.ofF (by decide +kernel) ?_
  rintro x as h ok ⟨z, w, rfl, hz, ⟨hw1, hw2⟩, hK⟩
  refine ⟨Nat.le_of_ble_eq_true rfl, ?_⟩
  have hw : inI w := by unfold inI; omega
  have hx := xor_sign hz hw (by omega)
  have hin := inI_of (jI z ^^^ jI w)
  have e1 : z = w * z.tdiv w + z.tmod w := (Int.mul_tdiv_add_tmod z w).symm
  have b1 := Int.tmod_lt_of_pos z hw1
  have b2 := Int.lt_tmod_of_pos z hw1
  have hm : inI (z.tdiv w * w) := by
    rw [Int.mul_comm]
    unfold inI at hz ⊢
    by_cases h0 : 0 ≤ z
    · have := Int.tmod_nonneg w h0
      omega
    · have : z.tmod w ≤ 0 := by
        have := Int.tmod_nonneg w (show 0 ≤ -z by omega)
        rw [Int.neg_tmod] at this
        omega
      omega
  have hK' : ∀ r, r = z / w → xR x (some (vi r)) h := fun r e => e ▸ hK
  rw [tdiv_floor hw1] at hK'
  all_goals (try ((first | (refine s_J9_floorDiv_7cf53_0 x ok _ _ _ _ ?_) | (refine s_J9_floorDiv_7cf53_21 x ok _ _ _ _ ?_)); (try simp only [wpS, o_c, o_cl, o_il, o_ll, o_al, o_is, o_ls, o_as, o_inc, o_add, o_sub, o_mul, o_and, o_or, o_xor, o_shl, o_shr, o_div, o_neg, o_ladd, o_lsub, o_lmul, o_ldiv, o_lrem, o_lneg, o_lcmp, o_i2l, o_l2i, o_dup, o_dup2, o_pop, o_go, o_nn, o_sw, swc, o_iret, o_zret, o_lret, o_vret, o_ieq, o_eq0, o_ine, o_ne0, o_ilt, o_lt0, o_ige, o_ge0, o_igt, o_gt0, o_ile, o_le0, o_iald, o_zald, o_lald, o_aald, o_iast, o_zast, o_last, o_aast, o_alen, o_gi, o_gr, o_pi, o_pz, o_pr, o_new, o_newa, o_copy, o_oinit, o_call, o_callV, o_callVc, o_callI, popn, cnO, o_BAD, lgt, lst, isL, kil, st1, st2, entL, List.length_nil, List.length_cons, List.replicate, Nat.reduceAdd, Nat.reduceLeDiff, Nat.reduceSub, true_and, and_true, Nat.zero_le, ne_eq, qk_wi, ql_wi, qr_wi, qj_wi, qt_wi, qk_wj, ql_wj, qr_wj, qi_wj, qt_wj, qk_wr, ql_wr, qi_wr, qj_wr, qt_wr, qi_ws, qj_ws, qr_ws, Int.toNat_natCast, Int.toNat_zero, Int.reduceToNat, not_true_eq_false, not_false_eq_true, false_implies, implies_true, Option.some.injEq, reduceCtorEq, Sp0, true_or, or_true, or_self, wi_wi, wj_wj]); (repeat' (first | (with_reducible refine And.intro ?_ ?_) | (with_reducible intro))); (all_goals (try (first | assumption | omega | (unfold inI; omega))))))
  all_goals (try ((first | (refine s_J9_floorDiv_7cf53_0 x ok _ _ _ _ ?_) | (refine s_J9_floorDiv_7cf53_21 x ok _ _ _ _ ?_)); (try simp only [wpS, o_c, o_cl, o_il, o_ll, o_al, o_is, o_ls, o_as, o_inc, o_add, o_sub, o_mul, o_and, o_or, o_xor, o_shl, o_shr, o_div, o_neg, o_ladd, o_lsub, o_lmul, o_ldiv, o_lrem, o_lneg, o_lcmp, o_i2l, o_l2i, o_dup, o_dup2, o_pop, o_go, o_nn, o_sw, swc, o_iret, o_zret, o_lret, o_vret, o_ieq, o_eq0, o_ine, o_ne0, o_ilt, o_lt0, o_ige, o_ge0, o_igt, o_gt0, o_ile, o_le0, o_iald, o_zald, o_lald, o_aald, o_iast, o_zast, o_last, o_aast, o_alen, o_gi, o_gr, o_pi, o_pz, o_pr, o_new, o_newa, o_copy, o_oinit, o_call, o_callV, o_callVc, o_callI, popn, cnO, o_BAD, lgt, lst, isL, kil, st1, st2, entL, List.length_nil, List.length_cons, List.replicate, Nat.reduceAdd, Nat.reduceLeDiff, Nat.reduceSub, true_and, and_true, Nat.zero_le, ne_eq, qk_wi, ql_wi, qr_wi, qj_wi, qt_wi, qk_wj, ql_wj, qr_wj, qi_wj, qt_wj, qk_wr, ql_wr, qi_wr, qj_wr, qt_wr, qi_ws, qj_ws, qr_ws, Int.toNat_natCast, Int.toNat_zero, Int.reduceToNat, not_true_eq_false, not_false_eq_true, false_implies, implies_true, Option.some.injEq, reduceCtorEq, Sp0, true_or, or_true, or_self, wi_wi, wj_wj]); (repeat' (first | (with_reducible refine And.intro ?_ ?_) | (with_reducible intro))); (all_goals (try (first | assumption | omega | (unfold inI; omega))))))
  all_goals (try ((first | (refine s_J9_floorDiv_7cf53_0 x ok _ _ _ _ ?_) | (refine s_J9_floorDiv_7cf53_21 x ok _ _ _ _ ?_)); (try simp only [wpS, o_c, o_cl, o_il, o_ll, o_al, o_is, o_ls, o_as, o_inc, o_add, o_sub, o_mul, o_and, o_or, o_xor, o_shl, o_shr, o_div, o_neg, o_ladd, o_lsub, o_lmul, o_ldiv, o_lrem, o_lneg, o_lcmp, o_i2l, o_l2i, o_dup, o_dup2, o_pop, o_go, o_nn, o_sw, swc, o_iret, o_zret, o_lret, o_vret, o_ieq, o_eq0, o_ine, o_ne0, o_ilt, o_lt0, o_ige, o_ge0, o_igt, o_gt0, o_ile, o_le0, o_iald, o_zald, o_lald, o_aald, o_iast, o_zast, o_last, o_aast, o_alen, o_gi, o_gr, o_pi, o_pz, o_pr, o_new, o_newa, o_copy, o_oinit, o_call, o_callV, o_callVc, o_callI, popn, cnO, o_BAD, lgt, lst, isL, kil, st1, st2, entL, List.length_nil, List.length_cons, List.replicate, Nat.reduceAdd, Nat.reduceLeDiff, Nat.reduceSub, true_and, and_true, Nat.zero_le, ne_eq, qk_wi, ql_wi, qr_wi, qj_wi, qt_wi, qk_wj, ql_wj, qr_wj, qi_wj, qt_wj, qk_wr, ql_wr, qi_wr, qj_wr, qt_wr, qi_ws, qj_ws, qr_ws, Int.toNat_natCast, Int.toNat_zero, Int.reduceToNat, not_true_eq_false, not_false_eq_true, false_implies, implies_true, Option.some.injEq, reduceCtorEq, Sp0, true_or, or_true, or_self, wi_wi, wj_wj]); (repeat' (first | (with_reducible refine And.intro ?_ ?_) | (with_reducible intro))); (all_goals (try (first | assumption | omega | (unfold inI; omega))))))
  all_goals (refine hK' _ ?_; grind)

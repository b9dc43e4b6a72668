/-! ===== FitBench$Care ===== -/
/-- the heap with the seven rows of ints from C on as F has them -/
def wc (h : Hp) (C : Nat) (F : Nat → Nat → Int) : Hp := (h.1, h.2.1, fun b => if C ≤ b ∧ b ≤ C + 6 then F (b - C) else h.2.2.1 b, h.2.2.2)
def fr (F : Nat → Nat → Int) (i : Nat) (f : Nat → Int) : Nat → Nat → Int := fun j => if j = i then f else F j
theorem fr_a (F : Nat → Nat → Int) (i : Nat) (f : Nat → Int) (j : Nat) : fr F i f j = if j = i then f else F j := rfl
theorem qk_wc (h : Hp) (C : Nat) (F : Nat → Nat → Int) : qk (wc h C F) = qk h := rfl
theorem ql_wc (h : Hp) (C : Nat) (F : Nat → Nat → Int) : ql (wc h C F) = ql h := rfl
theorem qr_wc (h : Hp) (C : Nat) (F : Nat → Nat → Int) : qr (wc h C F) = qr h := rfl
theorem qc_i (h : Hp) (C : Nat) (F : Nat → Nat → Int) {i : Nat} (hi : i ≤ 6) : qi (wc h C F) (C + i) = F i := by
  show (if C ≤ C + i ∧ C + i ≤ C + 6 then F (C + i - C) else _) = _
  rw [if_pos (by omega), Nat.add_sub_cancel_left]
theorem qc_0 (h : Hp) (C : Nat) (F : Nat → Nat → Int) : qi (wc h C F) C = F 0 := qc_i h C F (i := 0) (by omega)
theorem qc_1 (h : Hp) (C : Nat) (F : Nat → Nat → Int) : qi (wc h C F) (C + 1) = F 1 := qc_i h C F (by omega)
theorem qc_2 (h : Hp) (C : Nat) (F : Nat → Nat → Int) : qi (wc h C F) (C + 2) = F 2 := qc_i h C F (by omega)
theorem qc_3 (h : Hp) (C : Nat) (F : Nat → Nat → Int) : qi (wc h C F) (C + 3) = F 3 := qc_i h C F (by omega)
theorem qc_4 (h : Hp) (C : Nat) (F : Nat → Nat → Int) : qi (wc h C F) (C + 4) = F 4 := qc_i h C F (by omega)
theorem qc_5 (h : Hp) (C : Nat) (F : Nat → Nat → Int) : qi (wc h C F) (C + 5) = F 5 := qc_i h C F (by omega)
theorem qc_6 (h : Hp) (C : Nat) (F : Nat → Nat → Int) : qi (wc h C F) (C + 6) = F 6 := qc_i h C F (by omega)
theorem qc_n {h : Hp} {C b : Nat} {F : Nat → Nat → Int} (hb : b < C ∨ C + 6 < b) : qi (wc h C F) b = qi h b := by
  show (if C ≤ b ∧ b ≤ C + 6 then F (b - C) else _) = _
  rw [if_neg (by omega)]; rfl
theorem wc_i (h : Hp) (C : Nat) (F : Nat → Nat → Int) (f : Nat → Int) {i : Nat} (hi : i ≤ 6) : wi (wc h C F) (C + i) f = wc h C (fr F i f) := by
  unfold wi wc
  congr 1
  congr 1
  congr 1
  funext b
  unfold fu fr
  dsimp only
  by_cases e : b = C + i
  · subst e
    rw [if_pos rfl, if_pos (by omega), if_pos (by omega)]
  · rw [if_neg e]
    by_cases q : C ≤ b ∧ b ≤ C + 6
    · rw [if_pos q, if_pos q, if_neg (by omega)]
    · rw [if_neg q, if_neg q]
theorem wc_0 (h : Hp) (C : Nat) (F : Nat → Nat → Int) (f : Nat → Int) : wi (wc h C F) C f = wc h C (fr F 0 f) := wc_i h C F f (i := 0) (by omega)
theorem wc_1 (h : Hp) (C : Nat) (F : Nat → Nat → Int) (f : Nat → Int) : wi (wc h C F) (C + 1) f = wc h C (fr F 1 f) := wc_i h C F f (by omega)
theorem wc_2 (h : Hp) (C : Nat) (F : Nat → Nat → Int) (f : Nat → Int) : wi (wc h C F) (C + 2) f = wc h C (fr F 2 f) := wc_i h C F f (by omega)
theorem wc_3 (h : Hp) (C : Nat) (F : Nat → Nat → Int) (f : Nat → Int) : wi (wc h C F) (C + 3) f = wc h C (fr F 3 f) := wc_i h C F f (by omega)
theorem wc_4 (h : Hp) (C : Nat) (F : Nat → Nat → Int) (f : Nat → Int) : wi (wc h C F) (C + 4) f = wc h C (fr F 4 f) := wc_i h C F f (by omega)
theorem wc_5 (h : Hp) (C : Nat) (F : Nat → Nat → Int) (f : Nat → Int) : wi (wc h C F) (C + 5) f = wc h C (fr F 5 f) := wc_i h C F f (by omega)
theorem wc_6 (h : Hp) (C : Nat) (F : Nat → Nat → Int) (f : Nat → Int) : wi (wc h C F) (C + 6) f = wc h C (fr F 6 f) := wc_i h C F f (by omega)
theorem wc_self (h : Hp) (C : Nat) : wc h C (fun i => qi h (C + i)) = h := by
  have e : (fun b => if C ≤ b ∧ b ≤ C + 6 then qi h (C + (b - C)) else h.2.2.1 b) = h.2.2.1 := by
    funext b
    by_cases q : C ≤ b ∧ b ≤ C + 6
    · rw [if_pos q, show C + (b - C) = b by omega]; rfl
    · rw [if_neg q]
  unfold wc
  rw [e]
def isCa (h : Hp) (C : Nat) : Prop := qk h C = 10 ∧ qr h C 0 = some (C + 1) ∧ qr h C 2 = some (C + 2) ∧ qr h C 3 = some (C + 3) ∧ qr h C 5 = some (C + 4) ∧ qr h C 6 = some (C + 5) ∧ qr h C 7 = some (C + 6) ∧ qk h (C + 1) = 1 ∧ ql h (C + 1) = 8 ∧ qk h (C + 2) = 1 ∧ ql h (C + 2) = 8 ∧ qk h (C + 3) = 1 ∧ ql h (C + 3) = 8 ∧ qk h (C + 4) = 1 ∧ ql h (C + 4) = 9 ∧ qk h (C + 5) = 1 ∧ ql h (C + 5) = 54 ∧ qk h (C + 6) = 1 ∧ ql h (C + 6) = 54
theorem MeC.wc {h : Hp} {p C : Nat} {d : Dd} {m : Nat} {F : Nat → Nat → Int} (H : MeC h p d m) (n : p + 4 < C) : MeC (wc h C F) p d m := by
  unfold MeC at *
  rw [qc_n (by omega), qc_n (by omega), qc_n (by omega), qc_n (by omega), qc_n (by omega)]
  exact H
theorem Stt.wc {h : Hp} {a C : Nat} {d : Dd} {F : Nat → Nat → Int} (H : Stt h a d) (n : a + 81 ≤ C) : Stt (wc h C F) a d := by
  obtain ⟨h1, ⟨h2, h3, h4, h5⟩, h6⟩ := H
  refine ⟨h1, ⟨fun m hm => (h2 m hm).wc (by omega), fun c hc => ?_, fun l hl => ?_, fun k hk => by rw [qc_n (by omega)]; exact h5 k hk⟩, h6⟩
  · obtain ⟨q1, q2, q3⟩ := h3 c hc
    exact ⟨by rw [qc_n (by omega)]; exact q1, by rw [qc_n (by omega)]; exact q2, fun m hm => by rw [qc_n (by omega)]; exact q3 m hm⟩
  · obtain ⟨q1, q2⟩ := h4 l hl
    exact ⟨by rw [qc_n (by omega)]; exact q1, fun m hm => by rw [qc_n (by omega)]; exact q2 m hm⟩
/-! leastPrice -/
def T_X0_leastPrice : TT := fun as h K => ∃ (p : Nat) (d : Dd) (m : Nat), as = [vr (some p)] ∧ Me h p d m ∧ K (some (vi (mpr d m (dv d m).toNat))) h
theorem c_leastPrice {h : Hp} {p : Nat} {d : Dd} {m : Nat} {K : RT} (h1 : Me h p d m) (h2 : K (some (vi (mpr d m (dv d m).toNat))) h) : T_X0_leastPrice [vr (some p)] h K := ⟨p, d, m, rfl, h1, h2⟩
abbrev i_X0_leastPrice : MI := (cX0_leastPrice, 3, RX0, (some .int), "leastPrice", 3)
theorem k_X0_leastPrice_0 : Okop i_X0_leastPrice 0 (o_c 1000000) 2 := k_ldc (idx := 68) (by decide +kernel) gw_549
theorem k_X0_leastPrice_2 : Okop i_X0_leastPrice 2 (o_is 1) 3 := k_isn (j := 1) (by decide +kernel) (by decide)
theorem k_X0_leastPrice_3 : Okop i_X0_leastPrice 3 (o_c 0) 4 := k_iconst (by decide +kernel)
theorem k_X0_leastPrice_4 : Okop i_X0_leastPrice 4 (o_is 2) 5 := k_isn (j := 2) (by decide +kernel) (by decide)
theorem k_X0_leastPrice_5 : Okop i_X0_leastPrice 5 (o_il 2) 6 := k_iln (j := 2) (by decide +kernel)
theorem k_X0_leastPrice_6 : Okop i_X0_leastPrice 6 (o_al 0) 7 := k_aln (j := 0) (by decide +kernel)
theorem k_X0_leastPrice_7 : Okop i_X0_leastPrice 7 (o_gi 4 8) 10 := k_gi (idx := 69) fo_4 (by decide) (by decide) gw_61 (by decide +kernel)
theorem k_X0_leastPrice_10 : Okop i_X0_leastPrice 10 (o_ige 30) 13 := k_ige (off := 20) (by decide +kernel) (by decide)
theorem k_X0_leastPrice_13 : Okop i_X0_leastPrice 13 (o_il 1) 14 := k_iln (j := 1) (by decide +kernel)
theorem k_X0_leastPrice_14 : Okop i_X0_leastPrice 14 (o_al 0) 15 := k_aln (j := 0) (by decide +kernel)
theorem k_X0_leastPrice_15 : Okop i_X0_leastPrice 15 (o_gr 4 11) 18 := k_gr (idx := 72) fo_4 (by decide) (by decide) gw_71 (by decide +kernel)
theorem k_X0_leastPrice_18 : Okop i_X0_leastPrice 18 (o_il 2) 19 := k_iln (j := 2) (by decide +kernel)
theorem k_X0_leastPrice_19 : Okop i_X0_leastPrice 19 (o_iald) 20 := k_iald (by decide +kernel)
theorem k_X0_leastPrice_20 : Okop i_X0_leastPrice 20 (o_call 2 T_J9_min_7cf53) 23 := k_call (idx := 75) m_J9_min_7cf53 ⟨gw_476, gw_12, ⟨by decide, by decide, by decide +kernel⟩, by decide, by decide⟩ gw_550 gw_475 (by decide +kernel)
theorem k_X0_leastPrice_23 : Okop i_X0_leastPrice 23 (o_is 1) 24 := k_isn (j := 1) (by decide +kernel) (by decide)
theorem k_X0_leastPrice_24 : Okop i_X0_leastPrice 24 (o_inc 2 1) 27 := k_inc (by decide +kernel) (by decide)
theorem k_X0_leastPrice_27 : Okop i_X0_leastPrice 27 (o_go 5) 30 := k_go (off := -22) (by decide +kernel) (by decide)
theorem k_X0_leastPrice_30 : Okop i_X0_leastPrice 30 (o_il 1) 31 := k_iln (j := 1) (by decide +kernel)
theorem k_X0_leastPrice_31 : Okop i_X0_leastPrice 31 (o_iret) 32 := k_iret (by decide +kernel) rfl
theorem s_X0_leastPrice_0 : Seg i_X0_leastPrice 0 [o_c 1000000, o_is 1, o_c 0, o_is 2] 5 := Seg.cons k_X0_leastPrice_0 (Seg.cons k_X0_leastPrice_2 (Seg.cons k_X0_leastPrice_3 (Seg.cons k_X0_leastPrice_4 (Seg.nil))))
theorem s_X0_leastPrice_5 : Seg i_X0_leastPrice 5 [o_il 2, o_al 0, o_gi 4 8, o_ige 30, o_il 1, o_al 0, o_gr 4 11, o_il 2, o_iald, o_call 2 T_J9_min_7cf53, o_is 1, o_inc 2 1, o_go 5] 30 := Seg.cons k_X0_leastPrice_5 (Seg.cons k_X0_leastPrice_6 (Seg.cons k_X0_leastPrice_7 (Seg.cons k_X0_leastPrice_10 (Seg.cons k_X0_leastPrice_13 (Seg.cons k_X0_leastPrice_14 (Seg.cons k_X0_leastPrice_15 (Seg.cons k_X0_leastPrice_18 (Seg.cons k_X0_leastPrice_19 (Seg.cons k_X0_leastPrice_20 (Seg.cons k_X0_leastPrice_23 (Seg.cons k_X0_leastPrice_24 (Seg.cons k_X0_leastPrice_27 (Seg.nil)))))))))))))
theorem s_X0_leastPrice_30 : Seg i_X0_leastPrice 30 [o_il 1, o_iret] 32 := Seg.cons k_X0_leastPrice_30 (Seg.cons k_X0_leastPrice_31 (Seg.nil))

theorem m_X0_leastPrice : Mth yX0_leastPrice cX0_leastPrice 3 (some .int) 3 (Sp0 T_X0_leastPrice) := by
  refine Mth.of (by decide) ?_
  rintro x as h ok ⟨p, d, m, rfl, hM, hK⟩
  obtain ⟨⟨k1, r5, r9, r10, r11, k2, l2, k3, l3, k4, l4, k5, l5⟩, ⟨c0, c1, c2, c3, c4, c5, c6, c7, c8, c9, c10, c11, c12⟩, hI⟩ := hM
  refine ⟨Nat.le_of_ble_eq_true rfl, ?_⟩
  have hv := hI.v
  have loop : ∀ j, j ≤ (dv d m).toNat → V i_X0_leastPrice x 5 [some (vr (some p)), some (vi (mpr d m j)), some (vi j)] [] h (0, 0) := by
    refine bwd _ ?_ ?_
    · refine s_X0_leastPrice_5 x ok _ _ _ _ ?_
      simp only [wpS, o_c, o_cl, o_il, o_ll, o_al, o_is, o_ls, o_as, o_inc, o_add, o_sub, o_mul, o_and, o_or, o_xor, o_shl, o_shr, o_div, o_neg, o_ladd, o_lsub, o_lmul, o_ldiv, o_lrem, o_lneg, o_lcmp, o_i2l, o_l2i, o_dup, o_dup2, o_pop, o_go, o_nn, o_sw, swc, o_iret, o_zret, o_lret, o_vret, o_ieq, o_eq0, o_ine, o_ne0, o_ilt, o_lt0, o_ige, o_ge0, o_igt, o_gt0, o_ile, o_le0, o_iald, o_zald, o_lald, o_aald, o_iast, o_zast, o_last, o_aast, o_alen, o_gi, o_gr, o_pi, o_pz, o_pr, o_new, o_newa, o_copy, o_oinit, o_call, o_callV, o_callVc, o_callI, popn, cnO, o_BAD, lgt, lst, isL, kil, st1, st2, entL, List.length_nil, List.length_cons, List.replicate, Nat.reduceAdd, Nat.reduceLeDiff, Nat.reduceSub, true_and, and_true, Nat.zero_le, ne_eq, qk_wi, ql_wi, qr_wi, qj_wi, qt_wi, qk_wj, ql_wj, qr_wj, qi_wj, qt_wj, qk_wr, ql_wr, qi_wr, qj_wr, qt_wr, qi_ws, qj_ws, qr_ws, Int.toNat_natCast, Int.toNat_zero, Int.reduceToNat, not_true_eq_false, not_false_eq_true, false_implies, implies_true, Option.some.injEq, reduceCtorEq, Sp0, true_or, or_true, or_self, wi_wi, wj_wj, k1, c7]
      repeat' (first | (with_reducible refine And.intro ?_ ?_) | (with_reducible intro))
      all_goals (try (first | assumption | omega | (unfold inI; omega)))
      all_goals (try ((first | (refine s_X0_leastPrice_0 x ok _ _ _ _ ?_) | (refine s_X0_leastPrice_30 x ok _ _ _ _ ?_)); (try simp only [wpS, o_c, o_cl, o_il, o_ll, o_al, o_is, o_ls, o_as, o_inc, o_add, o_sub, o_mul, o_and, o_or, o_xor, o_shl, o_shr, o_div, o_neg, o_ladd, o_lsub, o_lmul, o_ldiv, o_lrem, o_lneg, o_lcmp, o_i2l, o_l2i, o_dup, o_dup2, o_pop, o_go, o_nn, o_sw, swc, o_iret, o_zret, o_lret, o_vret, o_ieq, o_eq0, o_ine, o_ne0, o_ilt, o_lt0, o_ige, o_ge0, o_igt, o_gt0, o_ile, o_le0, o_iald, o_zald, o_lald, o_aald, o_iast, o_zast, o_last, o_aast, o_alen, o_gi, o_gr, o_pi, o_pz, o_pr, o_new, o_newa, o_copy, o_oinit, o_call, o_callV, o_callVc, o_callI, popn, cnO, o_BAD, lgt, lst, isL, kil, st1, st2, entL, List.length_nil, List.length_cons, List.replicate, Nat.reduceAdd, Nat.reduceLeDiff, Nat.reduceSub, true_and, and_true, Nat.zero_le, ne_eq, qk_wi, ql_wi, qr_wi, qj_wi, qt_wi, qk_wj, ql_wj, qr_wj, qi_wj, qt_wj, qk_wr, ql_wr, qi_wr, qj_wr, qt_wr, qi_ws, qj_ws, qr_ws, Int.toNat_natCast, Int.toNat_zero, Int.reduceToNat, not_true_eq_false, not_false_eq_true, false_implies, implies_true, Option.some.injEq, reduceCtorEq, Sp0, true_or, or_true, or_self, wi_wi, wj_wj]); (repeat' (first | (with_reducible refine And.intro ?_ ?_) | (with_reducible intro))); (all_goals (try (first | assumption | omega | (unfold inI; omega))))))
    · intro j hj ih
      have hr := mpr_rg hI j (by omega)
      have hw := (hI.w j (by omega)).2.2
      have e : mpr d m (j + 1) = if dpr d m j < mpr d m j then dpr d m j else mpr d m j := rfl
      rw [e] at ih
      refine s_X0_leastPrice_5 x ok _ _ _ _ ?_
      simp only [wpS, o_c, o_cl, o_il, o_ll, o_al, o_is, o_ls, o_as, o_inc, o_add, o_sub, o_mul, o_and, o_or, o_xor, o_shl, o_shr, o_div, o_neg, o_ladd, o_lsub, o_lmul, o_ldiv, o_lrem, o_lneg, o_lcmp, o_i2l, o_l2i, o_dup, o_dup2, o_pop, o_go, o_nn, o_sw, swc, o_iret, o_zret, o_lret, o_vret, o_ieq, o_eq0, o_ine, o_ne0, o_ilt, o_lt0, o_ige, o_ge0, o_igt, o_gt0, o_ile, o_le0, o_iald, o_zald, o_lald, o_aald, o_iast, o_zast, o_last, o_aast, o_alen, o_gi, o_gr, o_pi, o_pz, o_pr, o_new, o_newa, o_copy, o_oinit, o_call, o_callV, o_callVc, o_callI, popn, cnO, o_BAD, lgt, lst, isL, kil, st1, st2, entL, List.length_nil, List.length_cons, List.replicate, Nat.reduceAdd, Nat.reduceLeDiff, Nat.reduceSub, true_and, and_true, Nat.zero_le, ne_eq, qk_wi, ql_wi, qr_wi, qj_wi, qt_wi, qk_wj, ql_wj, qr_wj, qi_wj, qt_wj, qk_wr, ql_wr, qi_wr, qj_wr, qt_wr, qi_ws, qj_ws, qr_ws, Int.toNat_natCast, Int.toNat_zero, Int.reduceToNat, not_true_eq_false, not_false_eq_true, false_implies, implies_true, Option.some.injEq, reduceCtorEq, Sp0, true_or, or_true, or_self, wi_wi, wj_wj, k1, c7, r11, k5, l5, c12 j (by omega)]
      repeat' (first | (with_reducible refine And.intro ?_ ?_) | (with_reducible intro))
      all_goals (try (first | assumption | omega | (unfold inI; omega)))
      all_goals (try ((first | (refine s_X0_leastPrice_0 x ok _ _ _ _ ?_) | (refine s_X0_leastPrice_30 x ok _ _ _ _ ?_) | (refine c_min ?_)); (try simp only [wpS, o_c, o_cl, o_il, o_ll, o_al, o_is, o_ls, o_as, o_inc, o_add, o_sub, o_mul, o_and, o_or, o_xor, o_shl, o_shr, o_div, o_neg, o_ladd, o_lsub, o_lmul, o_ldiv, o_lrem, o_lneg, o_lcmp, o_i2l, o_l2i, o_dup, o_dup2, o_pop, o_go, o_nn, o_sw, swc, o_iret, o_zret, o_lret, o_vret, o_ieq, o_eq0, o_ine, o_ne0, o_ilt, o_lt0, o_ige, o_ge0, o_igt, o_gt0, o_ile, o_le0, o_iald, o_zald, o_lald, o_aald, o_iast, o_zast, o_last, o_aast, o_alen, o_gi, o_gr, o_pi, o_pz, o_pr, o_new, o_newa, o_copy, o_oinit, o_call, o_callV, o_callVc, o_callI, popn, cnO, o_BAD, lgt, lst, isL, kil, st1, st2, entL, List.length_nil, List.length_cons, List.replicate, Nat.reduceAdd, Nat.reduceLeDiff, Nat.reduceSub, true_and, and_true, Nat.zero_le, ne_eq, qk_wi, ql_wi, qr_wi, qj_wi, qt_wi, qk_wj, ql_wj, qr_wj, qi_wj, qt_wj, qk_wr, ql_wr, qi_wr, qj_wr, qt_wr, qi_ws, qj_ws, qr_ws, Int.toNat_natCast, Int.toNat_zero, Int.reduceToNat, not_true_eq_false, not_false_eq_true, false_implies, implies_true, Option.some.injEq, reduceCtorEq, Sp0, true_or, or_true, or_self, wi_wi, wj_wj]); (repeat' (first | (with_reducible refine And.intro ?_ ?_) | (with_reducible intro))); (all_goals (try (first | assumption | omega | (unfold inI; omega))))))
      all_goals (try ((first | (refine s_X0_leastPrice_0 x ok _ _ _ _ ?_) | (refine s_X0_leastPrice_30 x ok _ _ _ _ ?_) | (refine c_min ?_)); (try simp only [wpS, o_c, o_cl, o_il, o_ll, o_al, o_is, o_ls, o_as, o_inc, o_add, o_sub, o_mul, o_and, o_or, o_xor, o_shl, o_shr, o_div, o_neg, o_ladd, o_lsub, o_lmul, o_ldiv, o_lrem, o_lneg, o_lcmp, o_i2l, o_l2i, o_dup, o_dup2, o_pop, o_go, o_nn, o_sw, swc, o_iret, o_zret, o_lret, o_vret, o_ieq, o_eq0, o_ine, o_ne0, o_ilt, o_lt0, o_ige, o_ge0, o_igt, o_gt0, o_ile, o_le0, o_iald, o_zald, o_lald, o_aald, o_iast, o_zast, o_last, o_aast, o_alen, o_gi, o_gr, o_pi, o_pz, o_pr, o_new, o_newa, o_copy, o_oinit, o_call, o_callV, o_callVc, o_callI, popn, cnO, o_BAD, lgt, lst, isL, kil, st1, st2, entL, List.length_nil, List.length_cons, List.replicate, Nat.reduceAdd, Nat.reduceLeDiff, Nat.reduceSub, true_and, and_true, Nat.zero_le, ne_eq, qk_wi, ql_wi, qr_wi, qj_wi, qt_wi, qk_wj, ql_wj, qr_wj, qi_wj, qt_wj, qk_wr, ql_wr, qi_wr, qj_wr, qt_wr, qi_ws, qj_ws, qr_ws, Int.toNat_natCast, Int.toNat_zero, Int.reduceToNat, not_true_eq_false, not_false_eq_true, false_implies, implies_true, Option.some.injEq, reduceCtorEq, Sp0, true_or, or_true, or_self, wi_wi, wj_wj]); (repeat' (first | (with_reducible refine And.intro ?_ ?_) | (with_reducible intro))); (all_goals (try (first | assumption | omega | (unfold inI; omega))))))
  all_goals (try ((first | (refine s_X0_leastPrice_0 x ok _ _ _ _ ?_) | (refine s_X0_leastPrice_30 x ok _ _ _ _ ?_)); (try simp only [wpS, o_c, o_cl, o_il, o_ll, o_al, o_is, o_ls, o_as, o_inc, o_add, o_sub, o_mul, o_and, o_or, o_xor, o_shl, o_shr, o_div, o_neg, o_ladd, o_lsub, o_lmul, o_ldiv, o_lrem, o_lneg, o_lcmp, o_i2l, o_l2i, o_dup, o_dup2, o_pop, o_go, o_nn, o_sw, swc, o_iret, o_zret, o_lret, o_vret, o_ieq, o_eq0, o_ine, o_ne0, o_ilt, o_lt0, o_ige, o_ge0, o_igt, o_gt0, o_ile, o_le0, o_iald, o_zald, o_lald, o_aald, o_iast, o_zast, o_last, o_aast, o_alen, o_gi, o_gr, o_pi, o_pz, o_pr, o_new, o_newa, o_copy, o_oinit, o_call, o_callV, o_callVc, o_callI, popn, cnO, o_BAD, lgt, lst, isL, kil, st1, st2, entL, List.length_nil, List.length_cons, List.replicate, Nat.reduceAdd, Nat.reduceLeDiff, Nat.reduceSub, true_and, and_true, Nat.zero_le, ne_eq, qk_wi, ql_wi, qr_wi, qj_wi, qt_wi, qk_wj, ql_wj, qr_wj, qi_wj, qt_wj, qk_wr, ql_wr, qi_wr, qj_wr, qt_wr, qi_ws, qj_ws, qr_ws, Int.toNat_natCast, Int.toNat_zero, Int.reduceToNat, not_true_eq_false, not_false_eq_true, false_implies, implies_true, Option.some.injEq, reduceCtorEq, Sp0, true_or, or_true, or_self, wi_wi, wj_wj]); (repeat' (first | (with_reducible refine And.intro ?_ ?_) | (with_reducible intro))); (all_goals (try (first | assumption | omega | (unfold inI; omega))))))
  exact loop 0 (by omega)
/-! gatherGraded -/
def gaP (d : Dd) (F F2 : Nat → Nat → Int) : Prop := (F2 0) 1 = (gk d : Int) ∧ (∀ j, j ≠ 1 → F2 0 j = F 0 j) ∧ (∀ i, i < gk d → F2 1 i = (gl d i : Int)) ∧ (∀ i, i ≤ gk d → F2 4 i = rst d i) ∧ F2 2 = F 2 ∧ F2 3 = F 3 ∧ F2 5 = F 5 ∧ F2 6 = F 6
def T_X0_gatherGraded : TT := fun as h K => ∃ (h0 : Hp) (C M : Nat) (F : Nat → Nat → Int) (d : Dd), as = [vr (some C), vr (some M)] ∧ h = wc h0 C F ∧ isCa h0 C ∧ Ms h0 M d ∧ M + 80 ≤ C ∧ Inv d ∧ ∀ F2, gaP d F F2 → K none (wc h0 C F2)
theorem c_gatherGraded {h0 : Hp} {C M : Nat} {F : Nat → Nat → Int} {d : Dd} {K : RT} (h1 : isCa h0 C) (h2 : Ms h0 M d) (h3 : M + 80 ≤ C) (h4 : Inv d) (h5 : ∀ F2, gaP d F F2 → K none (wc h0 C F2)) : T_X0_gatherGraded [vr (some C), vr (some M)] (wc h0 C F) K := ⟨h0, C, M, F, d, rfl, rfl, h1, h2, h3, h4, h5⟩
theorem Ms.wc {h : Hp} {M C : Nat} {d : Dd} {F : Nat → Nat → Int} (H : Ms h M d) (n : M + 80 ≤ C) : Ms (wc h C F) M d := ⟨H.1, H.2.1, H.2.2.1, fun m hm => ⟨(H.2.2.2 m hm).1, (H.2.2.2 m hm).2.1.wc (by omega), (H.2.2.2 m hm).2.2⟩⟩
abbrev i_X0_gatherGraded : MI := (cX0_gatherGraded, 3, RX0, none, "gatherGraded", 4)
theorem k_X0_gatherGraded_0 : Okop i_X0_gatherGraded 0 (o_al 0) 1 := k_aln (j := 0) (by decide +kernel)
theorem k_X0_gatherGraded_1 : Okop i_X0_gatherGraded 1 (o_c 0) 2 := k_iconst (by decide +kernel)
theorem k_X0_gatherGraded_2 : Okop i_X0_gatherGraded 2 (o_pi 0 1) 5 := k_pi (idx := 55) fo_0 (by decide) (by decide) gw_231 (by decide +kernel) (.inl rfl)
theorem k_X0_gatherGraded_5 : Okop i_X0_gatherGraded 5 (o_c 0) 6 := k_iconst (by decide +kernel)
theorem k_X0_gatherGraded_6 : Okop i_X0_gatherGraded 6 (o_is 2) 7 := k_isn (j := 2) (by decide +kernel) (by decide)
theorem k_X0_gatherGraded_7 : Okop i_X0_gatherGraded 7 (o_il 2) 8 := k_iln (j := 2) (by decide +kernel)
theorem k_X0_gatherGraded_8 : Okop i_X0_gatherGraded 8 (o_c 12) 10 := k_bipush (by decide +kernel) rfl
theorem k_X0_gatherGraded_10 : Okop i_X0_gatherGraded 10 (o_ige 57) 13 := k_ige (off := 47) (by decide +kernel) (by decide)
theorem k_X0_gatherGraded_13 : Okop i_X0_gatherGraded 13 (o_al 1) 14 := k_aln (j := 1) (by decide +kernel)
theorem k_X0_gatherGraded_14 : Okop i_X0_gatherGraded 14 (o_il 2) 15 := k_iln (j := 2) (by decide +kernel)
theorem k_X0_gatherGraded_15 : Okop i_X0_gatherGraded 15 (o_aald) 16 := k_aald (by decide +kernel)
theorem k_X0_gatherGraded_16 : Okop i_X0_gatherGraded 16 (o_callV 4 0 T_X4_isGraded) 19 := k_callV (idx := 58) (r0 := (RX4, TX4, 13)) m_X4_isGraded ⟨gw_545, gw_3, ⟨by decide, by decide, by decide +kernel⟩, by decide, by decide⟩ rfl gw_542 gw_543 gw_544 (by decide +kernel)
theorem k_X0_gatherGraded_19 : Okop i_X0_gatherGraded 19 (o_eq0 51) 22 := k_eq0 (off := 32) (by decide +kernel) (by decide)
theorem k_X0_gatherGraded_22 : Okop i_X0_gatherGraded 22 (o_al 0) 23 := k_aln (j := 0) (by decide +kernel)
theorem k_X0_gatherGraded_23 : Okop i_X0_gatherGraded 23 (o_gi 0 1) 26 := k_gi (idx := 55) fo_0 (by decide) (by decide) gw_231 (by decide +kernel)
theorem k_X0_gatherGraded_26 : Okop i_X0_gatherGraded 26 (o_c 8) 28 := k_bipush (by decide +kernel) rfl
theorem k_X0_gatherGraded_28 : Okop i_X0_gatherGraded 28 (o_ige 51) 31 := k_ige (off := 23) (by decide +kernel) (by decide)
theorem k_X0_gatherGraded_31 : Okop i_X0_gatherGraded 31 (o_al 0) 32 := k_aln (j := 0) (by decide +kernel)
theorem k_X0_gatherGraded_32 : Okop i_X0_gatherGraded 32 (o_gr 0 0) 35 := k_gr (idx := 9) fo_0 (by decide) (by decide) gw_230 (by decide +kernel)
theorem k_X0_gatherGraded_35 : Okop i_X0_gatherGraded 35 (o_al 0) 36 := k_aln (j := 0) (by decide +kernel)
theorem k_X0_gatherGraded_36 : Okop i_X0_gatherGraded 36 (o_gi 0 1) 39 := k_gi (idx := 55) fo_0 (by decide) (by decide) gw_231 (by decide +kernel)
theorem k_X0_gatherGraded_39 : Okop i_X0_gatherGraded 39 (o_il 2) 40 := k_iln (j := 2) (by decide +kernel)
theorem k_X0_gatherGraded_40 : Okop i_X0_gatherGraded 40 (o_iast) 41 := k_iast (by decide +kernel)
theorem k_X0_gatherGraded_41 : Okop i_X0_gatherGraded 41 (o_al 0) 42 := k_aln (j := 0) (by decide +kernel)
theorem k_X0_gatherGraded_42 : Okop i_X0_gatherGraded 42 (o_dup) 43 := k_dup (by decide +kernel)
theorem k_X0_gatherGraded_43 : Okop i_X0_gatherGraded 43 (o_gi 0 1) 46 := k_gi (idx := 55) fo_0 (by decide) (by decide) gw_231 (by decide +kernel)
theorem k_X0_gatherGraded_46 : Okop i_X0_gatherGraded 46 (o_c 1) 47 := k_iconst (by decide +kernel)
theorem k_X0_gatherGraded_47 : Okop i_X0_gatherGraded 47 (o_add) 48 := k_add (by decide +kernel)
theorem k_X0_gatherGraded_48 : Okop i_X0_gatherGraded 48 (o_pi 0 1) 51 := k_pi (idx := 55) fo_0 (by decide) (by decide) gw_231 (by decide +kernel) (.inl rfl)
theorem k_X0_gatherGraded_51 : Okop i_X0_gatherGraded 51 (o_inc 2 1) 54 := k_inc (by decide +kernel) (by decide)
theorem k_X0_gatherGraded_54 : Okop i_X0_gatherGraded 54 (o_go 7) 57 := k_go (off := -47) (by decide +kernel) (by decide)
theorem k_X0_gatherGraded_57 : Okop i_X0_gatherGraded 57 (o_al 0) 58 := k_aln (j := 0) (by decide +kernel)
theorem k_X0_gatherGraded_58 : Okop i_X0_gatherGraded 58 (o_gr 0 5) 61 := k_gr (idx := 21) fo_0 (by decide) (by decide) gw_235 (by decide +kernel)
theorem k_X0_gatherGraded_61 : Okop i_X0_gatherGraded 61 (o_al 0) 62 := k_aln (j := 0) (by decide +kernel)
theorem k_X0_gatherGraded_62 : Okop i_X0_gatherGraded 62 (o_gi 0 1) 65 := k_gi (idx := 55) fo_0 (by decide) (by decide) gw_231 (by decide +kernel)
theorem k_X0_gatherGraded_65 : Okop i_X0_gatherGraded 65 (o_c 0) 66 := k_iconst (by decide +kernel)
theorem k_X0_gatherGraded_66 : Okop i_X0_gatherGraded 66 (o_iast) 67 := k_iast (by decide +kernel)
theorem k_X0_gatherGraded_67 : Okop i_X0_gatherGraded 67 (o_al 0) 68 := k_aln (j := 0) (by decide +kernel)
theorem k_X0_gatherGraded_68 : Okop i_X0_gatherGraded 68 (o_gi 0 1) 71 := k_gi (idx := 55) fo_0 (by decide) (by decide) gw_231 (by decide +kernel)
theorem k_X0_gatherGraded_71 : Okop i_X0_gatherGraded 71 (o_c 1) 72 := k_iconst (by decide +kernel)
theorem k_X0_gatherGraded_72 : Okop i_X0_gatherGraded 72 (o_sub) 73 := k_sub (by decide +kernel)
theorem k_X0_gatherGraded_73 : Okop i_X0_gatherGraded 73 (o_is 2) 74 := k_isn (j := 2) (by decide +kernel) (by decide)
theorem k_X0_gatherGraded_74 : Okop i_X0_gatherGraded 74 (o_il 2) 75 := k_iln (j := 2) (by decide +kernel)
theorem k_X0_gatherGraded_75 : Okop i_X0_gatherGraded 75 (o_lt0 110) 78 := k_lt0 (off := 35) (by decide +kernel) (by decide)
theorem k_X0_gatherGraded_78 : Okop i_X0_gatherGraded 78 (o_al 0) 79 := k_aln (j := 0) (by decide +kernel)
theorem k_X0_gatherGraded_79 : Okop i_X0_gatherGraded 79 (o_gr 0 5) 82 := k_gr (idx := 21) fo_0 (by decide) (by decide) gw_235 (by decide +kernel)
theorem k_X0_gatherGraded_82 : Okop i_X0_gatherGraded 82 (o_il 2) 83 := k_iln (j := 2) (by decide +kernel)
theorem k_X0_gatherGraded_83 : Okop i_X0_gatherGraded 83 (o_al 0) 84 := k_aln (j := 0) (by decide +kernel)
theorem k_X0_gatherGraded_84 : Okop i_X0_gatherGraded 84 (o_gr 0 5) 87 := k_gr (idx := 21) fo_0 (by decide) (by decide) gw_235 (by decide +kernel)
theorem k_X0_gatherGraded_87 : Okop i_X0_gatherGraded 87 (o_il 2) 88 := k_iln (j := 2) (by decide +kernel)
theorem k_X0_gatherGraded_88 : Okop i_X0_gatherGraded 88 (o_c 1) 89 := k_iconst (by decide +kernel)
theorem k_X0_gatherGraded_89 : Okop i_X0_gatherGraded 89 (o_add) 90 := k_add (by decide +kernel)
theorem k_X0_gatherGraded_90 : Okop i_X0_gatherGraded 90 (o_iald) 91 := k_iald (by decide +kernel)
theorem k_X0_gatherGraded_91 : Okop i_X0_gatherGraded 91 (o_al 1) 92 := k_aln (j := 1) (by decide +kernel)
theorem k_X0_gatherGraded_92 : Okop i_X0_gatherGraded 92 (o_al 0) 93 := k_aln (j := 0) (by decide +kernel)
theorem k_X0_gatherGraded_93 : Okop i_X0_gatherGraded 93 (o_gr 0 0) 96 := k_gr (idx := 9) fo_0 (by decide) (by decide) gw_230 (by decide +kernel)
theorem k_X0_gatherGraded_96 : Okop i_X0_gatherGraded 96 (o_il 2) 97 := k_iln (j := 2) (by decide +kernel)
theorem k_X0_gatherGraded_97 : Okop i_X0_gatherGraded 97 (o_iald) 98 := k_iald (by decide +kernel)
theorem k_X0_gatherGraded_98 : Okop i_X0_gatherGraded 98 (o_aald) 99 := k_aald (by decide +kernel)
theorem k_X0_gatherGraded_99 : Okop i_X0_gatherGraded 99 (o_call 1 T_X0_leastPrice) 102 := k_call (idx := 64) m_X0_leastPrice ⟨gw_548, gw_9, ⟨by decide, by decide, by decide +kernel⟩, by decide, by decide⟩ gw_546 gw_547 (by decide +kernel)
theorem k_X0_gatherGraded_102 : Okop i_X0_gatherGraded 102 (o_add) 103 := k_add (by decide +kernel)
theorem k_X0_gatherGraded_103 : Okop i_X0_gatherGraded 103 (o_iast) 104 := k_iast (by decide +kernel)
theorem k_X0_gatherGraded_104 : Okop i_X0_gatherGraded 104 (o_inc 2 (-1)) 107 := k_inc (by decide +kernel) (by decide)
theorem k_X0_gatherGraded_107 : Okop i_X0_gatherGraded 107 (o_go 74) 110 := k_go (off := -33) (by decide +kernel) (by decide)
theorem k_X0_gatherGraded_110 : Okop i_X0_gatherGraded 110 (o_vret) 111 := k_vret (by decide +kernel) rfl
theorem s_X0_gatherGraded_0 : Seg i_X0_gatherGraded 0 [o_al 0, o_c 0, o_pi 0 1, o_c 0, o_is 2] 7 := Seg.cons k_X0_gatherGraded_0 (Seg.cons k_X0_gatherGraded_1 (Seg.cons k_X0_gatherGraded_2 (Seg.cons k_X0_gatherGraded_5 (Seg.cons k_X0_gatherGraded_6 (Seg.nil)))))
theorem s_X0_gatherGraded_7 : Seg i_X0_gatherGraded 7 [o_il 2, o_c 12, o_ige 57, o_al 1, o_il 2, o_aald, o_callV 4 0 T_X4_isGraded, o_eq0 51, o_al 0, o_gi 0 1, o_c 8, o_ige 51, o_al 0, o_gr 0 0, o_al 0, o_gi 0 1, o_il 2, o_iast, o_al 0, o_dup, o_gi 0 1, o_c 1, o_add, o_pi 0 1, o_inc 2 1, o_go 7] 57 := Seg.cons k_X0_gatherGraded_7 (Seg.cons k_X0_gatherGraded_8 (Seg.cons k_X0_gatherGraded_10 (Seg.cons k_X0_gatherGraded_13 (Seg.cons k_X0_gatherGraded_14 (Seg.cons k_X0_gatherGraded_15 (Seg.cons k_X0_gatherGraded_16 (Seg.cons k_X0_gatherGraded_19 (Seg.cons k_X0_gatherGraded_22 (Seg.cons k_X0_gatherGraded_23 (Seg.cons k_X0_gatherGraded_26 (Seg.cons k_X0_gatherGraded_28 (Seg.cons k_X0_gatherGraded_31 (Seg.cons k_X0_gatherGraded_32 (Seg.cons k_X0_gatherGraded_35 (Seg.cons k_X0_gatherGraded_36 (Seg.cons k_X0_gatherGraded_39 (Seg.cons k_X0_gatherGraded_40 (Seg.cons k_X0_gatherGraded_41 (Seg.cons k_X0_gatherGraded_42 (Seg.cons k_X0_gatherGraded_43 (Seg.cons k_X0_gatherGraded_46 (Seg.cons k_X0_gatherGraded_47 (Seg.cons k_X0_gatherGraded_48 (Seg.cons k_X0_gatherGraded_51 (Seg.cons k_X0_gatherGraded_54 (Seg.nil))))))))))))))))))))))))))
theorem s_X0_gatherGraded_51 : Seg i_X0_gatherGraded 51 [o_inc 2 1, o_go 7] 57 := Seg.cons k_X0_gatherGraded_51 (Seg.cons k_X0_gatherGraded_54 (Seg.nil))
theorem s_X0_gatherGraded_57 : Seg i_X0_gatherGraded 57 [o_al 0, o_gr 0 5, o_al 0, o_gi 0 1, o_c 0, o_iast, o_al 0, o_gi 0 1, o_c 1, o_sub, o_is 2] 74 := Seg.cons k_X0_gatherGraded_57 (Seg.cons k_X0_gatherGraded_58 (Seg.cons k_X0_gatherGraded_61 (Seg.cons k_X0_gatherGraded_62 (Seg.cons k_X0_gatherGraded_65 (Seg.cons k_X0_gatherGraded_66 (Seg.cons k_X0_gatherGraded_67 (Seg.cons k_X0_gatherGraded_68 (Seg.cons k_X0_gatherGraded_71 (Seg.cons k_X0_gatherGraded_72 (Seg.cons k_X0_gatherGraded_73 (Seg.nil)))))))))))
theorem s_X0_gatherGraded_74 : Seg i_X0_gatherGraded 74 [o_il 2, o_lt0 110, o_al 0, o_gr 0 5, o_il 2, o_al 0, o_gr 0 5, o_il 2, o_c 1, o_add, o_iald, o_al 1, o_al 0, o_gr 0 0, o_il 2, o_iald, o_aald, o_call 1 T_X0_leastPrice, o_add, o_iast, o_inc 2 (-1), o_go 74] 110 := Seg.cons k_X0_gatherGraded_74 (Seg.cons k_X0_gatherGraded_75 (Seg.cons k_X0_gatherGraded_78 (Seg.cons k_X0_gatherGraded_79 (Seg.cons k_X0_gatherGraded_82 (Seg.cons k_X0_gatherGraded_83 (Seg.cons k_X0_gatherGraded_84 (Seg.cons k_X0_gatherGraded_87 (Seg.cons k_X0_gatherGraded_88 (Seg.cons k_X0_gatherGraded_89 (Seg.cons k_X0_gatherGraded_90 (Seg.cons k_X0_gatherGraded_91 (Seg.cons k_X0_gatherGraded_92 (Seg.cons k_X0_gatherGraded_93 (Seg.cons k_X0_gatherGraded_96 (Seg.cons k_X0_gatherGraded_97 (Seg.cons k_X0_gatherGraded_98 (Seg.cons k_X0_gatherGraded_99 (Seg.cons k_X0_gatherGraded_102 (Seg.cons k_X0_gatherGraded_103 (Seg.cons k_X0_gatherGraded_104 (Seg.cons k_X0_gatherGraded_107 (Seg.nil))))))))))))))))))))))
theorem s_X0_gatherGraded_110 : Seg i_X0_gatherGraded 110 [o_vret] 111 := Seg.cons k_X0_gatherGraded_110 (Seg.nil)

theorem m_X0_gatherGraded : Mth yX0_gatherGraded cX0_gatherGraded 3 none 4 (Sp0 T_X0_gatherGraded) := by
  refine Mth.of (by decide) ?_
  rintro x as h ok ⟨h0, C, M, F, d, rfl, rfl, hC, hM, hMC, hI, hK⟩
  obtain ⟨k0, r0, r2, r3, r5, r6, r7, k1, l1, k2, l2, k3, l3, k4, l4, -⟩ := id hC
  refine ⟨Nat.le_of_ble_eq_true rfl, ?_⟩
  have hgk := gk_le hI
  have loop2 : ∀ n, n ≤ gk d → ∀ F2 : Nat → Nat → Int, (F2 0) 1 = (gk d : Int) ∧ (∀ j, j ≠ 1 → F2 0 j = F 0 j) ∧ (∀ i, i < gk d → F2 1 i = (gl d i : Int)) ∧ (∀ i, n ≤ i → i ≤ gk d → F2 4 i = rst d i) ∧ F2 2 = F 2 ∧ F2 3 = F 3 ∧ F2 5 = F 5 ∧ F2 6 = F 6 → V i_X0_gatherGraded x 74 [some (vr (some C)), some (vr (some M)), some (vi ((n : Int) - 1))] [] (wc h0 C F2) (0, 0) := by
    intro n
    induction n with
    | zero =>
      intro _ F2 h2
      refine s_X0_gatherGraded_74 x ok _ _ _ _ ?_
      simp only [wpS, o_c, o_cl, o_il, o_ll, o_al, o_is, o_ls, o_as, o_inc, o_add, o_sub, o_mul, o_and, o_or, o_xor, o_shl, o_shr, o_div, o_neg, o_ladd, o_lsub, o_lmul, o_ldiv, o_lrem, o_lneg, o_lcmp, o_i2l, o_l2i, o_dup, o_dup2, o_pop, o_go, o_nn, o_sw, swc, o_iret, o_zret, o_lret, o_vret, o_ieq, o_eq0, o_ine, o_ne0, o_ilt, o_lt0, o_ige, o_ge0, o_igt, o_gt0, o_ile, o_le0, o_iald, o_zald, o_lald, o_aald, o_iast, o_zast, o_last, o_aast, o_alen, o_gi, o_gr, o_pi, o_pz, o_pr, o_new, o_newa, o_copy, o_oinit, o_call, o_callV, o_callVc, o_callI, popn, cnO, o_BAD, lgt, lst, isL, kil, st1, st2, entL, List.length_nil, List.length_cons, List.replicate, Nat.reduceAdd, Nat.reduceLeDiff, Nat.reduceSub, true_and, and_true, Nat.zero_le, ne_eq, qk_wi, ql_wi, qr_wi, qj_wi, qt_wi, qk_wj, ql_wj, qr_wj, qi_wj, qt_wj, qk_wr, ql_wr, qi_wr, qj_wr, qt_wr, qi_ws, qj_ws, qr_ws, Int.toNat_natCast, Int.toNat_zero, Int.reduceToNat, not_true_eq_false, not_false_eq_true, false_implies, implies_true, Option.some.injEq, reduceCtorEq, Sp0, true_or, or_true, or_self, wi_wi, wj_wj]
      repeat' (first | (with_reducible refine And.intro ?_ ?_) | (with_reducible intro))
      all_goals (try (first | assumption | omega | (unfold inI; omega)))
      all_goals (try ((first | (refine s_X0_gatherGraded_0 x ok _ _ _ _ ?_) | (refine s_X0_gatherGraded_51 x ok _ _ _ _ ?_) | (refine s_X0_gatherGraded_57 x ok _ _ _ _ ?_) | (refine s_X0_gatherGraded_110 x ok _ _ _ _ ?_)); (try simp only [wpS, o_c, o_cl, o_il, o_ll, o_al, o_is, o_ls, o_as, o_inc, o_add, o_sub, o_mul, o_and, o_or, o_xor, o_shl, o_shr, o_div, o_neg, o_ladd, o_lsub, o_lmul, o_ldiv, o_lrem, o_lneg, o_lcmp, o_i2l, o_l2i, o_dup, o_dup2, o_pop, o_go, o_nn, o_sw, swc, o_iret, o_zret, o_lret, o_vret, o_ieq, o_eq0, o_ine, o_ne0, o_ilt, o_lt0, o_ige, o_ge0, o_igt, o_gt0, o_ile, o_le0, o_iald, o_zald, o_lald, o_aald, o_iast, o_zast, o_last, o_aast, o_alen, o_gi, o_gr, o_pi, o_pz, o_pr, o_new, o_newa, o_copy, o_oinit, o_call, o_callV, o_callVc, o_callI, popn, cnO, o_BAD, lgt, lst, isL, kil, st1, st2, entL, List.length_nil, List.length_cons, List.replicate, Nat.reduceAdd, Nat.reduceLeDiff, Nat.reduceSub, true_and, and_true, Nat.zero_le, ne_eq, qk_wi, ql_wi, qr_wi, qj_wi, qt_wi, qk_wj, ql_wj, qr_wj, qi_wj, qt_wj, qk_wr, ql_wr, qi_wr, qj_wr, qt_wr, qi_ws, qj_ws, qr_ws, Int.toNat_natCast, Int.toNat_zero, Int.reduceToNat, not_true_eq_false, not_false_eq_true, false_implies, implies_true, Option.some.injEq, reduceCtorEq, Sp0, true_or, or_true, or_self, wi_wi, wj_wj]); (repeat' (first | (with_reducible refine And.intro ?_ ?_) | (with_reducible intro))); (all_goals (try (first | assumption | omega | (unfold inI; omega))))))
      exact hK F2 ⟨h2.1, h2.2.1, h2.2.2.1, fun i hi => h2.2.2.2.1 i (by omega) hi, h2.2.2.2.2⟩
    | succ n ih =>
      intro hn F2 h2
      obtain ⟨g1, g2⟩ := gl_ok (d := d) (i := n) (by omega)
      have hMm := (hM.wc (F := F2) hMC).2.2.2 _ g1
      have e1 : ((n + 1 : Nat) : Int) - 1 = (n : Int) := by push_cast; omega
      have e2 : F2 4 (n + 1) = rst d (n + 1) := h2.2.2.2.1 (n + 1) (by omega) (by omega)
      have e3 : F2 1 n = (gl d n : Int) := h2.2.2.1 n (by omega)
      rw [e1]
      refine s_X0_gatherGraded_74 x ok _ _ _ _ ?_
      simp only [wpS, o_c, o_cl, o_il, o_ll, o_al, o_is, o_ls, o_as, o_inc, o_add, o_sub, o_mul, o_and, o_or, o_xor, o_shl, o_shr, o_div, o_neg, o_ladd, o_lsub, o_lmul, o_ldiv, o_lrem, o_lneg, o_lcmp, o_i2l, o_l2i, o_dup, o_dup2, o_pop, o_go, o_nn, o_sw, swc, o_iret, o_zret, o_lret, o_vret, o_ieq, o_eq0, o_ine, o_ne0, o_ilt, o_lt0, o_ige, o_ge0, o_igt, o_gt0, o_ile, o_le0, o_iald, o_zald, o_lald, o_aald, o_iast, o_zast, o_last, o_aast, o_alen, o_gi, o_gr, o_pi, o_pz, o_pr, o_new, o_newa, o_copy, o_oinit, o_call, o_callV, o_callVc, o_callI, popn, cnO, o_BAD, lgt, lst, isL, kil, st1, st2, entL, List.length_nil, List.length_cons, List.replicate, Nat.reduceAdd, Nat.reduceLeDiff, Nat.reduceSub, true_and, and_true, Nat.zero_le, ne_eq, qk_wi, ql_wi, qr_wi, qj_wi, qt_wi, qk_wj, ql_wj, qr_wj, qi_wj, qt_wj, qk_wr, ql_wr, qi_wr, qj_wr, qt_wr, qi_ws, qj_ws, qr_ws, Int.toNat_natCast, Int.toNat_zero, Int.reduceToNat, not_true_eq_false, not_false_eq_true, false_implies, implies_true, Option.some.injEq, reduceCtorEq, Sp0, true_or, or_true, or_self, wi_wi, wj_wj, qk_wc, ql_wc, qr_wc, qc_1, qc_4, k0, r0, r5, k1, l1, k4, l4, e2, e3, hM.1, hM.2.1, hM.2.2.1 _ g1, show ((n : Int) + 1).toNat = n + 1 by omega]
      repeat' (first | (with_reducible refine And.intro ?_ ?_) | (with_reducible intro))
      all_goals (try (first | assumption | omega | (unfold inI; omega)))
      refine c_leastPrice hMm ?_
      simp only [wpS, o_c, o_cl, o_il, o_ll, o_al, o_is, o_ls, o_as, o_inc, o_add, o_sub, o_mul, o_and, o_or, o_xor, o_shl, o_shr, o_div, o_neg, o_ladd, o_lsub, o_lmul, o_ldiv, o_lrem, o_lneg, o_lcmp, o_i2l, o_l2i, o_dup, o_dup2, o_pop, o_go, o_nn, o_sw, swc, o_iret, o_zret, o_lret, o_vret, o_ieq, o_eq0, o_ine, o_ne0, o_ilt, o_lt0, o_ige, o_ge0, o_igt, o_gt0, o_ile, o_le0, o_iald, o_zald, o_lald, o_aald, o_iast, o_zast, o_last, o_aast, o_alen, o_gi, o_gr, o_pi, o_pz, o_pr, o_new, o_newa, o_copy, o_oinit, o_call, o_callV, o_callVc, o_callI, popn, cnO, o_BAD, lgt, lst, isL, kil, st1, st2, entL, List.length_nil, List.length_cons, List.replicate, Nat.reduceAdd, Nat.reduceLeDiff, Nat.reduceSub, true_and, and_true, Nat.zero_le, ne_eq, qk_wi, ql_wi, qr_wi, qj_wi, qt_wi, qk_wj, ql_wj, qr_wj, qi_wj, qt_wj, qk_wr, ql_wr, qi_wr, qj_wr, qt_wr, qi_ws, qj_ws, qr_ws, Int.toNat_natCast, Int.toNat_zero, Int.reduceToNat, not_true_eq_false, not_false_eq_true, false_implies, implies_true, Option.some.injEq, reduceCtorEq, Sp0, true_or, or_true, or_self, wi_wi, wj_wj, qk_wc, ql_wc, qr_wc, qc_4, wc_4, k4, l4]
      repeat' (first | (with_reducible refine And.intro ?_ ?_) | (with_reducible intro))
      all_goals (try (first | assumption | omega | (unfold inI; omega)))
      have := ih (by omega) (fr F2 4 (fu (F2 4) n (rst d n))) ⟨h2.1, h2.2.1, h2.2.2.1, fun i h1 h3 => by
        show fu (F2 4) n (rst d n) i = _
        unfold fu
        by_cases q : i = n
        · rw [if_pos q, q]
        · rw [if_neg q]; exact h2.2.2.2.1 i (by omega) h3, h2.2.2.2.2⟩
      rw [rst_s (by omega)] at this
      exact this
  have loop : ∀ j, j ≤ 12 → ∀ F2 : Nat → Nat → Int, (F2 0) 1 = ((gls d j).length : Int) ∧ (∀ j, j ≠ 1 → F2 0 j = F 0 j) ∧ (∀ i, i < (gls d j).length → F2 1 i = ((gls d j).getD i 0 : Int)) ∧ F2 2 = F 2 ∧ F2 3 = F 3 ∧ F2 5 = F 5 ∧ F2 6 = F 6 → V i_X0_gatherGraded x 7 [some (vr (some C)), some (vr (some M)), some (vi j)] [] (wc h0 C F2) (0, 0) := by
    refine bwd _ ?_ ?_
    · intro F2 h2
      refine s_X0_gatherGraded_7 x ok _ _ _ _ ?_
      simp only [wpS, o_c, o_cl, o_il, o_ll, o_al, o_is, o_ls, o_as, o_inc, o_add, o_sub, o_mul, o_and, o_or, o_xor, o_shl, o_shr, o_div, o_neg, o_ladd, o_lsub, o_lmul, o_ldiv, o_lrem, o_lneg, o_lcmp, o_i2l, o_l2i, o_dup, o_dup2, o_pop, o_go, o_nn, o_sw, swc, o_iret, o_zret, o_lret, o_vret, o_ieq, o_eq0, o_ine, o_ne0, o_ilt, o_lt0, o_ige, o_ge0, o_igt, o_gt0, o_ile, o_le0, o_iald, o_zald, o_lald, o_aald, o_iast, o_zast, o_last, o_aast, o_alen, o_gi, o_gr, o_pi, o_pz, o_pr, o_new, o_newa, o_copy, o_oinit, o_call, o_callV, o_callVc, o_callI, popn, cnO, o_BAD, lgt, lst, isL, kil, st1, st2, entL, List.length_nil, List.length_cons, List.replicate, Nat.reduceAdd, Nat.reduceLeDiff, Nat.reduceSub, true_and, and_true, Nat.zero_le, ne_eq, qk_wi, ql_wi, qr_wi, qj_wi, qt_wi, qk_wj, ql_wj, qr_wj, qi_wj, qt_wj, qk_wr, ql_wr, qi_wr, qj_wr, qt_wr, qi_ws, qj_ws, qr_ws, Int.toNat_natCast, Int.toNat_zero, Int.reduceToNat, not_true_eq_false, not_false_eq_true, false_implies, implies_true, Option.some.injEq, reduceCtorEq, Sp0, true_or, or_true, or_self, wi_wi, wj_wj]
      repeat' (first | (with_reducible refine And.intro ?_ ?_) | (with_reducible intro))
      all_goals (try (first | assumption | omega | (unfold inI; omega)))
      have hc : F2 0 1 = (gk d : Int) := h2.1
      all_goals (try ((first | (refine s_X0_gatherGraded_0 x ok _ _ _ _ ?_) | (refine s_X0_gatherGraded_51 x ok _ _ _ _ ?_) | (refine s_X0_gatherGraded_57 x ok _ _ _ _ ?_) | (refine s_X0_gatherGraded_110 x ok _ _ _ _ ?_)); (try simp only [wpS, o_c, o_cl, o_il, o_ll, o_al, o_is, o_ls, o_as, o_inc, o_add, o_sub, o_mul, o_and, o_or, o_xor, o_shl, o_shr, o_div, o_neg, o_ladd, o_lsub, o_lmul, o_ldiv, o_lrem, o_lneg, o_lcmp, o_i2l, o_l2i, o_dup, o_dup2, o_pop, o_go, o_nn, o_sw, swc, o_iret, o_zret, o_lret, o_vret, o_ieq, o_eq0, o_ine, o_ne0, o_ilt, o_lt0, o_ige, o_ge0, o_igt, o_gt0, o_ile, o_le0, o_iald, o_zald, o_lald, o_aald, o_iast, o_zast, o_last, o_aast, o_alen, o_gi, o_gr, o_pi, o_pz, o_pr, o_new, o_newa, o_copy, o_oinit, o_call, o_callV, o_callVc, o_callI, popn, cnO, o_BAD, lgt, lst, isL, kil, st1, st2, entL, List.length_nil, List.length_cons, List.replicate, Nat.reduceAdd, Nat.reduceLeDiff, Nat.reduceSub, true_and, and_true, Nat.zero_le, ne_eq, qk_wi, ql_wi, qr_wi, qj_wi, qt_wi, qk_wj, ql_wj, qr_wj, qi_wj, qt_wj, qk_wr, ql_wr, qi_wr, qj_wr, qt_wr, qi_ws, qj_ws, qr_ws, Int.toNat_natCast, Int.toNat_zero, Int.reduceToNat, not_true_eq_false, not_false_eq_true, false_implies, implies_true, Option.some.injEq, reduceCtorEq, Sp0, true_or, or_true, or_self, wi_wi, wj_wj, qk_wc, ql_wc, qr_wc, qc_0, qc_1, qc_4, wc_4, k0, r5, k4, l4, hc]); (repeat' (first | (with_reducible refine And.intro ?_ ?_) | (with_reducible intro))); (all_goals (try (first | assumption | omega | (unfold inI; omega))))))
      have e0 : fr F2 4 (fu (F2 4) (gk d) 0) 0 1 = (gk d : Int) := hc
      rw [e0]
      exact loop2 (gk d) (Nat.le_refl _) (fr F2 4 (fu (F2 4) (gk d) 0)) ⟨hc, h2.2.1, h2.2.2.1, fun i h1 h3 => by
        have : i = gk d := by omega
        subst this
        show fu (F2 4) _ 0 _ = _
        rw [fu_s]
        unfold rst
        rw [Nat.sub_self]
        rfl, h2.2.2.2⟩
    · intro j hj ih F2 h2
      have hMm := (hM.wc (F := F2) hMC).2.2.2 j hj
      have hlen := gls_mono (d := d) (j + 1) (12 - (j + 1))
      rw [show j + 1 + (12 - (j + 1)) = 12 by omega] at hlen
      have hc := h2.1
      have hlen0 := gls_mono (d := d) j (12 - j)
      rw [show j + (12 - j) = 12 by omega] at hlen0
      refine s_X0_gatherGraded_7 x ok _ _ _ _ ?_
      simp only [wpS, o_c, o_cl, o_il, o_ll, o_al, o_is, o_ls, o_as, o_inc, o_add, o_sub, o_mul, o_and, o_or, o_xor, o_shl, o_shr, o_div, o_neg, o_ladd, o_lsub, o_lmul, o_ldiv, o_lrem, o_lneg, o_lcmp, o_i2l, o_l2i, o_dup, o_dup2, o_pop, o_go, o_nn, o_sw, swc, o_iret, o_zret, o_lret, o_vret, o_ieq, o_eq0, o_ine, o_ne0, o_ilt, o_lt0, o_ige, o_ge0, o_igt, o_gt0, o_ile, o_le0, o_iald, o_zald, o_lald, o_aald, o_iast, o_zast, o_last, o_aast, o_alen, o_gi, o_gr, o_pi, o_pz, o_pr, o_new, o_newa, o_copy, o_oinit, o_call, o_callV, o_callVc, o_callI, popn, cnO, o_BAD, lgt, lst, isL, kil, st1, st2, entL, List.length_nil, List.length_cons, List.replicate, Nat.reduceAdd, Nat.reduceLeDiff, Nat.reduceSub, true_and, and_true, Nat.zero_le, ne_eq, qk_wi, ql_wi, qr_wi, qj_wi, qt_wi, qk_wj, ql_wj, qr_wj, qi_wj, qt_wj, qk_wr, ql_wr, qi_wr, qj_wr, qt_wr, qi_ws, qj_ws, qr_ws, Int.toNat_natCast, Int.toNat_zero, Int.reduceToNat, not_true_eq_false, not_false_eq_true, false_implies, implies_true, Option.some.injEq, reduceCtorEq, Sp0, true_or, or_true, or_self, wi_wi, wj_wj, qk_wc, ql_wc, qr_wc, hM.1, hM.2.1, hM.2.2.1 j hj, hMm.1.1]
      repeat' (first | (with_reducible refine And.intro ?_ ?_) | (with_reducible intro))
      all_goals (try (first | assumption | omega | (unfold inI; omega)))
      refine c_isGraded hMm ⟨fun q => ?_, fun q => ?_⟩
      · have e : gls d (j + 1) = gls d j ++ [j] := by
          show (if gdB d j = true then _ else _) = _
          rw [if_pos (gdB_iff.mpr q)]
        rw [e, List.length_append] at hlen
        simp at hlen
        have hg8 : (gls d 12).length ≤ 8 := gk_le hI
        simp only [wpS, o_c, o_cl, o_il, o_ll, o_al, o_is, o_ls, o_as, o_inc, o_add, o_sub, o_mul, o_and, o_or, o_xor, o_shl, o_shr, o_div, o_neg, o_ladd, o_lsub, o_lmul, o_ldiv, o_lrem, o_lneg, o_lcmp, o_i2l, o_l2i, o_dup, o_dup2, o_pop, o_go, o_nn, o_sw, swc, o_iret, o_zret, o_lret, o_vret, o_ieq, o_eq0, o_ine, o_ne0, o_ilt, o_lt0, o_ige, o_ge0, o_igt, o_gt0, o_ile, o_le0, o_iald, o_zald, o_lald, o_aald, o_iast, o_zast, o_last, o_aast, o_alen, o_gi, o_gr, o_pi, o_pz, o_pr, o_new, o_newa, o_copy, o_oinit, o_call, o_callV, o_callVc, o_callI, popn, cnO, o_BAD, lgt, lst, isL, kil, st1, st2, entL, List.length_nil, List.length_cons, List.replicate, Nat.reduceAdd, Nat.reduceLeDiff, Nat.reduceSub, true_and, and_true, Nat.zero_le, ne_eq, qk_wi, ql_wi, qr_wi, qj_wi, qt_wi, qk_wj, ql_wj, qr_wj, qi_wj, qt_wj, qk_wr, ql_wr, qi_wr, qj_wr, qt_wr, qi_ws, qj_ws, qr_ws, Int.toNat_natCast, Int.toNat_zero, Int.reduceToNat, not_true_eq_false, not_false_eq_true, false_implies, implies_true, Option.some.injEq, reduceCtorEq, Sp0, true_or, or_true, or_self, wi_wi, wj_wj, qk_wc, ql_wc, qr_wc, qc_0, wc_0, qc_1, wc_1, qc_2, wc_2, qc_3, wc_3, qc_4, wc_4, qc_5, wc_5, qc_6, wc_6, fr_a, ↓reduceIte, Nat.reduceEqDiff, k0, r0, k1, l1, hc]
        repeat' (first | (with_reducible refine And.intro ?_ ?_) | (with_reducible intro))
        all_goals (try (first | assumption | omega | (unfold inI; omega)))
        have := ih (fr (fr F2 1 (fu (F2 1) (gls d j).length (j : Int))) 0 (fu (F2 0) 1 (((gls d j).length : Int) + 1))) (by
          rw [e]
          refine ⟨by show fu (F2 0) 1 _ 1 = _; rw [fu_s, List.length_append]; rfl, fun i hi => by show fu (F2 0) 1 _ i = _; rw [fu_n hi]; exact h2.2.1 i hi, fun i hi => ?_, h2.2.2.2⟩
          show fu (F2 1) _ _ i = _
          rw [List.length_append] at hi
          simp at hi
          by_cases q2 : i = (gls d j).length
          · subst q2
            rw [fu_s]
            simp
          · rw [fu_n q2, h2.2.2.1 i (by omega), List.getD_eq_getElem?_getD, List.getD_eq_getElem?_getD, List.getElem?_append_left (by omega)])
        exact this
      · have e : gls d (j + 1) = gls d j := by
          show (if gdB d j = true then _ else _) = _
          rw [if_neg (fun z => q (gdB_iff.mp z))]
        rw [e] at ih
        simp only [wpS, o_c, o_cl, o_il, o_ll, o_al, o_is, o_ls, o_as, o_inc, o_add, o_sub, o_mul, o_and, o_or, o_xor, o_shl, o_shr, o_div, o_neg, o_ladd, o_lsub, o_lmul, o_ldiv, o_lrem, o_lneg, o_lcmp, o_i2l, o_l2i, o_dup, o_dup2, o_pop, o_go, o_nn, o_sw, swc, o_iret, o_zret, o_lret, o_vret, o_ieq, o_eq0, o_ine, o_ne0, o_ilt, o_lt0, o_ige, o_ge0, o_igt, o_gt0, o_ile, o_le0, o_iald, o_zald, o_lald, o_aald, o_iast, o_zast, o_last, o_aast, o_alen, o_gi, o_gr, o_pi, o_pz, o_pr, o_new, o_newa, o_copy, o_oinit, o_call, o_callV, o_callVc, o_callI, popn, cnO, o_BAD, lgt, lst, isL, kil, st1, st2, entL, List.length_nil, List.length_cons, List.replicate, Nat.reduceAdd, Nat.reduceLeDiff, Nat.reduceSub, true_and, and_true, Nat.zero_le, ne_eq, qk_wi, ql_wi, qr_wi, qj_wi, qt_wi, qk_wj, ql_wj, qr_wj, qi_wj, qt_wj, qk_wr, ql_wr, qi_wr, qj_wr, qt_wr, qi_ws, qj_ws, qr_ws, Int.toNat_natCast, Int.toNat_zero, Int.reduceToNat, not_true_eq_false, not_false_eq_true, false_implies, implies_true, Option.some.injEq, reduceCtorEq, Sp0, true_or, or_true, or_self, wi_wi, wj_wj]
        repeat' (first | (with_reducible refine And.intro ?_ ?_) | (with_reducible intro))
        all_goals (try (first | assumption | omega | (unfold inI; omega)))
        all_goals (try ((first | (refine s_X0_gatherGraded_0 x ok _ _ _ _ ?_) | (refine s_X0_gatherGraded_51 x ok _ _ _ _ ?_) | (refine s_X0_gatherGraded_57 x ok _ _ _ _ ?_) | (refine s_X0_gatherGraded_110 x ok _ _ _ _ ?_)); (try simp only [wpS, o_c, o_cl, o_il, o_ll, o_al, o_is, o_ls, o_as, o_inc, o_add, o_sub, o_mul, o_and, o_or, o_xor, o_shl, o_shr, o_div, o_neg, o_ladd, o_lsub, o_lmul, o_ldiv, o_lrem, o_lneg, o_lcmp, o_i2l, o_l2i, o_dup, o_dup2, o_pop, o_go, o_nn, o_sw, swc, o_iret, o_zret, o_lret, o_vret, o_ieq, o_eq0, o_ine, o_ne0, o_ilt, o_lt0, o_ige, o_ge0, o_igt, o_gt0, o_ile, o_le0, o_iald, o_zald, o_lald, o_aald, o_iast, o_zast, o_last, o_aast, o_alen, o_gi, o_gr, o_pi, o_pz, o_pr, o_new, o_newa, o_copy, o_oinit, o_call, o_callV, o_callVc, o_callI, popn, cnO, o_BAD, lgt, lst, isL, kil, st1, st2, entL, List.length_nil, List.length_cons, List.replicate, Nat.reduceAdd, Nat.reduceLeDiff, Nat.reduceSub, true_and, and_true, Nat.zero_le, ne_eq, qk_wi, ql_wi, qr_wi, qj_wi, qt_wi, qk_wj, ql_wj, qr_wj, qi_wj, qt_wj, qk_wr, ql_wr, qi_wr, qj_wr, qt_wr, qi_ws, qj_ws, qr_ws, Int.toNat_natCast, Int.toNat_zero, Int.reduceToNat, not_true_eq_false, not_false_eq_true, false_implies, implies_true, Option.some.injEq, reduceCtorEq, Sp0, true_or, or_true, or_self, wi_wi, wj_wj]); (repeat' (first | (with_reducible refine And.intro ?_ ?_) | (with_reducible intro))); (all_goals (try (first | assumption | omega | (unfold inI; omega))))))
        exact ih F2 h2
  have := loop 0 (by omega) (fr F 0 (fu (F 0) 1 0)) ⟨by show fu (F 0) 1 0 1 = _; rw [fu_s]; rfl, fun j hj => by show fu (F 0) 1 0 j = _; rw [fu_n hj], fun i hi => by simp [gls] at hi, rfl, rfl, rfl, rfl⟩
  all_goals (try ((first | (refine s_X0_gatherGraded_0 x ok _ _ _ _ ?_) | (refine s_X0_gatherGraded_51 x ok _ _ _ _ ?_) | (refine s_X0_gatherGraded_57 x ok _ _ _ _ ?_) | (refine s_X0_gatherGraded_110 x ok _ _ _ _ ?_)); (try simp only [wpS, o_c, o_cl, o_il, o_ll, o_al, o_is, o_ls, o_as, o_inc, o_add, o_sub, o_mul, o_and, o_or, o_xor, o_shl, o_shr, o_div, o_neg, o_ladd, o_lsub, o_lmul, o_ldiv, o_lrem, o_lneg, o_lcmp, o_i2l, o_l2i, o_dup, o_dup2, o_pop, o_go, o_nn, o_sw, swc, o_iret, o_zret, o_lret, o_vret, o_ieq, o_eq0, o_ine, o_ne0, o_ilt, o_lt0, o_ige, o_ge0, o_igt, o_gt0, o_ile, o_le0, o_iald, o_zald, o_lald, o_aald, o_iast, o_zast, o_last, o_aast, o_alen, o_gi, o_gr, o_pi, o_pz, o_pr, o_new, o_newa, o_copy, o_oinit, o_call, o_callV, o_callVc, o_callI, popn, cnO, o_BAD, lgt, lst, isL, kil, st1, st2, entL, List.length_nil, List.length_cons, List.replicate, Nat.reduceAdd, Nat.reduceLeDiff, Nat.reduceSub, true_and, and_true, Nat.zero_le, ne_eq, qk_wi, ql_wi, qr_wi, qj_wi, qt_wi, qk_wj, ql_wj, qr_wj, qi_wj, qt_wj, qk_wr, ql_wr, qi_wr, qj_wr, qt_wr, qi_ws, qj_ws, qr_ws, Int.toNat_natCast, Int.toNat_zero, Int.reduceToNat, not_true_eq_false, not_false_eq_true, false_implies, implies_true, Option.some.injEq, reduceCtorEq, Sp0, true_or, or_true, or_self, wi_wi, wj_wj, qk_wc, qc_0, wc_0, k0]); (repeat' (first | (with_reducible refine And.intro ?_ ?_) | (with_reducible intro))); (all_goals (try (first | assumption | omega | (unfold inI; omega))))))

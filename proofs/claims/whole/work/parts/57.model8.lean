/-! ===== FitBenchModel.over, otherFace ===== -/
theorem clR_rg {d : Dd} (hI : ∀ m, m < 12 → InvM d m) : ∀ n, n ≤ 12 → ∀ k, k < 12 → 0 ≤ (clR d n).1 k ∧ (clR d n).1 k ≤ 11
  | 0, _, k, hk => by show 0 ≤ (k : Int) ∧ (k : Int) ≤ 11; omega
  | n + 1, hn, k, hk => by
    have ih := clR_rg hI n (by omega)
    have hf := (hI n (by omega)).f
    rw [clR_s]
    split
    · exact ih k hk
    · dsimp only
      split
      · exact ih _ (by omega)
      · exact ih k hk
theorem clR_cnt (d : Dd) : ∀ n, 0 ≤ (clR d n).2 ∧ (clR d n).2 ≤ n
  | 0 => by show (0 : Int) ≤ 0 ∧ (0 : Int) ≤ 0; omega
  | n + 1 => by
    have ih := clR_cnt d n
    rw [clR_s]
    split
    · push_cast; omega
    · dsimp only
      push_cast
      split <;> omega
def T_X8_over : TT := fun as h K => ∃ (y : Nat), as = [vr (some y)] ∧ Mo h y ∧ Inv (qi h (y + 1)) ∧ ∀ g : Nat → Int, K (some (vi (clR (qi h (y + 1)) 12).2)) (wi h (y + 6) g)
abbrev i_X8_over : MI := (cX8_over, 6, RX8, (some .int), "over", 2)
theorem k_X8_over_0 : Okop i_X8_over 0 (o_c 0) 1 := k_iconst (by decide +kernel)
theorem k_X8_over_1 : Okop i_X8_over 1 (o_is 1) 2 := k_isn (j := 1) (by decide +kernel) (by decide)
theorem k_X8_over_2 : Okop i_X8_over 2 (o_c 0) 3 := k_iconst (by decide +kernel)
theorem k_X8_over_3 : Okop i_X8_over 3 (o_is 2) 4 := k_isn (j := 2) (by decide +kernel) (by decide)
theorem k_X8_over_4 : Okop i_X8_over 4 (o_il 2) 5 := k_iln (j := 2) (by decide +kernel)
theorem k_X8_over_5 : Okop i_X8_over 5 (o_c 12) 7 := k_bipush (by decide +kernel) rfl
theorem k_X8_over_7 : Okop i_X8_over 7 (o_ige 23) 10 := k_ige (off := 16) (by decide +kernel) (by decide)
theorem k_X8_over_10 : Okop i_X8_over 10 (o_al 0) 11 := k_aln (j := 0) (by decide +kernel)
theorem k_X8_over_11 : Okop i_X8_over 11 (o_gr 8 5) 14 := k_gr (idx := 26) fo_8 (by decide) (by decide) gw_665 (by decide +kernel)
theorem k_X8_over_14 : Okop i_X8_over 14 (o_il 2) 15 := k_iln (j := 2) (by decide +kernel)
theorem k_X8_over_15 : Okop i_X8_over 15 (o_il 2) 16 := k_iln (j := 2) (by decide +kernel)
theorem k_X8_over_16 : Okop i_X8_over 16 (o_iast) 17 := k_iast (by decide +kernel)
theorem k_X8_over_17 : Okop i_X8_over 17 (o_inc 2 1) 20 := k_inc (by decide +kernel) (by decide)
theorem k_X8_over_20 : Okop i_X8_over 20 (o_go 4) 23 := k_go (off := -16) (by decide +kernel) (by decide)
theorem k_X8_over_23 : Okop i_X8_over 23 (o_c 0) 24 := k_iconst (by decide +kernel)
theorem k_X8_over_24 : Okop i_X8_over 24 (o_is 2) 25 := k_isn (j := 2) (by decide +kernel) (by decide)
theorem k_X8_over_25 : Okop i_X8_over 25 (o_il 2) 26 := k_iln (j := 2) (by decide +kernel)
theorem k_X8_over_26 : Okop i_X8_over 26 (o_c 12) 28 := k_bipush (by decide +kernel) rfl
theorem k_X8_over_28 : Okop i_X8_over 28 (o_ige 132) 31 := k_ige (off := 104) (by decide +kernel) (by decide)
theorem k_X8_over_31 : Okop i_X8_over 31 (o_al 0) 32 := k_aln (j := 0) (by decide +kernel)
theorem k_X8_over_32 : Okop i_X8_over 32 (o_gr 8 0) 35 := k_gr (idx := 7) fo_8 (by decide) (by decide) gw_660 (by decide +kernel)
theorem k_X8_over_35 : Okop i_X8_over 35 (o_c 1188) 38 := k_sipush (by decide +kernel) rfl
theorem k_X8_over_38 : Okop i_X8_over 38 (o_il 2) 39 := k_iln (j := 2) (by decide +kernel)
theorem k_X8_over_39 : Okop i_X8_over 39 (o_add) 40 := k_add (by decide +kernel)
theorem k_X8_over_40 : Okop i_X8_over 40 (o_iald) 41 := k_iald (by decide +kernel)
theorem k_X8_over_41 : Okop i_X8_over 41 (o_c (-1)) 42 := k_iconst (by decide +kernel)
theorem k_X8_over_42 : Okop i_X8_over 42 (o_ine 48) 45 := k_ine (off := 6) (by decide +kernel) (by decide)
theorem k_X8_over_45 : Okop i_X8_over 45 (o_go 126) 48 := k_go (off := 81) (by decide +kernel) (by decide)
theorem k_X8_over_48 : Okop i_X8_over 48 (o_al 0) 49 := k_aln (j := 0) (by decide +kernel)
theorem k_X8_over_49 : Okop i_X8_over 49 (o_gr 8 5) 52 := k_gr (idx := 26) fo_8 (by decide) (by decide) gw_665 (by decide +kernel)
theorem k_X8_over_52 : Okop i_X8_over 52 (o_al 0) 53 := k_aln (j := 0) (by decide +kernel)
theorem k_X8_over_53 : Okop i_X8_over 53 (o_gr 8 0) 56 := k_gr (idx := 7) fo_8 (by decide) (by decide) gw_660 (by decide +kernel)
theorem k_X8_over_56 : Okop i_X8_over 56 (o_c 1188) 59 := k_sipush (by decide +kernel) rfl
theorem k_X8_over_59 : Okop i_X8_over 59 (o_il 2) 60 := k_iln (j := 2) (by decide +kernel)
theorem k_X8_over_60 : Okop i_X8_over 60 (o_add) 61 := k_add (by decide +kernel)
theorem k_X8_over_61 : Okop i_X8_over 61 (o_iald) 62 := k_iald (by decide +kernel)
theorem k_X8_over_62 : Okop i_X8_over 62 (o_iald) 63 := k_iald (by decide +kernel)
theorem k_X8_over_63 : Okop i_X8_over 63 (o_is 3) 64 := k_isn (j := 3) (by decide +kernel) (by decide)
theorem k_X8_over_64 : Okop i_X8_over 64 (o_al 0) 65 := k_aln (j := 0) (by decide +kernel)
theorem k_X8_over_65 : Okop i_X8_over 65 (o_gr 8 5) 68 := k_gr (idx := 26) fo_8 (by decide) (by decide) gw_665 (by decide +kernel)
theorem k_X8_over_68 : Okop i_X8_over 68 (o_al 0) 69 := k_aln (j := 0) (by decide +kernel)
theorem k_X8_over_69 : Okop i_X8_over 69 (o_gr 8 0) 72 := k_gr (idx := 7) fo_8 (by decide) (by decide) gw_660 (by decide +kernel)
theorem k_X8_over_72 : Okop i_X8_over 72 (o_c 1200) 75 := k_sipush (by decide +kernel) rfl
theorem k_X8_over_75 : Okop i_X8_over 75 (o_il 2) 76 := k_iln (j := 2) (by decide +kernel)
theorem k_X8_over_76 : Okop i_X8_over 76 (o_add) 77 := k_add (by decide +kernel)
theorem k_X8_over_77 : Okop i_X8_over 77 (o_iald) 78 := k_iald (by decide +kernel)
theorem k_X8_over_78 : Okop i_X8_over 78 (o_iald) 79 := k_iald (by decide +kernel)
theorem k_X8_over_79 : Okop i_X8_over 79 (o_is 4) 81 := k_is (by decide +kernel) (by decide)
theorem k_X8_over_81 : Okop i_X8_over 81 (o_il 3) 82 := k_iln (j := 3) (by decide +kernel)
theorem k_X8_over_82 : Okop i_X8_over 82 (o_il 4) 84 := k_il (by decide +kernel)
theorem k_X8_over_84 : Okop i_X8_over 84 (o_ine 90) 87 := k_ine (off := 6) (by decide +kernel) (by decide)
theorem k_X8_over_87 : Okop i_X8_over 87 (o_inc 1 1) 90 := k_inc (by decide +kernel) (by decide)
theorem k_X8_over_90 : Okop i_X8_over 90 (o_c 0) 91 := k_iconst (by decide +kernel)
theorem k_X8_over_91 : Okop i_X8_over 91 (o_is 5) 93 := k_is (by decide +kernel) (by decide)
theorem k_X8_over_93 : Okop i_X8_over 93 (o_il 5) 95 := k_il (by decide +kernel)
theorem k_X8_over_95 : Okop i_X8_over 95 (o_c 12) 97 := k_bipush (by decide +kernel) rfl
theorem k_X8_over_97 : Okop i_X8_over 97 (o_ige 126) 100 := k_ige (off := 29) (by decide +kernel) (by decide)
theorem k_X8_over_100 : Okop i_X8_over 100 (o_al 0) 101 := k_aln (j := 0) (by decide +kernel)
theorem k_X8_over_101 : Okop i_X8_over 101 (o_gr 8 5) 104 := k_gr (idx := 26) fo_8 (by decide) (by decide) gw_665 (by decide +kernel)
theorem k_X8_over_104 : Okop i_X8_over 104 (o_il 5) 106 := k_il (by decide +kernel)
theorem k_X8_over_106 : Okop i_X8_over 106 (o_iald) 107 := k_iald (by decide +kernel)
theorem k_X8_over_107 : Okop i_X8_over 107 (o_il 4) 109 := k_il (by decide +kernel)
theorem k_X8_over_109 : Okop i_X8_over 109 (o_ine 120) 112 := k_ine (off := 11) (by decide +kernel) (by decide)
theorem k_X8_over_112 : Okop i_X8_over 112 (o_al 0) 113 := k_aln (j := 0) (by decide +kernel)
theorem k_X8_over_113 : Okop i_X8_over 113 (o_gr 8 5) 116 := k_gr (idx := 26) fo_8 (by decide) (by decide) gw_665 (by decide +kernel)
theorem k_X8_over_116 : Okop i_X8_over 116 (o_il 5) 118 := k_il (by decide +kernel)
theorem k_X8_over_118 : Okop i_X8_over 118 (o_il 3) 119 := k_iln (j := 3) (by decide +kernel)
theorem k_X8_over_119 : Okop i_X8_over 119 (o_iast) 120 := k_iast (by decide +kernel)
theorem k_X8_over_120 : Okop i_X8_over 120 (o_inc 5 1) 123 := k_inc (by decide +kernel) (by decide)
theorem k_X8_over_123 : Okop i_X8_over 123 (o_go 93) 126 := k_go (off := -30) (by decide +kernel) (by decide)
theorem k_X8_over_126 : Okop i_X8_over 126 (o_inc 2 1) 129 := k_inc (by decide +kernel) (by decide)
theorem k_X8_over_129 : Okop i_X8_over 129 (o_go 25) 132 := k_go (off := -104) (by decide +kernel) (by decide)
theorem k_X8_over_132 : Okop i_X8_over 132 (o_il 1) 133 := k_iln (j := 1) (by decide +kernel)
theorem k_X8_over_133 : Okop i_X8_over 133 (o_iret) 134 := k_iret (by decide +kernel) rfl
theorem s_X8_over_0 : Seg i_X8_over 0 [o_c 0, o_is 1, o_c 0, o_is 2] 4 := Seg.cons k_X8_over_0 (Seg.cons k_X8_over_1 (Seg.cons k_X8_over_2 (Seg.cons k_X8_over_3 (Seg.nil))))
theorem s_X8_over_4 : Seg i_X8_over 4 [o_il 2, o_c 12, o_ige 23, o_al 0, o_gr 8 5, o_il 2, o_il 2, o_iast, o_inc 2 1, o_go 4] 23 := Seg.cons k_X8_over_4 (Seg.cons k_X8_over_5 (Seg.cons k_X8_over_7 (Seg.cons k_X8_over_10 (Seg.cons k_X8_over_11 (Seg.cons k_X8_over_14 (Seg.cons k_X8_over_15 (Seg.cons k_X8_over_16 (Seg.cons k_X8_over_17 (Seg.cons k_X8_over_20 (Seg.nil))))))))))
theorem s_X8_over_23 : Seg i_X8_over 23 [o_c 0, o_is 2] 25 := Seg.cons k_X8_over_23 (Seg.cons k_X8_over_24 (Seg.nil))
theorem s_X8_over_25 : Seg i_X8_over 25 [o_il 2, o_c 12, o_ige 132, o_al 0, o_gr 8 0, o_c 1188, o_il 2, o_add, o_iald, o_c (-1), o_ine 48, o_go 126] 48 := Seg.cons k_X8_over_25 (Seg.cons k_X8_over_26 (Seg.cons k_X8_over_28 (Seg.cons k_X8_over_31 (Seg.cons k_X8_over_32 (Seg.cons k_X8_over_35 (Seg.cons k_X8_over_38 (Seg.cons k_X8_over_39 (Seg.cons k_X8_over_40 (Seg.cons k_X8_over_41 (Seg.cons k_X8_over_42 (Seg.cons k_X8_over_45 (Seg.nil))))))))))))
theorem s_X8_over_48 : Seg i_X8_over 48 [o_al 0, o_gr 8 5, o_al 0, o_gr 8 0, o_c 1188, o_il 2, o_add, o_iald, o_iald, o_is 3, o_al 0, o_gr 8 5, o_al 0, o_gr 8 0, o_c 1200, o_il 2, o_add, o_iald, o_iald, o_is 4, o_il 3, o_il 4, o_ine 90, o_inc 1 1, o_c 0, o_is 5] 93 := Seg.cons k_X8_over_48 (Seg.cons k_X8_over_49 (Seg.cons k_X8_over_52 (Seg.cons k_X8_over_53 (Seg.cons k_X8_over_56 (Seg.cons k_X8_over_59 (Seg.cons k_X8_over_60 (Seg.cons k_X8_over_61 (Seg.cons k_X8_over_62 (Seg.cons k_X8_over_63 (Seg.cons k_X8_over_64 (Seg.cons k_X8_over_65 (Seg.cons k_X8_over_68 (Seg.cons k_X8_over_69 (Seg.cons k_X8_over_72 (Seg.cons k_X8_over_75 (Seg.cons k_X8_over_76 (Seg.cons k_X8_over_77 (Seg.cons k_X8_over_78 (Seg.cons k_X8_over_79 (Seg.cons k_X8_over_81 (Seg.cons k_X8_over_82 (Seg.cons k_X8_over_84 (Seg.cons k_X8_over_87 (Seg.cons k_X8_over_90 (Seg.cons k_X8_over_91 (Seg.nil))))))))))))))))))))))))))
theorem s_X8_over_90 : Seg i_X8_over 90 [o_c 0, o_is 5] 93 := Seg.cons k_X8_over_90 (Seg.cons k_X8_over_91 (Seg.nil))
theorem s_X8_over_93 : Seg i_X8_over 93 [o_il 5, o_c 12, o_ige 126, o_al 0, o_gr 8 5, o_il 5, o_iald, o_il 4, o_ine 120, o_al 0, o_gr 8 5, o_il 5, o_il 3, o_iast, o_inc 5 1, o_go 93] 126 := Seg.cons k_X8_over_93 (Seg.cons k_X8_over_95 (Seg.cons k_X8_over_97 (Seg.cons k_X8_over_100 (Seg.cons k_X8_over_101 (Seg.cons k_X8_over_104 (Seg.cons k_X8_over_106 (Seg.cons k_X8_over_107 (Seg.cons k_X8_over_109 (Seg.cons k_X8_over_112 (Seg.cons k_X8_over_113 (Seg.cons k_X8_over_116 (Seg.cons k_X8_over_118 (Seg.cons k_X8_over_119 (Seg.cons k_X8_over_120 (Seg.cons k_X8_over_123 (Seg.nil))))))))))))))))
theorem s_X8_over_120 : Seg i_X8_over 120 [o_inc 5 1, o_go 93] 126 := Seg.cons k_X8_over_120 (Seg.cons k_X8_over_123 (Seg.nil))
theorem s_X8_over_126 : Seg i_X8_over 126 [o_inc 2 1, o_go 25] 132 := Seg.cons k_X8_over_126 (Seg.cons k_X8_over_129 (Seg.nil))
theorem s_X8_over_132 : Seg i_X8_over 132 [o_il 1, o_iret] 134 := Seg.cons k_X8_over_132 (Seg.cons k_X8_over_133 (Seg.nil))

theorem m_X8_over : Mth yX8_over cX8_over 6 (some .int) 2 (Sp0 T_X8_over) := by
  refine Mth.of (by decide) ?_
  rintro x as h ok ⟨y, rfl, hM, hI, hK⟩
  refine ⟨Nat.le_of_ble_eq_true rfl, ?_⟩
  have n16 : y + 1 ≠ y + 6 := by omega
  have loop : ∀ j, j ≤ 12 → ∀ (g : Nat → Int) v3 v4 v5, (∀ k, k < 12 → g k = (clR (qi h (y + 1)) j).1 k) → V i_X8_over x 25 [some (vr (some y)), some (vi (clR (qi h (y + 1)) j).2), some (vi j), v3, v4, v5] [] (wi h (y + 6) g) (0, 0) := by
    refine bwd _ ?_ ?_
    · intro g v3 v4 v5 hg
      refine s_X8_over_25 x ok _ _ _ _ ?_
      simp only [wpS, o_c, o_cl, o_il, o_ll, o_al, o_is, o_ls, o_as, o_inc, o_add, o_sub, o_mul, o_and, o_or, o_xor, o_shl, o_shr, o_div, o_neg, o_ladd, o_lsub, o_lmul, o_ldiv, o_lrem, o_lneg, o_lcmp, o_i2l, o_l2i, o_dup, o_dup2, o_pop, o_go, o_nn, o_sw, swc, o_iret, o_zret, o_lret, o_vret, o_ieq, o_eq0, o_ine, o_ne0, o_ilt, o_lt0, o_ige, o_ge0, o_igt, o_gt0, o_ile, o_le0, o_iald, o_zald, o_lald, o_aald, o_iast, o_zast, o_last, o_aast, o_alen, o_gi, o_gr, o_pi, o_pz, o_pr, o_new, o_newa, o_copy, o_oinit, o_call, o_callV, o_callVc, o_callI, popn, cnO, o_BAD, lgt, lst, isL, kil, st1, st2, entL, List.length_nil, List.length_cons, List.replicate, Nat.reduceAdd, Nat.reduceLeDiff, Nat.reduceSub, true_and, and_true, Nat.zero_le, ne_eq, qk_wi, ql_wi, qr_wi, qj_wi, qt_wi, qk_wj, ql_wj, qr_wj, qi_wj, qt_wj, qk_wr, ql_wr, qi_wr, qj_wr, qt_wr, qi_ws, qj_ws, qr_ws, Int.toNat_natCast, Int.toNat_zero, Int.reduceToNat, not_true_eq_false, not_false_eq_true, false_implies, implies_true, Option.some.injEq, reduceCtorEq, Sp0, true_or, or_true, or_self, wi_wi, wj_wj]
      repeat' (first | (with_reducible refine And.intro ?_ ?_) | (with_reducible intro))
      all_goals (try (first | with_reducible assumption | omega | (unfold inI; omega) | (unfold inL; omega) | exact cz_in _ _))
      all_goals (try ((first | (refine s_X8_over_0 x ok _ _ _ _ ?_) | (refine s_X8_over_23 x ok _ _ _ _ ?_) | (refine s_X8_over_48 x ok _ _ _ _ ?_) | (refine s_X8_over_90 x ok _ _ _ _ ?_) | (refine s_X8_over_120 x ok _ _ _ _ ?_) | (refine s_X8_over_126 x ok _ _ _ _ ?_) | (refine s_X8_over_132 x ok _ _ _ _ ?_)); (try simp only [wpS, o_c, o_cl, o_il, o_ll, o_al, o_is, o_ls, o_as, o_inc, o_add, o_sub, o_mul, o_and, o_or, o_xor, o_shl, o_shr, o_div, o_neg, o_ladd, o_lsub, o_lmul, o_ldiv, o_lrem, o_lneg, o_lcmp, o_i2l, o_l2i, o_dup, o_dup2, o_pop, o_go, o_nn, o_sw, swc, o_iret, o_zret, o_lret, o_vret, o_ieq, o_eq0, o_ine, o_ne0, o_ilt, o_lt0, o_ige, o_ge0, o_igt, o_gt0, o_ile, o_le0, o_iald, o_zald, o_lald, o_aald, o_iast, o_zast, o_last, o_aast, o_alen, o_gi, o_gr, o_pi, o_pz, o_pr, o_new, o_newa, o_copy, o_oinit, o_call, o_callV, o_callVc, o_callI, popn, cnO, o_BAD, lgt, lst, isL, kil, st1, st2, entL, List.length_nil, List.length_cons, List.replicate, Nat.reduceAdd, Nat.reduceLeDiff, Nat.reduceSub, true_and, and_true, Nat.zero_le, ne_eq, qk_wi, ql_wi, qr_wi, qj_wi, qt_wi, qk_wj, ql_wj, qr_wj, qi_wj, qt_wj, qk_wr, ql_wr, qi_wr, qj_wr, qt_wr, qi_ws, qj_ws, qr_ws, Int.toNat_natCast, Int.toNat_zero, Int.reduceToNat, not_true_eq_false, not_false_eq_true, false_implies, implies_true, Option.some.injEq, reduceCtorEq, Sp0, true_or, or_true, or_self, wi_wi, wj_wj]); (repeat' (first | (with_reducible refine And.intro ?_ ?_) | (with_reducible intro))); (all_goals (try (first | with_reducible assumption | omega | (unfold inI; omega) | (unfold inL; omega) | exact cz_in _ _)))))
      exact hK g
    · intro j hj ih g v3 v4 v5 hg
      have hf := (hI.1 j hj).f
      have ef : qi h (y + 1) (1188 + j) = df (qi h (y + 1)) j := rfl
      have et : qi h (y + 1) (1200 + j) = dt (qi h (y + 1)) j := rfl
      have hrg := clR_rg hI.1 j (by omega)
      rw [clR_s] at ih
      by_cases q : df (qi h (y + 1)) j = -1
      · rw [if_pos q] at ih
        refine s_X8_over_25 x ok _ _ _ _ ?_
        simp only [wpS, o_c, o_cl, o_il, o_ll, o_al, o_is, o_ls, o_as, o_inc, o_add, o_sub, o_mul, o_and, o_or, o_xor, o_shl, o_shr, o_div, o_neg, o_ladd, o_lsub, o_lmul, o_ldiv, o_lrem, o_lneg, o_lcmp, o_i2l, o_l2i, o_dup, o_dup2, o_pop, o_go, o_nn, o_sw, swc, o_iret, o_zret, o_lret, o_vret, o_ieq, o_eq0, o_ine, o_ne0, o_ilt, o_lt0, o_ige, o_ge0, o_igt, o_gt0, o_ile, o_le0, o_iald, o_zald, o_lald, o_aald, o_iast, o_zast, o_last, o_aast, o_alen, o_gi, o_gr, o_pi, o_pz, o_pr, o_new, o_newa, o_copy, o_oinit, o_call, o_callV, o_callVc, o_callI, popn, cnO, o_BAD, lgt, lst, isL, kil, st1, st2, entL, List.length_nil, List.length_cons, List.replicate, Nat.reduceAdd, Nat.reduceLeDiff, Nat.reduceSub, true_and, and_true, Nat.zero_le, ne_eq, qk_wi, ql_wi, qr_wi, qj_wi, qt_wi, qk_wj, ql_wj, qr_wj, qi_wj, qt_wj, qk_wr, ql_wr, qi_wr, qj_wr, qt_wr, qi_ws, qj_ws, qr_ws, Int.toNat_natCast, Int.toNat_zero, Int.reduceToNat, not_true_eq_false, not_false_eq_true, false_implies, implies_true, Option.some.injEq, reduceCtorEq, Sp0, true_or, or_true, or_self, wi_wi, wj_wj, hM.k, hM.r0, hM.k1, hM.l1, ix0, ix12, ix24, ix36, ix48, ix60, ix1032, ix1044, ix1092, ix1140, ix1188, ix1200, ix1212, ix1284, ix1290, ix1296, ix1298, ix1322, ix1346, ix1358, ixm4, ixm12, ixm24, ixm81, ixm1382, ixadd, Nat.zero_add, qi_wn n16, ef]
        repeat' (first | (with_reducible refine And.intro ?_ ?_) | (with_reducible intro))
        all_goals (try (first | with_reducible assumption | omega | (unfold inI; omega) | (unfold inL; omega) | exact cz_in _ _))
        all_goals (try (exfalso; omega))
        refine s_X8_over_126 x ok _ _ _ _ ?_
        simp only [wpS, o_c, o_cl, o_il, o_ll, o_al, o_is, o_ls, o_as, o_inc, o_add, o_sub, o_mul, o_and, o_or, o_xor, o_shl, o_shr, o_div, o_neg, o_ladd, o_lsub, o_lmul, o_ldiv, o_lrem, o_lneg, o_lcmp, o_i2l, o_l2i, o_dup, o_dup2, o_pop, o_go, o_nn, o_sw, swc, o_iret, o_zret, o_lret, o_vret, o_ieq, o_eq0, o_ine, o_ne0, o_ilt, o_lt0, o_ige, o_ge0, o_igt, o_gt0, o_ile, o_le0, o_iald, o_zald, o_lald, o_aald, o_iast, o_zast, o_last, o_aast, o_alen, o_gi, o_gr, o_pi, o_pz, o_pr, o_new, o_newa, o_copy, o_oinit, o_call, o_callV, o_callVc, o_callI, popn, cnO, o_BAD, lgt, lst, isL, kil, st1, st2, entL, List.length_nil, List.length_cons, List.replicate, Nat.reduceAdd, Nat.reduceLeDiff, Nat.reduceSub, true_and, and_true, Nat.zero_le, ne_eq, qk_wi, ql_wi, qr_wi, qj_wi, qt_wi, qk_wj, ql_wj, qr_wj, qi_wj, qt_wj, qk_wr, ql_wr, qi_wr, qj_wr, qt_wr, qi_ws, qj_ws, qr_ws, Int.toNat_natCast, Int.toNat_zero, Int.reduceToNat, not_true_eq_false, not_false_eq_true, false_implies, implies_true, Option.some.injEq, reduceCtorEq, Sp0, true_or, or_true, or_self, wi_wi, wj_wj]
        repeat' (first | (with_reducible refine And.intro ?_ ?_) | (with_reducible intro))
        all_goals (try (first | with_reducible assumption | omega | (unfold inI; omega) | (unfold inL; omega) | exact cz_in _ _))
        exact ih g _ _ _ hg
      · rw [if_neg q] at ih
        obtain ⟨F, hF, hF2⟩ : ∃ F : Nat, df (qi h (y + 1)) j = (F : Int) ∧ F < 12 := ⟨(df (qi h (y + 1)) j).toNat, by omega, by omega⟩
        obtain ⟨T, hT, hT2⟩ : ∃ F : Nat, dt (qi h (y + 1)) j = (F : Int) ∧ F < 12 := ⟨(dt (qi h (y + 1)) j).toNat, by omega, by omega⟩
        rw [hF, hT, Int.toNat_natCast, Int.toNat_natCast] at ih
        rw [hF] at ef
        rw [hT] at et
        have gF := hg F hF2
        have gT := hg T hT2
        have rF := hrg F hF2
        have rT := hrg T hT2
        generalize hA : (clR (qi h (y + 1)) j).1 F = A at *
        generalize hB : (clR (qi h (y + 1)) j).1 T = B at *
        have inner : ∀ i, i ≤ 12 → ∀ g2 : Nat → Int, (∀ k, k < 12 → g2 k = if k < i then (if (clR (qi h (y + 1)) j).1 k = B then A else (clR (qi h (y + 1)) j).1 k) else (clR (qi h (y + 1)) j).1 k) → V i_X8_over x 93 [some (vr (some y)), some (vi ((clR (qi h (y + 1)) j).2 + if A = B then 1 else 0)), some (vi j), some (vi A), some (vi B), some (vi i)] [] (wi h (y + 6) g2) (0, 0) := by
          refine bwd _ ?_ ?_
          · intro g2 hg2
            refine s_X8_over_93 x ok _ _ _ _ ?_
            simp only [wpS, o_c, o_cl, o_il, o_ll, o_al, o_is, o_ls, o_as, o_inc, o_add, o_sub, o_mul, o_and, o_or, o_xor, o_shl, o_shr, o_div, o_neg, o_ladd, o_lsub, o_lmul, o_ldiv, o_lrem, o_lneg, o_lcmp, o_i2l, o_l2i, o_dup, o_dup2, o_pop, o_go, o_nn, o_sw, swc, o_iret, o_zret, o_lret, o_vret, o_ieq, o_eq0, o_ine, o_ne0, o_ilt, o_lt0, o_ige, o_ge0, o_igt, o_gt0, o_ile, o_le0, o_iald, o_zald, o_lald, o_aald, o_iast, o_zast, o_last, o_aast, o_alen, o_gi, o_gr, o_pi, o_pz, o_pr, o_new, o_newa, o_copy, o_oinit, o_call, o_callV, o_callVc, o_callI, popn, cnO, o_BAD, lgt, lst, isL, kil, st1, st2, entL, List.length_nil, List.length_cons, List.replicate, Nat.reduceAdd, Nat.reduceLeDiff, Nat.reduceSub, true_and, and_true, Nat.zero_le, ne_eq, qk_wi, ql_wi, qr_wi, qj_wi, qt_wi, qk_wj, ql_wj, qr_wj, qi_wj, qt_wj, qk_wr, ql_wr, qi_wr, qj_wr, qt_wr, qi_ws, qj_ws, qr_ws, Int.toNat_natCast, Int.toNat_zero, Int.reduceToNat, not_true_eq_false, not_false_eq_true, false_implies, implies_true, Option.some.injEq, reduceCtorEq, Sp0, true_or, or_true, or_self, wi_wi, wj_wj]
            repeat' (first | (with_reducible refine And.intro ?_ ?_) | (with_reducible intro))
            all_goals (try (first | with_reducible assumption | omega | (unfold inI; omega) | (unfold inL; omega) | exact cz_in _ _))
            refine s_X8_over_126 x ok _ _ _ _ ?_
            simp only [wpS, o_c, o_cl, o_il, o_ll, o_al, o_is, o_ls, o_as, o_inc, o_add, o_sub, o_mul, o_and, o_or, o_xor, o_shl, o_shr, o_div, o_neg, o_ladd, o_lsub, o_lmul, o_ldiv, o_lrem, o_lneg, o_lcmp, o_i2l, o_l2i, o_dup, o_dup2, o_pop, o_go, o_nn, o_sw, swc, o_iret, o_zret, o_lret, o_vret, o_ieq, o_eq0, o_ine, o_ne0, o_ilt, o_lt0, o_ige, o_ge0, o_igt, o_gt0, o_ile, o_le0, o_iald, o_zald, o_lald, o_aald, o_iast, o_zast, o_last, o_aast, o_alen, o_gi, o_gr, o_pi, o_pz, o_pr, o_new, o_newa, o_copy, o_oinit, o_call, o_callV, o_callVc, o_callI, popn, cnO, o_BAD, lgt, lst, isL, kil, st1, st2, entL, List.length_nil, List.length_cons, List.replicate, Nat.reduceAdd, Nat.reduceLeDiff, Nat.reduceSub, true_and, and_true, Nat.zero_le, ne_eq, qk_wi, ql_wi, qr_wi, qj_wi, qt_wi, qk_wj, ql_wj, qr_wj, qi_wj, qt_wj, qk_wr, ql_wr, qi_wr, qj_wr, qt_wr, qi_ws, qj_ws, qr_ws, Int.toNat_natCast, Int.toNat_zero, Int.reduceToNat, not_true_eq_false, not_false_eq_true, false_implies, implies_true, Option.some.injEq, reduceCtorEq, Sp0, true_or, or_true, or_self, wi_wi, wj_wj]
            repeat' (first | (with_reducible refine And.intro ?_ ?_) | (with_reducible intro))
            all_goals (try (first | with_reducible assumption | omega | (unfold inI; omega) | (unfold inL; omega) | exact cz_in _ _))
            exact ih g2 _ _ _ (fun k hk => by rw [hg2 k hk, if_pos hk])
          · intro i hi ih2 g2 hg2
            have gi : g2 i = (clR (qi h (y + 1)) j).1 i := by rw [hg2 i hi, if_neg (by omega)]
            have ri := hrg i hi
            by_cases z : (clR (qi h (y + 1)) j).1 i = B
            · refine s_X8_over_93 x ok _ _ _ _ ?_
              simp only [wpS, o_c, o_cl, o_il, o_ll, o_al, o_is, o_ls, o_as, o_inc, o_add, o_sub, o_mul, o_and, o_or, o_xor, o_shl, o_shr, o_div, o_neg, o_ladd, o_lsub, o_lmul, o_ldiv, o_lrem, o_lneg, o_lcmp, o_i2l, o_l2i, o_dup, o_dup2, o_pop, o_go, o_nn, o_sw, swc, o_iret, o_zret, o_lret, o_vret, o_ieq, o_eq0, o_ine, o_ne0, o_ilt, o_lt0, o_ige, o_ge0, o_igt, o_gt0, o_ile, o_le0, o_iald, o_zald, o_lald, o_aald, o_iast, o_zast, o_last, o_aast, o_alen, o_gi, o_gr, o_pi, o_pz, o_pr, o_new, o_newa, o_copy, o_oinit, o_call, o_callV, o_callVc, o_callI, popn, cnO, o_BAD, lgt, lst, isL, kil, st1, st2, entL, List.length_nil, List.length_cons, List.replicate, Nat.reduceAdd, Nat.reduceLeDiff, Nat.reduceSub, true_and, and_true, Nat.zero_le, ne_eq, qk_wi, ql_wi, qr_wi, qj_wi, qt_wi, qk_wj, ql_wj, qr_wj, qi_wj, qt_wj, qk_wr, ql_wr, qi_wr, qj_wr, qt_wr, qi_ws, qj_ws, qr_ws, Int.toNat_natCast, Int.toNat_zero, Int.reduceToNat, not_true_eq_false, not_false_eq_true, false_implies, implies_true, Option.some.injEq, reduceCtorEq, Sp0, true_or, or_true, or_self, wi_wi, wj_wj, hM.k, hM.r5, hM.k6, hM.l6, gi]
              repeat' (first | (with_reducible refine And.intro ?_ ?_) | (with_reducible intro))
              all_goals (try (first | with_reducible assumption | omega | (unfold inI; omega) | (unfold inL; omega) | exact cz_in _ _))
              all_goals (try (exfalso; omega))
              refine ih2 _ (fun k hk => ?_)
              unfold fu
              have := hg2 k hk
              grind
            · refine s_X8_over_93 x ok _ _ _ _ ?_
              simp only [wpS, o_c, o_cl, o_il, o_ll, o_al, o_is, o_ls, o_as, o_inc, o_add, o_sub, o_mul, o_and, o_or, o_xor, o_shl, o_shr, o_div, o_neg, o_ladd, o_lsub, o_lmul, o_ldiv, o_lrem, o_lneg, o_lcmp, o_i2l, o_l2i, o_dup, o_dup2, o_pop, o_go, o_nn, o_sw, swc, o_iret, o_zret, o_lret, o_vret, o_ieq, o_eq0, o_ine, o_ne0, o_ilt, o_lt0, o_ige, o_ge0, o_igt, o_gt0, o_ile, o_le0, o_iald, o_zald, o_lald, o_aald, o_iast, o_zast, o_last, o_aast, o_alen, o_gi, o_gr, o_pi, o_pz, o_pr, o_new, o_newa, o_copy, o_oinit, o_call, o_callV, o_callVc, o_callI, popn, cnO, o_BAD, lgt, lst, isL, kil, st1, st2, entL, List.length_nil, List.length_cons, List.replicate, Nat.reduceAdd, Nat.reduceLeDiff, Nat.reduceSub, true_and, and_true, Nat.zero_le, ne_eq, qk_wi, ql_wi, qr_wi, qj_wi, qt_wi, qk_wj, ql_wj, qr_wj, qi_wj, qt_wj, qk_wr, ql_wr, qi_wr, qj_wr, qt_wr, qi_ws, qj_ws, qr_ws, Int.toNat_natCast, Int.toNat_zero, Int.reduceToNat, not_true_eq_false, not_false_eq_true, false_implies, implies_true, Option.some.injEq, reduceCtorEq, Sp0, true_or, or_true, or_self, wi_wi, wj_wj, hM.k, hM.r5, hM.k6, hM.l6, gi]
              repeat' (first | (with_reducible refine And.intro ?_ ?_) | (with_reducible intro))
              all_goals (try (first | with_reducible assumption | omega | (unfold inI; omega) | (unfold inL; omega) | exact cz_in _ _))
              all_goals (try (exfalso; omega))
              refine s_X8_over_120 x ok _ _ _ _ ?_
              simp only [wpS, o_c, o_cl, o_il, o_ll, o_al, o_is, o_ls, o_as, o_inc, o_add, o_sub, o_mul, o_and, o_or, o_xor, o_shl, o_shr, o_div, o_neg, o_ladd, o_lsub, o_lmul, o_ldiv, o_lrem, o_lneg, o_lcmp, o_i2l, o_l2i, o_dup, o_dup2, o_pop, o_go, o_nn, o_sw, swc, o_iret, o_zret, o_lret, o_vret, o_ieq, o_eq0, o_ine, o_ne0, o_ilt, o_lt0, o_ige, o_ge0, o_igt, o_gt0, o_ile, o_le0, o_iald, o_zald, o_lald, o_aald, o_iast, o_zast, o_last, o_aast, o_alen, o_gi, o_gr, o_pi, o_pz, o_pr, o_new, o_newa, o_copy, o_oinit, o_call, o_callV, o_callVc, o_callI, popn, cnO, o_BAD, lgt, lst, isL, kil, st1, st2, entL, List.length_nil, List.length_cons, List.replicate, Nat.reduceAdd, Nat.reduceLeDiff, Nat.reduceSub, true_and, and_true, Nat.zero_le, ne_eq, qk_wi, ql_wi, qr_wi, qj_wi, qt_wi, qk_wj, ql_wj, qr_wj, qi_wj, qt_wj, qk_wr, ql_wr, qi_wr, qj_wr, qt_wr, qi_ws, qj_ws, qr_ws, Int.toNat_natCast, Int.toNat_zero, Int.reduceToNat, not_true_eq_false, not_false_eq_true, false_implies, implies_true, Option.some.injEq, reduceCtorEq, Sp0, true_or, or_true, or_self, wi_wi, wj_wj]
              repeat' (first | (with_reducible refine And.intro ?_ ?_) | (with_reducible intro))
              all_goals (try (first | with_reducible assumption | omega | (unfold inI; omega) | (unfold inL; omega) | exact cz_in _ _))
              refine ih2 _ (fun k hk => ?_)
              have := hg2 k hk
              grind
        have l0 := inner 0 (by omega) g (fun k hk => by rw [if_neg (by omega)]; exact hg k hk)
        refine s_X8_over_25 x ok _ _ _ _ ?_
        simp only [wpS, o_c, o_cl, o_il, o_ll, o_al, o_is, o_ls, o_as, o_inc, o_add, o_sub, o_mul, o_and, o_or, o_xor, o_shl, o_shr, o_div, o_neg, o_ladd, o_lsub, o_lmul, o_ldiv, o_lrem, o_lneg, o_lcmp, o_i2l, o_l2i, o_dup, o_dup2, o_pop, o_go, o_nn, o_sw, swc, o_iret, o_zret, o_lret, o_vret, o_ieq, o_eq0, o_ine, o_ne0, o_ilt, o_lt0, o_ige, o_ge0, o_igt, o_gt0, o_ile, o_le0, o_iald, o_zald, o_lald, o_aald, o_iast, o_zast, o_last, o_aast, o_alen, o_gi, o_gr, o_pi, o_pz, o_pr, o_new, o_newa, o_copy, o_oinit, o_call, o_callV, o_callVc, o_callI, popn, cnO, o_BAD, lgt, lst, isL, kil, st1, st2, entL, List.length_nil, List.length_cons, List.replicate, Nat.reduceAdd, Nat.reduceLeDiff, Nat.reduceSub, true_and, and_true, Nat.zero_le, ne_eq, qk_wi, ql_wi, qr_wi, qj_wi, qt_wi, qk_wj, ql_wj, qr_wj, qi_wj, qt_wj, qk_wr, ql_wr, qi_wr, qj_wr, qt_wr, qi_ws, qj_ws, qr_ws, Int.toNat_natCast, Int.toNat_zero, Int.reduceToNat, not_true_eq_false, not_false_eq_true, false_implies, implies_true, Option.some.injEq, reduceCtorEq, Sp0, true_or, or_true, or_self, wi_wi, wj_wj, hM.k, hM.r0, hM.k1, hM.l1, ix0, ix12, ix24, ix36, ix48, ix60, ix1032, ix1044, ix1092, ix1140, ix1188, ix1200, ix1212, ix1284, ix1290, ix1296, ix1298, ix1322, ix1346, ix1358, ixm4, ixm12, ixm24, ixm81, ixm1382, ixadd, Nat.zero_add, qi_wn n16, ef]
        repeat' (first | (with_reducible refine And.intro ?_ ?_) | (with_reducible intro))
        all_goals (try (first | with_reducible assumption | omega | (unfold inI; omega) | (unfold inL; omega) | exact cz_in _ _))
        all_goals (try (exfalso; omega))
        refine s_X8_over_48 x ok _ _ _ _ ?_
        simp only [wpS, o_c, o_cl, o_il, o_ll, o_al, o_is, o_ls, o_as, o_inc, o_add, o_sub, o_mul, o_and, o_or, o_xor, o_shl, o_shr, o_div, o_neg, o_ladd, o_lsub, o_lmul, o_ldiv, o_lrem, o_lneg, o_lcmp, o_i2l, o_l2i, o_dup, o_dup2, o_pop, o_go, o_nn, o_sw, swc, o_iret, o_zret, o_lret, o_vret, o_ieq, o_eq0, o_ine, o_ne0, o_ilt, o_lt0, o_ige, o_ge0, o_igt, o_gt0, o_ile, o_le0, o_iald, o_zald, o_lald, o_aald, o_iast, o_zast, o_last, o_aast, o_alen, o_gi, o_gr, o_pi, o_pz, o_pr, o_new, o_newa, o_copy, o_oinit, o_call, o_callV, o_callVc, o_callI, popn, cnO, o_BAD, lgt, lst, isL, kil, st1, st2, entL, List.length_nil, List.length_cons, List.replicate, Nat.reduceAdd, Nat.reduceLeDiff, Nat.reduceSub, true_and, and_true, Nat.zero_le, ne_eq, qk_wi, ql_wi, qr_wi, qj_wi, qt_wi, qk_wj, ql_wj, qr_wj, qi_wj, qt_wj, qk_wr, ql_wr, qi_wr, qj_wr, qt_wr, qi_ws, qj_ws, qr_ws, Int.toNat_natCast, Int.toNat_zero, Int.reduceToNat, not_true_eq_false, not_false_eq_true, false_implies, implies_true, Option.some.injEq, reduceCtorEq, Sp0, true_or, or_true, or_self, wi_wi, wj_wj, hM.k, hM.r0, hM.k1, hM.l1, ix0, ix12, ix24, ix36, ix48, ix60, ix1032, ix1044, ix1092, ix1140, ix1188, ix1200, ix1212, ix1284, ix1290, ix1296, ix1298, ix1322, ix1346, ix1358, ixm4, ixm12, ixm24, ixm81, ixm1382, ixadd, Nat.zero_add, qi_wn n16, ef, et, hM.r5, hM.k6, hM.l6, gF, gT]
        repeat' (first | (with_reducible refine And.intro ?_ ?_) | (with_reducible intro))
        all_goals (try (first | with_reducible assumption | omega | (unfold inI; omega) | (unfold inL; omega) | exact cz_in _ _))
        all_goals (try (exfalso; omega))
        · rw [if_neg (by assumption), Int.add_zero] at l0
          refine s_X8_over_90 x ok _ _ _ _ ?_
          simp only [wpS, o_c, o_cl, o_il, o_ll, o_al, o_is, o_ls, o_as, o_inc, o_add, o_sub, o_mul, o_and, o_or, o_xor, o_shl, o_shr, o_div, o_neg, o_ladd, o_lsub, o_lmul, o_ldiv, o_lrem, o_lneg, o_lcmp, o_i2l, o_l2i, o_dup, o_dup2, o_pop, o_go, o_nn, o_sw, swc, o_iret, o_zret, o_lret, o_vret, o_ieq, o_eq0, o_ine, o_ne0, o_ilt, o_lt0, o_ige, o_ge0, o_igt, o_gt0, o_ile, o_le0, o_iald, o_zald, o_lald, o_aald, o_iast, o_zast, o_last, o_aast, o_alen, o_gi, o_gr, o_pi, o_pz, o_pr, o_new, o_newa, o_copy, o_oinit, o_call, o_callV, o_callVc, o_callI, popn, cnO, o_BAD, lgt, lst, isL, kil, st1, st2, entL, List.length_nil, List.length_cons, List.replicate, Nat.reduceAdd, Nat.reduceLeDiff, Nat.reduceSub, true_and, and_true, Nat.zero_le, ne_eq, qk_wi, ql_wi, qr_wi, qj_wi, qt_wi, qk_wj, ql_wj, qr_wj, qi_wj, qt_wj, qk_wr, ql_wr, qi_wr, qj_wr, qt_wr, qi_ws, qj_ws, qr_ws, Int.toNat_natCast, Int.toNat_zero, Int.reduceToNat, not_true_eq_false, not_false_eq_true, false_implies, implies_true, Option.some.injEq, reduceCtorEq, Sp0, true_or, or_true, or_self, wi_wi, wj_wj]
          repeat' (first | (with_reducible refine And.intro ?_ ?_) | (with_reducible intro))
          all_goals (try (first | with_reducible assumption | omega | (unfold inI; omega) | (unfold inL; omega) | exact cz_in _ _))
        · rw [if_pos (by assumption)] at l0
          exact l0
  have start : ∀ j, j ≤ 12 → ∀ g : Nat → Int, (∀ k, k < j → g k = (k : Int)) → V i_X8_over x 4 [some (vr (some y)), some (vi 0), some (vi j), none, none, none] [] (wi h (y + 6) g) (0, 0) := by
    refine bwd _ ?_ ?_
    · intro g hg
      refine s_X8_over_4 x ok _ _ _ _ ?_
      simp only [wpS, o_c, o_cl, o_il, o_ll, o_al, o_is, o_ls, o_as, o_inc, o_add, o_sub, o_mul, o_and, o_or, o_xor, o_shl, o_shr, o_div, o_neg, o_ladd, o_lsub, o_lmul, o_ldiv, o_lrem, o_lneg, o_lcmp, o_i2l, o_l2i, o_dup, o_dup2, o_pop, o_go, o_nn, o_sw, swc, o_iret, o_zret, o_lret, o_vret, o_ieq, o_eq0, o_ine, o_ne0, o_ilt, o_lt0, o_ige, o_ge0, o_igt, o_gt0, o_ile, o_le0, o_iald, o_zald, o_lald, o_aald, o_iast, o_zast, o_last, o_aast, o_alen, o_gi, o_gr, o_pi, o_pz, o_pr, o_new, o_newa, o_copy, o_oinit, o_call, o_callV, o_callVc, o_callI, popn, cnO, o_BAD, lgt, lst, isL, kil, st1, st2, entL, List.length_nil, List.length_cons, List.replicate, Nat.reduceAdd, Nat.reduceLeDiff, Nat.reduceSub, true_and, and_true, Nat.zero_le, ne_eq, qk_wi, ql_wi, qr_wi, qj_wi, qt_wi, qk_wj, ql_wj, qr_wj, qi_wj, qt_wj, qk_wr, ql_wr, qi_wr, qj_wr, qt_wr, qi_ws, qj_ws, qr_ws, Int.toNat_natCast, Int.toNat_zero, Int.reduceToNat, not_true_eq_false, not_false_eq_true, false_implies, implies_true, Option.some.injEq, reduceCtorEq, Sp0, true_or, or_true, or_self, wi_wi, wj_wj]
      repeat' (first | (with_reducible refine And.intro ?_ ?_) | (with_reducible intro))
      all_goals (try (first | with_reducible assumption | omega | (unfold inI; omega) | (unfold inL; omega) | exact cz_in _ _))
      refine s_X8_over_23 x ok _ _ _ _ ?_
      simp only [wpS, o_c, o_cl, o_il, o_ll, o_al, o_is, o_ls, o_as, o_inc, o_add, o_sub, o_mul, o_and, o_or, o_xor, o_shl, o_shr, o_div, o_neg, o_ladd, o_lsub, o_lmul, o_ldiv, o_lrem, o_lneg, o_lcmp, o_i2l, o_l2i, o_dup, o_dup2, o_pop, o_go, o_nn, o_sw, swc, o_iret, o_zret, o_lret, o_vret, o_ieq, o_eq0, o_ine, o_ne0, o_ilt, o_lt0, o_ige, o_ge0, o_igt, o_gt0, o_ile, o_le0, o_iald, o_zald, o_lald, o_aald, o_iast, o_zast, o_last, o_aast, o_alen, o_gi, o_gr, o_pi, o_pz, o_pr, o_new, o_newa, o_copy, o_oinit, o_call, o_callV, o_callVc, o_callI, popn, cnO, o_BAD, lgt, lst, isL, kil, st1, st2, entL, List.length_nil, List.length_cons, List.replicate, Nat.reduceAdd, Nat.reduceLeDiff, Nat.reduceSub, true_and, and_true, Nat.zero_le, ne_eq, qk_wi, ql_wi, qr_wi, qj_wi, qt_wi, qk_wj, ql_wj, qr_wj, qi_wj, qt_wj, qk_wr, ql_wr, qi_wr, qj_wr, qt_wr, qi_ws, qj_ws, qr_ws, Int.toNat_natCast, Int.toNat_zero, Int.reduceToNat, not_true_eq_false, not_false_eq_true, false_implies, implies_true, Option.some.injEq, reduceCtorEq, Sp0, true_or, or_true, or_self, wi_wi, wj_wj]
      exact loop 0 (by omega) g none none none (fun k hk => hg k hk)
    · intro j hj ih g hg
      refine s_X8_over_4 x ok _ _ _ _ ?_
      simp only [wpS, o_c, o_cl, o_il, o_ll, o_al, o_is, o_ls, o_as, o_inc, o_add, o_sub, o_mul, o_and, o_or, o_xor, o_shl, o_shr, o_div, o_neg, o_ladd, o_lsub, o_lmul, o_ldiv, o_lrem, o_lneg, o_lcmp, o_i2l, o_l2i, o_dup, o_dup2, o_pop, o_go, o_nn, o_sw, swc, o_iret, o_zret, o_lret, o_vret, o_ieq, o_eq0, o_ine, o_ne0, o_ilt, o_lt0, o_ige, o_ge0, o_igt, o_gt0, o_ile, o_le0, o_iald, o_zald, o_lald, o_aald, o_iast, o_zast, o_last, o_aast, o_alen, o_gi, o_gr, o_pi, o_pz, o_pr, o_new, o_newa, o_copy, o_oinit, o_call, o_callV, o_callVc, o_callI, popn, cnO, o_BAD, lgt, lst, isL, kil, st1, st2, entL, List.length_nil, List.length_cons, List.replicate, Nat.reduceAdd, Nat.reduceLeDiff, Nat.reduceSub, true_and, and_true, Nat.zero_le, ne_eq, qk_wi, ql_wi, qr_wi, qj_wi, qt_wi, qk_wj, ql_wj, qr_wj, qi_wj, qt_wj, qk_wr, ql_wr, qi_wr, qj_wr, qt_wr, qi_ws, qj_ws, qr_ws, Int.toNat_natCast, Int.toNat_zero, Int.reduceToNat, not_true_eq_false, not_false_eq_true, false_implies, implies_true, Option.some.injEq, reduceCtorEq, Sp0, true_or, or_true, or_self, wi_wi, wj_wj, hM.k, hM.r5, hM.k6, hM.l6]
      repeat' (first | (with_reducible refine And.intro ?_ ?_) | (with_reducible intro))
      all_goals (try (first | with_reducible assumption | omega | (unfold inI; omega) | (unfold inL; omega) | exact cz_in _ _))
      all_goals (try (exfalso; omega))
      refine ih _ (fun k hk => ?_)
      unfold fu
      by_cases z : k = j
      · rw [if_pos z, z]
      · rw [if_neg z]; exact hg k (by omega)
  have s0 := start 0 (by omega) (qi h (y + 6)) (fun k hk => by omega)
  rw [wi_self] at s0
  all_goals (try ((first | (refine s_X8_over_0 x ok _ _ _ _ ?_) | (refine s_X8_over_23 x ok _ _ _ _ ?_) | (refine s_X8_over_48 x ok _ _ _ _ ?_) | (refine s_X8_over_90 x ok _ _ _ _ ?_) | (refine s_X8_over_120 x ok _ _ _ _ ?_) | (refine s_X8_over_126 x ok _ _ _ _ ?_) | (refine s_X8_over_132 x ok _ _ _ _ ?_)); (try simp only [wpS, o_c, o_cl, o_il, o_ll, o_al, o_is, o_ls, o_as, o_inc, o_add, o_sub, o_mul, o_and, o_or, o_xor, o_shl, o_shr, o_div, o_neg, o_ladd, o_lsub, o_lmul, o_ldiv, o_lrem, o_lneg, o_lcmp, o_i2l, o_l2i, o_dup, o_dup2, o_pop, o_go, o_nn, o_sw, swc, o_iret, o_zret, o_lret, o_vret, o_ieq, o_eq0, o_ine, o_ne0, o_ilt, o_lt0, o_ige, o_ge0, o_igt, o_gt0, o_ile, o_le0, o_iald, o_zald, o_lald, o_aald, o_iast, o_zast, o_last, o_aast, o_alen, o_gi, o_gr, o_pi, o_pz, o_pr, o_new, o_newa, o_copy, o_oinit, o_call, o_callV, o_callVc, o_callI, popn, cnO, o_BAD, lgt, lst, isL, kil, st1, st2, entL, List.length_nil, List.length_cons, List.replicate, Nat.reduceAdd, Nat.reduceLeDiff, Nat.reduceSub, true_and, and_true, Nat.zero_le, ne_eq, qk_wi, ql_wi, qr_wi, qj_wi, qt_wi, qk_wj, ql_wj, qr_wj, qi_wj, qt_wj, qk_wr, ql_wr, qi_wr, qj_wr, qt_wr, qi_ws, qj_ws, qr_ws, Int.toNat_natCast, Int.toNat_zero, Int.reduceToNat, not_true_eq_false, not_false_eq_true, false_implies, implies_true, Option.some.injEq, reduceCtorEq, Sp0, true_or, or_true, or_self, wi_wi, wj_wj]); (repeat' (first | (with_reducible refine And.intro ?_ ?_) | (with_reducible intro))); (all_goals (try (first | with_reducible assumption | omega | (unfold inI; omega) | (unfold inL; omega) | exact cz_in _ _)))))
  all_goals (first | exact s0 | skip)
def oth (d : Dd) (m : Nat) (f : Int) : Int := if df d m = f then dt d m else if dt d m = f then df d m else -1
def T_X8_otherFace : TT := fun as h K => ∃ (y m : Nat) (f : Int), as = [vr (some y), vi m, vi f] ∧ Mo h y ∧ Inv (qi h (y + 1)) ∧ m < 12 ∧ inI f ∧ K (some (vi (oth (qi h (y + 1)) m f))) h
theorem c8_otherFace {h : Hp} {y m : Nat} {f : Int} {K : RT} (h1 : Mo h y) (h2 : Inv (qi h (y + 1))) (h3 : m < 12) (h4 : inI f) (h5 : K (some (vi (oth (qi h (y + 1)) m f))) h) : T_X8_otherFace [vr (some y), vi m, vi f] h K := ⟨y, m, f, rfl, h1, h2, h3, h4, h5⟩
abbrev i_X8_otherFace : MI := (cX8_otherFace, 3, RX8, (some .int), "otherFace", 2)
theorem k_X8_otherFace_0 : Okop i_X8_otherFace 0 (o_al 0) 1 := k_aln (j := 0) (by decide +kernel)
theorem k_X8_otherFace_1 : Okop i_X8_otherFace 1 (o_gr 8 0) 4 := k_gr (idx := 7) fo_8 (by decide) (by decide) gw_660 (by decide +kernel)
theorem k_X8_otherFace_4 : Okop i_X8_otherFace 4 (o_c 1188) 7 := k_sipush (by decide +kernel) rfl
theorem k_X8_otherFace_7 : Okop i_X8_otherFace 7 (o_il 1) 8 := k_iln (j := 1) (by decide +kernel)
theorem k_X8_otherFace_8 : Okop i_X8_otherFace 8 (o_add) 9 := k_add (by decide +kernel)
theorem k_X8_otherFace_9 : Okop i_X8_otherFace 9 (o_iald) 10 := k_iald (by decide +kernel)
theorem k_X8_otherFace_10 : Okop i_X8_otherFace 10 (o_il 2) 11 := k_iln (j := 2) (by decide +kernel)
theorem k_X8_otherFace_11 : Okop i_X8_otherFace 11 (o_ine 27) 14 := k_ine (off := 16) (by decide +kernel) (by decide)
theorem k_X8_otherFace_14 : Okop i_X8_otherFace 14 (o_al 0) 15 := k_aln (j := 0) (by decide +kernel)
theorem k_X8_otherFace_15 : Okop i_X8_otherFace 15 (o_gr 8 0) 18 := k_gr (idx := 7) fo_8 (by decide) (by decide) gw_660 (by decide +kernel)
theorem k_X8_otherFace_18 : Okop i_X8_otherFace 18 (o_c 1200) 21 := k_sipush (by decide +kernel) rfl
theorem k_X8_otherFace_21 : Okop i_X8_otherFace 21 (o_il 1) 22 := k_iln (j := 1) (by decide +kernel)
theorem k_X8_otherFace_22 : Okop i_X8_otherFace 22 (o_add) 23 := k_add (by decide +kernel)
theorem k_X8_otherFace_23 : Okop i_X8_otherFace 23 (o_iald) 24 := k_iald (by decide +kernel)
theorem k_X8_otherFace_24 : Okop i_X8_otherFace 24 (o_go 55) 27 := k_go (off := 31) (by decide +kernel) (by decide)
theorem k_X8_otherFace_27 : Okop i_X8_otherFace 27 (o_al 0) 28 := k_aln (j := 0) (by decide +kernel)
theorem k_X8_otherFace_28 : Okop i_X8_otherFace 28 (o_gr 8 0) 31 := k_gr (idx := 7) fo_8 (by decide) (by decide) gw_660 (by decide +kernel)
theorem k_X8_otherFace_31 : Okop i_X8_otherFace 31 (o_c 1200) 34 := k_sipush (by decide +kernel) rfl
theorem k_X8_otherFace_34 : Okop i_X8_otherFace 34 (o_il 1) 35 := k_iln (j := 1) (by decide +kernel)
theorem k_X8_otherFace_35 : Okop i_X8_otherFace 35 (o_add) 36 := k_add (by decide +kernel)
theorem k_X8_otherFace_36 : Okop i_X8_otherFace 36 (o_iald) 37 := k_iald (by decide +kernel)
theorem k_X8_otherFace_37 : Okop i_X8_otherFace 37 (o_il 2) 38 := k_iln (j := 2) (by decide +kernel)
theorem k_X8_otherFace_38 : Okop i_X8_otherFace 38 (o_ine 54) 41 := k_ine (off := 16) (by decide +kernel) (by decide)
theorem k_X8_otherFace_41 : Okop i_X8_otherFace 41 (o_al 0) 42 := k_aln (j := 0) (by decide +kernel)
theorem k_X8_otherFace_42 : Okop i_X8_otherFace 42 (o_gr 8 0) 45 := k_gr (idx := 7) fo_8 (by decide) (by decide) gw_660 (by decide +kernel)
theorem k_X8_otherFace_45 : Okop i_X8_otherFace 45 (o_c 1188) 48 := k_sipush (by decide +kernel) rfl
theorem k_X8_otherFace_48 : Okop i_X8_otherFace 48 (o_il 1) 49 := k_iln (j := 1) (by decide +kernel)
theorem k_X8_otherFace_49 : Okop i_X8_otherFace 49 (o_add) 50 := k_add (by decide +kernel)
theorem k_X8_otherFace_50 : Okop i_X8_otherFace 50 (o_iald) 51 := k_iald (by decide +kernel)
theorem k_X8_otherFace_51 : Okop i_X8_otherFace 51 (o_go 55) 54 := k_go (off := 4) (by decide +kernel) (by decide)
theorem k_X8_otherFace_54 : Okop i_X8_otherFace 54 (o_c (-1)) 55 := k_iconst (by decide +kernel)
theorem k_X8_otherFace_55 : Okop i_X8_otherFace 55 (o_iret) 56 := k_iret (by decide +kernel) rfl
theorem s_X8_otherFace_0 : Seg i_X8_otherFace 0 [o_al 0, o_gr 8 0, o_c 1188, o_il 1, o_add, o_iald, o_il 2, o_ine 27, o_al 0, o_gr 8 0, o_c 1200, o_il 1, o_add, o_iald, o_go 55] 27 := Seg.cons k_X8_otherFace_0 (Seg.cons k_X8_otherFace_1 (Seg.cons k_X8_otherFace_4 (Seg.cons k_X8_otherFace_7 (Seg.cons k_X8_otherFace_8 (Seg.cons k_X8_otherFace_9 (Seg.cons k_X8_otherFace_10 (Seg.cons k_X8_otherFace_11 (Seg.cons k_X8_otherFace_14 (Seg.cons k_X8_otherFace_15 (Seg.cons k_X8_otherFace_18 (Seg.cons k_X8_otherFace_21 (Seg.cons k_X8_otherFace_22 (Seg.cons k_X8_otherFace_23 (Seg.cons k_X8_otherFace_24 (Seg.nil)))))))))))))))
theorem s_X8_otherFace_27 : Seg i_X8_otherFace 27 [o_al 0, o_gr 8 0, o_c 1200, o_il 1, o_add, o_iald, o_il 2, o_ine 54, o_al 0, o_gr 8 0, o_c 1188, o_il 1, o_add, o_iald, o_go 55] 54 := Seg.cons k_X8_otherFace_27 (Seg.cons k_X8_otherFace_28 (Seg.cons k_X8_otherFace_31 (Seg.cons k_X8_otherFace_34 (Seg.cons k_X8_otherFace_35 (Seg.cons k_X8_otherFace_36 (Seg.cons k_X8_otherFace_37 (Seg.cons k_X8_otherFace_38 (Seg.cons k_X8_otherFace_41 (Seg.cons k_X8_otherFace_42 (Seg.cons k_X8_otherFace_45 (Seg.cons k_X8_otherFace_48 (Seg.cons k_X8_otherFace_49 (Seg.cons k_X8_otherFace_50 (Seg.cons k_X8_otherFace_51 (Seg.nil)))))))))))))))
theorem s_X8_otherFace_54 : Seg i_X8_otherFace 54 [o_c (-1), o_iret] 56 := Seg.cons k_X8_otherFace_54 (Seg.cons k_X8_otherFace_55 (Seg.nil))
theorem s_X8_otherFace_55 : Seg i_X8_otherFace 55 [o_iret] 56 := Seg.cons k_X8_otherFace_55 (Seg.nil)

theorem m_X8_otherFace : Mth yX8_otherFace cX8_otherFace 3 (some .int) 2 (Sp0 T_X8_otherFace) := by
  refine Mth.of (by decide) ?_
  rintro x as h ok ⟨y, m, f, rfl, hM, hI, hm, hf, hK⟩
  refine ⟨Nat.le_of_ble_eq_true rfl, ?_⟩
  have hfm := (hI.1 m hm).f
  have ef : qi h (y + 1) (1188 + m) = df (qi h (y + 1)) m := rfl
  have et : qi h (y + 1) (1200 + m) = dt (qi h (y + 1)) m := rfl
  have hK' : ∀ r, r = oth (qi h (y + 1)) m f → xR x (some (vi r)) h := fun r e => e ▸ hK
  unfold oth at hK'
  all_goals (try ((first | (refine s_X8_otherFace_0 x ok _ _ _ _ ?_) | (refine s_X8_otherFace_27 x ok _ _ _ _ ?_) | (refine s_X8_otherFace_54 x ok _ _ _ _ ?_) | (refine s_X8_otherFace_55 x ok _ _ _ _ ?_)); (try simp only [wpS, o_c, o_cl, o_il, o_ll, o_al, o_is, o_ls, o_as, o_inc, o_add, o_sub, o_mul, o_and, o_or, o_xor, o_shl, o_shr, o_div, o_neg, o_ladd, o_lsub, o_lmul, o_ldiv, o_lrem, o_lneg, o_lcmp, o_i2l, o_l2i, o_dup, o_dup2, o_pop, o_go, o_nn, o_sw, swc, o_iret, o_zret, o_lret, o_vret, o_ieq, o_eq0, o_ine, o_ne0, o_ilt, o_lt0, o_ige, o_ge0, o_igt, o_gt0, o_ile, o_le0, o_iald, o_zald, o_lald, o_aald, o_iast, o_zast, o_last, o_aast, o_alen, o_gi, o_gr, o_pi, o_pz, o_pr, o_new, o_newa, o_copy, o_oinit, o_call, o_callV, o_callVc, o_callI, popn, cnO, o_BAD, lgt, lst, isL, kil, st1, st2, entL, List.length_nil, List.length_cons, List.replicate, Nat.reduceAdd, Nat.reduceLeDiff, Nat.reduceSub, true_and, and_true, Nat.zero_le, ne_eq, qk_wi, ql_wi, qr_wi, qj_wi, qt_wi, qk_wj, ql_wj, qr_wj, qi_wj, qt_wj, qk_wr, ql_wr, qi_wr, qj_wr, qt_wr, qi_ws, qj_ws, qr_ws, Int.toNat_natCast, Int.toNat_zero, Int.reduceToNat, not_true_eq_false, not_false_eq_true, false_implies, implies_true, Option.some.injEq, reduceCtorEq, Sp0, true_or, or_true, or_self, wi_wi, wj_wj, hM.k, hM.r0, hM.k1, hM.l1, ix0, ix12, ix24, ix36, ix48, ix60, ix1032, ix1044, ix1092, ix1140, ix1188, ix1200, ix1212, ix1284, ix1290, ix1296, ix1298, ix1322, ix1346, ix1358, ixm4, ixm12, ixm24, ixm81, ixm1382, ixadd, Nat.zero_add, ef, et]); (repeat' (first | (with_reducible refine And.intro ?_ ?_) | (with_reducible intro))); (all_goals (try (first | with_reducible assumption | omega | (unfold inI; omega) | (unfold inL; omega) | exact cz_in _ _)))))
  all_goals (try ((first | (refine s_X8_otherFace_0 x ok _ _ _ _ ?_) | (refine s_X8_otherFace_27 x ok _ _ _ _ ?_) | (refine s_X8_otherFace_54 x ok _ _ _ _ ?_) | (refine s_X8_otherFace_55 x ok _ _ _ _ ?_)); (try simp only [wpS, o_c, o_cl, o_il, o_ll, o_al, o_is, o_ls, o_as, o_inc, o_add, o_sub, o_mul, o_and, o_or, o_xor, o_shl, o_shr, o_div, o_neg, o_ladd, o_lsub, o_lmul, o_ldiv, o_lrem, o_lneg, o_lcmp, o_i2l, o_l2i, o_dup, o_dup2, o_pop, o_go, o_nn, o_sw, swc, o_iret, o_zret, o_lret, o_vret, o_ieq, o_eq0, o_ine, o_ne0, o_ilt, o_lt0, o_ige, o_ge0, o_igt, o_gt0, o_ile, o_le0, o_iald, o_zald, o_lald, o_aald, o_iast, o_zast, o_last, o_aast, o_alen, o_gi, o_gr, o_pi, o_pz, o_pr, o_new, o_newa, o_copy, o_oinit, o_call, o_callV, o_callVc, o_callI, popn, cnO, o_BAD, lgt, lst, isL, kil, st1, st2, entL, List.length_nil, List.length_cons, List.replicate, Nat.reduceAdd, Nat.reduceLeDiff, Nat.reduceSub, true_and, and_true, Nat.zero_le, ne_eq, qk_wi, ql_wi, qr_wi, qj_wi, qt_wi, qk_wj, ql_wj, qr_wj, qi_wj, qt_wj, qk_wr, ql_wr, qi_wr, qj_wr, qt_wr, qi_ws, qj_ws, qr_ws, Int.toNat_natCast, Int.toNat_zero, Int.reduceToNat, not_true_eq_false, not_false_eq_true, false_implies, implies_true, Option.some.injEq, reduceCtorEq, Sp0, true_or, or_true, or_self, wi_wi, wj_wj, hM.k, hM.r0, hM.k1, hM.l1, ix0, ix12, ix24, ix36, ix48, ix60, ix1032, ix1044, ix1092, ix1140, ix1188, ix1200, ix1212, ix1284, ix1290, ix1296, ix1298, ix1322, ix1346, ix1358, ixm4, ixm12, ixm24, ixm81, ixm1382, ixadd, Nat.zero_add, ef, et]); (repeat' (first | (with_reducible refine And.intro ?_ ?_) | (with_reducible intro))); (all_goals (try (first | with_reducible assumption | omega | (unfold inI; omega) | (unfold inL; omega) | exact cz_in _ _)))))
  all_goals (try ((first | (refine s_X8_otherFace_0 x ok _ _ _ _ ?_) | (refine s_X8_otherFace_27 x ok _ _ _ _ ?_) | (refine s_X8_otherFace_54 x ok _ _ _ _ ?_) | (refine s_X8_otherFace_55 x ok _ _ _ _ ?_)); (try simp only [wpS, o_c, o_cl, o_il, o_ll, o_al, o_is, o_ls, o_as, o_inc, o_add, o_sub, o_mul, o_and, o_or, o_xor, o_shl, o_shr, o_div, o_neg, o_ladd, o_lsub, o_lmul, o_ldiv, o_lrem, o_lneg, o_lcmp, o_i2l, o_l2i, o_dup, o_dup2, o_pop, o_go, o_nn, o_sw, swc, o_iret, o_zret, o_lret, o_vret, o_ieq, o_eq0, o_ine, o_ne0, o_ilt, o_lt0, o_ige, o_ge0, o_igt, o_gt0, o_ile, o_le0, o_iald, o_zald, o_lald, o_aald, o_iast, o_zast, o_last, o_aast, o_alen, o_gi, o_gr, o_pi, o_pz, o_pr, o_new, o_newa, o_copy, o_oinit, o_call, o_callV, o_callVc, o_callI, popn, cnO, o_BAD, lgt, lst, isL, kil, st1, st2, entL, List.length_nil, List.length_cons, List.replicate, Nat.reduceAdd, Nat.reduceLeDiff, Nat.reduceSub, true_and, and_true, Nat.zero_le, ne_eq, qk_wi, ql_wi, qr_wi, qj_wi, qt_wi, qk_wj, ql_wj, qr_wj, qi_wj, qt_wj, qk_wr, ql_wr, qi_wr, qj_wr, qt_wr, qi_ws, qj_ws, qr_ws, Int.toNat_natCast, Int.toNat_zero, Int.reduceToNat, not_true_eq_false, not_false_eq_true, false_implies, implies_true, Option.some.injEq, reduceCtorEq, Sp0, true_or, or_true, or_self, wi_wi, wj_wj, hM.k, hM.r0, hM.k1, hM.l1, ix0, ix12, ix24, ix36, ix48, ix60, ix1032, ix1044, ix1092, ix1140, ix1188, ix1200, ix1212, ix1284, ix1290, ix1296, ix1298, ix1322, ix1346, ix1358, ixm4, ixm12, ixm24, ixm81, ixm1382, ixadd, Nat.zero_add, ef, et]); (repeat' (first | (with_reducible refine And.intro ?_ ?_) | (with_reducible intro))); (all_goals (try (first | with_reducible assumption | omega | (unfold inI; omega) | (unfold inL; omega) | exact cz_in _ _)))))
  all_goals (try ((first | (refine s_X8_otherFace_0 x ok _ _ _ _ ?_) | (refine s_X8_otherFace_27 x ok _ _ _ _ ?_) | (refine s_X8_otherFace_54 x ok _ _ _ _ ?_) | (refine s_X8_otherFace_55 x ok _ _ _ _ ?_)); (try simp only [wpS, o_c, o_cl, o_il, o_ll, o_al, o_is, o_ls, o_as, o_inc, o_add, o_sub, o_mul, o_and, o_or, o_xor, o_shl, o_shr, o_div, o_neg, o_ladd, o_lsub, o_lmul, o_ldiv, o_lrem, o_lneg, o_lcmp, o_i2l, o_l2i, o_dup, o_dup2, o_pop, o_go, o_nn, o_sw, swc, o_iret, o_zret, o_lret, o_vret, o_ieq, o_eq0, o_ine, o_ne0, o_ilt, o_lt0, o_ige, o_ge0, o_igt, o_gt0, o_ile, o_le0, o_iald, o_zald, o_lald, o_aald, o_iast, o_zast, o_last, o_aast, o_alen, o_gi, o_gr, o_pi, o_pz, o_pr, o_new, o_newa, o_copy, o_oinit, o_call, o_callV, o_callVc, o_callI, popn, cnO, o_BAD, lgt, lst, isL, kil, st1, st2, entL, List.length_nil, List.length_cons, List.replicate, Nat.reduceAdd, Nat.reduceLeDiff, Nat.reduceSub, true_and, and_true, Nat.zero_le, ne_eq, qk_wi, ql_wi, qr_wi, qj_wi, qt_wi, qk_wj, ql_wj, qr_wj, qi_wj, qt_wj, qk_wr, ql_wr, qi_wr, qj_wr, qt_wr, qi_ws, qj_ws, qr_ws, Int.toNat_natCast, Int.toNat_zero, Int.reduceToNat, not_true_eq_false, not_false_eq_true, false_implies, implies_true, Option.some.injEq, reduceCtorEq, Sp0, true_or, or_true, or_self, wi_wi, wj_wj, hM.k, hM.r0, hM.k1, hM.l1, ix0, ix12, ix24, ix36, ix48, ix60, ix1032, ix1044, ix1092, ix1140, ix1188, ix1200, ix1212, ix1284, ix1290, ix1296, ix1298, ix1322, ix1346, ix1358, ixm4, ixm12, ixm24, ixm81, ixm1382, ixadd, Nat.zero_add, ef, et]); (repeat' (first | (with_reducible refine And.intro ?_ ?_) | (with_reducible intro))); (all_goals (try (first | with_reducible assumption | omega | (unfold inI; omega) | (unfold inL; omega) | exact cz_in _ _)))))
  all_goals (first | (refine hK' _ ?_; grind) | (exfalso; omega) | (unfold inI; omega) | skip)

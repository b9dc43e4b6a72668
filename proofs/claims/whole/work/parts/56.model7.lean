/-! ===== FitBenchModel: parts, over ===== -/
noncomputable def prt (d : Dd) (s t : Nat → Int) : Int := if 1000000000000 < cpt d s t 12 then -1 else cpt d s t 12
def T_X8_parts : TT := fun as h K => ∃ (y c e : Nat), as = [vr (some y), vi c, vi e] ∧ Mo h y ∧ Inv (qi h (y + 1)) ∧ c < 6 ∧ e < 6 ∧ K (some (vl (prt (qi h (y + 1)) (dsh (qi h (y + 1)) c) (dsh (qi h (y + 1)) e)))) h
theorem c8_parts {h : Hp} {y c e : Nat} {K : RT} (h1 : Mo h y) (h2 : Inv (qi h (y + 1))) (h3 : c < 6) (h4 : e < 6) (h5 : K (some (vl (prt (qi h (y + 1)) (dsh (qi h (y + 1)) c) (dsh (qi h (y + 1)) e)))) h) : T_X8_parts [vr (some y), vi c, vi e] h K := ⟨y, c, e, rfl, h1, h2, h3, h4, h5⟩
abbrev i_X8_parts : MI := (cX8_parts, 9, RX8, (some .long), "parts", 3)
theorem k_X8_parts_0 : Okop i_X8_parts 0 (o_cl 1) 1 := k_lconst (n := 1) (by decide +kernel) rfl
theorem k_X8_parts_1 : Okop i_X8_parts 1 (o_ls 3) 2 := k_lsn (j := 3) (by decide +kernel) (by decide)
theorem k_X8_parts_2 : Okop i_X8_parts 2 (o_c 0) 3 := k_iconst (by decide +kernel)
theorem k_X8_parts_3 : Okop i_X8_parts 3 (o_is 5) 5 := k_is (by decide +kernel) (by decide)
theorem k_X8_parts_5 : Okop i_X8_parts 5 (o_il 5) 7 := k_il (by decide +kernel)
theorem k_X8_parts_7 : Okop i_X8_parts 7 (o_c 12) 9 := k_bipush (by decide +kernel) rfl
theorem k_X8_parts_9 : Okop i_X8_parts 9 (o_ige 120) 12 := k_ige (off := 111) (by decide +kernel) (by decide)
theorem k_X8_parts_12 : Okop i_X8_parts 12 (o_al 0) 13 := k_aln (j := 0) (by decide +kernel)
theorem k_X8_parts_13 : Okop i_X8_parts 13 (o_gr 8 0) 16 := k_gr (idx := 7) fo_8 (by decide) (by decide) gw_660 (by decide +kernel)
theorem k_X8_parts_16 : Okop i_X8_parts 16 (o_c 0) 17 := k_iconst (by decide +kernel)
theorem k_X8_parts_17 : Okop i_X8_parts 17 (o_il 5) 19 := k_il (by decide +kernel)
theorem k_X8_parts_19 : Okop i_X8_parts 19 (o_add) 20 := k_add (by decide +kernel)
theorem k_X8_parts_20 : Okop i_X8_parts 20 (o_iald) 21 := k_iald (by decide +kernel)
theorem k_X8_parts_21 : Okop i_X8_parts 21 (o_ne0 114) 24 := k_ne0 (off := 93) (by decide +kernel) (by decide)
theorem k_X8_parts_24 : Okop i_X8_parts 24 (o_al 0) 25 := k_aln (j := 0) (by decide +kernel)
theorem k_X8_parts_25 : Okop i_X8_parts 25 (o_il 1) 26 := k_iln (j := 1) (by decide +kernel)
theorem k_X8_parts_26 : Okop i_X8_parts 26 (o_il 5) 28 := k_il (by decide +kernel)
theorem k_X8_parts_28 : Okop i_X8_parts 28 (o_callV 8 2 T_X8_shareOf) 31 := k_callV (idx := 85) (r0 := (RX8, TX8, 14)) m_X8_shareOf ⟨gw_789, gw_10, ⟨by decide, by decide, by decide +kernel⟩, by decide, by decide⟩ rfl gw_786 gw_788 gs_16 (by decide +kernel)
theorem k_X8_parts_31 : Okop i_X8_parts 31 (o_ne0 47) 34 := k_ne0 (off := 16) (by decide +kernel) (by decide)
theorem k_X8_parts_34 : Okop i_X8_parts 34 (o_al 0) 35 := k_aln (j := 0) (by decide +kernel)
theorem k_X8_parts_35 : Okop i_X8_parts 35 (o_il 2) 36 := k_iln (j := 2) (by decide +kernel)
theorem k_X8_parts_36 : Okop i_X8_parts 36 (o_il 5) 38 := k_il (by decide +kernel)
theorem k_X8_parts_38 : Okop i_X8_parts 38 (o_callV 8 2 T_X8_shareOf) 41 := k_callV (idx := 85) (r0 := (RX8, TX8, 14)) m_X8_shareOf ⟨gw_789, gw_10, ⟨by decide, by decide, by decide +kernel⟩, by decide, by decide⟩ rfl gw_786 gw_788 gs_16 (by decide +kernel)
theorem k_X8_parts_41 : Okop i_X8_parts 41 (o_ne0 47) 44 := k_ne0 (off := 6) (by decide +kernel) (by decide)
theorem k_X8_parts_44 : Okop i_X8_parts 44 (o_go 114) 47 := k_go (off := 70) (by decide +kernel) (by decide)
theorem k_X8_parts_47 : Okop i_X8_parts 47 (o_cl 0) 48 := k_lconst (n := 0) (by decide +kernel) rfl
theorem k_X8_parts_48 : Okop i_X8_parts 48 (o_ls 6) 50 := k_ls (by decide +kernel) (by decide)
theorem k_X8_parts_50 : Okop i_X8_parts 50 (o_al 0) 51 := k_aln (j := 0) (by decide +kernel)
theorem k_X8_parts_51 : Okop i_X8_parts 51 (o_gr 8 0) 54 := k_gr (idx := 7) fo_8 (by decide) (by decide) gw_660 (by decide +kernel)
theorem k_X8_parts_54 : Okop i_X8_parts 54 (o_c 24) 56 := k_bipush (by decide +kernel) rfl
theorem k_X8_parts_56 : Okop i_X8_parts 56 (o_il 5) 58 := k_il (by decide +kernel)
theorem k_X8_parts_58 : Okop i_X8_parts 58 (o_add) 59 := k_add (by decide +kernel)
theorem k_X8_parts_59 : Okop i_X8_parts 59 (o_iald) 60 := k_iald (by decide +kernel)
theorem k_X8_parts_60 : Okop i_X8_parts 60 (o_is 8) 62 := k_is (by decide +kernel) (by decide)
theorem k_X8_parts_62 : Okop i_X8_parts 62 (o_il 8) 64 := k_il (by decide +kernel)
theorem k_X8_parts_64 : Okop i_X8_parts 64 (o_al 0) 65 := k_aln (j := 0) (by decide +kernel)
theorem k_X8_parts_65 : Okop i_X8_parts 65 (o_gr 8 0) 68 := k_gr (idx := 7) fo_8 (by decide) (by decide) gw_660 (by decide +kernel)
theorem k_X8_parts_68 : Okop i_X8_parts 68 (o_c 36) 70 := k_bipush (by decide +kernel) rfl
theorem k_X8_parts_70 : Okop i_X8_parts 70 (o_il 5) 72 := k_il (by decide +kernel)
theorem k_X8_parts_72 : Okop i_X8_parts 72 (o_add) 73 := k_add (by decide +kernel)
theorem k_X8_parts_73 : Okop i_X8_parts 73 (o_iald) 74 := k_iald (by decide +kernel)
theorem k_X8_parts_74 : Okop i_X8_parts 74 (o_igt 97) 77 := k_igt (off := 23) (by decide +kernel) (by decide)
theorem k_X8_parts_77 : Okop i_X8_parts 77 (o_ll 6) 79 := k_ll (by decide +kernel)
theorem k_X8_parts_79 : Okop i_X8_parts 79 (o_al 0) 80 := k_aln (j := 0) (by decide +kernel)
theorem k_X8_parts_80 : Okop i_X8_parts 80 (o_il 5) 82 := k_il (by decide +kernel)
theorem k_X8_parts_82 : Okop i_X8_parts 82 (o_il 8) 84 := k_il (by decide +kernel)
theorem k_X8_parts_84 : Okop i_X8_parts 84 (o_callV 8 2 T_X8_many) 87 := k_callV (idx := 66) (r0 := (RX8, TX8, 14)) m_X8_many ⟨gw_732, gw_10, ⟨by decide, by decide, by decide +kernel⟩, by decide, by decide⟩ rfl gw_729 gw_731 gs_13 (by decide +kernel)
theorem k_X8_parts_87 : Okop i_X8_parts 87 (o_i2l) 88 := k_i2l (by decide +kernel)
theorem k_X8_parts_88 : Okop i_X8_parts 88 (o_ladd) 89 := k_ladd (by decide +kernel)
theorem k_X8_parts_89 : Okop i_X8_parts 89 (o_ls 6) 91 := k_ls (by decide +kernel) (by decide)
theorem k_X8_parts_91 : Okop i_X8_parts 91 (o_inc 8 1) 94 := k_inc (by decide +kernel) (by decide)
theorem k_X8_parts_94 : Okop i_X8_parts 94 (o_go 62) 97 := k_go (off := -32) (by decide +kernel) (by decide)
theorem k_X8_parts_97 : Okop i_X8_parts 97 (o_ll 3) 98 := k_lln (j := 3) (by decide +kernel)
theorem k_X8_parts_98 : Okop i_X8_parts 98 (o_ll 6) 100 := k_ll (by decide +kernel)
theorem k_X8_parts_100 : Okop i_X8_parts 100 (o_lmul) 101 := k_lmul (by decide +kernel)
theorem k_X8_parts_101 : Okop i_X8_parts 101 (o_ls 3) 102 := k_lsn (j := 3) (by decide +kernel) (by decide)
theorem k_X8_parts_102 : Okop i_X8_parts 102 (o_ll 3) 103 := k_lln (j := 3) (by decide +kernel)
theorem k_X8_parts_103 : Okop i_X8_parts 103 (o_cl 1000000000000) 106 := k_ldc2 (idx := 103) (by decide +kernel) gw_818
theorem k_X8_parts_106 : Okop i_X8_parts 106 (o_lcmp) 107 := k_lcmp (by decide +kernel)
theorem k_X8_parts_107 : Okop i_X8_parts 107 (o_le0 114) 110 := k_le0 (off := 7) (by decide +kernel) (by decide)
theorem k_X8_parts_110 : Okop i_X8_parts 110 (o_cl (-1)) 113 := k_ldc2 (idx := 105) (by decide +kernel) gw_813
theorem k_X8_parts_113 : Okop i_X8_parts 113 (o_lret) 114 := k_lret (by decide +kernel) rfl
theorem k_X8_parts_114 : Okop i_X8_parts 114 (o_inc 5 1) 117 := k_inc (by decide +kernel) (by decide)
theorem k_X8_parts_117 : Okop i_X8_parts 117 (o_go 5) 120 := k_go (off := -112) (by decide +kernel) (by decide)
theorem k_X8_parts_120 : Okop i_X8_parts 120 (o_ll 3) 121 := k_lln (j := 3) (by decide +kernel)
theorem k_X8_parts_121 : Okop i_X8_parts 121 (o_lret) 122 := k_lret (by decide +kernel) rfl
theorem s_X8_parts_0 : Seg i_X8_parts 0 [o_cl 1, o_ls 3, o_c 0, o_is 5] 5 := Seg.cons k_X8_parts_0 (Seg.cons k_X8_parts_1 (Seg.cons k_X8_parts_2 (Seg.cons k_X8_parts_3 (Seg.nil))))
theorem s_X8_parts_5 : Seg i_X8_parts 5 [o_il 5, o_c 12, o_ige 120, o_al 0, o_gr 8 0, o_c 0, o_il 5, o_add, o_iald, o_ne0 114, o_al 0, o_il 1, o_il 5, o_callV 8 2 T_X8_shareOf, o_ne0 47, o_al 0, o_il 2, o_il 5, o_callV 8 2 T_X8_shareOf, o_ne0 47, o_go 114] 47 := Seg.cons k_X8_parts_5 (Seg.cons k_X8_parts_7 (Seg.cons k_X8_parts_9 (Seg.cons k_X8_parts_12 (Seg.cons k_X8_parts_13 (Seg.cons k_X8_parts_16 (Seg.cons k_X8_parts_17 (Seg.cons k_X8_parts_19 (Seg.cons k_X8_parts_20 (Seg.cons k_X8_parts_21 (Seg.cons k_X8_parts_24 (Seg.cons k_X8_parts_25 (Seg.cons k_X8_parts_26 (Seg.cons k_X8_parts_28 (Seg.cons k_X8_parts_31 (Seg.cons k_X8_parts_34 (Seg.cons k_X8_parts_35 (Seg.cons k_X8_parts_36 (Seg.cons k_X8_parts_38 (Seg.cons k_X8_parts_41 (Seg.cons k_X8_parts_44 (Seg.nil)))))))))))))))))))))
theorem s_X8_parts_47 : Seg i_X8_parts 47 [o_cl 0, o_ls 6, o_al 0, o_gr 8 0, o_c 24, o_il 5, o_add, o_iald, o_is 8] 62 := Seg.cons k_X8_parts_47 (Seg.cons k_X8_parts_48 (Seg.cons k_X8_parts_50 (Seg.cons k_X8_parts_51 (Seg.cons k_X8_parts_54 (Seg.cons k_X8_parts_56 (Seg.cons k_X8_parts_58 (Seg.cons k_X8_parts_59 (Seg.cons k_X8_parts_60 (Seg.nil)))))))))
theorem s_X8_parts_62 : Seg i_X8_parts 62 [o_il 8, o_al 0, o_gr 8 0, o_c 36, o_il 5, o_add, o_iald, o_igt 97, o_ll 6, o_al 0, o_il 5, o_il 8, o_callV 8 2 T_X8_many, o_i2l, o_ladd, o_ls 6, o_inc 8 1, o_go 62] 97 := Seg.cons k_X8_parts_62 (Seg.cons k_X8_parts_64 (Seg.cons k_X8_parts_65 (Seg.cons k_X8_parts_68 (Seg.cons k_X8_parts_70 (Seg.cons k_X8_parts_72 (Seg.cons k_X8_parts_73 (Seg.cons k_X8_parts_74 (Seg.cons k_X8_parts_77 (Seg.cons k_X8_parts_79 (Seg.cons k_X8_parts_80 (Seg.cons k_X8_parts_82 (Seg.cons k_X8_parts_84 (Seg.cons k_X8_parts_87 (Seg.cons k_X8_parts_88 (Seg.cons k_X8_parts_89 (Seg.cons k_X8_parts_91 (Seg.cons k_X8_parts_94 (Seg.nil))))))))))))))))))
theorem s_X8_parts_97 : Seg i_X8_parts 97 [o_ll 3, o_ll 6, o_lmul, o_ls 3, o_ll 3, o_cl 1000000000000, o_lcmp, o_le0 114, o_cl (-1), o_lret] 114 := Seg.cons k_X8_parts_97 (Seg.cons k_X8_parts_98 (Seg.cons k_X8_parts_100 (Seg.cons k_X8_parts_101 (Seg.cons k_X8_parts_102 (Seg.cons k_X8_parts_103 (Seg.cons k_X8_parts_106 (Seg.cons k_X8_parts_107 (Seg.cons k_X8_parts_110 (Seg.cons k_X8_parts_113 (Seg.nil))))))))))
theorem s_X8_parts_114 : Seg i_X8_parts 114 [o_inc 5 1, o_go 5] 120 := Seg.cons k_X8_parts_114 (Seg.cons k_X8_parts_117 (Seg.nil))
theorem s_X8_parts_120 : Seg i_X8_parts 120 [o_ll 3, o_lret] 122 := Seg.cons k_X8_parts_120 (Seg.cons k_X8_parts_121 (Seg.nil))

theorem m_X8_parts : Mth yX8_parts cX8_parts 9 (some .long) 3 (Sp0 T_X8_parts) := by
  refine Mth.of (by decide) ?_
  rintro x as h ok ⟨y, c, e, rfl, hM, hI, hc, he, hK⟩
  refine ⟨Nat.le_of_ble_eq_true rfl, ?_⟩
  have hbd := cpt_bd (s := dsh (qi h (y + 1)) c) (t := dsh (qi h (y + 1)) e) hI.1
  have loop : ∀ j, j ≤ 12 → cpt (qi h (y + 1)) (dsh (qi h (y + 1)) c) (dsh (qi h (y + 1)) e) j ≤ 1000000000000 → ∀ v6 v8, V i_X8_parts x 5 [some (vr (some y)), some (vi c), some (vi e), some (vl (cpt (qi h (y + 1)) (dsh (qi h (y + 1)) c) (dsh (qi h (y + 1)) e) j)), none, some (vi j), v6, none, v8] [] h (0, 0) := by
    refine bwd _ ?_ ?_
    · intro hle v6 v8
      unfold prt at hK
      rw [if_neg (by omega)] at hK
      refine s_X8_parts_5 x ok _ _ _ _ ?_
      simp only [wpS, o_c, o_cl, o_il, o_ll, o_al, o_is, o_ls, o_as, o_inc, o_add, o_sub, o_mul, o_and, o_or, o_xor, o_shl, o_shr, o_div, o_neg, o_ladd, o_lsub, o_lmul, o_ldiv, o_lrem, o_lneg, o_lcmp, o_i2l, o_l2i, o_dup, o_dup2, o_pop, o_go, o_nn, o_sw, swc, o_iret, o_zret, o_lret, o_vret, o_ieq, o_eq0, o_ine, o_ne0, o_ilt, o_lt0, o_ige, o_ge0, o_igt, o_gt0, o_ile, o_le0, o_iald, o_zald, o_lald, o_aald, o_iast, o_zast, o_last, o_aast, o_alen, o_gi, o_gr, o_pi, o_pz, o_pr, o_new, o_newa, o_copy, o_oinit, o_call, o_callV, o_callVc, o_callI, popn, cnO, o_BAD, lgt, lst, isL, kil, st1, st2, entL, List.length_nil, List.length_cons, List.replicate, Nat.reduceAdd, Nat.reduceLeDiff, Nat.reduceSub, true_and, and_true, Nat.zero_le, ne_eq, qk_wi, ql_wi, qr_wi, qj_wi, qt_wi, qk_wj, ql_wj, qr_wj, qi_wj, qt_wj, qk_wr, ql_wr, qi_wr, qj_wr, qt_wr, qi_ws, qj_ws, qr_ws, Int.toNat_natCast, Int.toNat_zero, Int.reduceToNat, not_true_eq_false, not_false_eq_true, false_implies, implies_true, Option.some.injEq, reduceCtorEq, Sp0, true_or, or_true, or_self, wi_wi, wj_wj]
      repeat' (first | (with_reducible refine And.intro ?_ ?_) | (with_reducible intro))
      all_goals (try (first | with_reducible assumption | omega | (unfold inI; omega) | (unfold inL; omega) | exact cz_in _ _))
      all_goals (try ((first | (refine s_X8_parts_0 x ok _ _ _ _ ?_) | (refine s_X8_parts_47 x ok _ _ _ _ ?_) | (refine s_X8_parts_97 x ok _ _ _ _ ?_) | (refine s_X8_parts_114 x ok _ _ _ _ ?_) | (refine s_X8_parts_120 x ok _ _ _ _ ?_)); (try simp only [wpS, o_c, o_cl, o_il, o_ll, o_al, o_is, o_ls, o_as, o_inc, o_add, o_sub, o_mul, o_and, o_or, o_xor, o_shl, o_shr, o_div, o_neg, o_ladd, o_lsub, o_lmul, o_ldiv, o_lrem, o_lneg, o_lcmp, o_i2l, o_l2i, o_dup, o_dup2, o_pop, o_go, o_nn, o_sw, swc, o_iret, o_zret, o_lret, o_vret, o_ieq, o_eq0, o_ine, o_ne0, o_ilt, o_lt0, o_ige, o_ge0, o_igt, o_gt0, o_ile, o_le0, o_iald, o_zald, o_lald, o_aald, o_iast, o_zast, o_last, o_aast, o_alen, o_gi, o_gr, o_pi, o_pz, o_pr, o_new, o_newa, o_copy, o_oinit, o_call, o_callV, o_callVc, o_callI, popn, cnO, o_BAD, lgt, lst, isL, kil, st1, st2, entL, List.length_nil, List.length_cons, List.replicate, Nat.reduceAdd, Nat.reduceLeDiff, Nat.reduceSub, true_and, and_true, Nat.zero_le, ne_eq, qk_wi, ql_wi, qr_wi, qj_wi, qt_wi, qk_wj, ql_wj, qr_wj, qi_wj, qt_wj, qk_wr, ql_wr, qi_wr, qj_wr, qt_wr, qi_ws, qj_ws, qr_ws, Int.toNat_natCast, Int.toNat_zero, Int.reduceToNat, not_true_eq_false, not_false_eq_true, false_implies, implies_true, Option.some.injEq, reduceCtorEq, Sp0, true_or, or_true, or_self, wi_wi, wj_wj]); (repeat' (first | (with_reducible refine And.intro ?_ ?_) | (with_reducible intro))); (all_goals (try (first | with_reducible assumption | omega | (unfold inI; omega) | (unfold inL; omega) | exact cz_in _ _)))))
    · intro j hj ih hle v6 v8
      have hIj := hI.1 j hj
      have hk := hIj.k
      have hb := hIj.b
      have ha := hIj.a
      have hr := hIj.rg
      have hlt := hIj.lt
      have hl0 := hIj.l
      have hs := (hI.2.1 c hc).1 j hj
      have ht := (hI.2.1 e he).1 j hj
      have hbj := hbd j (by omega)
      have e0 : qi h (y + 1) j = dk (qi h (y + 1)) j := rfl
      have e24 : qi h (y + 1) (24 + j) = db (qi h (y + 1)) j := rfl
      have e36 : qi h (y + 1) (36 + j) = da (qi h (y + 1)) j := rfl
      have hst := fun q => cpt_stay (d := qi h (y + 1)) (s := dsh (qi h (y + 1)) c) (t := dsh (qi h (y + 1)) e) (n := j + 1) q (12 - (j + 1))
      rw [show j + 1 + (12 - (j + 1)) = 12 by omega] at hst
      have ec := cpt_s (qi h (y + 1)) (dsh (qi h (y + 1)) c) (dsh (qi h (y + 1)) e) j
      rw [if_neg (by omega)] at ec
      have skip : ¬ (dk (qi h (y + 1)) j = 0 ∧ (dsh (qi h (y + 1)) c j ≠ 0 ∨ dsh (qi h (y + 1)) e j ≠ 0)) → ∀ v6 v8, V i_X8_parts x 114 [some (vr (some y)), some (vi c), some (vi e), some (vl (cpt (qi h (y + 1)) (dsh (qi h (y + 1)) c) (dsh (qi h (y + 1)) e) j)), none, some (vi j), v6, none, v8] [] h (0, 0) := fun n v6 v8 => by
        rw [if_neg n] at ec
        rw [ec] at ih
        refine s_X8_parts_114 x ok _ _ _ _ ?_
        simp only [wpS, o_c, o_cl, o_il, o_ll, o_al, o_is, o_ls, o_as, o_inc, o_add, o_sub, o_mul, o_and, o_or, o_xor, o_shl, o_shr, o_div, o_neg, o_ladd, o_lsub, o_lmul, o_ldiv, o_lrem, o_lneg, o_lcmp, o_i2l, o_l2i, o_dup, o_dup2, o_pop, o_go, o_nn, o_sw, swc, o_iret, o_zret, o_lret, o_vret, o_ieq, o_eq0, o_ine, o_ne0, o_ilt, o_lt0, o_ige, o_ge0, o_igt, o_gt0, o_ile, o_le0, o_iald, o_zald, o_lald, o_aald, o_iast, o_zast, o_last, o_aast, o_alen, o_gi, o_gr, o_pi, o_pz, o_pr, o_new, o_newa, o_copy, o_oinit, o_call, o_callV, o_callVc, o_callI, popn, cnO, o_BAD, lgt, lst, isL, kil, st1, st2, entL, List.length_nil, List.length_cons, List.replicate, Nat.reduceAdd, Nat.reduceLeDiff, Nat.reduceSub, true_and, and_true, Nat.zero_le, ne_eq, qk_wi, ql_wi, qr_wi, qj_wi, qt_wi, qk_wj, ql_wj, qr_wj, qi_wj, qt_wj, qk_wr, ql_wr, qi_wr, qj_wr, qt_wr, qi_ws, qj_ws, qr_ws, Int.toNat_natCast, Int.toNat_zero, Int.reduceToNat, not_true_eq_false, not_false_eq_true, false_implies, implies_true, Option.some.injEq, reduceCtorEq, Sp0, true_or, or_true, or_self, wi_wi, wj_wj]
        repeat' (first | (with_reducible refine And.intro ?_ ?_) | (with_reducible intro))
        all_goals (try (first | with_reducible assumption | omega | (unfold inI; omega) | (unfold inL; omega) | exact cz_in _ _))
        exact ih hle _ _
      have h47 : (dk (qi h (y + 1)) j = 0 ∧ (dsh (qi h (y + 1)) c j ≠ 0 ∨ dsh (qi h (y + 1)) e j ≠ 0)) → ∀ v6 v8, V i_X8_parts x 47 [some (vr (some y)), some (vi c), some (vi e), some (vl (cpt (qi h (y + 1)) (dsh (qi h (y + 1)) c) (dsh (qi h (y + 1)) e) j)), none, some (vi j), v6, none, v8] [] h (0, 0) := fun n v6 v8 => by
        rw [if_pos n] at ec
        have inner : ∀ i, i ≤ rng (qi h (y + 1)) j + 1 → V i_X8_parts x 62 [some (vr (some y)), some (vi c), some (vi e), some (vl (cpt (qi h (y + 1)) (dsh (qi h (y + 1)) c) (dsh (qi h (y + 1)) e) j)), none, some (vi j), some (vl (sg (fun i => mny (qi h (y + 1)) j (db (qi h (y + 1)) j + i)) i)), none, some (vi (db (qi h (y + 1)) j + i))] [] h (0, 0) := by
          refine bwd _ ?_ ?_
          · have el : sg (fun i => mny (qi h (y + 1)) j (db (qi h (y + 1)) j + i)) (rng (qi h (y + 1)) j + 1) = lot (qi h (y + 1)) j := rfl
            rw [el]
            have hbj1 := hbd (j + 1) (by omega)
            rw [ec] at hbj1 ih hst
            refine s_X8_parts_62 x ok _ _ _ _ ?_
            simp only [wpS, o_c, o_cl, o_il, o_ll, o_al, o_is, o_ls, o_as, o_inc, o_add, o_sub, o_mul, o_and, o_or, o_xor, o_shl, o_shr, o_div, o_neg, o_ladd, o_lsub, o_lmul, o_ldiv, o_lrem, o_lneg, o_lcmp, o_i2l, o_l2i, o_dup, o_dup2, o_pop, o_go, o_nn, o_sw, swc, o_iret, o_zret, o_lret, o_vret, o_ieq, o_eq0, o_ine, o_ne0, o_ilt, o_lt0, o_ige, o_ge0, o_igt, o_gt0, o_ile, o_le0, o_iald, o_zald, o_lald, o_aald, o_iast, o_zast, o_last, o_aast, o_alen, o_gi, o_gr, o_pi, o_pz, o_pr, o_new, o_newa, o_copy, o_oinit, o_call, o_callV, o_callVc, o_callI, popn, cnO, o_BAD, lgt, lst, isL, kil, st1, st2, entL, List.length_nil, List.length_cons, List.replicate, Nat.reduceAdd, Nat.reduceLeDiff, Nat.reduceSub, true_and, and_true, Nat.zero_le, ne_eq, qk_wi, ql_wi, qr_wi, qj_wi, qt_wi, qk_wj, ql_wj, qr_wj, qi_wj, qt_wj, qk_wr, ql_wr, qi_wr, qj_wr, qt_wr, qi_ws, qj_ws, qr_ws, Int.toNat_natCast, Int.toNat_zero, Int.reduceToNat, not_true_eq_false, not_false_eq_true, false_implies, implies_true, Option.some.injEq, reduceCtorEq, Sp0, true_or, or_true, or_self, wi_wi, wj_wj, hM.k, hM.r0, hM.k1, hM.l1, ix0, ix12, ix24, ix36, ix48, ix60, ix1032, ix1044, ix1092, ix1140, ix1188, ix1200, ix1212, ix1284, ix1290, ix1296, ix1298, ix1322, ix1346, ix1358, ixm4, ixm12, ixm24, ixm81, ixm1382, ixadd, Nat.zero_add, e36]
            repeat' (first | (with_reducible refine And.intro ?_ ?_) | (with_reducible intro))
            all_goals (try (first | with_reducible assumption | omega | (unfold inI; omega) | (unfold inL; omega) | exact cz_in _ _))
            all_goals (try (exfalso; omega))
            refine s_X8_parts_97 x ok _ _ _ _ ?_
            simp only [wpS, o_c, o_cl, o_il, o_ll, o_al, o_is, o_ls, o_as, o_inc, o_add, o_sub, o_mul, o_and, o_or, o_xor, o_shl, o_shr, o_div, o_neg, o_ladd, o_lsub, o_lmul, o_ldiv, o_lrem, o_lneg, o_lcmp, o_i2l, o_l2i, o_dup, o_dup2, o_pop, o_go, o_nn, o_sw, swc, o_iret, o_zret, o_lret, o_vret, o_ieq, o_eq0, o_ine, o_ne0, o_ilt, o_lt0, o_ige, o_ge0, o_igt, o_gt0, o_ile, o_le0, o_iald, o_zald, o_lald, o_aald, o_iast, o_zast, o_last, o_aast, o_alen, o_gi, o_gr, o_pi, o_pz, o_pr, o_new, o_newa, o_copy, o_oinit, o_call, o_callV, o_callVc, o_callI, popn, cnO, o_BAD, lgt, lst, isL, kil, st1, st2, entL, List.length_nil, List.length_cons, List.replicate, Nat.reduceAdd, Nat.reduceLeDiff, Nat.reduceSub, true_and, and_true, Nat.zero_le, ne_eq, qk_wi, ql_wi, qr_wi, qj_wi, qt_wi, qk_wj, ql_wj, qr_wj, qi_wj, qt_wj, qk_wr, ql_wr, qi_wr, qj_wr, qt_wr, qi_ws, qj_ws, qr_ws, Int.toNat_natCast, Int.toNat_zero, Int.reduceToNat, not_true_eq_false, not_false_eq_true, false_implies, implies_true, Option.some.injEq, reduceCtorEq, Sp0, true_or, or_true, or_self, wi_wi, wj_wj, cz_le]
            repeat' (first | (with_reducible refine And.intro ?_ ?_) | (with_reducible intro))
            all_goals (try (first | with_reducible assumption | omega | (unfold inI; omega) | (unfold inL; omega) | exact cz_in _ _))
            · refine s_X8_parts_114 x ok _ _ _ _ ?_
              simp only [wpS, o_c, o_cl, o_il, o_ll, o_al, o_is, o_ls, o_as, o_inc, o_add, o_sub, o_mul, o_and, o_or, o_xor, o_shl, o_shr, o_div, o_neg, o_ladd, o_lsub, o_lmul, o_ldiv, o_lrem, o_lneg, o_lcmp, o_i2l, o_l2i, o_dup, o_dup2, o_pop, o_go, o_nn, o_sw, swc, o_iret, o_zret, o_lret, o_vret, o_ieq, o_eq0, o_ine, o_ne0, o_ilt, o_lt0, o_ige, o_ge0, o_igt, o_gt0, o_ile, o_le0, o_iald, o_zald, o_lald, o_aald, o_iast, o_zast, o_last, o_aast, o_alen, o_gi, o_gr, o_pi, o_pz, o_pr, o_new, o_newa, o_copy, o_oinit, o_call, o_callV, o_callVc, o_callI, popn, cnO, o_BAD, lgt, lst, isL, kil, st1, st2, entL, List.length_nil, List.length_cons, List.replicate, Nat.reduceAdd, Nat.reduceLeDiff, Nat.reduceSub, true_and, and_true, Nat.zero_le, ne_eq, qk_wi, ql_wi, qr_wi, qj_wi, qt_wi, qk_wj, ql_wj, qr_wj, qi_wj, qt_wj, qk_wr, ql_wr, qi_wr, qj_wr, qt_wr, qi_ws, qj_ws, qr_ws, Int.toNat_natCast, Int.toNat_zero, Int.reduceToNat, not_true_eq_false, not_false_eq_true, false_implies, implies_true, Option.some.injEq, reduceCtorEq, Sp0, true_or, or_true, or_self, wi_wi, wj_wj]
              repeat' (first | (with_reducible refine And.intro ?_ ?_) | (with_reducible intro))
              all_goals (try (first | with_reducible assumption | omega | (unfold inI; omega) | (unfold inL; omega) | exact cz_in _ _))
              exact ih (by omega) _ _
            · unfold prt at hK
              rw [hst (by omega), if_pos (by omega)] at hK
              exact hK
          · intro i hi ih2
            have hmn := hIj.nb (db (qi h (y + 1)) j + i)
            rw [nmb_in (by omega) (by omega)] at hmn
            rw [sg_s] at ih2
            have e1 : db (qi h (y + 1)) j + ((i + 1 : Nat) : Int) = db (qi h (y + 1)) j + (i : Int) + 1 := by push_cast; omega
            rw [e1] at ih2
            refine s_X8_parts_62 x ok _ _ _ _ ?_
            simp only [wpS, o_c, o_cl, o_il, o_ll, o_al, o_is, o_ls, o_as, o_inc, o_add, o_sub, o_mul, o_and, o_or, o_xor, o_shl, o_shr, o_div, o_neg, o_ladd, o_lsub, o_lmul, o_ldiv, o_lrem, o_lneg, o_lcmp, o_i2l, o_l2i, o_dup, o_dup2, o_pop, o_go, o_nn, o_sw, swc, o_iret, o_zret, o_lret, o_vret, o_ieq, o_eq0, o_ine, o_ne0, o_ilt, o_lt0, o_ige, o_ge0, o_igt, o_gt0, o_ile, o_le0, o_iald, o_zald, o_lald, o_aald, o_iast, o_zast, o_last, o_aast, o_alen, o_gi, o_gr, o_pi, o_pz, o_pr, o_new, o_newa, o_copy, o_oinit, o_call, o_callV, o_callVc, o_callI, popn, cnO, o_BAD, lgt, lst, isL, kil, st1, st2, entL, List.length_nil, List.length_cons, List.replicate, Nat.reduceAdd, Nat.reduceLeDiff, Nat.reduceSub, true_and, and_true, Nat.zero_le, ne_eq, qk_wi, ql_wi, qr_wi, qj_wi, qt_wi, qk_wj, ql_wj, qr_wj, qi_wj, qt_wj, qk_wr, ql_wr, qi_wr, qj_wr, qt_wr, qi_ws, qj_ws, qr_ws, Int.toNat_natCast, Int.toNat_zero, Int.reduceToNat, not_true_eq_false, not_false_eq_true, false_implies, implies_true, Option.some.injEq, reduceCtorEq, Sp0, true_or, or_true, or_self, wi_wi, wj_wj, hM.k, hM.r0, hM.k1, hM.l1, ix0, ix12, ix24, ix36, ix48, ix60, ix1032, ix1044, ix1092, ix1140, ix1188, ix1200, ix1212, ix1284, ix1290, ix1296, ix1298, ix1322, ix1346, ix1358, ixm4, ixm12, ixm24, ixm81, ixm1382, ixadd, Nat.zero_add, e36]
            repeat' (first | (with_reducible refine And.intro ?_ ?_) | (with_reducible intro))
            all_goals (try (first | with_reducible assumption | omega | (unfold inI; omega) | (unfold inL; omega) | exact cz_in _ _))
            all_goals (try (exfalso; omega))
            refine c8_many hM hI hj (by omega) ?_
            simp only [wpS, o_c, o_cl, o_il, o_ll, o_al, o_is, o_ls, o_as, o_inc, o_add, o_sub, o_mul, o_and, o_or, o_xor, o_shl, o_shr, o_div, o_neg, o_ladd, o_lsub, o_lmul, o_ldiv, o_lrem, o_lneg, o_lcmp, o_i2l, o_l2i, o_dup, o_dup2, o_pop, o_go, o_nn, o_sw, swc, o_iret, o_zret, o_lret, o_vret, o_ieq, o_eq0, o_ine, o_ne0, o_ilt, o_lt0, o_ige, o_ge0, o_igt, o_gt0, o_ile, o_le0, o_iald, o_zald, o_lald, o_aald, o_iast, o_zast, o_last, o_aast, o_alen, o_gi, o_gr, o_pi, o_pz, o_pr, o_new, o_newa, o_copy, o_oinit, o_call, o_callV, o_callVc, o_callI, popn, cnO, o_BAD, lgt, lst, isL, kil, st1, st2, entL, List.length_nil, List.length_cons, List.replicate, Nat.reduceAdd, Nat.reduceLeDiff, Nat.reduceSub, true_and, and_true, Nat.zero_le, ne_eq, qk_wi, ql_wi, qr_wi, qj_wi, qt_wi, qk_wj, ql_wj, qr_wj, qi_wj, qt_wj, qk_wr, ql_wr, qi_wr, qj_wr, qt_wr, qi_ws, qj_ws, qr_ws, Int.toNat_natCast, Int.toNat_zero, Int.reduceToNat, not_true_eq_false, not_false_eq_true, false_implies, implies_true, Option.some.injEq, reduceCtorEq, Sp0, true_or, or_true, or_self, wi_wi, wj_wj]
            repeat' (first | (with_reducible refine And.intro ?_ ?_) | (with_reducible intro))
            all_goals (try (first | with_reducible assumption | omega | (unfold inI; omega) | (unfold inL; omega) | exact cz_in _ _))
        have l0 := inner 0 (by omega)
        rw [sg_0] at l0
        have e00 : db (qi h (y + 1)) j + ((0 : Nat) : Int) = db (qi h (y + 1)) j := Int.add_zero _
        rw [e00] at l0
        refine s_X8_parts_47 x ok _ _ _ _ ?_
        simp only [wpS, o_c, o_cl, o_il, o_ll, o_al, o_is, o_ls, o_as, o_inc, o_add, o_sub, o_mul, o_and, o_or, o_xor, o_shl, o_shr, o_div, o_neg, o_ladd, o_lsub, o_lmul, o_ldiv, o_lrem, o_lneg, o_lcmp, o_i2l, o_l2i, o_dup, o_dup2, o_pop, o_go, o_nn, o_sw, swc, o_iret, o_zret, o_lret, o_vret, o_ieq, o_eq0, o_ine, o_ne0, o_ilt, o_lt0, o_ige, o_ge0, o_igt, o_gt0, o_ile, o_le0, o_iald, o_zald, o_lald, o_aald, o_iast, o_zast, o_last, o_aast, o_alen, o_gi, o_gr, o_pi, o_pz, o_pr, o_new, o_newa, o_copy, o_oinit, o_call, o_callV, o_callVc, o_callI, popn, cnO, o_BAD, lgt, lst, isL, kil, st1, st2, entL, List.length_nil, List.length_cons, List.replicate, Nat.reduceAdd, Nat.reduceLeDiff, Nat.reduceSub, true_and, and_true, Nat.zero_le, ne_eq, qk_wi, ql_wi, qr_wi, qj_wi, qt_wi, qk_wj, ql_wj, qr_wj, qi_wj, qt_wj, qk_wr, ql_wr, qi_wr, qj_wr, qt_wr, qi_ws, qj_ws, qr_ws, Int.toNat_natCast, Int.toNat_zero, Int.reduceToNat, not_true_eq_false, not_false_eq_true, false_implies, implies_true, Option.some.injEq, reduceCtorEq, Sp0, true_or, or_true, or_self, wi_wi, wj_wj, hM.k, hM.r0, hM.k1, hM.l1, ix0, ix12, ix24, ix36, ix48, ix60, ix1032, ix1044, ix1092, ix1140, ix1188, ix1200, ix1212, ix1284, ix1290, ix1296, ix1298, ix1322, ix1346, ix1358, ixm4, ixm12, ixm24, ixm81, ixm1382, ixadd, Nat.zero_add, e24]
        repeat' (first | (with_reducible refine And.intro ?_ ?_) | (with_reducible intro))
        all_goals (try (first | with_reducible assumption | omega | (unfold inI; omega) | (unfold inL; omega) | exact cz_in _ _))
      refine s_X8_parts_5 x ok _ _ _ _ ?_
      simp only [wpS, o_c, o_cl, o_il, o_ll, o_al, o_is, o_ls, o_as, o_inc, o_add, o_sub, o_mul, o_and, o_or, o_xor, o_shl, o_shr, o_div, o_neg, o_ladd, o_lsub, o_lmul, o_ldiv, o_lrem, o_lneg, o_lcmp, o_i2l, o_l2i, o_dup, o_dup2, o_pop, o_go, o_nn, o_sw, swc, o_iret, o_zret, o_lret, o_vret, o_ieq, o_eq0, o_ine, o_ne0, o_ilt, o_lt0, o_ige, o_ge0, o_igt, o_gt0, o_ile, o_le0, o_iald, o_zald, o_lald, o_aald, o_iast, o_zast, o_last, o_aast, o_alen, o_gi, o_gr, o_pi, o_pz, o_pr, o_new, o_newa, o_copy, o_oinit, o_call, o_callV, o_callVc, o_callI, popn, cnO, o_BAD, lgt, lst, isL, kil, st1, st2, entL, List.length_nil, List.length_cons, List.replicate, Nat.reduceAdd, Nat.reduceLeDiff, Nat.reduceSub, true_and, and_true, Nat.zero_le, ne_eq, qk_wi, ql_wi, qr_wi, qj_wi, qt_wi, qk_wj, ql_wj, qr_wj, qi_wj, qt_wj, qk_wr, ql_wr, qi_wr, qj_wr, qt_wr, qi_ws, qj_ws, qr_ws, Int.toNat_natCast, Int.toNat_zero, Int.reduceToNat, not_true_eq_false, not_false_eq_true, false_implies, implies_true, Option.some.injEq, reduceCtorEq, Sp0, true_or, or_true, or_self, wi_wi, wj_wj, hM.k, hM.r0, hM.k1, hM.l1, ix0, ix12, ix24, ix36, ix48, ix60, ix1032, ix1044, ix1092, ix1140, ix1188, ix1200, ix1212, ix1284, ix1290, ix1296, ix1298, ix1322, ix1346, ix1358, ixm4, ixm12, ixm24, ixm81, ixm1382, ixadd, Nat.zero_add, e0]
      repeat' (first | (with_reducible refine And.intro ?_ ?_) | (with_reducible intro))
      all_goals (try (first | with_reducible assumption | omega | (unfold inI; omega) | (unfold inL; omega) | exact cz_in _ _))
      · exact skip (fun w => by omega) _ _
      · refine c8_shareOf hM hc hj ?_
        simp only [wpS, o_c, o_cl, o_il, o_ll, o_al, o_is, o_ls, o_as, o_inc, o_add, o_sub, o_mul, o_and, o_or, o_xor, o_shl, o_shr, o_div, o_neg, o_ladd, o_lsub, o_lmul, o_ldiv, o_lrem, o_lneg, o_lcmp, o_i2l, o_l2i, o_dup, o_dup2, o_pop, o_go, o_nn, o_sw, swc, o_iret, o_zret, o_lret, o_vret, o_ieq, o_eq0, o_ine, o_ne0, o_ilt, o_lt0, o_ige, o_ge0, o_igt, o_gt0, o_ile, o_le0, o_iald, o_zald, o_lald, o_aald, o_iast, o_zast, o_last, o_aast, o_alen, o_gi, o_gr, o_pi, o_pz, o_pr, o_new, o_newa, o_copy, o_oinit, o_call, o_callV, o_callVc, o_callI, popn, cnO, o_BAD, lgt, lst, isL, kil, st1, st2, entL, List.length_nil, List.length_cons, List.replicate, Nat.reduceAdd, Nat.reduceLeDiff, Nat.reduceSub, true_and, and_true, Nat.zero_le, ne_eq, qk_wi, ql_wi, qr_wi, qj_wi, qt_wi, qk_wj, ql_wj, qr_wj, qi_wj, qt_wj, qk_wr, ql_wr, qi_wr, qj_wr, qt_wr, qi_ws, qj_ws, qr_ws, Int.toNat_natCast, Int.toNat_zero, Int.reduceToNat, not_true_eq_false, not_false_eq_true, false_implies, implies_true, Option.some.injEq, reduceCtorEq, Sp0, true_or, or_true, or_self, wi_wi, wj_wj, hM.k]
        repeat' (first | (with_reducible refine And.intro ?_ ?_) | (with_reducible intro))
        all_goals (try (first | with_reducible assumption | omega | (unfold inI; omega) | (unfold inL; omega) | exact cz_in _ _))
        · exact h47 (by omega) _ _
        · refine c8_shareOf hM he hj ?_
          simp only [wpS, o_c, o_cl, o_il, o_ll, o_al, o_is, o_ls, o_as, o_inc, o_add, o_sub, o_mul, o_and, o_or, o_xor, o_shl, o_shr, o_div, o_neg, o_ladd, o_lsub, o_lmul, o_ldiv, o_lrem, o_lneg, o_lcmp, o_i2l, o_l2i, o_dup, o_dup2, o_pop, o_go, o_nn, o_sw, swc, o_iret, o_zret, o_lret, o_vret, o_ieq, o_eq0, o_ine, o_ne0, o_ilt, o_lt0, o_ige, o_ge0, o_igt, o_gt0, o_ile, o_le0, o_iald, o_zald, o_lald, o_aald, o_iast, o_zast, o_last, o_aast, o_alen, o_gi, o_gr, o_pi, o_pz, o_pr, o_new, o_newa, o_copy, o_oinit, o_call, o_callV, o_callVc, o_callI, popn, cnO, o_BAD, lgt, lst, isL, kil, st1, st2, entL, List.length_nil, List.length_cons, List.replicate, Nat.reduceAdd, Nat.reduceLeDiff, Nat.reduceSub, true_and, and_true, Nat.zero_le, ne_eq, qk_wi, ql_wi, qr_wi, qj_wi, qt_wi, qk_wj, ql_wj, qr_wj, qi_wj, qt_wj, qk_wr, ql_wr, qi_wr, qj_wr, qt_wr, qi_ws, qj_ws, qr_ws, Int.toNat_natCast, Int.toNat_zero, Int.reduceToNat, not_true_eq_false, not_false_eq_true, false_implies, implies_true, Option.some.injEq, reduceCtorEq, Sp0, true_or, or_true, or_self, wi_wi, wj_wj, hM.k]
          repeat' (first | (with_reducible refine And.intro ?_ ?_) | (with_reducible intro))
          all_goals (try (first | with_reducible assumption | omega | (unfold inI; omega) | (unfold inL; omega) | exact cz_in _ _))
          · exact h47 (by omega) _ _
          · exact skip (fun w => by omega) _ _
  all_goals (try ((first | (refine s_X8_parts_0 x ok _ _ _ _ ?_) | (refine s_X8_parts_47 x ok _ _ _ _ ?_) | (refine s_X8_parts_97 x ok _ _ _ _ ?_) | (refine s_X8_parts_114 x ok _ _ _ _ ?_) | (refine s_X8_parts_120 x ok _ _ _ _ ?_)); (try simp only [wpS, o_c, o_cl, o_il, o_ll, o_al, o_is, o_ls, o_as, o_inc, o_add, o_sub, o_mul, o_and, o_or, o_xor, o_shl, o_shr, o_div, o_neg, o_ladd, o_lsub, o_lmul, o_ldiv, o_lrem, o_lneg, o_lcmp, o_i2l, o_l2i, o_dup, o_dup2, o_pop, o_go, o_nn, o_sw, swc, o_iret, o_zret, o_lret, o_vret, o_ieq, o_eq0, o_ine, o_ne0, o_ilt, o_lt0, o_ige, o_ge0, o_igt, o_gt0, o_ile, o_le0, o_iald, o_zald, o_lald, o_aald, o_iast, o_zast, o_last, o_aast, o_alen, o_gi, o_gr, o_pi, o_pz, o_pr, o_new, o_newa, o_copy, o_oinit, o_call, o_callV, o_callVc, o_callI, popn, cnO, o_BAD, lgt, lst, isL, kil, st1, st2, entL, List.length_nil, List.length_cons, List.replicate, Nat.reduceAdd, Nat.reduceLeDiff, Nat.reduceSub, true_and, and_true, Nat.zero_le, ne_eq, qk_wi, ql_wi, qr_wi, qj_wi, qt_wi, qk_wj, ql_wj, qr_wj, qi_wj, qt_wj, qk_wr, ql_wr, qi_wr, qj_wr, qt_wr, qi_ws, qj_ws, qr_ws, Int.toNat_natCast, Int.toNat_zero, Int.reduceToNat, not_true_eq_false, not_false_eq_true, false_implies, implies_true, Option.some.injEq, reduceCtorEq, Sp0, true_or, or_true, or_self, wi_wi, wj_wj]); (repeat' (first | (with_reducible refine And.intro ?_ ?_) | (with_reducible intro))); (all_goals (try (first | with_reducible assumption | omega | (unfold inI; omega) | (unfold inL; omega) | exact cz_in _ _)))))
  have l0 := loop 0 (by omega) (by show (1 : Int) ≤ 1000000000000; omega) none none
  exact l0

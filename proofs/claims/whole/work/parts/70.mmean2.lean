/-! ===== FitBenchModel.mean, the code ===== -/
def T_X8_mean : TT := fun as h K => ∃ (y : Nat) (c w : Int), as = [vr (some y), vi c, vi w] ∧ Mo h y ∧ Inv (qi h (y + 1)) ∧ inI c ∧ inI w ∧ ∀ u v : Nat → Int, K (some (vl (meaF (qi h (y + 1)) c w))) (cH h y u v)
abbrev i_X8_mean : MI := (cX8_mean, 8, RX8, (some .long), "mean", 7)
theorem k_X8_mean_0 : Okop i_X8_mean 0 (o_il 2) 1 := k_iln (j := 2) (by decide +kernel)
theorem k_X8_mean_1 : Okop i_X8_mean 1 (o_eq0 13) 4 := k_eq0 (off := 12) (by decide +kernel) (by decide)
theorem k_X8_mean_4 : Okop i_X8_mean 4 (o_il 2) 5 := k_iln (j := 2) (by decide +kernel)
theorem k_X8_mean_5 : Okop i_X8_mean 5 (o_c 1) 6 := k_iconst (by decide +kernel)
theorem k_X8_mean_6 : Okop i_X8_mean 6 (o_ieq 13) 9 := k_ieq (off := 7) (by decide +kernel) (by decide)
theorem k_X8_mean_9 : Okop i_X8_mean 9 (o_cl (-1)) 12 := k_ldc2 (idx := 105) (by decide +kernel) gw_813
theorem k_X8_mean_12 : Okop i_X8_mean 12 (o_lret) 13 := k_lret (by decide +kernel) rfl
theorem k_X8_mean_13 : Okop i_X8_mean 13 (o_il 1) 14 := k_iln (j := 1) (by decide +kernel)
theorem k_X8_mean_14 : Okop i_X8_mean 14 (o_call 1 T_X8_isChain) 17 := k_call (idx := 71) m_X8_isChain ⟨gw_748, gw_10, ⟨by decide, by decide, by decide +kernel⟩, by decide, by decide⟩ gw_746 gw_747 (by decide +kernel)
theorem k_X8_mean_17 : Okop i_X8_mean 17 (o_ne0 22) 20 := k_ne0 (off := 5) (by decide +kernel) (by decide)
theorem k_X8_mean_20 : Okop i_X8_mean 20 (o_cl 0) 21 := k_lconst (n := 0) (by decide +kernel) rfl
theorem k_X8_mean_21 : Okop i_X8_mean 21 (o_lret) 22 := k_lret (by decide +kernel) rfl
theorem k_X8_mean_22 : Okop i_X8_mean 22 (o_al 0) 23 := k_aln (j := 0) (by decide +kernel)
theorem k_X8_mean_23 : Okop i_X8_mean 23 (o_il 1) 24 := k_iln (j := 1) (by decide +kernel)
theorem k_X8_mean_24 : Okop i_X8_mean 24 (o_il 1) 25 := k_iln (j := 1) (by decide +kernel)
theorem k_X8_mean_25 : Okop i_X8_mean 25 (o_callV 8 2 T_X8_parts) 28 := k_callV (idx := 114) (r0 := (RX8, TX8, 14)) m_X8_parts ⟨gw_817, gw_10, ⟨by decide, by decide, by decide +kernel⟩, by decide, by decide⟩ rfl gw_814 gw_816 gs_19 (by decide +kernel)
theorem k_X8_mean_28 : Okop i_X8_mean 28 (o_ls 3) 29 := k_lsn (j := 3) (by decide +kernel) (by decide)
theorem k_X8_mean_29 : Okop i_X8_mean 29 (o_ll 3) 30 := k_lln (j := 3) (by decide +kernel)
theorem k_X8_mean_30 : Okop i_X8_mean 30 (o_cl (-1)) 33 := k_ldc2 (idx := 105) (by decide +kernel) gw_813
theorem k_X8_mean_33 : Okop i_X8_mean 33 (o_lcmp) 34 := k_lcmp (by decide +kernel)
theorem k_X8_mean_34 : Okop i_X8_mean 34 (o_ne0 39) 37 := k_ne0 (off := 5) (by decide +kernel) (by decide)
theorem k_X8_mean_37 : Okop i_X8_mean 37 (o_cl 0) 38 := k_lconst (n := 0) (by decide +kernel) rfl
theorem k_X8_mean_38 : Okop i_X8_mean 38 (o_lret) 39 := k_lret (by decide +kernel) rfl
theorem k_X8_mean_39 : Okop i_X8_mean 39 (o_al 0) 40 := k_aln (j := 0) (by decide +kernel)
theorem k_X8_mean_40 : Okop i_X8_mean 40 (o_il 1) 41 := k_iln (j := 1) (by decide +kernel)
theorem k_X8_mean_41 : Okop i_X8_mean 41 (o_il 1) 42 := k_iln (j := 1) (by decide +kernel)
theorem k_X8_mean_42 : Okop i_X8_mean 42 (o_c 0) 43 := k_iconst (by decide +kernel)
theorem k_X8_mean_43 : Okop i_X8_mean 43 (o_callV 8 3 T_X8_counts) 46 := k_callV (idx := 120) (r0 := (RX8, TX8, 14)) m_X8_counts ⟨gw_823, gw_10, ⟨by decide, by decide, by decide +kernel⟩, by decide, by decide⟩ rfl gw_820 gw_822 gs_20 (by decide +kernel)
theorem k_X8_mean_46 : Okop i_X8_mean 46 (o_cl 0) 47 := k_lconst (n := 0) (by decide +kernel) rfl
theorem k_X8_mean_47 : Okop i_X8_mean 47 (o_ls 5) 49 := k_ls (by decide +kernel) (by decide)
theorem k_X8_mean_49 : Okop i_X8_mean 49 (o_c 0) 50 := k_iconst (by decide +kernel)
theorem k_X8_mean_50 : Okop i_X8_mean 50 (o_is 7) 52 := k_is (by decide +kernel) (by decide)
theorem k_X8_mean_52 : Okop i_X8_mean 52 (o_il 7) 54 := k_il (by decide +kernel)
theorem k_X8_mean_54 : Okop i_X8_mean 54 (o_al 0) 55 := k_aln (j := 0) (by decide +kernel)
theorem k_X8_mean_55 : Okop i_X8_mean 55 (o_il 1) 56 := k_iln (j := 1) (by decide +kernel)
theorem k_X8_mean_56 : Okop i_X8_mean 56 (o_callV 8 1 T_X8_wide) 59 := k_callV (idx := 111) (r0 := (RX8, TX8, 14)) m_X8_wide ⟨gw_827, gw_10, ⟨by decide, by decide, by decide +kernel⟩, by decide, by decide⟩ rfl gw_824 gw_826 gs_21 (by decide +kernel)
theorem k_X8_mean_59 : Okop i_X8_mean 59 (o_igt 91) 62 := k_igt (off := 32) (by decide +kernel) (by decide)
theorem k_X8_mean_62 : Okop i_X8_mean 62 (o_ll 5) 64 := k_ll (by decide +kernel)
theorem k_X8_mean_64 : Okop i_X8_mean 64 (o_al 0) 65 := k_aln (j := 0) (by decide +kernel)
theorem k_X8_mean_65 : Okop i_X8_mean 65 (o_gr 8 6) 68 := k_gr (idx := 30) fo_8 (by decide) (by decide) gw_666 (by decide +kernel)
theorem k_X8_mean_68 : Okop i_X8_mean 68 (o_il 7) 70 := k_il (by decide +kernel)
theorem k_X8_mean_70 : Okop i_X8_mean 70 (o_lald) 71 := k_lald (by decide +kernel)
theorem k_X8_mean_71 : Okop i_X8_mean 71 (o_al 0) 72 := k_aln (j := 0) (by decide +kernel)
theorem k_X8_mean_72 : Okop i_X8_mean 72 (o_il 1) 73 := k_iln (j := 1) (by decide +kernel)
theorem k_X8_mean_73 : Okop i_X8_mean 73 (o_c 0) 74 := k_iconst (by decide +kernel)
theorem k_X8_mean_74 : Okop i_X8_mean 74 (o_callV 8 2 T_X8_worst) 77 := k_callV (idx := 100) (r0 := (RX8, TX8, 14)) m_X8_worst ⟨gw_801, gw_10, ⟨by decide, by decide, by decide +kernel⟩, by decide, by decide⟩ rfl gw_808 gw_799 gw_800 (by decide +kernel)
theorem k_X8_mean_77 : Okop i_X8_mean 77 (o_il 7) 79 := k_il (by decide +kernel)
theorem k_X8_mean_79 : Okop i_X8_mean 79 (o_add) 80 := k_add (by decide +kernel)
theorem k_X8_mean_80 : Okop i_X8_mean 80 (o_i2l) 81 := k_i2l (by decide +kernel)
theorem k_X8_mean_81 : Okop i_X8_mean 81 (o_lmul) 82 := k_lmul (by decide +kernel)
theorem k_X8_mean_82 : Okop i_X8_mean 82 (o_ladd) 83 := k_ladd (by decide +kernel)
theorem k_X8_mean_83 : Okop i_X8_mean 83 (o_ls 5) 85 := k_ls (by decide +kernel) (by decide)
theorem k_X8_mean_85 : Okop i_X8_mean 85 (o_inc 7 1) 88 := k_inc (by decide +kernel) (by decide)
theorem k_X8_mean_88 : Okop i_X8_mean 88 (o_go 52) 91 := k_go (off := -36) (by decide +kernel) (by decide)
theorem k_X8_mean_91 : Okop i_X8_mean 91 (o_ll 5) 93 := k_ll (by decide +kernel)
theorem k_X8_mean_93 : Okop i_X8_mean 93 (o_ll 3) 94 := k_lln (j := 3) (by decide +kernel)
theorem k_X8_mean_94 : Okop i_X8_mean 94 (o_il 2) 95 := k_iln (j := 2) (by decide +kernel)
theorem k_X8_mean_95 : Okop i_X8_mean 95 (o_call 3 T_X8_lowest) 98 := k_call (idx := 124) m_X8_lowest ⟨gw_830, gw_10, ⟨by decide, by decide, by decide +kernel⟩, by decide, by decide⟩ gw_828 gw_829 (by decide +kernel)
theorem k_X8_mean_98 : Okop i_X8_mean 98 (o_lret) 99 := k_lret (by decide +kernel) rfl
theorem s_X8_mean_0 : Seg i_X8_mean 0 [o_il 2, o_eq0 13, o_il 2, o_c 1, o_ieq 13, o_cl (-1), o_lret] 13 := Seg.cons k_X8_mean_0 (Seg.cons k_X8_mean_1 (Seg.cons k_X8_mean_4 (Seg.cons k_X8_mean_5 (Seg.cons k_X8_mean_6 (Seg.cons k_X8_mean_9 (Seg.cons k_X8_mean_12 (Seg.nil)))))))
theorem s_X8_mean_13 : Seg i_X8_mean 13 [o_il 1, o_call 1 T_X8_isChain, o_ne0 22, o_cl 0, o_lret] 22 := Seg.cons k_X8_mean_13 (Seg.cons k_X8_mean_14 (Seg.cons k_X8_mean_17 (Seg.cons k_X8_mean_20 (Seg.cons k_X8_mean_21 (Seg.nil)))))
theorem s_X8_mean_22 : Seg i_X8_mean 22 [o_al 0, o_il 1, o_il 1, o_callV 8 2 T_X8_parts, o_ls 3, o_ll 3, o_cl (-1), o_lcmp, o_ne0 39, o_cl 0, o_lret] 39 := Seg.cons k_X8_mean_22 (Seg.cons k_X8_mean_23 (Seg.cons k_X8_mean_24 (Seg.cons k_X8_mean_25 (Seg.cons k_X8_mean_28 (Seg.cons k_X8_mean_29 (Seg.cons k_X8_mean_30 (Seg.cons k_X8_mean_33 (Seg.cons k_X8_mean_34 (Seg.cons k_X8_mean_37 (Seg.cons k_X8_mean_38 (Seg.nil)))))))))))
theorem s_X8_mean_39 : Seg i_X8_mean 39 [o_al 0, o_il 1, o_il 1, o_c 0, o_callV 8 3 T_X8_counts, o_cl 0, o_ls 5, o_c 0, o_is 7] 52 := Seg.cons k_X8_mean_39 (Seg.cons k_X8_mean_40 (Seg.cons k_X8_mean_41 (Seg.cons k_X8_mean_42 (Seg.cons k_X8_mean_43 (Seg.cons k_X8_mean_46 (Seg.cons k_X8_mean_47 (Seg.cons k_X8_mean_49 (Seg.cons k_X8_mean_50 (Seg.nil)))))))))
theorem s_X8_mean_52 : Seg i_X8_mean 52 [o_il 7, o_al 0, o_il 1, o_callV 8 1 T_X8_wide, o_igt 91, o_ll 5, o_al 0, o_gr 8 6, o_il 7, o_lald, o_al 0, o_il 1, o_c 0, o_callV 8 2 T_X8_worst, o_il 7, o_add, o_i2l, o_lmul, o_ladd, o_ls 5, o_inc 7 1, o_go 52] 91 := Seg.cons k_X8_mean_52 (Seg.cons k_X8_mean_54 (Seg.cons k_X8_mean_55 (Seg.cons k_X8_mean_56 (Seg.cons k_X8_mean_59 (Seg.cons k_X8_mean_62 (Seg.cons k_X8_mean_64 (Seg.cons k_X8_mean_65 (Seg.cons k_X8_mean_68 (Seg.cons k_X8_mean_70 (Seg.cons k_X8_mean_71 (Seg.cons k_X8_mean_72 (Seg.cons k_X8_mean_73 (Seg.cons k_X8_mean_74 (Seg.cons k_X8_mean_77 (Seg.cons k_X8_mean_79 (Seg.cons k_X8_mean_80 (Seg.cons k_X8_mean_81 (Seg.cons k_X8_mean_82 (Seg.cons k_X8_mean_83 (Seg.cons k_X8_mean_85 (Seg.cons k_X8_mean_88 (Seg.nil))))))))))))))))))))))
theorem s_X8_mean_91 : Seg i_X8_mean 91 [o_ll 5, o_ll 3, o_il 2, o_call 3 T_X8_lowest, o_lret] 99 := Seg.cons k_X8_mean_91 (Seg.cons k_X8_mean_93 (Seg.cons k_X8_mean_94 (Seg.cons k_X8_mean_95 (Seg.cons k_X8_mean_98 (Seg.nil)))))

theorem m_X8_mean : Mth yX8_mean cX8_mean 8 (some .long) 7 (Sp0 T_X8_mean) := by
  refine Mth.of (by decide) ?_
  rintro x as h ok ⟨y, c, w, rfl, hM, hI, ic, iw, hK⟩
  refine ⟨Nat.le_of_ble_eq_true rfl, ?_⟩
  have hM2 : ∀ u v : Nat → Int, Mo (cH h y u v) y := fun _ _ => hM
  have hD2 : ∀ u v : Nat → Int, qi (cH h y u v) (y + 1) = qi h (y + 1) := fun _ _ => rfl
  have hKh := hK (qj h (y + 7)) (qj h (y + 8))
  rw [cH_self] at hKh
  generalize hD : qi h (y + 1) = D at *
  have hI2 : ∀ u v : Nat → Int, Inv (qi (cH h y u v) (y + 1)) := fun u v => by rw [hD2]; exact hI
  by_cases q : (0 ≤ w ∧ w ≤ 1) ∧ (0 ≤ c ∧ c ≤ 5)
  · obtain ⟨C, rfl, hC⟩ : ∃ C : Nat, c = (C : Int) ∧ C < 6 := ⟨c.toNat, by omega, by omega⟩
    unfold meaF at hK hKh
    rw [if_neg (fun z => z q.1), if_neg (fun z => z q.2), Int.toNat_natCast] at hK hKh
    have hcp := cpt_bd (s := dsh D C) (t := fun _ => 0) hI.1 12 (Nat.le_refl _)
    have hs := (hI.2.1 C hC).1
    have hlg := leG_rg hI.1 hs
    have hwd := wdG_rg hI.1 hs
    have hnn := lyR_nn (d := D) (dsh D C) (fun _ => 0) 1 hI.1 12 (Nat.le_refl _)
    have hsum := row_sum (s := dsh D C) (t := fun _ => 0) hI.1 hs (fun m _ => by show (-3 : Int) ≤ 0 ∧ (0 : Int) ≤ 3; omega)
    rw [wdG_0] at hsum
    obtain ⟨W, hW⟩ : ∃ W : Nat, wdG D (dsh D C) = (W : Int) := ⟨(wdG D (dsh D C)).toNat, by omega⟩
    rw [hW, Int.toNat_natCast, Int.toNat_zero, Nat.zero_add, Nat.mul_one] at hsum
    rw [hW] at hwd
    have h22 : V i_X8_mean x 22 [some (vr (some y)), some (vi C), some (vi w), none, none, none, none, none] [] h (0, 0) := by
      refine s_X8_mean_22 x ok _ _ _ _ ?_
      simp only [wpS, o_c, o_cl, o_il, o_ll, o_al, o_is, o_ls, o_as, o_inc, o_add, o_sub, o_mul, o_and, o_or, o_xor, o_shl, o_shr, o_div, o_neg, o_ladd, o_lsub, o_lmul, o_ldiv, o_lrem, o_lneg, o_lcmp, o_i2l, o_l2i, o_dup, o_dup2, o_pop, o_go, o_nn, o_sw, swc, o_iret, o_zret, o_lret, o_vret, o_ieq, o_eq0, o_ine, o_ne0, o_ilt, o_lt0, o_ige, o_ge0, o_igt, o_gt0, o_ile, o_le0, o_iald, o_zald, o_lald, o_aald, o_iast, o_zast, o_last, o_aast, o_alen, o_gi, o_gr, o_pi, o_pz, o_pr, o_new, o_newa, o_copy, o_oinit, o_call, o_callV, o_callVc, o_callI, popn, cnO, o_BAD, lgt, lst, isL, kil, st1, st2, entL, List.length_nil, List.length_cons, List.replicate, Nat.reduceAdd, Nat.reduceLeDiff, Nat.reduceSub, true_and, and_true, Nat.zero_le, ne_eq, qk_wi, ql_wi, qr_wi, qj_wi, qt_wi, qk_wj, ql_wj, qr_wj, qi_wj, qt_wj, qk_wr, ql_wr, qi_wr, qj_wr, qt_wr, qi_ws, qj_ws, qr_ws, Int.toNat_natCast, Int.toNat_zero, Int.reduceToNat, not_true_eq_false, not_false_eq_true, false_implies, implies_true, Option.some.injEq, reduceCtorEq, Sp0, true_or, or_true, or_self, wi_wi, wj_wj, hM.k]
      repeat' (first | (with_reducible refine And.intro ?_ ?_) | (with_reducible intro))
      all_goals (try (first | with_reducible assumption | omega | (unfold inI; omega) | (unfold inL; omega) | exact cz_in _ _))
      refine c8_parts hM (by rw [hD]; exact hI) hC hC ?_
      rw [hD]
      unfold prt
      rw [cpt_cc]
      by_cases hbig : 1000000000000 < cpt D (dsh D C) (fun _ => 0) 12
      · rw [if_pos hbig] at hKh
        rw [if_pos hbig]
        simp only [wpS, o_c, o_cl, o_il, o_ll, o_al, o_is, o_ls, o_as, o_inc, o_add, o_sub, o_mul, o_and, o_or, o_xor, o_shl, o_shr, o_div, o_neg, o_ladd, o_lsub, o_lmul, o_ldiv, o_lrem, o_lneg, o_lcmp, o_i2l, o_l2i, o_dup, o_dup2, o_pop, o_go, o_nn, o_sw, swc, o_iret, o_zret, o_lret, o_vret, o_ieq, o_eq0, o_ine, o_ne0, o_ilt, o_lt0, o_ige, o_ge0, o_igt, o_gt0, o_ile, o_le0, o_iald, o_zald, o_lald, o_aald, o_iast, o_zast, o_last, o_aast, o_alen, o_gi, o_gr, o_pi, o_pz, o_pr, o_new, o_newa, o_copy, o_oinit, o_call, o_callV, o_callVc, o_callI, popn, cnO, o_BAD, lgt, lst, isL, kil, st1, st2, entL, List.length_nil, List.length_cons, List.replicate, Nat.reduceAdd, Nat.reduceLeDiff, Nat.reduceSub, true_and, and_true, Nat.zero_le, ne_eq, qk_wi, ql_wi, qr_wi, qj_wi, qt_wi, qk_wj, ql_wj, qr_wj, qi_wj, qt_wj, qk_wr, ql_wr, qi_wr, qj_wr, qt_wr, qi_ws, qj_ws, qr_ws, Int.toNat_natCast, Int.toNat_zero, Int.reduceToNat, not_true_eq_false, not_false_eq_true, false_implies, implies_true, Option.some.injEq, reduceCtorEq, Sp0, true_or, or_true, or_self, wi_wi, wj_wj, hM.k, cz_in, cz_lt, cz_le, cz_gt, cz_ge, cz_eq]
        repeat' (first | (with_reducible refine And.intro ?_ ?_) | (with_reducible intro))
        all_goals (try (first | with_reducible assumption | omega | (unfold inI; omega) | (unfold inL; omega) | exact cz_in _ _))
        all_goals (first | exact hKh | (exfalso; omega) | skip)
      · have hsum2 := hsum (by omega)
        have hcnt : cpt D (dsh D C) (tw D C 0) 12 ≤ 1000000000000 ∧ (W + 1) * ((wdG D (tw D C 0)).toNat + 1) ≤ 200000 := by
          rw [tw_0, wdG_0, Int.toNat_zero]
          omega
        have hmea := mea_eq (d := D) (s := dsh D C) hI.1 hs hW (by omega)
        have hfin : ∀ u v : Nat → Int, xR x (some (vl (linF (sg (fun k => lyR D (dsh D C) (fun _ => 0) 1 12 k * (leG D (dsh D C) + k)) (W + 1)) (cpt D (dsh D C) (fun _ => 0) 12) w))) (cH h y u v) := by
          intro u v
          have := hK u v
          rw [if_neg hbig, ← hmea] at this
          exact this
        clear hK hKh hsum hmea
        have hcntu : ∀ u : Nat → Int, (∀ k, k < (W + 1) * ((wdG D (tw D C 0)).toNat + 1) → u k = lyR D (dsh D C) (tw D C 0) ((wdG D (tw D C 0)).toNat + 1) 12 k) → ∀ k, k < W + 1 → u k = lyR D (dsh D C) (fun _ => 0) 1 12 k := by
          intro u hu k hk
          rw [tw_0, wdG_0, Int.toNat_zero, Nat.zero_add, Nat.mul_one] at hu
          exact hu k hk
        rw [if_neg hbig]
        generalize hA : cpt D (dsh D C) (fun _ => 0) 12 = A at *
        generalize lyR D (dsh D C) (fun _ => 0) 1 12 = g at *
        generalize hle : leG D (dsh D C) = le at *
        have ht : ∀ k, k < W + 1 → -(1000000 * g k) ≤ g k * (le + k) ∧ g k * (le + k) ≤ 1000000 * g k := fun k hk => by
          have h0 := hnn k
          have b1 := Int.mul_le_mul_of_nonneg_left (show le + (k : Int) ≤ 1000000 by omega) h0
          have b2 := Int.mul_le_mul_of_nonneg_left (show -1000000 ≤ le + (k : Int) by omega) h0
          omega
        have hpart : ∀ j, j ≤ W + 1 → -1000000000000000000 ≤ sg (fun k => g k * (le + k)) j ∧ sg (fun k => g k * (le + k)) j ≤ 1000000000000000000 := by
          intro j hj
          have h2 := sg_mn (f := fun k => g k * (le + k)) (g := fun k => 1000000 * g k) (n := j) (fun k hk => (ht k (by omega)).2)
          have h3 := sg_mn (f := fun k => -1000000 * g k) (g := fun k => g k * (le + k)) (n := j) (fun k hk => by have := (ht k (by omega)).1; omega)
          rw [sg_mul] at h2 h3
          have h4 := sg_mono (g := g) (N := W + 1) (fun k _ => hnn k) hj (Nat.le_refl _)
          have h5 := sg_nn (f := g) (n := j) (fun k _ => hnn k)
          omega
        have hgk : ∀ k, k < W + 1 → g k ≤ 1000000000000 := fun k hk => by
          have := sg_pt (f := g) (n := W + 1) (fun k _ => hnn k) k hk
          omega
        have loop : ∀ j, j ≤ W + 1 → ∀ u v : Nat → Int, (∀ k, k < W + 1 → u k = g k) → V i_X8_mean x 52 [some (vr (some y)), some (vi C), some (vi w), some (vl A), none, some (vl (sg (fun k => g k * (le + k)) j)), none, some (vi j)] [] (cH h y u v) (0, 0) := by
          refine bwd _ ?_ ?_
          · intro u v hu
            have hk := hfin u v
            have hp := hpart (W + 1) (Nat.le_refl _)
            generalize sg (fun k => g k * (le + k)) (W + 1) = S at *
            refine s_X8_mean_52 x ok _ _ _ _ ?_
            simp only [wpS, o_c, o_cl, o_il, o_ll, o_al, o_is, o_ls, o_as, o_inc, o_add, o_sub, o_mul, o_and, o_or, o_xor, o_shl, o_shr, o_div, o_neg, o_ladd, o_lsub, o_lmul, o_ldiv, o_lrem, o_lneg, o_lcmp, o_i2l, o_l2i, o_dup, o_dup2, o_pop, o_go, o_nn, o_sw, swc, o_iret, o_zret, o_lret, o_vret, o_ieq, o_eq0, o_ine, o_ne0, o_ilt, o_lt0, o_ige, o_ge0, o_igt, o_gt0, o_ile, o_le0, o_iald, o_zald, o_lald, o_aald, o_iast, o_zast, o_last, o_aast, o_alen, o_gi, o_gr, o_pi, o_pz, o_pr, o_new, o_newa, o_copy, o_oinit, o_call, o_callV, o_callVc, o_callI, popn, cnO, o_BAD, lgt, lst, isL, kil, st1, st2, entL, List.length_nil, List.length_cons, List.replicate, Nat.reduceAdd, Nat.reduceLeDiff, Nat.reduceSub, true_and, and_true, Nat.zero_le, ne_eq, qk_wi, ql_wi, qr_wi, qj_wi, qt_wi, qk_wj, ql_wj, qr_wj, qi_wj, qt_wj, qk_wr, ql_wr, qi_wr, qj_wr, qt_wr, qi_ws, qj_ws, qr_ws, Int.toNat_natCast, Int.toNat_zero, Int.reduceToNat, not_true_eq_false, not_false_eq_true, false_implies, implies_true, Option.some.injEq, reduceCtorEq, Sp0, true_or, or_true, or_self, wi_wi, wj_wj, hM.k, cH_k]
            repeat' (first | (with_reducible refine And.intro ?_ ?_) | (with_reducible intro))
            all_goals (try (first | with_reducible assumption | omega | (unfold inI; omega) | (unfold inL; omega) | exact cz_in _ _))
            refine c8_wide (hM2 _ _) (hI2 _ _) hC ?_
            rw [hD2, hW]
            simp only [wpS, o_c, o_cl, o_il, o_ll, o_al, o_is, o_ls, o_as, o_inc, o_add, o_sub, o_mul, o_and, o_or, o_xor, o_shl, o_shr, o_div, o_neg, o_ladd, o_lsub, o_lmul, o_ldiv, o_lrem, o_lneg, o_lcmp, o_i2l, o_l2i, o_dup, o_dup2, o_pop, o_go, o_nn, o_sw, swc, o_iret, o_zret, o_lret, o_vret, o_ieq, o_eq0, o_ine, o_ne0, o_ilt, o_lt0, o_ige, o_ge0, o_igt, o_gt0, o_ile, o_le0, o_iald, o_zald, o_lald, o_aald, o_iast, o_zast, o_last, o_aast, o_alen, o_gi, o_gr, o_pi, o_pz, o_pr, o_new, o_newa, o_copy, o_oinit, o_call, o_callV, o_callVc, o_callI, popn, cnO, o_BAD, lgt, lst, isL, kil, st1, st2, entL, List.length_nil, List.length_cons, List.replicate, Nat.reduceAdd, Nat.reduceLeDiff, Nat.reduceSub, true_and, and_true, Nat.zero_le, ne_eq, qk_wi, ql_wi, qr_wi, qj_wi, qt_wi, qk_wj, ql_wj, qr_wj, qi_wj, qt_wj, qk_wr, ql_wr, qi_wr, qj_wr, qt_wr, qi_ws, qj_ws, qr_ws, Int.toNat_natCast, Int.toNat_zero, Int.reduceToNat, not_true_eq_false, not_false_eq_true, false_implies, implies_true, Option.some.injEq, reduceCtorEq, Sp0, true_or, or_true, or_self, wi_wi, wj_wj, hM.k]
            repeat' (first | (with_reducible refine And.intro ?_ ?_) | (with_reducible intro))
            all_goals (try (first | with_reducible assumption | omega | (unfold inI; omega) | (unfold inL; omega) | exact cz_in _ _))
            all_goals (try (exfalso; omega))
            refine s_X8_mean_91 x ok _ _ _ _ ?_
            simp only [wpS, o_c, o_cl, o_il, o_ll, o_al, o_is, o_ls, o_as, o_inc, o_add, o_sub, o_mul, o_and, o_or, o_xor, o_shl, o_shr, o_div, o_neg, o_ladd, o_lsub, o_lmul, o_ldiv, o_lrem, o_lneg, o_lcmp, o_i2l, o_l2i, o_dup, o_dup2, o_pop, o_go, o_nn, o_sw, swc, o_iret, o_zret, o_lret, o_vret, o_ieq, o_eq0, o_ine, o_ne0, o_ilt, o_lt0, o_ige, o_ge0, o_igt, o_gt0, o_ile, o_le0, o_iald, o_zald, o_lald, o_aald, o_iast, o_zast, o_last, o_aast, o_alen, o_gi, o_gr, o_pi, o_pz, o_pr, o_new, o_newa, o_copy, o_oinit, o_call, o_callV, o_callVc, o_callI, popn, cnO, o_BAD, lgt, lst, isL, kil, st1, st2, entL, List.length_nil, List.length_cons, List.replicate, Nat.reduceAdd, Nat.reduceLeDiff, Nat.reduceSub, true_and, and_true, Nat.zero_le, ne_eq, qk_wi, ql_wi, qr_wi, qj_wi, qt_wi, qk_wj, ql_wj, qr_wj, qi_wj, qt_wj, qk_wr, ql_wr, qi_wr, qj_wr, qt_wr, qi_ws, qj_ws, qr_ws, Int.toNat_natCast, Int.toNat_zero, Int.reduceToNat, not_true_eq_false, not_false_eq_true, false_implies, implies_true, Option.some.injEq, reduceCtorEq, Sp0, true_or, or_true, or_self, wi_wi, wj_wj, hM.k]
            repeat' (first | (with_reducible refine And.intro ?_ ?_) | (with_reducible intro))
            all_goals (try (first | with_reducible assumption | omega | (unfold inI; omega) | (unfold inL; omega) | exact cz_in _ _))
            refine c8_lowest (by omega) (by omega) (by omega) ?_
            simp only [wpS, o_c, o_cl, o_il, o_ll, o_al, o_is, o_ls, o_as, o_inc, o_add, o_sub, o_mul, o_and, o_or, o_xor, o_shl, o_shr, o_div, o_neg, o_ladd, o_lsub, o_lmul, o_ldiv, o_lrem, o_lneg, o_lcmp, o_i2l, o_l2i, o_dup, o_dup2, o_pop, o_go, o_nn, o_sw, swc, o_iret, o_zret, o_lret, o_vret, o_ieq, o_eq0, o_ine, o_ne0, o_ilt, o_lt0, o_ige, o_ge0, o_igt, o_gt0, o_ile, o_le0, o_iald, o_zald, o_lald, o_aald, o_iast, o_zast, o_last, o_aast, o_alen, o_gi, o_gr, o_pi, o_pz, o_pr, o_new, o_newa, o_copy, o_oinit, o_call, o_callV, o_callVc, o_callI, popn, cnO, o_BAD, lgt, lst, isL, kil, st1, st2, entL, List.length_nil, List.length_cons, List.replicate, Nat.reduceAdd, Nat.reduceLeDiff, Nat.reduceSub, true_and, and_true, Nat.zero_le, ne_eq, qk_wi, ql_wi, qr_wi, qj_wi, qt_wi, qk_wj, ql_wj, qr_wj, qi_wj, qt_wj, qk_wr, ql_wr, qi_wr, qj_wr, qt_wr, qi_ws, qj_ws, qr_ws, Int.toNat_natCast, Int.toNat_zero, Int.reduceToNat, not_true_eq_false, not_false_eq_true, false_implies, implies_true, Option.some.injEq, reduceCtorEq, Sp0, true_or, or_true, or_self, wi_wi, wj_wj, hM.k]
            repeat' (first | (with_reducible refine And.intro ?_ ?_) | (with_reducible intro))
            all_goals (try (first | with_reducible assumption | omega | (unfold inI; omega) | (unfold inL; omega) | exact cz_in _ _))
            all_goals (first | exact hk | skip)
          · intro j hj ih u v hu
            have hp := hpart j (by omega)
            have hp1 := hpart (j + 1) (by omega)
            have huj := hu j hj
            have h0j := hnn j
            have h1j := hgk j hj
            have htj := ht j hj
            rw [sg_s] at ih hp1
            generalize sg (fun k => g k * (le + k)) j = S at *
            refine s_X8_mean_52 x ok _ _ _ _ ?_
            simp only [wpS, o_c, o_cl, o_il, o_ll, o_al, o_is, o_ls, o_as, o_inc, o_add, o_sub, o_mul, o_and, o_or, o_xor, o_shl, o_shr, o_div, o_neg, o_ladd, o_lsub, o_lmul, o_ldiv, o_lrem, o_lneg, o_lcmp, o_i2l, o_l2i, o_dup, o_dup2, o_pop, o_go, o_nn, o_sw, swc, o_iret, o_zret, o_lret, o_vret, o_ieq, o_eq0, o_ine, o_ne0, o_ilt, o_lt0, o_ige, o_ge0, o_igt, o_gt0, o_ile, o_le0, o_iald, o_zald, o_lald, o_aald, o_iast, o_zast, o_last, o_aast, o_alen, o_gi, o_gr, o_pi, o_pz, o_pr, o_new, o_newa, o_copy, o_oinit, o_call, o_callV, o_callVc, o_callI, popn, cnO, o_BAD, lgt, lst, isL, kil, st1, st2, entL, List.length_nil, List.length_cons, List.replicate, Nat.reduceAdd, Nat.reduceLeDiff, Nat.reduceSub, true_and, and_true, Nat.zero_le, ne_eq, qk_wi, ql_wi, qr_wi, qj_wi, qt_wi, qk_wj, ql_wj, qr_wj, qi_wj, qt_wj, qk_wr, ql_wr, qi_wr, qj_wr, qt_wr, qi_ws, qj_ws, qr_ws, Int.toNat_natCast, Int.toNat_zero, Int.reduceToNat, not_true_eq_false, not_false_eq_true, false_implies, implies_true, Option.some.injEq, reduceCtorEq, Sp0, true_or, or_true, or_self, wi_wi, wj_wj, hM.k, cH_k]
            repeat' (first | (with_reducible refine And.intro ?_ ?_) | (with_reducible intro))
            all_goals (try (first | with_reducible assumption | omega | (unfold inI; omega) | (unfold inL; omega) | exact cz_in _ _))
            refine c8_wide (hM2 _ _) (hI2 _ _) hC ?_
            rw [hD2, hW]
            simp only [wpS, o_c, o_cl, o_il, o_ll, o_al, o_is, o_ls, o_as, o_inc, o_add, o_sub, o_mul, o_and, o_or, o_xor, o_shl, o_shr, o_div, o_neg, o_ladd, o_lsub, o_lmul, o_ldiv, o_lrem, o_lneg, o_lcmp, o_i2l, o_l2i, o_dup, o_dup2, o_pop, o_go, o_nn, o_sw, swc, o_iret, o_zret, o_lret, o_vret, o_ieq, o_eq0, o_ine, o_ne0, o_ilt, o_lt0, o_ige, o_ge0, o_igt, o_gt0, o_ile, o_le0, o_iald, o_zald, o_lald, o_aald, o_iast, o_zast, o_last, o_aast, o_alen, o_gi, o_gr, o_pi, o_pz, o_pr, o_new, o_newa, o_copy, o_oinit, o_call, o_callV, o_callVc, o_callI, popn, cnO, o_BAD, lgt, lst, isL, kil, st1, st2, entL, List.length_nil, List.length_cons, List.replicate, Nat.reduceAdd, Nat.reduceLeDiff, Nat.reduceSub, true_and, and_true, Nat.zero_le, ne_eq, qk_wi, ql_wi, qr_wi, qj_wi, qt_wi, qk_wj, ql_wj, qr_wj, qi_wj, qt_wj, qk_wr, ql_wr, qi_wr, qj_wr, qt_wr, qi_ws, qj_ws, qr_ws, Int.toNat_natCast, Int.toNat_zero, Int.reduceToNat, not_true_eq_false, not_false_eq_true, false_implies, implies_true, Option.some.injEq, reduceCtorEq, Sp0, true_or, or_true, or_self, wi_wi, wj_wj, hM.k, cH_k, cH_l, cH_r, cH_i, cH_7, hM.r6, hM.k7, hM.l7, huj]
            repeat' (first | (with_reducible refine And.intro ?_ ?_) | (with_reducible intro))
            all_goals (try (first | with_reducible assumption | omega | (unfold inI; omega) | (unfold inL; omega) | exact cz_in _ _))
            all_goals (try (exfalso; omega))
            refine c8_worst (hM2 _ _) (hI2 _ _) ⟨by unfold inI; omega, by unfold inI; omega⟩ ?_
            rw [hD2, wst0 hC, hle]
            simp only [wpS, o_c, o_cl, o_il, o_ll, o_al, o_is, o_ls, o_as, o_inc, o_add, o_sub, o_mul, o_and, o_or, o_xor, o_shl, o_shr, o_div, o_neg, o_ladd, o_lsub, o_lmul, o_ldiv, o_lrem, o_lneg, o_lcmp, o_i2l, o_l2i, o_dup, o_dup2, o_pop, o_go, o_nn, o_sw, swc, o_iret, o_zret, o_lret, o_vret, o_ieq, o_eq0, o_ine, o_ne0, o_ilt, o_lt0, o_ige, o_ge0, o_igt, o_gt0, o_ile, o_le0, o_iald, o_zald, o_lald, o_aald, o_iast, o_zast, o_last, o_aast, o_alen, o_gi, o_gr, o_pi, o_pz, o_pr, o_new, o_newa, o_copy, o_oinit, o_call, o_callV, o_callVc, o_callI, popn, cnO, o_BAD, lgt, lst, isL, kil, st1, st2, entL, List.length_nil, List.length_cons, List.replicate, Nat.reduceAdd, Nat.reduceLeDiff, Nat.reduceSub, true_and, and_true, Nat.zero_le, ne_eq, qk_wi, ql_wi, qr_wi, qj_wi, qt_wi, qk_wj, ql_wj, qr_wj, qi_wj, qt_wj, qk_wr, ql_wr, qi_wr, qj_wr, qt_wr, qi_ws, qj_ws, qr_ws, Int.toNat_natCast, Int.toNat_zero, Int.reduceToNat, not_true_eq_false, not_false_eq_true, false_implies, implies_true, Option.some.injEq, reduceCtorEq, Sp0, true_or, or_true, or_self, wi_wi, wj_wj, hM.k]
            repeat' (first | (with_reducible refine And.intro ?_ ?_) | (with_reducible intro))
            all_goals (try (first | with_reducible assumption | omega | (unfold inI; omega) | (unfold inL; omega) | exact cz_in _ _))
            all_goals (first | exact ih _ _ hu | (exfalso; omega) | skip)
        have h39 : V i_X8_mean x 39 [some (vr (some y)), some (vi C), some (vi w), some (vl A), none, none, none, none] [] h (0, 0) := by
          refine s_X8_mean_39 x ok _ _ _ _ ?_
          simp only [wpS, o_c, o_cl, o_il, o_ll, o_al, o_is, o_ls, o_as, o_inc, o_add, o_sub, o_mul, o_and, o_or, o_xor, o_shl, o_shr, o_div, o_neg, o_ladd, o_lsub, o_lmul, o_ldiv, o_lrem, o_lneg, o_lcmp, o_i2l, o_l2i, o_dup, o_dup2, o_pop, o_go, o_nn, o_sw, swc, o_iret, o_zret, o_lret, o_vret, o_ieq, o_eq0, o_ine, o_ne0, o_ilt, o_lt0, o_ige, o_ge0, o_igt, o_gt0, o_ile, o_le0, o_iald, o_zald, o_lald, o_aald, o_iast, o_zast, o_last, o_aast, o_alen, o_gi, o_gr, o_pi, o_pz, o_pr, o_new, o_newa, o_copy, o_oinit, o_call, o_callV, o_callVc, o_callI, popn, cnO, o_BAD, lgt, lst, isL, kil, st1, st2, entL, List.length_nil, List.length_cons, List.replicate, Nat.reduceAdd, Nat.reduceLeDiff, Nat.reduceSub, true_and, and_true, Nat.zero_le, ne_eq, qk_wi, ql_wi, qr_wi, qj_wi, qt_wi, qk_wj, ql_wj, qr_wj, qi_wj, qt_wj, qk_wr, ql_wr, qi_wr, qj_wr, qt_wr, qi_ws, qj_ws, qr_ws, Int.toNat_natCast, Int.toNat_zero, Int.reduceToNat, not_true_eq_false, not_false_eq_true, false_implies, implies_true, Option.some.injEq, reduceCtorEq, Sp0, true_or, or_true, or_self, wi_wi, wj_wj, hM.k]
          repeat' (first | (with_reducible refine And.intro ?_ ?_) | (with_reducible intro))
          all_goals (try (first | with_reducible assumption | omega | (unfold inI; omega) | (unfold inL; omega) | exact cz_in _ _))
          refine c8_counts hM (by rw [hD]; exact hI) hC hC (.inl rfl) (by rw [hD]; exact hcnt.1) (by rw [hD, hW, Int.toNat_natCast]; exact hcnt.2) (fun u v hu => ?_)
          rw [hD, hW, Int.toNat_natCast] at hu
          simp only [wpS, o_c, o_cl, o_il, o_ll, o_al, o_is, o_ls, o_as, o_inc, o_add, o_sub, o_mul, o_and, o_or, o_xor, o_shl, o_shr, o_div, o_neg, o_ladd, o_lsub, o_lmul, o_ldiv, o_lrem, o_lneg, o_lcmp, o_i2l, o_l2i, o_dup, o_dup2, o_pop, o_go, o_nn, o_sw, swc, o_iret, o_zret, o_lret, o_vret, o_ieq, o_eq0, o_ine, o_ne0, o_ilt, o_lt0, o_ige, o_ge0, o_igt, o_gt0, o_ile, o_le0, o_iald, o_zald, o_lald, o_aald, o_iast, o_zast, o_last, o_aast, o_alen, o_gi, o_gr, o_pi, o_pz, o_pr, o_new, o_newa, o_copy, o_oinit, o_call, o_callV, o_callVc, o_callI, popn, cnO, o_BAD, lgt, lst, isL, kil, st1, st2, entL, List.length_nil, List.length_cons, List.replicate, Nat.reduceAdd, Nat.reduceLeDiff, Nat.reduceSub, true_and, and_true, Nat.zero_le, ne_eq, qk_wi, ql_wi, qr_wi, qj_wi, qt_wi, qk_wj, ql_wj, qr_wj, qi_wj, qt_wj, qk_wr, ql_wr, qi_wr, qj_wr, qt_wr, qi_ws, qj_ws, qr_ws, Int.toNat_natCast, Int.toNat_zero, Int.reduceToNat, not_true_eq_false, not_false_eq_true, false_implies, implies_true, Option.some.injEq, reduceCtorEq, Sp0, true_or, or_true, or_self, wi_wi, wj_wj, hM.k]
          repeat' (first | (with_reducible refine And.intro ?_ ?_) | (with_reducible intro))
          all_goals (try (first | with_reducible assumption | omega | (unfold inI; omega) | (unfold inL; omega) | exact cz_in _ _))
          all_goals (first | exact loop 0 (by omega) u v (hcntu u hu) | skip)
        simp only [wpS, o_c, o_cl, o_il, o_ll, o_al, o_is, o_ls, o_as, o_inc, o_add, o_sub, o_mul, o_and, o_or, o_xor, o_shl, o_shr, o_div, o_neg, o_ladd, o_lsub, o_lmul, o_ldiv, o_lrem, o_lneg, o_lcmp, o_i2l, o_l2i, o_dup, o_dup2, o_pop, o_go, o_nn, o_sw, swc, o_iret, o_zret, o_lret, o_vret, o_ieq, o_eq0, o_ine, o_ne0, o_ilt, o_lt0, o_ige, o_ge0, o_igt, o_gt0, o_ile, o_le0, o_iald, o_zald, o_lald, o_aald, o_iast, o_zast, o_last, o_aast, o_alen, o_gi, o_gr, o_pi, o_pz, o_pr, o_new, o_newa, o_copy, o_oinit, o_call, o_callV, o_callVc, o_callI, popn, cnO, o_BAD, lgt, lst, isL, kil, st1, st2, entL, List.length_nil, List.length_cons, List.replicate, Nat.reduceAdd, Nat.reduceLeDiff, Nat.reduceSub, true_and, and_true, Nat.zero_le, ne_eq, qk_wi, ql_wi, qr_wi, qj_wi, qt_wi, qk_wj, ql_wj, qr_wj, qi_wj, qt_wj, qk_wr, ql_wr, qi_wr, qj_wr, qt_wr, qi_ws, qj_ws, qr_ws, Int.toNat_natCast, Int.toNat_zero, Int.reduceToNat, not_true_eq_false, not_false_eq_true, false_implies, implies_true, Option.some.injEq, reduceCtorEq, Sp0, true_or, or_true, or_self, wi_wi, wj_wj, hM.k, cz_in, cz_lt, cz_le, cz_gt, cz_ge, cz_eq]
        repeat' (first | (with_reducible refine And.intro ?_ ?_) | (with_reducible intro))
        all_goals (try (first | with_reducible assumption | omega | (unfold inI; omega) | (unfold inL; omega) | exact cz_in _ _))
        all_goals (first | exact h39 | (exfalso; omega) | skip)
    all_goals (try ((first | (refine s_X8_mean_0 x ok _ _ _ _ ?_) | (refine s_X8_mean_13 x ok _ _ _ _ ?_) | (refine s_X8_mean_22 x ok _ _ _ _ ?_) | (refine s_X8_mean_39 x ok _ _ _ _ ?_) | (refine s_X8_mean_91 x ok _ _ _ _ ?_) | (refine c_rg ?_)); (try simp only [wpS, o_c, o_cl, o_il, o_ll, o_al, o_is, o_ls, o_as, o_inc, o_add, o_sub, o_mul, o_and, o_or, o_xor, o_shl, o_shr, o_div, o_neg, o_ladd, o_lsub, o_lmul, o_ldiv, o_lrem, o_lneg, o_lcmp, o_i2l, o_l2i, o_dup, o_dup2, o_pop, o_go, o_nn, o_sw, swc, o_iret, o_zret, o_lret, o_vret, o_ieq, o_eq0, o_ine, o_ne0, o_ilt, o_lt0, o_ige, o_ge0, o_igt, o_gt0, o_ile, o_le0, o_iald, o_zald, o_lald, o_aald, o_iast, o_zast, o_last, o_aast, o_alen, o_gi, o_gr, o_pi, o_pz, o_pr, o_new, o_newa, o_copy, o_oinit, o_call, o_callV, o_callVc, o_callI, popn, cnO, o_BAD, lgt, lst, isL, kil, st1, st2, entL, List.length_nil, List.length_cons, List.replicate, Nat.reduceAdd, Nat.reduceLeDiff, Nat.reduceSub, true_and, and_true, Nat.zero_le, ne_eq, qk_wi, ql_wi, qr_wi, qj_wi, qt_wi, qk_wj, ql_wj, qr_wj, qi_wj, qt_wj, qk_wr, ql_wr, qi_wr, qj_wr, qt_wr, qi_ws, qj_ws, qr_ws, Int.toNat_natCast, Int.toNat_zero, Int.reduceToNat, not_true_eq_false, not_false_eq_true, false_implies, implies_true, Option.some.injEq, reduceCtorEq, Sp0, true_or, or_true, or_self, wi_wi, wj_wj, hM.k]); (repeat' (first | (with_reducible refine And.intro ?_ ?_) | (with_reducible intro))); (all_goals (try (first | with_reducible assumption | omega | (unfold inI; omega) | (unfold inL; omega) | exact cz_in _ _)))))
    all_goals (first | exact h22 | (exfalso; omega) | skip)
    all_goals (all_goals (try ((first | (refine s_X8_mean_0 x ok _ _ _ _ ?_) | (refine s_X8_mean_13 x ok _ _ _ _ ?_) | (refine s_X8_mean_22 x ok _ _ _ _ ?_) | (refine s_X8_mean_39 x ok _ _ _ _ ?_) | (refine s_X8_mean_91 x ok _ _ _ _ ?_) | (refine c_rg ?_)); (try simp only [wpS, o_c, o_cl, o_il, o_ll, o_al, o_is, o_ls, o_as, o_inc, o_add, o_sub, o_mul, o_and, o_or, o_xor, o_shl, o_shr, o_div, o_neg, o_ladd, o_lsub, o_lmul, o_ldiv, o_lrem, o_lneg, o_lcmp, o_i2l, o_l2i, o_dup, o_dup2, o_pop, o_go, o_nn, o_sw, swc, o_iret, o_zret, o_lret, o_vret, o_ieq, o_eq0, o_ine, o_ne0, o_ilt, o_lt0, o_ige, o_ge0, o_igt, o_gt0, o_ile, o_le0, o_iald, o_zald, o_lald, o_aald, o_iast, o_zast, o_last, o_aast, o_alen, o_gi, o_gr, o_pi, o_pz, o_pr, o_new, o_newa, o_copy, o_oinit, o_call, o_callV, o_callVc, o_callI, popn, cnO, o_BAD, lgt, lst, isL, kil, st1, st2, entL, List.length_nil, List.length_cons, List.replicate, Nat.reduceAdd, Nat.reduceLeDiff, Nat.reduceSub, true_and, and_true, Nat.zero_le, ne_eq, qk_wi, ql_wi, qr_wi, qj_wi, qt_wi, qk_wj, ql_wj, qr_wj, qi_wj, qt_wj, qk_wr, ql_wr, qi_wr, qj_wr, qt_wr, qi_ws, qj_ws, qr_ws, Int.toNat_natCast, Int.toNat_zero, Int.reduceToNat, not_true_eq_false, not_false_eq_true, false_implies, implies_true, Option.some.injEq, reduceCtorEq, Sp0, true_or, or_true, or_self, wi_wi, wj_wj, hM.k]); (repeat' (first | (with_reducible refine And.intro ?_ ?_) | (with_reducible intro))); (all_goals (try (first | with_reducible assumption | omega | (unfold inI; omega) | (unfold inL; omega) | exact cz_in _ _))))))
    all_goals (first | exact h22 | (exfalso; omega) | skip)
    all_goals (all_goals (try ((first | (refine s_X8_mean_0 x ok _ _ _ _ ?_) | (refine s_X8_mean_13 x ok _ _ _ _ ?_) | (refine s_X8_mean_22 x ok _ _ _ _ ?_) | (refine s_X8_mean_39 x ok _ _ _ _ ?_) | (refine s_X8_mean_91 x ok _ _ _ _ ?_) | (refine c_rg ?_)); (try simp only [wpS, o_c, o_cl, o_il, o_ll, o_al, o_is, o_ls, o_as, o_inc, o_add, o_sub, o_mul, o_and, o_or, o_xor, o_shl, o_shr, o_div, o_neg, o_ladd, o_lsub, o_lmul, o_ldiv, o_lrem, o_lneg, o_lcmp, o_i2l, o_l2i, o_dup, o_dup2, o_pop, o_go, o_nn, o_sw, swc, o_iret, o_zret, o_lret, o_vret, o_ieq, o_eq0, o_ine, o_ne0, o_ilt, o_lt0, o_ige, o_ge0, o_igt, o_gt0, o_ile, o_le0, o_iald, o_zald, o_lald, o_aald, o_iast, o_zast, o_last, o_aast, o_alen, o_gi, o_gr, o_pi, o_pz, o_pr, o_new, o_newa, o_copy, o_oinit, o_call, o_callV, o_callVc, o_callI, popn, cnO, o_BAD, lgt, lst, isL, kil, st1, st2, entL, List.length_nil, List.length_cons, List.replicate, Nat.reduceAdd, Nat.reduceLeDiff, Nat.reduceSub, true_and, and_true, Nat.zero_le, ne_eq, qk_wi, ql_wi, qr_wi, qj_wi, qt_wi, qk_wj, ql_wj, qr_wj, qi_wj, qt_wj, qk_wr, ql_wr, qi_wr, qj_wr, qt_wr, qi_ws, qj_ws, qr_ws, Int.toNat_natCast, Int.toNat_zero, Int.reduceToNat, not_true_eq_false, not_false_eq_true, false_implies, implies_true, Option.some.injEq, reduceCtorEq, Sp0, true_or, or_true, or_self, wi_wi, wj_wj, hM.k]); (repeat' (first | (with_reducible refine And.intro ?_ ?_) | (with_reducible intro))); (all_goals (try (first | with_reducible assumption | omega | (unfold inI; omega) | (unfold inL; omega) | exact cz_in _ _))))))
    all_goals (first | exact h22 | (exfalso; omega) | skip)
    all_goals (all_goals (try ((first | (refine s_X8_mean_0 x ok _ _ _ _ ?_) | (refine s_X8_mean_13 x ok _ _ _ _ ?_) | (refine s_X8_mean_22 x ok _ _ _ _ ?_) | (refine s_X8_mean_39 x ok _ _ _ _ ?_) | (refine s_X8_mean_91 x ok _ _ _ _ ?_) | (refine c_rg ?_)); (try simp only [wpS, o_c, o_cl, o_il, o_ll, o_al, o_is, o_ls, o_as, o_inc, o_add, o_sub, o_mul, o_and, o_or, o_xor, o_shl, o_shr, o_div, o_neg, o_ladd, o_lsub, o_lmul, o_ldiv, o_lrem, o_lneg, o_lcmp, o_i2l, o_l2i, o_dup, o_dup2, o_pop, o_go, o_nn, o_sw, swc, o_iret, o_zret, o_lret, o_vret, o_ieq, o_eq0, o_ine, o_ne0, o_ilt, o_lt0, o_ige, o_ge0, o_igt, o_gt0, o_ile, o_le0, o_iald, o_zald, o_lald, o_aald, o_iast, o_zast, o_last, o_aast, o_alen, o_gi, o_gr, o_pi, o_pz, o_pr, o_new, o_newa, o_copy, o_oinit, o_call, o_callV, o_callVc, o_callI, popn, cnO, o_BAD, lgt, lst, isL, kil, st1, st2, entL, List.length_nil, List.length_cons, List.replicate, Nat.reduceAdd, Nat.reduceLeDiff, Nat.reduceSub, true_and, and_true, Nat.zero_le, ne_eq, qk_wi, ql_wi, qr_wi, qj_wi, qt_wi, qk_wj, ql_wj, qr_wj, qi_wj, qt_wj, qk_wr, ql_wr, qi_wr, qj_wr, qt_wr, qi_ws, qj_ws, qr_ws, Int.toNat_natCast, Int.toNat_zero, Int.reduceToNat, not_true_eq_false, not_false_eq_true, false_implies, implies_true, Option.some.injEq, reduceCtorEq, Sp0, true_or, or_true, or_self, wi_wi, wj_wj, hM.k]); (repeat' (first | (with_reducible refine And.intro ?_ ?_) | (with_reducible intro))); (all_goals (try (first | with_reducible assumption | omega | (unfold inI; omega) | (unfold inL; omega) | exact cz_in _ _))))))
    all_goals (first | exact h22 | (exfalso; omega) | skip)
  · by_cases q2 : 0 ≤ w ∧ w ≤ 1
    · have eF : meaF D c w = 0 := by
        unfold meaF
        rw [if_neg (fun z => z q2), if_pos (fun z => q ⟨q2, z⟩)]
      rw [eF] at hKh
      all_goals (try ((first | (refine s_X8_mean_0 x ok _ _ _ _ ?_) | (refine s_X8_mean_13 x ok _ _ _ _ ?_) | (refine s_X8_mean_22 x ok _ _ _ _ ?_) | (refine s_X8_mean_39 x ok _ _ _ _ ?_) | (refine s_X8_mean_91 x ok _ _ _ _ ?_) | (refine c_rg ?_)); (try simp only [wpS, o_c, o_cl, o_il, o_ll, o_al, o_is, o_ls, o_as, o_inc, o_add, o_sub, o_mul, o_and, o_or, o_xor, o_shl, o_shr, o_div, o_neg, o_ladd, o_lsub, o_lmul, o_ldiv, o_lrem, o_lneg, o_lcmp, o_i2l, o_l2i, o_dup, o_dup2, o_pop, o_go, o_nn, o_sw, swc, o_iret, o_zret, o_lret, o_vret, o_ieq, o_eq0, o_ine, o_ne0, o_ilt, o_lt0, o_ige, o_ge0, o_igt, o_gt0, o_ile, o_le0, o_iald, o_zald, o_lald, o_aald, o_iast, o_zast, o_last, o_aast, o_alen, o_gi, o_gr, o_pi, o_pz, o_pr, o_new, o_newa, o_copy, o_oinit, o_call, o_callV, o_callVc, o_callI, popn, cnO, o_BAD, lgt, lst, isL, kil, st1, st2, entL, List.length_nil, List.length_cons, List.replicate, Nat.reduceAdd, Nat.reduceLeDiff, Nat.reduceSub, true_and, and_true, Nat.zero_le, ne_eq, qk_wi, ql_wi, qr_wi, qj_wi, qt_wi, qk_wj, ql_wj, qr_wj, qi_wj, qt_wj, qk_wr, ql_wr, qi_wr, qj_wr, qt_wr, qi_ws, qj_ws, qr_ws, Int.toNat_natCast, Int.toNat_zero, Int.reduceToNat, not_true_eq_false, not_false_eq_true, false_implies, implies_true, Option.some.injEq, reduceCtorEq, Sp0, true_or, or_true, or_self, wi_wi, wj_wj, hM.k]); (repeat' (first | (with_reducible refine And.intro ?_ ?_) | (with_reducible intro))); (all_goals (try (first | with_reducible assumption | omega | (unfold inI; omega) | (unfold inL; omega) | exact cz_in _ _)))))
      all_goals (first | exact hKh | (exfalso; omega) | skip)
      all_goals (all_goals (try ((first | (refine s_X8_mean_0 x ok _ _ _ _ ?_) | (refine s_X8_mean_13 x ok _ _ _ _ ?_) | (refine s_X8_mean_22 x ok _ _ _ _ ?_) | (refine s_X8_mean_39 x ok _ _ _ _ ?_) | (refine s_X8_mean_91 x ok _ _ _ _ ?_) | (refine c_rg ?_)); (try simp only [wpS, o_c, o_cl, o_il, o_ll, o_al, o_is, o_ls, o_as, o_inc, o_add, o_sub, o_mul, o_and, o_or, o_xor, o_shl, o_shr, o_div, o_neg, o_ladd, o_lsub, o_lmul, o_ldiv, o_lrem, o_lneg, o_lcmp, o_i2l, o_l2i, o_dup, o_dup2, o_pop, o_go, o_nn, o_sw, swc, o_iret, o_zret, o_lret, o_vret, o_ieq, o_eq0, o_ine, o_ne0, o_ilt, o_lt0, o_ige, o_ge0, o_igt, o_gt0, o_ile, o_le0, o_iald, o_zald, o_lald, o_aald, o_iast, o_zast, o_last, o_aast, o_alen, o_gi, o_gr, o_pi, o_pz, o_pr, o_new, o_newa, o_copy, o_oinit, o_call, o_callV, o_callVc, o_callI, popn, cnO, o_BAD, lgt, lst, isL, kil, st1, st2, entL, List.length_nil, List.length_cons, List.replicate, Nat.reduceAdd, Nat.reduceLeDiff, Nat.reduceSub, true_and, and_true, Nat.zero_le, ne_eq, qk_wi, ql_wi, qr_wi, qj_wi, qt_wi, qk_wj, ql_wj, qr_wj, qi_wj, qt_wj, qk_wr, ql_wr, qi_wr, qj_wr, qt_wr, qi_ws, qj_ws, qr_ws, Int.toNat_natCast, Int.toNat_zero, Int.reduceToNat, not_true_eq_false, not_false_eq_true, false_implies, implies_true, Option.some.injEq, reduceCtorEq, Sp0, true_or, or_true, or_self, wi_wi, wj_wj, hM.k]); (repeat' (first | (with_reducible refine And.intro ?_ ?_) | (with_reducible intro))); (all_goals (try (first | with_reducible assumption | omega | (unfold inI; omega) | (unfold inL; omega) | exact cz_in _ _))))))
      all_goals (first | exact hKh | (exfalso; omega) | skip)
      all_goals (all_goals (try ((first | (refine s_X8_mean_0 x ok _ _ _ _ ?_) | (refine s_X8_mean_13 x ok _ _ _ _ ?_) | (refine s_X8_mean_22 x ok _ _ _ _ ?_) | (refine s_X8_mean_39 x ok _ _ _ _ ?_) | (refine s_X8_mean_91 x ok _ _ _ _ ?_) | (refine c_rg ?_)); (try simp only [wpS, o_c, o_cl, o_il, o_ll, o_al, o_is, o_ls, o_as, o_inc, o_add, o_sub, o_mul, o_and, o_or, o_xor, o_shl, o_shr, o_div, o_neg, o_ladd, o_lsub, o_lmul, o_ldiv, o_lrem, o_lneg, o_lcmp, o_i2l, o_l2i, o_dup, o_dup2, o_pop, o_go, o_nn, o_sw, swc, o_iret, o_zret, o_lret, o_vret, o_ieq, o_eq0, o_ine, o_ne0, o_ilt, o_lt0, o_ige, o_ge0, o_igt, o_gt0, o_ile, o_le0, o_iald, o_zald, o_lald, o_aald, o_iast, o_zast, o_last, o_aast, o_alen, o_gi, o_gr, o_pi, o_pz, o_pr, o_new, o_newa, o_copy, o_oinit, o_call, o_callV, o_callVc, o_callI, popn, cnO, o_BAD, lgt, lst, isL, kil, st1, st2, entL, List.length_nil, List.length_cons, List.replicate, Nat.reduceAdd, Nat.reduceLeDiff, Nat.reduceSub, true_and, and_true, Nat.zero_le, ne_eq, qk_wi, ql_wi, qr_wi, qj_wi, qt_wi, qk_wj, ql_wj, qr_wj, qi_wj, qt_wj, qk_wr, ql_wr, qi_wr, qj_wr, qt_wr, qi_ws, qj_ws, qr_ws, Int.toNat_natCast, Int.toNat_zero, Int.reduceToNat, not_true_eq_false, not_false_eq_true, false_implies, implies_true, Option.some.injEq, reduceCtorEq, Sp0, true_or, or_true, or_self, wi_wi, wj_wj, hM.k]); (repeat' (first | (with_reducible refine And.intro ?_ ?_) | (with_reducible intro))); (all_goals (try (first | with_reducible assumption | omega | (unfold inI; omega) | (unfold inL; omega) | exact cz_in _ _))))))
      all_goals (first | exact hKh | (exfalso; omega) | skip)
      all_goals (all_goals (try ((first | (refine s_X8_mean_0 x ok _ _ _ _ ?_) | (refine s_X8_mean_13 x ok _ _ _ _ ?_) | (refine s_X8_mean_22 x ok _ _ _ _ ?_) | (refine s_X8_mean_39 x ok _ _ _ _ ?_) | (refine s_X8_mean_91 x ok _ _ _ _ ?_) | (refine c_rg ?_)); (try simp only [wpS, o_c, o_cl, o_il, o_ll, o_al, o_is, o_ls, o_as, o_inc, o_add, o_sub, o_mul, o_and, o_or, o_xor, o_shl, o_shr, o_div, o_neg, o_ladd, o_lsub, o_lmul, o_ldiv, o_lrem, o_lneg, o_lcmp, o_i2l, o_l2i, o_dup, o_dup2, o_pop, o_go, o_nn, o_sw, swc, o_iret, o_zret, o_lret, o_vret, o_ieq, o_eq0, o_ine, o_ne0, o_ilt, o_lt0, o_ige, o_ge0, o_igt, o_gt0, o_ile, o_le0, o_iald, o_zald, o_lald, o_aald, o_iast, o_zast, o_last, o_aast, o_alen, o_gi, o_gr, o_pi, o_pz, o_pr, o_new, o_newa, o_copy, o_oinit, o_call, o_callV, o_callVc, o_callI, popn, cnO, o_BAD, lgt, lst, isL, kil, st1, st2, entL, List.length_nil, List.length_cons, List.replicate, Nat.reduceAdd, Nat.reduceLeDiff, Nat.reduceSub, true_and, and_true, Nat.zero_le, ne_eq, qk_wi, ql_wi, qr_wi, qj_wi, qt_wi, qk_wj, ql_wj, qr_wj, qi_wj, qt_wj, qk_wr, ql_wr, qi_wr, qj_wr, qt_wr, qi_ws, qj_ws, qr_ws, Int.toNat_natCast, Int.toNat_zero, Int.reduceToNat, not_true_eq_false, not_false_eq_true, false_implies, implies_true, Option.some.injEq, reduceCtorEq, Sp0, true_or, or_true, or_self, wi_wi, wj_wj, hM.k]); (repeat' (first | (with_reducible refine And.intro ?_ ?_) | (with_reducible intro))); (all_goals (try (first | with_reducible assumption | omega | (unfold inI; omega) | (unfold inL; omega) | exact cz_in _ _))))))
      all_goals (first | exact hKh | (exfalso; omega) | skip)
    · have eF : meaF D c w = -1 := by
        unfold meaF
        rw [if_pos q2]
      rw [eF] at hKh
      all_goals (try ((first | (refine s_X8_mean_0 x ok _ _ _ _ ?_) | (refine s_X8_mean_13 x ok _ _ _ _ ?_) | (refine s_X8_mean_22 x ok _ _ _ _ ?_) | (refine s_X8_mean_39 x ok _ _ _ _ ?_) | (refine s_X8_mean_91 x ok _ _ _ _ ?_) | (refine c_rg ?_)); (try simp only [wpS, o_c, o_cl, o_il, o_ll, o_al, o_is, o_ls, o_as, o_inc, o_add, o_sub, o_mul, o_and, o_or, o_xor, o_shl, o_shr, o_div, o_neg, o_ladd, o_lsub, o_lmul, o_ldiv, o_lrem, o_lneg, o_lcmp, o_i2l, o_l2i, o_dup, o_dup2, o_pop, o_go, o_nn, o_sw, swc, o_iret, o_zret, o_lret, o_vret, o_ieq, o_eq0, o_ine, o_ne0, o_ilt, o_lt0, o_ige, o_ge0, o_igt, o_gt0, o_ile, o_le0, o_iald, o_zald, o_lald, o_aald, o_iast, o_zast, o_last, o_aast, o_alen, o_gi, o_gr, o_pi, o_pz, o_pr, o_new, o_newa, o_copy, o_oinit, o_call, o_callV, o_callVc, o_callI, popn, cnO, o_BAD, lgt, lst, isL, kil, st1, st2, entL, List.length_nil, List.length_cons, List.replicate, Nat.reduceAdd, Nat.reduceLeDiff, Nat.reduceSub, true_and, and_true, Nat.zero_le, ne_eq, qk_wi, ql_wi, qr_wi, qj_wi, qt_wi, qk_wj, ql_wj, qr_wj, qi_wj, qt_wj, qk_wr, ql_wr, qi_wr, qj_wr, qt_wr, qi_ws, qj_ws, qr_ws, Int.toNat_natCast, Int.toNat_zero, Int.reduceToNat, not_true_eq_false, not_false_eq_true, false_implies, implies_true, Option.some.injEq, reduceCtorEq, Sp0, true_or, or_true, or_self, wi_wi, wj_wj, hM.k]); (repeat' (first | (with_reducible refine And.intro ?_ ?_) | (with_reducible intro))); (all_goals (try (first | with_reducible assumption | omega | (unfold inI; omega) | (unfold inL; omega) | exact cz_in _ _)))))
      all_goals (first | exact hKh | (exfalso; omega) | skip)
      all_goals (all_goals (try ((first | (refine s_X8_mean_0 x ok _ _ _ _ ?_) | (refine s_X8_mean_13 x ok _ _ _ _ ?_) | (refine s_X8_mean_22 x ok _ _ _ _ ?_) | (refine s_X8_mean_39 x ok _ _ _ _ ?_) | (refine s_X8_mean_91 x ok _ _ _ _ ?_) | (refine c_rg ?_)); (try simp only [wpS, o_c, o_cl, o_il, o_ll, o_al, o_is, o_ls, o_as, o_inc, o_add, o_sub, o_mul, o_and, o_or, o_xor, o_shl, o_shr, o_div, o_neg, o_ladd, o_lsub, o_lmul, o_ldiv, o_lrem, o_lneg, o_lcmp, o_i2l, o_l2i, o_dup, o_dup2, o_pop, o_go, o_nn, o_sw, swc, o_iret, o_zret, o_lret, o_vret, o_ieq, o_eq0, o_ine, o_ne0, o_ilt, o_lt0, o_ige, o_ge0, o_igt, o_gt0, o_ile, o_le0, o_iald, o_zald, o_lald, o_aald, o_iast, o_zast, o_last, o_aast, o_alen, o_gi, o_gr, o_pi, o_pz, o_pr, o_new, o_newa, o_copy, o_oinit, o_call, o_callV, o_callVc, o_callI, popn, cnO, o_BAD, lgt, lst, isL, kil, st1, st2, entL, List.length_nil, List.length_cons, List.replicate, Nat.reduceAdd, Nat.reduceLeDiff, Nat.reduceSub, true_and, and_true, Nat.zero_le, ne_eq, qk_wi, ql_wi, qr_wi, qj_wi, qt_wi, qk_wj, ql_wj, qr_wj, qi_wj, qt_wj, qk_wr, ql_wr, qi_wr, qj_wr, qt_wr, qi_ws, qj_ws, qr_ws, Int.toNat_natCast, Int.toNat_zero, Int.reduceToNat, not_true_eq_false, not_false_eq_true, false_implies, implies_true, Option.some.injEq, reduceCtorEq, Sp0, true_or, or_true, or_self, wi_wi, wj_wj, hM.k]); (repeat' (first | (with_reducible refine And.intro ?_ ?_) | (with_reducible intro))); (all_goals (try (first | with_reducible assumption | omega | (unfold inI; omega) | (unfold inL; omega) | exact cz_in _ _))))))
      all_goals (first | exact hKh | (exfalso; omega) | skip)

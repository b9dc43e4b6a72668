/-- the gaps above the least one that the first j measures can make -/
def rcd (d : Dd) (s : Nat → Int) : Nat → Nat → Prop
  | 0 => fun k => k = 0
  | j + 1 => fun k => ∃ i, i ≤ (mrg d j).toNat ∧ i * (iab (s j)).toNat ≤ k ∧ rcd d s j (k - i * (iab (s j)).toNat)
def rcN (d : Dd) (s : Nat → Int) : Nat → Nat
  | 0 => 0
  | j + 1 => rcN d s j + (iab (s j)).toNat * (mrg d j).toNat
theorem rcd_le (d : Dd) (s : Nat → Int) : ∀ j k, rcd d s j k → k ≤ rcN d s j
  | 0, k, h => by have h : k = 0 := h; omega
  | j + 1, k, h => by
    obtain ⟨i, h1, h2, h3⟩ := h
    have := rcd_le d s j _ h3
    show k ≤ rcN d s j + (iab (s j)).toNat * (mrg d j).toNat
    have : i * (iab (s j)).toNat ≤ (mrg d j).toNat * (iab (s j)).toNat := Nat.mul_le_mul_right _ h1
    rw [Nat.mul_comm (mrg d j).toNat] at this
    omega
theorem rcN_eq {d : Dd} {s : Nat → Int} (hI : ∀ m, m < 12 → InvM d m) : ∀ j, j ≤ 12 → (rcN d s j : Int) = sg (fun m => iab (s m) * mrg d m) j
  | 0, _ => rfl
  | j + 1, hj => by
    have ih := rcN_eq (s := s) hI j (by omega)
    rw [sg_s, ← ih]
    show ((rcN d s j + (iab (s j)).toNat * (mrg d j).toNat : Nat) : Int) = _
    push_cast
    rw [Int.toNat_of_nonneg (iab_0 _), Int.toNat_of_nonneg (mrg_rg (hI j (by omega))).1]
theorem rcN_mono (d : Dd) (s : Nat → Int) {j k : Nat} (h : j ≤ k) : rcN d s j ≤ rcN d s k := by
  induction k with
  | zero => rw [show j = 0 by omega]; exact Nat.le_refl _
  | succ k ih =>
    by_cases e : j = k + 1
    · rw [e]; exact Nat.le_refl _
    · exact Nat.le_trans (ih (by omega)) (Nat.le_add_right _ _)
theorem rcd_skip {d : Dd} {s : Nat → Int} {j : Nat} (h : (iab (s j)).toNat = 0 ∨ (mrg d j).toNat = 0) (k : Nat) : rcd d s (j + 1) k ↔ rcd d s j k := by
  constructor
  · rintro ⟨i, h1, h2, h3⟩
    have e : i * (iab (s j)).toNat = 0 := by
      rcases h with h | h
      · rw [h, Nat.mul_zero]
      · rw [show i = 0 by omega, Nat.zero_mul]
    rw [e, Nat.sub_zero] at h3
    exact h3
  · intro q
    exact ⟨0, by omega, by omega, by rw [Nat.zero_mul, Nat.sub_zero]; exact q⟩
theorem rcN_skip {d : Dd} {s : Nat → Int} {j : Nat} (h : (iab (s j)).toNat = 0 ∨ (mrg d j).toNat = 0) : rcN d s (j + 1) = rcN d s j := by
  show rcN d s j + (iab (s j)).toNat * (mrg d j).toNat = rcN d s j
  rcases h with h | h
  · rw [h, Nat.zero_mul, Nat.add_zero]
  · rw [h, Nat.mul_zero, Nat.add_zero]
def B_X5_layReached : TB := fun as h _ K => ∃ (S R M p : Nat) (d : Dd) (s : Nat → Int), as = [vr (some S), vr (some M), vr (some p)] ∧ isSp h S R ∧ S + 3 < qt h ∧ R < qt h ∧ Ms h M d ∧ M + 64 ≤ S ∧ Chv h p s ∧ p + 2 ≤ S ∧
  (∀ (h' : Hp) (R' : Nat) (f2 g2 : Nat → Int), Gro h h' S → isSp h' S R' → R' < qt h' → (R' = R ∨ qt h ≤ R') → ql h' R' = ql h R → f2 0 = (((wdG d s).toNat + 1 : Nat) : Int) → f2 1 = 1 → (∀ k, k ≤ (wdG d s).toNat → (0 ≤ g2 k ∧ g2 k ≤ 1000) ∧ (0 < g2 k ↔ rcd d s 12 k)) → K none (ws h' S R' f2 (qi h (S + 2)) (qi h (S + 3)) g2))
abbrev i_X5_layReached : MI := (cX5_layReached, 5, RX5, none, "layReached", 5)
theorem k_X5_layReached_0 : Okop i_X5_layReached 0 (o_al 0) 1 := k_aln (j := 0) (by decide +kernel)
theorem k_X5_layReached_1 : Okop i_X5_layReached 1 (o_al 2) 2 := k_aln (j := 2) (by decide +kernel)
theorem k_X5_layReached_2 : Okop i_X5_layReached 2 (o_al 1) 3 := k_aln (j := 1) (by decide +kernel)
theorem k_X5_layReached_3 : Okop i_X5_layReached 3 (o_callV 1 1 T_X1_gapWidth) 6 := k_callV (idx := 22) (r0 := (RX1, TX1, 3)) m_X1_gapWidth ⟨gw_397, gw_4, ⟨by decide, by decide, by decide +kernel⟩, by decide, by decide⟩ rfl gw_433 gw_395 gw_396 (by decide +kernel)
theorem k_X5_layReached_6 : Okop i_X5_layReached 6 (o_c 1) 7 := k_iconst (by decide +kernel)
theorem k_X5_layReached_7 : Okop i_X5_layReached 7 (o_add) 8 := k_add (by decide +kernel)
theorem k_X5_layReached_8 : Okop i_X5_layReached 8 (o_c 1) 9 := k_iconst (by decide +kernel)
theorem k_X5_layReached_9 : Okop i_X5_layReached 9 (o_callVx 5 2 B_X5_clear) 12 := k_callVx (idx := 28) (r0 := (RX5, TX5, 9)) m_X5_clear ⟨gw_437, gw_8, ⟨by decide, by decide, by decide +kernel⟩, by decide, by decide⟩ rfl gw_434 gw_436 gs_2 (by decide +kernel)
theorem k_X5_layReached_12 : Okop i_X5_layReached 12 (o_ne0 16) 15 := k_ne0 (off := 4) (by decide +kernel) (by decide)
theorem k_X5_layReached_15 : Okop i_X5_layReached 15 (o_vret) 16 := k_vret (by decide +kernel) rfl
theorem k_X5_layReached_16 : Okop i_X5_layReached 16 (o_c 0) 17 := k_iconst (by decide +kernel)
theorem k_X5_layReached_17 : Okop i_X5_layReached 17 (o_is 3) 18 := k_isn (j := 3) (by decide +kernel) (by decide)
theorem k_X5_layReached_18 : Okop i_X5_layReached 18 (o_il 3) 19 := k_iln (j := 3) (by decide +kernel)
theorem k_X5_layReached_19 : Okop i_X5_layReached 19 (o_c 12) 21 := k_bipush (by decide +kernel) rfl
theorem k_X5_layReached_21 : Okop i_X5_layReached 21 (o_ige 67) 24 := k_ige (off := 46) (by decide +kernel) (by decide)
theorem k_X5_layReached_24 : Okop i_X5_layReached 24 (o_al 2) 25 := k_aln (j := 2) (by decide +kernel)
theorem k_X5_layReached_25 : Okop i_X5_layReached 25 (o_gr 1 0) 28 := k_gr (idx := 38) fo_1 (by decide) (by decide) gw_111 (by decide +kernel)
theorem k_X5_layReached_28 : Okop i_X5_layReached 28 (o_il 3) 29 := k_iln (j := 3) (by decide +kernel)
theorem k_X5_layReached_29 : Okop i_X5_layReached 29 (o_iald) 30 := k_iald (by decide +kernel)
theorem k_X5_layReached_30 : Okop i_X5_layReached 30 (o_call 1 T_J9_abs_0f7a4) 33 := k_call (idx := 45) m_J9_abs_0f7a4 ⟨gw_359, gw_12, ⟨by decide, by decide, by decide +kernel⟩, by decide, by decide⟩ gw_454 gw_358 (by decide +kernel)
theorem k_X5_layReached_33 : Okop i_X5_layReached 33 (o_is 4) 35 := k_is (by decide +kernel) (by decide)
theorem k_X5_layReached_35 : Okop i_X5_layReached 35 (o_il 4) 37 := k_il (by decide +kernel)
theorem k_X5_layReached_37 : Okop i_X5_layReached 37 (o_le0 61) 40 := k_le0 (off := 24) (by decide +kernel) (by decide)
theorem k_X5_layReached_40 : Okop i_X5_layReached 40 (o_al 1) 41 := k_aln (j := 1) (by decide +kernel)
theorem k_X5_layReached_41 : Okop i_X5_layReached 41 (o_il 3) 42 := k_iln (j := 3) (by decide +kernel)
theorem k_X5_layReached_42 : Okop i_X5_layReached 42 (o_aald) 43 := k_aald (by decide +kernel)
theorem k_X5_layReached_43 : Okop i_X5_layReached 43 (o_callV 4 0 T_X4_missRange) 46 := k_callV (idx := 51) (r0 := (RX4, TX4, 13)) m_X4_missRange ⟨gw_402, gw_3, ⟨by decide, by decide, by decide +kernel⟩, by decide, by decide⟩ rfl gw_611 gw_400 gw_401 (by decide +kernel)
theorem k_X5_layReached_46 : Okop i_X5_layReached 46 (o_le0 61) 49 := k_le0 (off := 15) (by decide +kernel) (by decide)
theorem k_X5_layReached_49 : Okop i_X5_layReached 49 (o_al 0) 50 := k_aln (j := 0) (by decide +kernel)
theorem k_X5_layReached_50 : Okop i_X5_layReached 50 (o_il 4) 52 := k_il (by decide +kernel)
theorem k_X5_layReached_52 : Okop i_X5_layReached 52 (o_al 1) 53 := k_aln (j := 1) (by decide +kernel)
theorem k_X5_layReached_53 : Okop i_X5_layReached 53 (o_il 3) 54 := k_iln (j := 3) (by decide +kernel)
theorem k_X5_layReached_54 : Okop i_X5_layReached 54 (o_aald) 55 := k_aald (by decide +kernel)
theorem k_X5_layReached_55 : Okop i_X5_layReached 55 (o_callV 4 0 T_X4_missRange) 58 := k_callV (idx := 51) (r0 := (RX4, TX4, 13)) m_X4_missRange ⟨gw_402, gw_3, ⟨by decide, by decide, by decide +kernel⟩, by decide, by decide⟩ rfl gw_611 gw_400 gw_401 (by decide +kernel)
theorem k_X5_layReached_58 : Okop i_X5_layReached 58 (o_callV 5 2 T_X5_reachBy) 61 := k_callV (idx := 55) (r0 := (RX5, TX5, 9)) m_X5_reachBy ⟨gw_615, gw_8, ⟨by decide, by decide, by decide +kernel⟩, by decide, by decide⟩ rfl gw_612 gw_614 gs_12 (by decide +kernel)
theorem k_X5_layReached_61 : Okop i_X5_layReached 61 (o_inc 3 1) 64 := k_inc (by decide +kernel) (by decide)
theorem k_X5_layReached_64 : Okop i_X5_layReached 64 (o_go 18) 67 := k_go (off := -46) (by decide +kernel) (by decide)
theorem k_X5_layReached_67 : Okop i_X5_layReached 67 (o_vret) 68 := k_vret (by decide +kernel) rfl
theorem s_X5_layReached_0 : Seg i_X5_layReached 0 [o_al 0, o_al 2, o_al 1, o_callV 1 1 T_X1_gapWidth, o_c 1, o_add, o_c 1, o_callVx 5 2 B_X5_clear, o_ne0 16, o_vret] 16 := Seg.cons k_X5_layReached_0 (Seg.cons k_X5_layReached_1 (Seg.cons k_X5_layReached_2 (Seg.cons k_X5_layReached_3 (Seg.cons k_X5_layReached_6 (Seg.cons k_X5_layReached_7 (Seg.cons k_X5_layReached_8 (Seg.cons k_X5_layReached_9 (Seg.cons k_X5_layReached_12 (Seg.cons k_X5_layReached_15 (Seg.nil))))))))))
theorem s_X5_layReached_16 : Seg i_X5_layReached 16 [o_c 0, o_is 3] 18 := Seg.cons k_X5_layReached_16 (Seg.cons k_X5_layReached_17 (Seg.nil))
theorem s_X5_layReached_18 : Seg i_X5_layReached 18 [o_il 3, o_c 12, o_ige 67, o_al 2, o_gr 1 0, o_il 3, o_iald, o_call 1 T_J9_abs_0f7a4, o_is 4, o_il 4, o_le0 61, o_al 1, o_il 3, o_aald, o_callV 4 0 T_X4_missRange, o_le0 61, o_al 0, o_il 4, o_al 1, o_il 3, o_aald, o_callV 4 0 T_X4_missRange, o_callV 5 2 T_X5_reachBy, o_inc 3 1, o_go 18] 67 := Seg.cons k_X5_layReached_18 (Seg.cons k_X5_layReached_19 (Seg.cons k_X5_layReached_21 (Seg.cons k_X5_layReached_24 (Seg.cons k_X5_layReached_25 (Seg.cons k_X5_layReached_28 (Seg.cons k_X5_layReached_29 (Seg.cons k_X5_layReached_30 (Seg.cons k_X5_layReached_33 (Seg.cons k_X5_layReached_35 (Seg.cons k_X5_layReached_37 (Seg.cons k_X5_layReached_40 (Seg.cons k_X5_layReached_41 (Seg.cons k_X5_layReached_42 (Seg.cons k_X5_layReached_43 (Seg.cons k_X5_layReached_46 (Seg.cons k_X5_layReached_49 (Seg.cons k_X5_layReached_50 (Seg.cons k_X5_layReached_52 (Seg.cons k_X5_layReached_53 (Seg.cons k_X5_layReached_54 (Seg.cons k_X5_layReached_55 (Seg.cons k_X5_layReached_58 (Seg.cons k_X5_layReached_61 (Seg.cons k_X5_layReached_64 (Seg.nil)))))))))))))))))))))))))
theorem s_X5_layReached_61 : Seg i_X5_layReached 61 [o_inc 3 1, o_go 18] 67 := Seg.cons k_X5_layReached_61 (Seg.cons k_X5_layReached_64 (Seg.nil))
theorem s_X5_layReached_67 : Seg i_X5_layReached 67 [o_vret] 68 := Seg.cons k_X5_layReached_67 (Seg.nil)

theorem m_X5_layReached : Mthx yX5_layReached cX5_layReached 5 none 5 B_X5_layReached := by
  refine Mthx.of (by decide) ?_
  rintro x as h c ok ⟨S, R, M, p, d, s, rfl, hSp, hS, hR, hM, hMS, hp, hpS, hKg⟩
  refine ⟨Nat.le_of_ble_eq_true rfl, ?_⟩
  have hI : ∀ m, m < 12 → InvM d m := fun m hm => (hM.2.2.2 m hm).2.2
  have hs := hp.2.2
  have w1 := wdG_rg hI hs
  obtain ⟨k0, r4, r6, r7, k2, l2, k3, l3, kR, lR⟩ := id hSp
  have kp := hp.1.1
  have e1 : wdG d s + 1 = (((wdG d s).toNat + 1 : Nat) : Int) := by omega
  have hlt : ∀ j, j ≤ 12 → rcN d s j ≤ (wdG d s).toNat := fun j hj => by
    have h1 := rcN_mono d s hj
    have h2 : (rcN d s 12 : Int) = wdG d s := rcN_eq hI 12 (Nat.le_refl _)
    omega
  generalize hrr : (wdG d s).toNat = w at *
  have erw : rwL (ql h R) ((w + 1) * 1) = ql h R := by unfold rwL; rw [if_pos (.inl (by omega))]
  have loop : ∀ (h' : Hp) (R' : Nat), Gro h h' S → isSp h' S R' → R' < qt h' → (R' = R ∨ qt h ≤ R') → ql h' R' = ql h R → ∀ b : Nat × Nat, ∀ j, j ≤ 12 → ∀ (f2 g2 : Nat → Int) v4, f2 0 = ((w + 1 : Nat) : Int) → f2 1 = 1 → f2 5 = (rcN d s j : Int) → (∀ k, k ≤ w → (0 ≤ g2 k ∧ g2 k ≤ 1000) ∧ (0 < g2 k ↔ rcd d s j k)) → V i_X5_layReached x 18 [some (vr (some S)), some (vr (some M)), some (vr (some p)), some (vi j), v4] [] (ws h' S R' f2 (qi h (S + 2)) (qi h (S + 3)) g2) b := by
    intro h' R' g1 g2 g3 g4 g5 b
    have eq1 := g1.eqb (by omega)
    refine bwd _ ?_ ?_
    · intro f2 gr v4 a1 a2 a3 a4
      refine s_X5_layReached_18 x ok _ _ _ _ ?_
      simp only [wpS, o_c, o_cl, o_il, o_ll, o_al, o_is, o_ls, o_as, o_inc, o_add, o_sub, o_mul, o_and, o_or, o_xor, o_shl, o_shr, o_div, o_neg, o_ladd, o_lsub, o_lmul, o_ldiv, o_lrem, o_lneg, o_lcmp, o_i2l, o_l2i, o_dup, o_dup2, o_pop, o_go, o_nn, o_sw, swc, o_iret, o_zret, o_lret, o_vret, o_ieq, o_eq0, o_ine, o_ne0, o_ilt, o_lt0, o_ige, o_ge0, o_igt, o_gt0, o_ile, o_le0, o_iald, o_zald, o_lald, o_aald, o_iast, o_zast, o_last, o_aast, o_alen, o_gi, o_gr, o_pi, o_pz, o_pr, o_new, o_newa, o_copy, o_oinit, o_call, o_callV, o_callVc, o_callI, popn, cnO, o_BAD, lgt, lst, isL, kil, st1, st2, entL, List.length_nil, List.length_cons, List.replicate, Nat.reduceAdd, Nat.reduceLeDiff, Nat.reduceSub, true_and, and_true, Nat.zero_le, ne_eq, qk_wi, ql_wi, qr_wi, qj_wi, qt_wi, qk_wj, ql_wj, qr_wj, qi_wj, qt_wj, qk_wr, ql_wr, qi_wr, qj_wr, qt_wr, qi_ws, qj_ws, qr_ws, Int.toNat_natCast, Int.toNat_zero, Int.reduceToNat, not_true_eq_false, not_false_eq_true, false_implies, implies_true, Option.some.injEq, reduceCtorEq, Sp0, true_or, or_true, or_self, wi_wi, wj_wj]
      repeat' (first | (with_reducible refine And.intro ?_ ?_) | (with_reducible intro))
      all_goals (try (first | assumption | omega | (unfold inI; omega)))
      all_goals (try ((first | (refine s_X5_layReached_0 x ok _ _ _ _ ?_) | (refine s_X5_layReached_16 x ok _ _ _ _ ?_) | (refine s_X5_layReached_61 x ok _ _ _ _ ?_) | (refine s_X5_layReached_67 x ok _ _ _ _ ?_)); (try simp only [wpS, o_c, o_cl, o_il, o_ll, o_al, o_is, o_ls, o_as, o_inc, o_add, o_sub, o_mul, o_and, o_or, o_xor, o_shl, o_shr, o_div, o_neg, o_ladd, o_lsub, o_lmul, o_ldiv, o_lrem, o_lneg, o_lcmp, o_i2l, o_l2i, o_dup, o_dup2, o_pop, o_go, o_nn, o_sw, swc, o_iret, o_zret, o_lret, o_vret, o_ieq, o_eq0, o_ine, o_ne0, o_ilt, o_lt0, o_ige, o_ge0, o_igt, o_gt0, o_ile, o_le0, o_iald, o_zald, o_lald, o_aald, o_iast, o_zast, o_last, o_aast, o_alen, o_gi, o_gr, o_pi, o_pz, o_pr, o_new, o_newa, o_copy, o_oinit, o_call, o_callV, o_callVc, o_callI, popn, cnO, o_BAD, lgt, lst, isL, kil, st1, st2, entL, List.length_nil, List.length_cons, List.replicate, Nat.reduceAdd, Nat.reduceLeDiff, Nat.reduceSub, true_and, and_true, Nat.zero_le, ne_eq, qk_wi, ql_wi, qr_wi, qj_wi, qt_wi, qk_wj, ql_wj, qr_wj, qi_wj, qt_wj, qk_wr, ql_wr, qi_wr, qj_wr, qt_wr, qi_ws, qj_ws, qr_ws, Int.toNat_natCast, Int.toNat_zero, Int.reduceToNat, not_true_eq_false, not_false_eq_true, false_implies, implies_true, Option.some.injEq, reduceCtorEq, Sp0, true_or, or_true, or_self, wi_wi, wj_wj]); (repeat' (first | (with_reducible refine And.intro ?_ ?_) | (with_reducible intro))); (all_goals (try (first | assumption | omega | (unfold inI; omega))))))
      all_goals (try ((first | (refine s_X5_layReached_0 x ok _ _ _ _ ?_) | (refine s_X5_layReached_16 x ok _ _ _ _ ?_) | (refine s_X5_layReached_61 x ok _ _ _ _ ?_) | (refine s_X5_layReached_67 x ok _ _ _ _ ?_)); (try simp only [wpS, o_c, o_cl, o_il, o_ll, o_al, o_is, o_ls, o_as, o_inc, o_add, o_sub, o_mul, o_and, o_or, o_xor, o_shl, o_shr, o_div, o_neg, o_ladd, o_lsub, o_lmul, o_ldiv, o_lrem, o_lneg, o_lcmp, o_i2l, o_l2i, o_dup, o_dup2, o_pop, o_go, o_nn, o_sw, swc, o_iret, o_zret, o_lret, o_vret, o_ieq, o_eq0, o_ine, o_ne0, o_ilt, o_lt0, o_ige, o_ge0, o_igt, o_gt0, o_ile, o_le0, o_iald, o_zald, o_lald, o_aald, o_iast, o_zast, o_last, o_aast, o_alen, o_gi, o_gr, o_pi, o_pz, o_pr, o_new, o_newa, o_copy, o_oinit, o_call, o_callV, o_callVc, o_callI, popn, cnO, o_BAD, lgt, lst, isL, kil, st1, st2, entL, List.length_nil, List.length_cons, List.replicate, Nat.reduceAdd, Nat.reduceLeDiff, Nat.reduceSub, true_and, and_true, Nat.zero_le, ne_eq, qk_wi, ql_wi, qr_wi, qj_wi, qt_wi, qk_wj, ql_wj, qr_wj, qi_wj, qt_wj, qk_wr, ql_wr, qi_wr, qj_wr, qt_wr, qi_ws, qj_ws, qr_ws, Int.toNat_natCast, Int.toNat_zero, Int.reduceToNat, not_true_eq_false, not_false_eq_true, false_implies, implies_true, Option.some.injEq, reduceCtorEq, Sp0, true_or, or_true, or_self, wi_wi, wj_wj]); (repeat' (first | (with_reducible refine And.intro ?_ ?_) | (with_reducible intro))); (all_goals (try (first | assumption | omega | (unfold inI; omega))))))
      exact hKg h' R' f2 gr g1 g2 g3 g4 g5 a1 a2 a4
    · intro j hj ih f2 gr v4 a1 a2 a3 a4
      have eq2 : Eqb h (ws h' S R' f2 (qi h (S + 2)) (qi h (S + 3)) gr) S := eq1.tr (ws_eqb h' S R' f2 (qi h (S + 2)) (qi h (S + 3)) gr)
      obtain ⟨km, lm, rm, hm⟩ := hM.eqb eq2 hMS
      obtain ⟨⟨kp, rp, kp2, lp2⟩, cp, -⟩ := hp.eqb eq2 hpS
      have hmj := hm j hj
      have kS : qk (ws h' S R' f2 (qi h (S + 2)) (qi h (S + 3)) gr) S = 15 := g2.1
      have hsj := hs j hj
      have his := iab_le hsj.1 hsj.2
      have hmr := mrg_rg (hI j hj)
      have skip : ((iab (s j)).toNat = 0 ∨ (mrg d j).toNat = 0) → V i_X5_layReached x 18 [some (vr (some S)), some (vr (some M)), some (vr (some p)), some (vi ((j : Int) + 1)), some (vi (iab (s j)))] [] (ws h' S R' f2 (qi h (S + 2)) (qi h (S + 3)) gr) b := fun n => by
        refine ih f2 gr _ a1 a2 (by rw [rcN_skip n]; exact a3) (fun k hk => ⟨(a4 k hk).1, ?_⟩)
        rw [rcd_skip n]; exact (a4 k hk).2
      have reach : (0 < iab (s j) ∧ 0 < mrg d j) → ∀ K : RT, (∀ f3 g3 : Nat → Int, f3 0 = ((w + 1 : Nat) : Int) → f3 1 = 1 → f3 5 = (rcN d s (j + 1) : Int) → (∀ k, k ≤ w → (0 ≤ g3 k ∧ g3 k ≤ 1000) ∧ (0 < g3 k ↔ rcd d s (j + 1) k)) → K none (ws h' S R' f3 (qi h (S + 2)) (qi h (S + 3)) g3)) → T_X5_reachBy [vr (some S), vi (iab (s j)), vi (mrg d j)] (ws h' S R' f2 (qi h (S + 2)) (qi h (S + 3)) gr) K := fun q K hK => by
        have eN : rcN d s (j + 1) = rcN d s j + (iab (s j)).toNat * (mrg d j).toNat := rfl
        have hN1 := hlt (j + 1) (by omega)
        rw [eN] at hN1
        have e2 : iab (s j) = ((iab (s j)).toNat : Int) := by omega
        have e3 : mrg d j = ((mrg d j).toNat : Int) := by omega
        rw [e2, e3]
        refine c_reachBy (n := rcN d s j) g2 a3 (by omega) (by omega) (by omega) (fun k hk => (a4 k (by omega)).1) (fun f3 g3 b1 b2 b3 => hK f3 g3 (by rw [b1 0 (by omega)]; exact a1) (by rw [b1 1 (by omega)]; exact a2) (by rw [b2, eN]) (fun k hk => ?_))
        by_cases z : k ≤ rcN d s j + (iab (s j)).toNat * (mrg d j).toNat
        · rw [b3 k, if_pos z]
          refine ⟨rch_rg (N := rcN d s j + (iab (s j)).toNat * (mrg d j).toNat) (by omega) (by omega) (fun k hk => (a4 k (by omega)).1) k z, ?_⟩
          rw [rch_pos (by omega)]
          constructor
          · rintro ⟨i, h1, h2, h3⟩
            exact ⟨i, h1, h2, (a4 _ (by omega)).2.mp h3⟩
          · rintro ⟨i, h1, h2, h3⟩
            exact ⟨i, h1, h2, (a4 _ (by omega)).2.mpr h3⟩
        · rw [b3 k, if_neg z]
          have n1 : ¬ rcd d s j k := fun h => by have := rcd_le d s j k h; omega
          have n2 : ¬ rcd d s (j + 1) k := fun h => by have := rcd_le d s (j + 1) k h; omega
          have := a4 k hk
          exact ⟨this.1, this.2.trans ⟨fun h => absurd h n1, fun h => absurd h n2⟩⟩
      refine s_X5_layReached_18 x ok _ _ _ _ ?_
      simp only [wpS, o_c, o_cl, o_il, o_ll, o_al, o_is, o_ls, o_as, o_inc, o_add, o_sub, o_mul, o_and, o_or, o_xor, o_shl, o_shr, o_div, o_neg, o_ladd, o_lsub, o_lmul, o_ldiv, o_lrem, o_lneg, o_lcmp, o_i2l, o_l2i, o_dup, o_dup2, o_pop, o_go, o_nn, o_sw, swc, o_iret, o_zret, o_lret, o_vret, o_ieq, o_eq0, o_ine, o_ne0, o_ilt, o_lt0, o_ige, o_ge0, o_igt, o_gt0, o_ile, o_le0, o_iald, o_zald, o_lald, o_aald, o_iast, o_zast, o_last, o_aast, o_alen, o_gi, o_gr, o_pi, o_pz, o_pr, o_new, o_newa, o_copy, o_oinit, o_call, o_callV, o_callVc, o_callI, popn, cnO, o_BAD, lgt, lst, isL, kil, st1, st2, entL, List.length_nil, List.length_cons, List.replicate, Nat.reduceAdd, Nat.reduceLeDiff, Nat.reduceSub, true_and, and_true, Nat.zero_le, ne_eq, qk_wi, ql_wi, qr_wi, qj_wi, qt_wi, qk_wj, ql_wj, qr_wj, qi_wj, qt_wj, qk_wr, ql_wr, qi_wr, qj_wr, qt_wr, qi_ws, qj_ws, qr_ws, Int.toNat_natCast, Int.toNat_zero, Int.reduceToNat, not_true_eq_false, not_false_eq_true, false_implies, implies_true, Option.some.injEq, reduceCtorEq, Sp0, true_or, or_true, or_self, wi_wi, wj_wj, km, lm, rm j hj, hmj.1.1, kp, rp, kp2, lp2, cp j hj, kS]
      repeat' (first | (with_reducible refine And.intro ?_ ?_) | (with_reducible intro))
      all_goals (try (first | assumption | omega | (unfold inI; omega)))
      refine c_abs ⟨by unfold inI; omega, ?_⟩
      simp only [wpS, o_c, o_cl, o_il, o_ll, o_al, o_is, o_ls, o_as, o_inc, o_add, o_sub, o_mul, o_and, o_or, o_xor, o_shl, o_shr, o_div, o_neg, o_ladd, o_lsub, o_lmul, o_ldiv, o_lrem, o_lneg, o_lcmp, o_i2l, o_l2i, o_dup, o_dup2, o_pop, o_go, o_nn, o_sw, swc, o_iret, o_zret, o_lret, o_vret, o_ieq, o_eq0, o_ine, o_ne0, o_ilt, o_lt0, o_ige, o_ge0, o_igt, o_gt0, o_ile, o_le0, o_iald, o_zald, o_lald, o_aald, o_iast, o_zast, o_last, o_aast, o_alen, o_gi, o_gr, o_pi, o_pz, o_pr, o_new, o_newa, o_copy, o_oinit, o_call, o_callV, o_callVc, o_callI, popn, cnO, o_BAD, lgt, lst, isL, kil, st1, st2, entL, List.length_nil, List.length_cons, List.replicate, Nat.reduceAdd, Nat.reduceLeDiff, Nat.reduceSub, true_and, and_true, Nat.zero_le, ne_eq, qk_wi, ql_wi, qr_wi, qj_wi, qt_wi, qk_wj, ql_wj, qr_wj, qi_wj, qt_wj, qk_wr, ql_wr, qi_wr, qj_wr, qt_wr, qi_ws, qj_ws, qr_ws, Int.toNat_natCast, Int.toNat_zero, Int.reduceToNat, not_true_eq_false, not_false_eq_true, false_implies, implies_true, Option.some.injEq, reduceCtorEq, Sp0, true_or, or_true, or_self, wi_wi, wj_wj, km, lm, rm j hj, hmj.1.1, kp, rp, kp2, lp2, cp j hj, kS]
      repeat' (first | (with_reducible refine And.intro ?_ ?_) | (with_reducible intro))
      all_goals (try (first | assumption | omega | (unfold inI; omega)))
      · all_goals (try ((first | (refine s_X5_layReached_0 x ok _ _ _ _ ?_) | (refine s_X5_layReached_16 x ok _ _ _ _ ?_) | (refine s_X5_layReached_61 x ok _ _ _ _ ?_) | (refine s_X5_layReached_67 x ok _ _ _ _ ?_)); (try simp only [wpS, o_c, o_cl, o_il, o_ll, o_al, o_is, o_ls, o_as, o_inc, o_add, o_sub, o_mul, o_and, o_or, o_xor, o_shl, o_shr, o_div, o_neg, o_ladd, o_lsub, o_lmul, o_ldiv, o_lrem, o_lneg, o_lcmp, o_i2l, o_l2i, o_dup, o_dup2, o_pop, o_go, o_nn, o_sw, swc, o_iret, o_zret, o_lret, o_vret, o_ieq, o_eq0, o_ine, o_ne0, o_ilt, o_lt0, o_ige, o_ge0, o_igt, o_gt0, o_ile, o_le0, o_iald, o_zald, o_lald, o_aald, o_iast, o_zast, o_last, o_aast, o_alen, o_gi, o_gr, o_pi, o_pz, o_pr, o_new, o_newa, o_copy, o_oinit, o_call, o_callV, o_callVc, o_callI, popn, cnO, o_BAD, lgt, lst, isL, kil, st1, st2, entL, List.length_nil, List.length_cons, List.replicate, Nat.reduceAdd, Nat.reduceLeDiff, Nat.reduceSub, true_and, and_true, Nat.zero_le, ne_eq, qk_wi, ql_wi, qr_wi, qj_wi, qt_wi, qk_wj, ql_wj, qr_wj, qi_wj, qt_wj, qk_wr, ql_wr, qi_wr, qj_wr, qt_wr, qi_ws, qj_ws, qr_ws, Int.toNat_natCast, Int.toNat_zero, Int.reduceToNat, not_true_eq_false, not_false_eq_true, false_implies, implies_true, Option.some.injEq, reduceCtorEq, Sp0, true_or, or_true, or_self, wi_wi, wj_wj]); (repeat' (first | (with_reducible refine And.intro ?_ ?_) | (with_reducible intro))); (all_goals (try (first | assumption | omega | (unfold inI; omega))))))
        exact skip (by omega)
      · refine c_missRange hmj ?_
        simp only [wpS, o_c, o_cl, o_il, o_ll, o_al, o_is, o_ls, o_as, o_inc, o_add, o_sub, o_mul, o_and, o_or, o_xor, o_shl, o_shr, o_div, o_neg, o_ladd, o_lsub, o_lmul, o_ldiv, o_lrem, o_lneg, o_lcmp, o_i2l, o_l2i, o_dup, o_dup2, o_pop, o_go, o_nn, o_sw, swc, o_iret, o_zret, o_lret, o_vret, o_ieq, o_eq0, o_ine, o_ne0, o_ilt, o_lt0, o_ige, o_ge0, o_igt, o_gt0, o_ile, o_le0, o_iald, o_zald, o_lald, o_aald, o_iast, o_zast, o_last, o_aast, o_alen, o_gi, o_gr, o_pi, o_pz, o_pr, o_new, o_newa, o_copy, o_oinit, o_call, o_callV, o_callVc, o_callI, popn, cnO, o_BAD, lgt, lst, isL, kil, st1, st2, entL, List.length_nil, List.length_cons, List.replicate, Nat.reduceAdd, Nat.reduceLeDiff, Nat.reduceSub, true_and, and_true, Nat.zero_le, ne_eq, qk_wi, ql_wi, qr_wi, qj_wi, qt_wi, qk_wj, ql_wj, qr_wj, qi_wj, qt_wj, qk_wr, ql_wr, qi_wr, qj_wr, qt_wr, qi_ws, qj_ws, qr_ws, Int.toNat_natCast, Int.toNat_zero, Int.reduceToNat, not_true_eq_false, not_false_eq_true, false_implies, implies_true, Option.some.injEq, reduceCtorEq, Sp0, true_or, or_true, or_self, wi_wi, wj_wj, km, lm, rm j hj, hmj.1.1, kp, rp, kp2, lp2, cp j hj, kS]
        repeat' (first | (with_reducible refine And.intro ?_ ?_) | (with_reducible intro))
        all_goals (try (first | assumption | omega | (unfold inI; omega)))
        · all_goals (try ((first | (refine s_X5_layReached_0 x ok _ _ _ _ ?_) | (refine s_X5_layReached_16 x ok _ _ _ _ ?_) | (refine s_X5_layReached_61 x ok _ _ _ _ ?_) | (refine s_X5_layReached_67 x ok _ _ _ _ ?_)); (try simp only [wpS, o_c, o_cl, o_il, o_ll, o_al, o_is, o_ls, o_as, o_inc, o_add, o_sub, o_mul, o_and, o_or, o_xor, o_shl, o_shr, o_div, o_neg, o_ladd, o_lsub, o_lmul, o_ldiv, o_lrem, o_lneg, o_lcmp, o_i2l, o_l2i, o_dup, o_dup2, o_pop, o_go, o_nn, o_sw, swc, o_iret, o_zret, o_lret, o_vret, o_ieq, o_eq0, o_ine, o_ne0, o_ilt, o_lt0, o_ige, o_ge0, o_igt, o_gt0, o_ile, o_le0, o_iald, o_zald, o_lald, o_aald, o_iast, o_zast, o_last, o_aast, o_alen, o_gi, o_gr, o_pi, o_pz, o_pr, o_new, o_newa, o_copy, o_oinit, o_call, o_callV, o_callVc, o_callI, popn, cnO, o_BAD, lgt, lst, isL, kil, st1, st2, entL, List.length_nil, List.length_cons, List.replicate, Nat.reduceAdd, Nat.reduceLeDiff, Nat.reduceSub, true_and, and_true, Nat.zero_le, ne_eq, qk_wi, ql_wi, qr_wi, qj_wi, qt_wi, qk_wj, ql_wj, qr_wj, qi_wj, qt_wj, qk_wr, ql_wr, qi_wr, qj_wr, qt_wr, qi_ws, qj_ws, qr_ws, Int.toNat_natCast, Int.toNat_zero, Int.reduceToNat, not_true_eq_false, not_false_eq_true, false_implies, implies_true, Option.some.injEq, reduceCtorEq, Sp0, true_or, or_true, or_self, wi_wi, wj_wj]); (repeat' (first | (with_reducible refine And.intro ?_ ?_) | (with_reducible intro))); (all_goals (try (first | assumption | omega | (unfold inI; omega))))))
          exact skip (by omega)
        · refine c_missRange hmj ?_
          simp only [wpS, o_c, o_cl, o_il, o_ll, o_al, o_is, o_ls, o_as, o_inc, o_add, o_sub, o_mul, o_and, o_or, o_xor, o_shl, o_shr, o_div, o_neg, o_ladd, o_lsub, o_lmul, o_ldiv, o_lrem, o_lneg, o_lcmp, o_i2l, o_l2i, o_dup, o_dup2, o_pop, o_go, o_nn, o_sw, swc, o_iret, o_zret, o_lret, o_vret, o_ieq, o_eq0, o_ine, o_ne0, o_ilt, o_lt0, o_ige, o_ge0, o_igt, o_gt0, o_ile, o_le0, o_iald, o_zald, o_lald, o_aald, o_iast, o_zast, o_last, o_aast, o_alen, o_gi, o_gr, o_pi, o_pz, o_pr, o_new, o_newa, o_copy, o_oinit, o_call, o_callV, o_callVc, o_callI, popn, cnO, o_BAD, lgt, lst, isL, kil, st1, st2, entL, List.length_nil, List.length_cons, List.replicate, Nat.reduceAdd, Nat.reduceLeDiff, Nat.reduceSub, true_and, and_true, Nat.zero_le, ne_eq, qk_wi, ql_wi, qr_wi, qj_wi, qt_wi, qk_wj, ql_wj, qr_wj, qi_wj, qt_wj, qk_wr, ql_wr, qi_wr, qj_wr, qt_wr, qi_ws, qj_ws, qr_ws, Int.toNat_natCast, Int.toNat_zero, Int.reduceToNat, not_true_eq_false, not_false_eq_true, false_implies, implies_true, Option.some.injEq, reduceCtorEq, Sp0, true_or, or_true, or_self, wi_wi, wj_wj, km, lm, rm j hj, hmj.1.1, kp, rp, kp2, lp2, cp j hj, kS]
          repeat' (first | (with_reducible refine And.intro ?_ ?_) | (with_reducible intro))
          all_goals (try (first | assumption | omega | (unfold inI; omega)))
          refine reach ⟨by omega, by omega⟩ _ (fun f3 g3 b1 b2 b3 b4 => ?_)
          exact ih f3 g3 _ b1 b2 b3 b4
  have one : (1 : Int) = ((1 : Nat) : Int) := rfl
  refine s_X5_layReached_0 x ok _ _ _ _ ?_
  simp only [wpS, o_c, o_cl, o_il, o_ll, o_al, o_is, o_ls, o_as, o_inc, o_add, o_sub, o_mul, o_and, o_or, o_xor, o_shl, o_shr, o_div, o_neg, o_ladd, o_lsub, o_lmul, o_ldiv, o_lrem, o_lneg, o_lcmp, o_i2l, o_l2i, o_dup, o_dup2, o_pop, o_go, o_nn, o_sw, swc, o_iret, o_zret, o_lret, o_vret, o_ieq, o_eq0, o_ine, o_ne0, o_ilt, o_lt0, o_ige, o_ge0, o_igt, o_gt0, o_ile, o_le0, o_iald, o_zald, o_lald, o_aald, o_iast, o_zast, o_last, o_aast, o_alen, o_gi, o_gr, o_pi, o_pz, o_pr, o_new, o_newa, o_copy, o_oinit, o_call, o_callV, o_callVc, o_callI, popn, cnO, o_BAD, lgt, lst, isL, kil, st1, st2, entL, List.length_nil, List.length_cons, List.replicate, Nat.reduceAdd, Nat.reduceLeDiff, Nat.reduceSub, true_and, and_true, Nat.zero_le, ne_eq, qk_wi, ql_wi, qr_wi, qj_wi, qt_wi, qk_wj, ql_wj, qr_wj, qi_wj, qt_wj, qk_wr, ql_wr, qi_wr, qj_wr, qt_wr, qi_ws, qj_ws, qr_ws, Int.toNat_natCast, Int.toNat_zero, Int.reduceToNat, not_true_eq_false, not_false_eq_true, false_implies, implies_true, Option.some.injEq, reduceCtorEq, Sp0, true_or, or_true, or_self, wi_wi, wj_wj, k0, kp, o_callVx]
  repeat' (first | (with_reducible refine And.intro ?_ ?_) | (with_reducible intro))
  all_goals (try (first | assumption | omega | (unfold inI; omega)))
  refine c_gapWidth hp hM ?_
  simp only [wpS, o_c, o_cl, o_il, o_ll, o_al, o_is, o_ls, o_as, o_inc, o_add, o_sub, o_mul, o_and, o_or, o_xor, o_shl, o_shr, o_div, o_neg, o_ladd, o_lsub, o_lmul, o_ldiv, o_lrem, o_lneg, o_lcmp, o_i2l, o_l2i, o_dup, o_dup2, o_pop, o_go, o_nn, o_sw, swc, o_iret, o_zret, o_lret, o_vret, o_ieq, o_eq0, o_ine, o_ne0, o_ilt, o_lt0, o_ige, o_ge0, o_igt, o_gt0, o_ile, o_le0, o_iald, o_zald, o_lald, o_aald, o_iast, o_zast, o_last, o_aast, o_alen, o_gi, o_gr, o_pi, o_pz, o_pr, o_new, o_newa, o_copy, o_oinit, o_call, o_callV, o_callVc, o_callI, popn, cnO, o_BAD, lgt, lst, isL, kil, st1, st2, entL, List.length_nil, List.length_cons, List.replicate, Nat.reduceAdd, Nat.reduceLeDiff, Nat.reduceSub, true_and, and_true, Nat.zero_le, ne_eq, qk_wi, ql_wi, qr_wi, qj_wi, qt_wi, qk_wj, ql_wj, qr_wj, qi_wj, qt_wj, qk_wr, ql_wr, qi_wr, qj_wr, qt_wr, qi_ws, qj_ws, qr_ws, Int.toNat_natCast, Int.toNat_zero, Int.reduceToNat, not_true_eq_false, not_false_eq_true, false_implies, implies_true, Option.some.injEq, reduceCtorEq, Sp0, true_or, or_true, or_self, wi_wi, wj_wj, k0, kp, o_callVx, e1]
  repeat' (first | (with_reducible refine And.intro ?_ ?_) | (with_reducible intro))
  all_goals (try (first | assumption | omega | (unfold inI; omega)))
  refine ⟨c, Nat.le_refl _, Nat.le_refl _, c_clear (r := w + 1) (q := 1) hSp hS hR (by omega) (by omega) (by rw [erw]; unfold gc; rw [if_pos rfl]; omega) (by rw [erw]; unfold gc; rw [if_pos rfl]; omega) (fun hb f2 _ _ _ _ => by omega) (fun hg h' R' f2 g2 u1 u2 u3 u4 u5 u6 u7 u8 u9 u10 => ?_)⟩
  simp only [wpS, o_c, o_cl, o_il, o_ll, o_al, o_is, o_ls, o_as, o_inc, o_add, o_sub, o_mul, o_and, o_or, o_xor, o_shl, o_shr, o_div, o_neg, o_ladd, o_lsub, o_lmul, o_ldiv, o_lrem, o_lneg, o_lcmp, o_i2l, o_l2i, o_dup, o_dup2, o_pop, o_go, o_nn, o_sw, swc, o_iret, o_zret, o_lret, o_vret, o_ieq, o_eq0, o_ine, o_ne0, o_ilt, o_lt0, o_ige, o_ge0, o_igt, o_gt0, o_ile, o_le0, o_iald, o_zald, o_lald, o_aald, o_iast, o_zast, o_last, o_aast, o_alen, o_gi, o_gr, o_pi, o_pz, o_pr, o_new, o_newa, o_copy, o_oinit, o_call, o_callV, o_callVc, o_callI, popn, cnO, o_BAD, lgt, lst, isL, kil, st1, st2, entL, List.length_nil, List.length_cons, List.replicate, Nat.reduceAdd, Nat.reduceLeDiff, Nat.reduceSub, true_and, and_true, Nat.zero_le, ne_eq, qk_wi, ql_wi, qr_wi, qj_wi, qt_wi, qk_wj, ql_wj, qr_wj, qi_wj, qt_wj, qk_wr, ql_wr, qi_wr, qj_wr, qt_wr, qi_ws, qj_ws, qr_ws, Int.toNat_natCast, Int.toNat_zero, Int.reduceToNat, not_true_eq_false, not_false_eq_true, false_implies, implies_true, Option.some.injEq, reduceCtorEq, Sp0, true_or, or_true, or_self, wi_wi, wj_wj]
  repeat' (first | (with_reducible refine And.intro ?_ ?_) | (with_reducible intro))
  all_goals (try (first | assumption | omega | (unfold inI; omega)))
  all_goals (first | omega | skip)
  all_goals (try ((first | (refine s_X5_layReached_0 x ok _ _ _ _ ?_) | (refine s_X5_layReached_16 x ok _ _ _ _ ?_) | (refine s_X5_layReached_61 x ok _ _ _ _ ?_) | (refine s_X5_layReached_67 x ok _ _ _ _ ?_)); (try simp only [wpS, o_c, o_cl, o_il, o_ll, o_al, o_is, o_ls, o_as, o_inc, o_add, o_sub, o_mul, o_and, o_or, o_xor, o_shl, o_shr, o_div, o_neg, o_ladd, o_lsub, o_lmul, o_ldiv, o_lrem, o_lneg, o_lcmp, o_i2l, o_l2i, o_dup, o_dup2, o_pop, o_go, o_nn, o_sw, swc, o_iret, o_zret, o_lret, o_vret, o_ieq, o_eq0, o_ine, o_ne0, o_ilt, o_lt0, o_ige, o_ge0, o_igt, o_gt0, o_ile, o_le0, o_iald, o_zald, o_lald, o_aald, o_iast, o_zast, o_last, o_aast, o_alen, o_gi, o_gr, o_pi, o_pz, o_pr, o_new, o_newa, o_copy, o_oinit, o_call, o_callV, o_callVc, o_callI, popn, cnO, o_BAD, lgt, lst, isL, kil, st1, st2, entL, List.length_nil, List.length_cons, List.replicate, Nat.reduceAdd, Nat.reduceLeDiff, Nat.reduceSub, true_and, and_true, Nat.zero_le, ne_eq, qk_wi, ql_wi, qr_wi, qj_wi, qt_wi, qk_wj, ql_wj, qr_wj, qi_wj, qt_wj, qk_wr, ql_wr, qi_wr, qj_wr, qt_wr, qi_ws, qj_ws, qr_ws, Int.toNat_natCast, Int.toNat_zero, Int.reduceToNat, not_true_eq_false, not_false_eq_true, false_implies, implies_true, Option.some.injEq, reduceCtorEq, Sp0, true_or, or_true, or_self, wi_wi, wj_wj]); (repeat' (first | (with_reducible refine And.intro ?_ ?_) | (with_reducible intro))); (all_goals (try (first | assumption | omega | (unfold inI; omega))))))
  exact loop h' R' u1 u2 u3 u4 (by rw [u5, erw]) _ 0 (by omega) f2 g2 none u7 u8 u9 (fun k hk => by
    rw [u10 k (by omega)]
    show _ ∧ (_ ↔ k = 0)
    split <;> omega)

/-! ===== best ===== -/
/-- the heap with the chosen levels of the twelve measures of the state at a as g has them -/
def wm (h : Hp) (a : Nat) (g : Nat → Int) : Hp := (h.1, h.2.1, fun b => if a + 5 ≤ b ∧ b < a + 65 ∧ (b - (a + 5)) % 5 = 0 then fu (h.2.2.1 b) 12 (g ((b - (a + 5)) / 5)) else h.2.2.1 b, h.2.2.2)
theorem qm_s {h : Hp} {a m : Nat} {g : Nat → Int} (hm : m < 12) : qi (wm h a g) (a + 5 + 5 * m) = fu (qi h (a + 5 + 5 * m)) 12 (g m) := by
  show (if a + 5 ≤ a + 5 + 5 * m ∧ a + 5 + 5 * m < a + 65 ∧ (a + 5 + 5 * m - (a + 5)) % 5 = 0 then fu (h.2.2.1 (a + 5 + 5 * m)) 12 (g ((a + 5 + 5 * m - (a + 5)) / 5)) else _) = _
  rw [if_pos ⟨by omega, by omega, by omega⟩, show (a + 5 + 5 * m - (a + 5)) / 5 = m by omega]
  rfl
theorem qm_n {h : Hp} {a b : Nat} {g : Nat → Int} (hb : ∀ m, m < 12 → b ≠ a + 5 + 5 * m) : qi (wm h a g) b = qi h b := by
  show (if a + 5 ≤ b ∧ b < a + 65 ∧ (b - (a + 5)) % 5 = 0 then fu (h.2.2.1 b) 12 (g ((b - (a + 5)) / 5)) else h.2.2.1 b) = _
  rw [if_neg (fun q => hb ((b - (a + 5)) / 5) (by omega) (by omega))]
  rfl
theorem wm_s {h : Hp} {a m : Nat} {g : Nat → Int} (hm : m < 12) (v : Int) : wi (wm h a g) (a + 5 + 5 * m) (fu (qi (wm h a g) (a + 5 + 5 * m)) 12 v) = wm h a (fu g m v) := by
  rw [qm_s hm, fu_uu]
  unfold wi wm
  congr 1
  congr 1
  congr 1
  funext b
  dsimp only
  by_cases e : b = a + 5 + 5 * m
  · subst e
    rw [fu_s, if_pos ⟨by omega, by omega, by omega⟩, show (a + 5 + 5 * m - (a + 5)) / 5 = m by omega, fu_s]
    rfl
  · rw [fu_n e]
    by_cases q : a + 5 ≤ b ∧ b < a + 65 ∧ (b - (a + 5)) % 5 = 0
    · rw [if_pos q, if_pos q, fu_n (by omega)]
    · rw [if_neg q, if_neg q]
theorem wm_self (h : Hp) (a : Nat) : wm h a (fun m => qi h (a + 5 + 5 * m) 12) = h := by
  have e : (fun b => if a + 5 ≤ b ∧ b < a + 65 ∧ (b - (a + 5)) % 5 = 0 then fu (h.2.2.1 b) 12 (qi h (a + 5 + 5 * ((b - (a + 5)) / 5)) 12) else h.2.2.1 b) = h.2.2.1 := by
    funext b
    by_cases q : a + 5 ≤ b ∧ b < a + 65 ∧ (b - (a + 5)) % 5 = 0
    · rw [if_pos q, show a + 5 + 5 * ((b - (a + 5)) / 5) = b by omega]
      exact fu_self _ _
    · rw [if_neg q]
  unfold wm
  rw [e]
theorem wi_wc {h : Hp} {C b : Nat} {F : Nat → Nat → Int} {f : Nat → Int} (hb : b < C) : wi (wc h C F) b f = wc (wi h b f) C F := by
  unfold wi wc
  congr 1
  congr 1
  congr 1
  funext q
  unfold fu
  dsimp only
  by_cases e : q = b
  · subst e; rw [if_pos rfl, if_neg (by omega), if_pos rfl]
  · rw [if_neg e]
    by_cases z : C ≤ q ∧ q ≤ C + 6
    · rw [if_pos z, if_pos z]
    · rw [if_neg z, if_neg z, if_neg e]
theorem wcm_s {h : Hp} {a m C : Nat} {g : Nat → Int} {F : Nat → Nat → Int} (hm : m < 12) (haC : a + 81 ≤ C) (v : Int) : wi (wc (wm h a g) C F) (a + 5 + 5 * m) (fu (qi (wc (wm h a g) C F) (a + 5 + 5 * m)) 12 v) = wc (wm h a (fu g m v)) C F := by
  rw [qc_n (by omega), wi_wc (by omega), wm_s hm]
def chG (d : Dd) (p : Nat → Int) : Nat → Nat → Int
  | 0 => fun _ => -1
  | i + 1 => fu (chG d p i) (gl d i) (p i)
def T_X0_tellChoice : TT := fun as h K => ∃ (h0 : Hp) (C a : Nat) (F : Nat → Nat → Int) (p : Nat → Int) (d : Dd), as = [vr (some C), vr (some (a + 1))] ∧ h = wc h0 C F ∧ isCa h0 C ∧ isSt h0 a ∧ a + 81 ≤ C ∧ Inv d ∧ gaR d F ∧ (∀ i, i < gk d → F 3 i = p i) ∧ ∀ g, (∀ m, m < 12 → g m = chG d p (gk d) m) → K none (wc (wm h0 a g) C F)
theorem c_tellChoice {h0 : Hp} {C a : Nat} {F : Nat → Nat → Int} {p : Nat → Int} {d : Dd} {K : RT} (h1 : isCa h0 C) (h2 : isSt h0 a) (h3 : a + 81 ≤ C) (h4 : Inv d) (h5 : gaR d F) (h6 : ∀ i, i < gk d → F 3 i = p i) (h7 : ∀ g, (∀ m, m < 12 → g m = chG d p (gk d) m) → K none (wc (wm h0 a g) C F)) : T_X0_tellChoice [vr (some C), vr (some (a + 1))] (wc h0 C F) K := ⟨h0, C, a, F, p, d, rfl, rfl, h1, h2, h3, h4, h5, h6, h7⟩
abbrev i_X0_tellChoice : MI := (cX0_tellChoice, 3, RX0, none, "tellChoice", 2)
theorem k_X0_tellChoice_0 : Okop i_X0_tellChoice 0 (o_c 0) 1 := k_iconst (by decide +kernel)
theorem k_X0_tellChoice_1 : Okop i_X0_tellChoice 1 (o_is 2) 2 := k_isn (j := 2) (by decide +kernel) (by decide)
theorem k_X0_tellChoice_2 : Okop i_X0_tellChoice 2 (o_il 2) 3 := k_iln (j := 2) (by decide +kernel)
theorem k_X0_tellChoice_3 : Okop i_X0_tellChoice 3 (o_c 12) 5 := k_bipush (by decide +kernel) rfl
theorem k_X0_tellChoice_5 : Okop i_X0_tellChoice 5 (o_ige 21) 8 := k_ige (off := 16) (by decide +kernel) (by decide)
theorem k_X0_tellChoice_8 : Okop i_X0_tellChoice 8 (o_al 1) 9 := k_aln (j := 1) (by decide +kernel)
theorem k_X0_tellChoice_9 : Okop i_X0_tellChoice 9 (o_il 2) 10 := k_iln (j := 2) (by decide +kernel)
theorem k_X0_tellChoice_10 : Okop i_X0_tellChoice 10 (o_aald) 11 := k_aald (by decide +kernel)
theorem k_X0_tellChoice_11 : Okop i_X0_tellChoice 11 (o_c (-1)) 12 := k_iconst (by decide +kernel)
theorem k_X0_tellChoice_12 : Okop i_X0_tellChoice 12 (o_pi 4 12) 15 := k_pi (idx := 124) fo_4 (by decide) (by decide) gw_74 (by decide +kernel) (.inl rfl)
theorem k_X0_tellChoice_15 : Okop i_X0_tellChoice 15 (o_inc 2 1) 18 := k_inc (by decide +kernel) (by decide)
theorem k_X0_tellChoice_18 : Okop i_X0_tellChoice 18 (o_go 2) 21 := k_go (off := -16) (by decide +kernel) (by decide)
theorem k_X0_tellChoice_21 : Okop i_X0_tellChoice 21 (o_c 0) 22 := k_iconst (by decide +kernel)
theorem k_X0_tellChoice_22 : Okop i_X0_tellChoice 22 (o_is 2) 23 := k_isn (j := 2) (by decide +kernel) (by decide)
theorem k_X0_tellChoice_23 : Okop i_X0_tellChoice 23 (o_il 2) 24 := k_iln (j := 2) (by decide +kernel)
theorem k_X0_tellChoice_24 : Okop i_X0_tellChoice 24 (o_al 0) 25 := k_aln (j := 0) (by decide +kernel)
theorem k_X0_tellChoice_25 : Okop i_X0_tellChoice 25 (o_gi 0 1) 28 := k_gi (idx := 55) fo_0 (by decide) (by decide) gw_231 (by decide +kernel)
theorem k_X0_tellChoice_28 : Okop i_X0_tellChoice 28 (o_ige 54) 31 := k_ige (off := 26) (by decide +kernel) (by decide)
theorem k_X0_tellChoice_31 : Okop i_X0_tellChoice 31 (o_al 1) 32 := k_aln (j := 1) (by decide +kernel)
theorem k_X0_tellChoice_32 : Okop i_X0_tellChoice 32 (o_al 0) 33 := k_aln (j := 0) (by decide +kernel)
theorem k_X0_tellChoice_33 : Okop i_X0_tellChoice 33 (o_gr 0 0) 36 := k_gr (idx := 9) fo_0 (by decide) (by decide) gw_230 (by decide +kernel)
theorem k_X0_tellChoice_36 : Okop i_X0_tellChoice 36 (o_il 2) 37 := k_iln (j := 2) (by decide +kernel)
theorem k_X0_tellChoice_37 : Okop i_X0_tellChoice 37 (o_iald) 38 := k_iald (by decide +kernel)
theorem k_X0_tellChoice_38 : Okop i_X0_tellChoice 38 (o_aald) 39 := k_aald (by decide +kernel)
theorem k_X0_tellChoice_39 : Okop i_X0_tellChoice 39 (o_al 0) 40 := k_aln (j := 0) (by decide +kernel)
theorem k_X0_tellChoice_40 : Okop i_X0_tellChoice 40 (o_gr 0 3) 43 := k_gr (idx := 18) fo_0 (by decide) (by decide) gw_233 (by decide +kernel)
theorem k_X0_tellChoice_43 : Okop i_X0_tellChoice 43 (o_il 2) 44 := k_iln (j := 2) (by decide +kernel)
theorem k_X0_tellChoice_44 : Okop i_X0_tellChoice 44 (o_iald) 45 := k_iald (by decide +kernel)
theorem k_X0_tellChoice_45 : Okop i_X0_tellChoice 45 (o_pi 4 12) 48 := k_pi (idx := 124) fo_4 (by decide) (by decide) gw_74 (by decide +kernel) (.inl rfl)
theorem k_X0_tellChoice_48 : Okop i_X0_tellChoice 48 (o_inc 2 1) 51 := k_inc (by decide +kernel) (by decide)
theorem k_X0_tellChoice_51 : Okop i_X0_tellChoice 51 (o_go 23) 54 := k_go (off := -28) (by decide +kernel) (by decide)
theorem k_X0_tellChoice_54 : Okop i_X0_tellChoice 54 (o_vret) 55 := k_vret (by decide +kernel) rfl
theorem s_X0_tellChoice_0 : Seg i_X0_tellChoice 0 [o_c 0, o_is 2] 2 := Seg.cons k_X0_tellChoice_0 (Seg.cons k_X0_tellChoice_1 (Seg.nil))
theorem s_X0_tellChoice_2 : Seg i_X0_tellChoice 2 [o_il 2, o_c 12, o_ige 21, o_al 1, o_il 2, o_aald, o_c (-1), o_pi 4 12, o_inc 2 1, o_go 2] 21 := Seg.cons k_X0_tellChoice_2 (Seg.cons k_X0_tellChoice_3 (Seg.cons k_X0_tellChoice_5 (Seg.cons k_X0_tellChoice_8 (Seg.cons k_X0_tellChoice_9 (Seg.cons k_X0_tellChoice_10 (Seg.cons k_X0_tellChoice_11 (Seg.cons k_X0_tellChoice_12 (Seg.cons k_X0_tellChoice_15 (Seg.cons k_X0_tellChoice_18 (Seg.nil))))))))))
theorem s_X0_tellChoice_21 : Seg i_X0_tellChoice 21 [o_c 0, o_is 2] 23 := Seg.cons k_X0_tellChoice_21 (Seg.cons k_X0_tellChoice_22 (Seg.nil))
theorem s_X0_tellChoice_23 : Seg i_X0_tellChoice 23 [o_il 2, o_al 0, o_gi 0 1, o_ige 54, o_al 1, o_al 0, o_gr 0 0, o_il 2, o_iald, o_aald, o_al 0, o_gr 0 3, o_il 2, o_iald, o_pi 4 12, o_inc 2 1, o_go 23] 54 := Seg.cons k_X0_tellChoice_23 (Seg.cons k_X0_tellChoice_24 (Seg.cons k_X0_tellChoice_25 (Seg.cons k_X0_tellChoice_28 (Seg.cons k_X0_tellChoice_31 (Seg.cons k_X0_tellChoice_32 (Seg.cons k_X0_tellChoice_33 (Seg.cons k_X0_tellChoice_36 (Seg.cons k_X0_tellChoice_37 (Seg.cons k_X0_tellChoice_38 (Seg.cons k_X0_tellChoice_39 (Seg.cons k_X0_tellChoice_40 (Seg.cons k_X0_tellChoice_43 (Seg.cons k_X0_tellChoice_44 (Seg.cons k_X0_tellChoice_45 (Seg.cons k_X0_tellChoice_48 (Seg.cons k_X0_tellChoice_51 (Seg.nil)))))))))))))))))
theorem s_X0_tellChoice_54 : Seg i_X0_tellChoice 54 [o_vret] 55 := Seg.cons k_X0_tellChoice_54 (Seg.nil)

theorem m_X0_tellChoice : Mth yX0_tellChoice cX0_tellChoice 3 none 2 (Sp0 T_X0_tellChoice) := by
  refine Mth.of (by decide) ?_
  rintro x as h ok ⟨h0, C, a, F, p, d, rfl, rfl, hC, hS, haC, hI, hga, hp, hK⟩
  obtain ⟨k0, r0, r2, r3, r5, r6, r7, k1, l1, k2, l2, k3, l3, k4, l4, k5, l5, k6, l6⟩ := id hC
  obtain ⟨s0, s1, s2, s3, s4, s5, s6, -, -, -, -, -, -, srm, sme, -⟩ := hS
  refine ⟨Nat.le_of_ble_eq_true rfl, ?_⟩
  have hgk := gk_le hI
  have loop2 : ∀ j, j ≤ gk d → ∀ g : Nat → Int, (∀ m, m < 12 → g m = chG d p j m) → V i_X0_tellChoice x 23 [some (vr (some C)), some (vr (some (a + 1))), some (vi j)] [] (wc (wm h0 a g) C F) (0, 0) := by
    refine bwd _ ?_ ?_
    · intro g hg
      refine s_X0_tellChoice_23 x ok _ _ _ _ ?_
      simp only [wpS, o_c, o_cl, o_il, o_ll, o_al, o_is, o_ls, o_as, o_inc, o_add, o_sub, o_mul, o_and, o_or, o_xor, o_shl, o_shr, o_div, o_neg, o_ladd, o_lsub, o_lmul, o_ldiv, o_lrem, o_lneg, o_lcmp, o_i2l, o_l2i, o_dup, o_dup2, o_pop, o_go, o_nn, o_sw, swc, o_iret, o_zret, o_lret, o_vret, o_ieq, o_eq0, o_ine, o_ne0, o_ilt, o_lt0, o_ige, o_ge0, o_igt, o_gt0, o_ile, o_le0, o_iald, o_zald, o_lald, o_aald, o_iast, o_zast, o_last, o_aast, o_alen, o_gi, o_gr, o_pi, o_pz, o_pr, o_new, o_newa, o_copy, o_oinit, o_call, o_callV, o_callVc, o_callI, popn, cnO, o_BAD, lgt, lst, isL, kil, st1, st2, entL, List.length_nil, List.length_cons, List.replicate, Nat.reduceAdd, Nat.reduceLeDiff, Nat.reduceSub, true_and, and_true, Nat.zero_le, ne_eq, qk_wi, ql_wi, qr_wi, qj_wi, qt_wi, qk_wj, ql_wj, qr_wj, qi_wj, qt_wj, qk_wr, ql_wr, qi_wr, qj_wr, qt_wr, qi_ws, qj_ws, qr_ws, Int.toNat_natCast, Int.toNat_zero, Int.reduceToNat, not_true_eq_false, not_false_eq_true, false_implies, implies_true, Option.some.injEq, reduceCtorEq, Sp0, true_or, or_true, or_self, wi_wi, wj_wj, qk_wc, ql_wc, qr_wc, qc_0, wc_0, qc_1, wc_1, qc_2, wc_2, qc_3, wc_3, qc_4, wc_4, qc_5, wc_5, qc_6, wc_6, fr_a, ↓reduceIte, Nat.reduceEqDiff, show qk (wm h0 a g) = qk h0 from rfl, k0, hga.1]
      repeat' (first | (with_reducible refine And.intro ?_ ?_) | (with_reducible intro))
      all_goals (try (first | assumption | omega | (unfold inI; omega)))
      all_goals (try ((first | (refine s_X0_tellChoice_0 x ok _ _ _ _ ?_) | (refine s_X0_tellChoice_21 x ok _ _ _ _ ?_) | (refine s_X0_tellChoice_54 x ok _ _ _ _ ?_)); (try simp only [wpS, o_c, o_cl, o_il, o_ll, o_al, o_is, o_ls, o_as, o_inc, o_add, o_sub, o_mul, o_and, o_or, o_xor, o_shl, o_shr, o_div, o_neg, o_ladd, o_lsub, o_lmul, o_ldiv, o_lrem, o_lneg, o_lcmp, o_i2l, o_l2i, o_dup, o_dup2, o_pop, o_go, o_nn, o_sw, swc, o_iret, o_zret, o_lret, o_vret, o_ieq, o_eq0, o_ine, o_ne0, o_ilt, o_lt0, o_ige, o_ge0, o_igt, o_gt0, o_ile, o_le0, o_iald, o_zald, o_lald, o_aald, o_iast, o_zast, o_last, o_aast, o_alen, o_gi, o_gr, o_pi, o_pz, o_pr, o_new, o_newa, o_copy, o_oinit, o_call, o_callV, o_callVc, o_callI, popn, cnO, o_BAD, lgt, lst, isL, kil, st1, st2, entL, List.length_nil, List.length_cons, List.replicate, Nat.reduceAdd, Nat.reduceLeDiff, Nat.reduceSub, true_and, and_true, Nat.zero_le, ne_eq, qk_wi, ql_wi, qr_wi, qj_wi, qt_wi, qk_wj, ql_wj, qr_wj, qi_wj, qt_wj, qk_wr, ql_wr, qi_wr, qj_wr, qt_wr, qi_ws, qj_ws, qr_ws, Int.toNat_natCast, Int.toNat_zero, Int.reduceToNat, not_true_eq_false, not_false_eq_true, false_implies, implies_true, Option.some.injEq, reduceCtorEq, Sp0, true_or, or_true, or_self, wi_wi, wj_wj]); (repeat' (first | (with_reducible refine And.intro ?_ ?_) | (with_reducible intro))); (all_goals (try (first | assumption | omega | (unfold inI; omega))))))
      exact hK g hg
    · intro j hj ih g hg
      obtain ⟨g1, g2⟩ := gl_ok hj
      refine s_X0_tellChoice_23 x ok _ _ _ _ ?_
      simp only [wpS, o_c, o_cl, o_il, o_ll, o_al, o_is, o_ls, o_as, o_inc, o_add, o_sub, o_mul, o_and, o_or, o_xor, o_shl, o_shr, o_div, o_neg, o_ladd, o_lsub, o_lmul, o_ldiv, o_lrem, o_lneg, o_lcmp, o_i2l, o_l2i, o_dup, o_dup2, o_pop, o_go, o_nn, o_sw, swc, o_iret, o_zret, o_lret, o_vret, o_ieq, o_eq0, o_ine, o_ne0, o_ilt, o_lt0, o_ige, o_ge0, o_igt, o_gt0, o_ile, o_le0, o_iald, o_zald, o_lald, o_aald, o_iast, o_zast, o_last, o_aast, o_alen, o_gi, o_gr, o_pi, o_pz, o_pr, o_new, o_newa, o_copy, o_oinit, o_call, o_callV, o_callVc, o_callI, popn, cnO, o_BAD, lgt, lst, isL, kil, st1, st2, entL, List.length_nil, List.length_cons, List.replicate, Nat.reduceAdd, Nat.reduceLeDiff, Nat.reduceSub, true_and, and_true, Nat.zero_le, ne_eq, qk_wi, ql_wi, qr_wi, qj_wi, qt_wi, qk_wj, ql_wj, qr_wj, qi_wj, qt_wj, qk_wr, ql_wr, qi_wr, qj_wr, qt_wr, qi_ws, qj_ws, qr_ws, Int.toNat_natCast, Int.toNat_zero, Int.reduceToNat, not_true_eq_false, not_false_eq_true, false_implies, implies_true, Option.some.injEq, reduceCtorEq, Sp0, true_or, or_true, or_self, wi_wi, wj_wj, qk_wc, ql_wc, qr_wc, qc_0, qc_1, qc_3, show qk (wm h0 a g) = qk h0 from rfl, show ql (wm h0 a g) = ql h0 from rfl, show qr (wm h0 a g) = qr h0 from rfl, k0, hga.1, r0, r3, k1, l1, k3, l3, s5, s6, hga.2.1 j hj, srm _ g1, (sme _ g1).1, hp j hj, wcm_s g1 haC]
      repeat' (first | (with_reducible refine And.intro ?_ ?_) | (with_reducible intro))
      all_goals (try (first | assumption | omega | (unfold inI; omega)))
      exact ih _ (fun m hm => by
        show fu g (gl d j) (p j) m = fu (chG d p j) (gl d j) (p j) m
        unfold fu
        rw [hg m hm])
  have loop1 : ∀ j, j ≤ 12 → ∀ g : Nat → Int, (∀ m, m < j → g m = -1) → V i_X0_tellChoice x 2 [some (vr (some C)), some (vr (some (a + 1))), some (vi j)] [] (wc (wm h0 a g) C F) (0, 0) := by
    refine bwd _ ?_ ?_
    · intro g hg
      refine s_X0_tellChoice_2 x ok _ _ _ _ ?_
      simp only [wpS, o_c, o_cl, o_il, o_ll, o_al, o_is, o_ls, o_as, o_inc, o_add, o_sub, o_mul, o_and, o_or, o_xor, o_shl, o_shr, o_div, o_neg, o_ladd, o_lsub, o_lmul, o_ldiv, o_lrem, o_lneg, o_lcmp, o_i2l, o_l2i, o_dup, o_dup2, o_pop, o_go, o_nn, o_sw, swc, o_iret, o_zret, o_lret, o_vret, o_ieq, o_eq0, o_ine, o_ne0, o_ilt, o_lt0, o_ige, o_ge0, o_igt, o_gt0, o_ile, o_le0, o_iald, o_zald, o_lald, o_aald, o_iast, o_zast, o_last, o_aast, o_alen, o_gi, o_gr, o_pi, o_pz, o_pr, o_new, o_newa, o_copy, o_oinit, o_call, o_callV, o_callVc, o_callI, popn, cnO, o_BAD, lgt, lst, isL, kil, st1, st2, entL, List.length_nil, List.length_cons, List.replicate, Nat.reduceAdd, Nat.reduceLeDiff, Nat.reduceSub, true_and, and_true, Nat.zero_le, ne_eq, qk_wi, ql_wi, qr_wi, qj_wi, qt_wi, qk_wj, ql_wj, qr_wj, qi_wj, qt_wj, qk_wr, ql_wr, qi_wr, qj_wr, qt_wr, qi_ws, qj_ws, qr_ws, Int.toNat_natCast, Int.toNat_zero, Int.reduceToNat, not_true_eq_false, not_false_eq_true, false_implies, implies_true, Option.some.injEq, reduceCtorEq, Sp0, true_or, or_true, or_self, wi_wi, wj_wj]
      repeat' (first | (with_reducible refine And.intro ?_ ?_) | (with_reducible intro))
      all_goals (try (first | assumption | omega | (unfold inI; omega)))
      all_goals (try ((first | (refine s_X0_tellChoice_0 x ok _ _ _ _ ?_) | (refine s_X0_tellChoice_21 x ok _ _ _ _ ?_) | (refine s_X0_tellChoice_54 x ok _ _ _ _ ?_)); (try simp only [wpS, o_c, o_cl, o_il, o_ll, o_al, o_is, o_ls, o_as, o_inc, o_add, o_sub, o_mul, o_and, o_or, o_xor, o_shl, o_shr, o_div, o_neg, o_ladd, o_lsub, o_lmul, o_ldiv, o_lrem, o_lneg, o_lcmp, o_i2l, o_l2i, o_dup, o_dup2, o_pop, o_go, o_nn, o_sw, swc, o_iret, o_zret, o_lret, o_vret, o_ieq, o_eq0, o_ine, o_ne0, o_ilt, o_lt0, o_ige, o_ge0, o_igt, o_gt0, o_ile, o_le0, o_iald, o_zald, o_lald, o_aald, o_iast, o_zast, o_last, o_aast, o_alen, o_gi, o_gr, o_pi, o_pz, o_pr, o_new, o_newa, o_copy, o_oinit, o_call, o_callV, o_callVc, o_callI, popn, cnO, o_BAD, lgt, lst, isL, kil, st1, st2, entL, List.length_nil, List.length_cons, List.replicate, Nat.reduceAdd, Nat.reduceLeDiff, Nat.reduceSub, true_and, and_true, Nat.zero_le, ne_eq, qk_wi, ql_wi, qr_wi, qj_wi, qt_wi, qk_wj, ql_wj, qr_wj, qi_wj, qt_wj, qk_wr, ql_wr, qi_wr, qj_wr, qt_wr, qi_ws, qj_ws, qr_ws, Int.toNat_natCast, Int.toNat_zero, Int.reduceToNat, not_true_eq_false, not_false_eq_true, false_implies, implies_true, Option.some.injEq, reduceCtorEq, Sp0, true_or, or_true, or_self, wi_wi, wj_wj]); (repeat' (first | (with_reducible refine And.intro ?_ ?_) | (with_reducible intro))); (all_goals (try (first | assumption | omega | (unfold inI; omega))))))
      exact loop2 0 (by omega) g (fun m hm => hg m hm)
    · intro j hj ih g hg
      refine s_X0_tellChoice_2 x ok _ _ _ _ ?_
      simp only [wpS, o_c, o_cl, o_il, o_ll, o_al, o_is, o_ls, o_as, o_inc, o_add, o_sub, o_mul, o_and, o_or, o_xor, o_shl, o_shr, o_div, o_neg, o_ladd, o_lsub, o_lmul, o_ldiv, o_lrem, o_lneg, o_lcmp, o_i2l, o_l2i, o_dup, o_dup2, o_pop, o_go, o_nn, o_sw, swc, o_iret, o_zret, o_lret, o_vret, o_ieq, o_eq0, o_ine, o_ne0, o_ilt, o_lt0, o_ige, o_ge0, o_igt, o_gt0, o_ile, o_le0, o_iald, o_zald, o_lald, o_aald, o_iast, o_zast, o_last, o_aast, o_alen, o_gi, o_gr, o_pi, o_pz, o_pr, o_new, o_newa, o_copy, o_oinit, o_call, o_callV, o_callVc, o_callI, popn, cnO, o_BAD, lgt, lst, isL, kil, st1, st2, entL, List.length_nil, List.length_cons, List.replicate, Nat.reduceAdd, Nat.reduceLeDiff, Nat.reduceSub, true_and, and_true, Nat.zero_le, ne_eq, qk_wi, ql_wi, qr_wi, qj_wi, qt_wi, qk_wj, ql_wj, qr_wj, qi_wj, qt_wj, qk_wr, ql_wr, qi_wr, qj_wr, qt_wr, qi_ws, qj_ws, qr_ws, Int.toNat_natCast, Int.toNat_zero, Int.reduceToNat, not_true_eq_false, not_false_eq_true, false_implies, implies_true, Option.some.injEq, reduceCtorEq, Sp0, true_or, or_true, or_self, wi_wi, wj_wj, qk_wc, ql_wc, qr_wc, show qk (wm h0 a g) = qk h0 from rfl, show ql (wm h0 a g) = ql h0 from rfl, show qr (wm h0 a g) = qr h0 from rfl, s5, s6, srm _ hj, (sme _ hj).1, wcm_s hj haC]
      repeat' (first | (with_reducible refine And.intro ?_ ?_) | (with_reducible intro))
      all_goals (try (first | assumption | omega | (unfold inI; omega)))
      exact ih _ (fun m hm => by
        unfold fu
        split
        · rfl
        · exact hg m (by omega))
  have := loop1 0 (by omega) (fun m => qi h0 (a + 5 + 5 * m) 12) (fun m hm => by omega)
  rw [wm_self] at this
  all_goals (try ((first | (refine s_X0_tellChoice_0 x ok _ _ _ _ ?_) | (refine s_X0_tellChoice_21 x ok _ _ _ _ ?_) | (refine s_X0_tellChoice_54 x ok _ _ _ _ ?_)); (try simp only [wpS, o_c, o_cl, o_il, o_ll, o_al, o_is, o_ls, o_as, o_inc, o_add, o_sub, o_mul, o_and, o_or, o_xor, o_shl, o_shr, o_div, o_neg, o_ladd, o_lsub, o_lmul, o_ldiv, o_lrem, o_lneg, o_lcmp, o_i2l, o_l2i, o_dup, o_dup2, o_pop, o_go, o_nn, o_sw, swc, o_iret, o_zret, o_lret, o_vret, o_ieq, o_eq0, o_ine, o_ne0, o_ilt, o_lt0, o_ige, o_ge0, o_igt, o_gt0, o_ile, o_le0, o_iald, o_zald, o_lald, o_aald, o_iast, o_zast, o_last, o_aast, o_alen, o_gi, o_gr, o_pi, o_pz, o_pr, o_new, o_newa, o_copy, o_oinit, o_call, o_callV, o_callVc, o_callI, popn, cnO, o_BAD, lgt, lst, isL, kil, st1, st2, entL, List.length_nil, List.length_cons, List.replicate, Nat.reduceAdd, Nat.reduceLeDiff, Nat.reduceSub, true_and, and_true, Nat.zero_le, ne_eq, qk_wi, ql_wi, qr_wi, qj_wi, qt_wi, qk_wj, ql_wj, qr_wj, qi_wj, qt_wj, qk_wr, ql_wr, qi_wr, qj_wr, qt_wr, qi_ws, qj_ws, qr_ws, Int.toNat_natCast, Int.toNat_zero, Int.reduceToNat, not_true_eq_false, not_false_eq_true, false_implies, implies_true, Option.some.injEq, reduceCtorEq, Sp0, true_or, or_true, or_self, wi_wi, wj_wj]); (repeat' (first | (with_reducible refine And.intro ?_ ?_) | (with_reducible intro))); (all_goals (try (first | assumption | omega | (unfold inI; omega))))))
noncomputable def bst (d : Dd) : Bst := bfs d (gk d) zz 0 (-1, zz)
def T_X0_seekCheapest : TT := fun as h K => ∃ (C a : Nat) (d : Dd), as = [vr (some C), vr (some a)] ∧ isCa h C ∧ Stt h a d ∧ a + 81 ≤ C ∧ bOk (bst d) ∧ ∀ F, ((bst d).1 = -1 → K (some (vi (-1))) (wc h C F)) ∧ ((bst d).1 ≠ -1 → ∀ g, (∀ m, m < 12 → g m = chG d (bst d).2 (gk d) m) → K (some (vi (bst d).1)) (wc (wm h a g) C F))
theorem bfs_bok {d : Dd} (hI : Inv d) : ∀ (n : Nat) (pk : Nat → Int) (pr : Int) (b : Bst), n ≤ gk d → 0 ≤ pr → pr + (n : Int) * 1000000 ≤ (gk d : Int) * 1000000 → bOk b → bOk (bfs d n pk pr b) := by
  intro n
  have hg8 := gk_le hI
  induction n with
  | zero =>
    intro pk pr b _ h0 h1 hb
    unfold bfs
    split
    · unfold bOk
      dsimp only
      omega
    · exact hb
  | succ n ih0 =>
    intro pk pr b hn h0 h1 hb
    unfold bfs
    have hg := gl_ok (d := d) (i := gk d - (n + 1)) (by omega)
    have hm := hI.1 _ hg.1
    have hv := hm.v
    generalize gk d - (n + 1) = i at *
    have : ∀ k, k ≤ (dv d (gl d i)).toNat → bOk (lpF (fun l b => bfs d n (fu pk i l) (pr + dpr d (gl d i) l) b) k b) := by
      intro k
      induction k with
      | zero => intro _; exact hb
      | succ k ih =>
        intro hk
        have hw := (hm.w k (by omega)).2.2
        refine ih0 _ _ _ (by omega) (by omega) ?_ (ih (by omega))
        push_cast at h1
        omega
    exact this _ (Nat.le_refl _)
theorem bst_ok {d : Dd} (hI : Inv d) : bOk (bst d) := bfs_bok hI (gk d) zz 0 _ (Nat.le_refl _) (by omega) (by omega) (.inl rfl)
theorem c_gatherGraded' {h : Hp} {C M : Nat} {d : Dd} {K : RT} (h1 : isCa h C) (h2 : Ms h M d) (h3 : M + 80 ≤ C) (h4 : Inv d) (h5 : ∀ F2, gaP d (fun i => qi h (C + i)) F2 → K none (wc h C F2)) : T_X0_gatherGraded [vr (some C), vr (some M)] h K := ⟨h, C, M, fun i => qi h (C + i), d, rfl, (wc_self h C).symm, h1, h2, h3, h4, h5⟩
theorem c_seekCheapest {h : Hp} {C a : Nat} {d : Dd} {K : RT} (h1 : isCa h C) (h2 : Stt h a d) (h3 : a + 81 ≤ C) (h4 : ∀ F, ((bst d).1 = -1 → K (some (vi (-1))) (wc h C F)) ∧ ((bst d).1 ≠ -1 → ∀ g, (∀ m, m < 12 → g m = chG d (bst d).2 (gk d) m) → K (some (vi (bst d).1)) (wc (wm h a g) C F))) : T_X0_seekCheapest [vr (some C), vr (some a)] h K := ⟨C, a, d, rfl, h1, h2, h3, bst_ok h2.2.2, h4⟩
abbrev i_X0_seekCheapest : MI := (cX0_seekCheapest, 2, RX0, (some .int), "seekCheapest", 18)
theorem k_X0_seekCheapest_0 : Okop i_X0_seekCheapest 0 (o_al 0) 1 := k_aln (j := 0) (by decide +kernel)
theorem k_X0_seekCheapest_1 : Okop i_X0_seekCheapest 1 (o_al 1) 2 := k_aln (j := 1) (by decide +kernel)
theorem k_X0_seekCheapest_2 : Okop i_X0_seekCheapest 2 (o_gr 6 0) 5 := k_gr (idx := 30) fo_6 (by decide) (by decide) gw_147 (by decide +kernel)
theorem k_X0_seekCheapest_5 : Okop i_X0_seekCheapest 5 (o_callV 0 1 T_X0_gatherGraded) 8 := k_callV (idx := 36) (r0 := (RX0, TX0, 8)) m_X0_gatherGraded ⟨gw_541, gw_9, ⟨by decide, by decide, by decide +kernel⟩, by decide, by decide⟩ rfl gw_538 gw_540 gs_8 (by decide +kernel)
theorem k_X0_seekCheapest_8 : Okop i_X0_seekCheapest 8 (o_al 0) 9 := k_aln (j := 0) (by decide +kernel)
theorem k_X0_seekCheapest_9 : Okop i_X0_seekCheapest 9 (o_c (-1)) 10 := k_iconst (by decide +kernel)
theorem k_X0_seekCheapest_10 : Okop i_X0_seekCheapest 10 (o_pi 0 4) 13 := k_pi (idx := 40) fo_0 (by decide) (by decide) gw_234 (by decide +kernel) (.inl rfl)
theorem k_X0_seekCheapest_13 : Okop i_X0_seekCheapest 13 (o_al 0) 14 := k_aln (j := 0) (by decide +kernel)
theorem k_X0_seekCheapest_14 : Okop i_X0_seekCheapest 14 (o_al 1) 15 := k_aln (j := 1) (by decide +kernel)
theorem k_X0_seekCheapest_15 : Okop i_X0_seekCheapest 15 (o_callV 0 1 T_X0_startRooms) 18 := k_callV (idx := 44) (r0 := (RX0, TX0, 8)) m_X0_startRooms ⟨gw_554, gw_9, ⟨by decide, by decide, by decide +kernel⟩, by decide, by decide⟩ rfl gw_551 gw_553 gs_9 (by decide +kernel)
theorem k_X0_seekCheapest_18 : Okop i_X0_seekCheapest 18 (o_eq0 28) 21 := k_eq0 (off := 10) (by decide +kernel) (by decide)
theorem k_X0_seekCheapest_21 : Okop i_X0_seekCheapest 21 (o_al 0) 22 := k_aln (j := 0) (by decide +kernel)
theorem k_X0_seekCheapest_22 : Okop i_X0_seekCheapest 22 (o_al 1) 23 := k_aln (j := 1) (by decide +kernel)
theorem k_X0_seekCheapest_23 : Okop i_X0_seekCheapest 23 (o_c 0) 24 := k_iconst (by decide +kernel)
theorem k_X0_seekCheapest_24 : Okop i_X0_seekCheapest 24 (o_c 0) 25 := k_iconst (by decide +kernel)
theorem k_X0_seekCheapest_25 : Okop i_X0_seekCheapest 25 (o_call 4 (T_X0_pick 17)) 28 := k_call (idx := 48) m_X0_pick ⟨gw_561, gw_9, ⟨by decide, by decide, by decide +kernel⟩, by decide, by decide⟩ gw_559 gw_560 (by decide +kernel)
theorem k_X0_seekCheapest_28 : Okop i_X0_seekCheapest 28 (o_al 0) 29 := k_aln (j := 0) (by decide +kernel)
theorem k_X0_seekCheapest_29 : Okop i_X0_seekCheapest 29 (o_gi 0 4) 32 := k_gi (idx := 40) fo_0 (by decide) (by decide) gw_234 (by decide +kernel)
theorem k_X0_seekCheapest_32 : Okop i_X0_seekCheapest 32 (o_c (-1)) 33 := k_iconst (by decide +kernel)
theorem k_X0_seekCheapest_33 : Okop i_X0_seekCheapest 33 (o_ieq 44) 36 := k_ieq (off := 11) (by decide +kernel) (by decide)
theorem k_X0_seekCheapest_36 : Okop i_X0_seekCheapest 36 (o_al 0) 37 := k_aln (j := 0) (by decide +kernel)
theorem k_X0_seekCheapest_37 : Okop i_X0_seekCheapest 37 (o_al 1) 38 := k_aln (j := 1) (by decide +kernel)
theorem k_X0_seekCheapest_38 : Okop i_X0_seekCheapest 38 (o_gr 6 0) 41 := k_gr (idx := 30) fo_6 (by decide) (by decide) gw_147 (by decide +kernel)
theorem k_X0_seekCheapest_41 : Okop i_X0_seekCheapest 41 (o_callV 0 1 T_X0_tellChoice) 44 := k_callV (idx := 52) (r0 := (RX0, TX0, 8)) m_X0_tellChoice ⟨gw_570, gw_9, ⟨by decide, by decide, by decide +kernel⟩, by decide, by decide⟩ rfl gw_567 gw_569 gs_11 (by decide +kernel)
theorem k_X0_seekCheapest_44 : Okop i_X0_seekCheapest 44 (o_al 0) 45 := k_aln (j := 0) (by decide +kernel)
theorem k_X0_seekCheapest_45 : Okop i_X0_seekCheapest 45 (o_gi 0 4) 48 := k_gi (idx := 40) fo_0 (by decide) (by decide) gw_234 (by decide +kernel)
theorem k_X0_seekCheapest_48 : Okop i_X0_seekCheapest 48 (o_iret) 49 := k_iret (by decide +kernel) rfl
theorem s_X0_seekCheapest_0 : Seg i_X0_seekCheapest 0 [o_al 0, o_al 1, o_gr 6 0, o_callV 0 1 T_X0_gatherGraded, o_al 0, o_c (-1), o_pi 0 4, o_al 0, o_al 1, o_callV 0 1 T_X0_startRooms, o_eq0 28, o_al 0, o_al 1, o_c 0, o_c 0, o_call 4 (T_X0_pick 17), o_al 0, o_gi 0 4, o_c (-1), o_ieq 44, o_al 0, o_al 1, o_gr 6 0, o_callV 0 1 T_X0_tellChoice, o_al 0, o_gi 0 4, o_iret] 49 := Seg.cons k_X0_seekCheapest_0 (Seg.cons k_X0_seekCheapest_1 (Seg.cons k_X0_seekCheapest_2 (Seg.cons k_X0_seekCheapest_5 (Seg.cons k_X0_seekCheapest_8 (Seg.cons k_X0_seekCheapest_9 (Seg.cons k_X0_seekCheapest_10 (Seg.cons k_X0_seekCheapest_13 (Seg.cons k_X0_seekCheapest_14 (Seg.cons k_X0_seekCheapest_15 (Seg.cons k_X0_seekCheapest_18 (Seg.cons k_X0_seekCheapest_21 (Seg.cons k_X0_seekCheapest_22 (Seg.cons k_X0_seekCheapest_23 (Seg.cons k_X0_seekCheapest_24 (Seg.cons k_X0_seekCheapest_25 (Seg.cons k_X0_seekCheapest_28 (Seg.cons k_X0_seekCheapest_29 (Seg.cons k_X0_seekCheapest_32 (Seg.cons k_X0_seekCheapest_33 (Seg.cons k_X0_seekCheapest_36 (Seg.cons k_X0_seekCheapest_37 (Seg.cons k_X0_seekCheapest_38 (Seg.cons k_X0_seekCheapest_41 (Seg.cons k_X0_seekCheapest_44 (Seg.cons k_X0_seekCheapest_45 (Seg.cons k_X0_seekCheapest_48 (Seg.nil)))))))))))))))))))))))))))
theorem s_X0_seekCheapest_28 : Seg i_X0_seekCheapest 28 [o_al 0, o_gi 0 4, o_c (-1), o_ieq 44, o_al 0, o_al 1, o_gr 6 0, o_callV 0 1 T_X0_tellChoice, o_al 0, o_gi 0 4, o_iret] 49 := Seg.cons k_X0_seekCheapest_28 (Seg.cons k_X0_seekCheapest_29 (Seg.cons k_X0_seekCheapest_32 (Seg.cons k_X0_seekCheapest_33 (Seg.cons k_X0_seekCheapest_36 (Seg.cons k_X0_seekCheapest_37 (Seg.cons k_X0_seekCheapest_38 (Seg.cons k_X0_seekCheapest_41 (Seg.cons k_X0_seekCheapest_44 (Seg.cons k_X0_seekCheapest_45 (Seg.cons k_X0_seekCheapest_48 (Seg.nil)))))))))))
theorem s_X0_seekCheapest_44 : Seg i_X0_seekCheapest 44 [o_al 0, o_gi 0 4, o_iret] 49 := Seg.cons k_X0_seekCheapest_44 (Seg.cons k_X0_seekCheapest_45 (Seg.cons k_X0_seekCheapest_48 (Seg.nil)))

theorem m_X0_seekCheapest : Mth yX0_seekCheapest cX0_seekCheapest 2 (some .int) 18 (Sp0 T_X0_seekCheapest) := by
  refine Mth.of (by decide) ?_
  rintro x as h ok ⟨C, a, d, rfl, hC, hS, haC, hbo, hK⟩
  obtain ⟨k0, r0, r2, r3, r5, r6, r7, k1, l1, k2, l2, k3, l3, k4, l4, k5, l5, k6, l6⟩ := id hC
  refine ⟨Nat.le_of_ble_eq_true rfl, ?_⟩
  have hI := hS.2.2
  have hrok : rok d 0 zz ↔ srOk d 6 := by
    unfold rok srOk rl rh
    simp [sg_0]
  unfold bOk at hbo
  have fin : ∀ F, gaR d F → bsF d (bst d) F → V i_X0_seekCheapest x 28 [some (vr (some C)), some (vr (some a))] [] (wc h C F) (0, 0) := by
    intro F hga hb
    have hk := hK F
    have eb := hb.1
    refine s_X0_seekCheapest_28 x ok _ _ _ _ ?_
    simp only [wpS, o_c, o_cl, o_il, o_ll, o_al, o_is, o_ls, o_as, o_inc, o_add, o_sub, o_mul, o_and, o_or, o_xor, o_shl, o_shr, o_div, o_neg, o_ladd, o_lsub, o_lmul, o_ldiv, o_lrem, o_lneg, o_lcmp, o_i2l, o_l2i, o_dup, o_dup2, o_pop, o_go, o_nn, o_sw, swc, o_iret, o_zret, o_lret, o_vret, o_ieq, o_eq0, o_ine, o_ne0, o_ilt, o_lt0, o_ige, o_ge0, o_igt, o_gt0, o_ile, o_le0, o_iald, o_zald, o_lald, o_aald, o_iast, o_zast, o_last, o_aast, o_alen, o_gi, o_gr, o_pi, o_pz, o_pr, o_new, o_newa, o_copy, o_oinit, o_call, o_callV, o_callVc, o_callI, popn, cnO, o_BAD, lgt, lst, isL, kil, st1, st2, entL, List.length_nil, List.length_cons, List.replicate, Nat.reduceAdd, Nat.reduceLeDiff, Nat.reduceSub, true_and, and_true, Nat.zero_le, ne_eq, qk_wi, ql_wi, qr_wi, qj_wi, qt_wi, qk_wj, ql_wj, qr_wj, qi_wj, qt_wj, qk_wr, ql_wr, qi_wr, qj_wr, qt_wr, qi_ws, qj_ws, qr_ws, Int.toNat_natCast, Int.toNat_zero, Int.reduceToNat, not_true_eq_false, not_false_eq_true, false_implies, implies_true, Option.some.injEq, reduceCtorEq, Sp0, true_or, or_true, or_self, wi_wi, wj_wj, qk_wc, ql_wc, qr_wc, qc_0, wc_0, qc_1, wc_1, qc_2, wc_2, qc_3, wc_3, qc_4, wc_4, qc_5, wc_5, qc_6, wc_6, fr_a, ↓reduceIte, Nat.reduceEqDiff, k0, eb, hS.k, hS.r0]
    repeat' (first | (with_reducible refine And.intro ?_ ?_) | (with_reducible intro))
    all_goals (try (first | assumption | omega | (unfold inI; omega)))
    · rename_i q
      all_goals (try ((first | (refine s_X0_seekCheapest_0 x ok _ _ _ _ ?_) | (refine s_X0_seekCheapest_28 x ok _ _ _ _ ?_) | (refine s_X0_seekCheapest_44 x ok _ _ _ _ ?_)); (try simp only [wpS, o_c, o_cl, o_il, o_ll, o_al, o_is, o_ls, o_as, o_inc, o_add, o_sub, o_mul, o_and, o_or, o_xor, o_shl, o_shr, o_div, o_neg, o_ladd, o_lsub, o_lmul, o_ldiv, o_lrem, o_lneg, o_lcmp, o_i2l, o_l2i, o_dup, o_dup2, o_pop, o_go, o_nn, o_sw, swc, o_iret, o_zret, o_lret, o_vret, o_ieq, o_eq0, o_ine, o_ne0, o_ilt, o_lt0, o_ige, o_ge0, o_igt, o_gt0, o_ile, o_le0, o_iald, o_zald, o_lald, o_aald, o_iast, o_zast, o_last, o_aast, o_alen, o_gi, o_gr, o_pi, o_pz, o_pr, o_new, o_newa, o_copy, o_oinit, o_call, o_callV, o_callVc, o_callI, popn, cnO, o_BAD, lgt, lst, isL, kil, st1, st2, entL, List.length_nil, List.length_cons, List.replicate, Nat.reduceAdd, Nat.reduceLeDiff, Nat.reduceSub, true_and, and_true, Nat.zero_le, ne_eq, qk_wi, ql_wi, qr_wi, qj_wi, qt_wi, qk_wj, ql_wj, qr_wj, qi_wj, qt_wj, qk_wr, ql_wr, qi_wr, qj_wr, qt_wr, qi_ws, qj_ws, qr_ws, Int.toNat_natCast, Int.toNat_zero, Int.reduceToNat, not_true_eq_false, not_false_eq_true, false_implies, implies_true, Option.some.injEq, reduceCtorEq, Sp0, true_or, or_true, or_self, wi_wi, wj_wj, qk_wc, ql_wc, qr_wc, qc_0, wc_0, qc_1, wc_1, qc_2, wc_2, qc_3, wc_3, qc_4, wc_4, qc_5, wc_5, qc_6, wc_6, fr_a, ↓reduceIte, Nat.reduceEqDiff, k0, eb]); (repeat' (first | (with_reducible refine And.intro ?_ ?_) | (with_reducible intro))); (all_goals (try (first | assumption | omega | (unfold inI; omega))))))
      rw [q]
      exact hk.1 q
    · rename_i q
      refine c_tellChoice hC hS.1 haC hI hga (hb.2 q) (fun g hg => ?_)
      simp only [wpS, o_c, o_cl, o_il, o_ll, o_al, o_is, o_ls, o_as, o_inc, o_add, o_sub, o_mul, o_and, o_or, o_xor, o_shl, o_shr, o_div, o_neg, o_ladd, o_lsub, o_lmul, o_ldiv, o_lrem, o_lneg, o_lcmp, o_i2l, o_l2i, o_dup, o_dup2, o_pop, o_go, o_nn, o_sw, swc, o_iret, o_zret, o_lret, o_vret, o_ieq, o_eq0, o_ine, o_ne0, o_ilt, o_lt0, o_ige, o_ge0, o_igt, o_gt0, o_ile, o_le0, o_iald, o_zald, o_lald, o_aald, o_iast, o_zast, o_last, o_aast, o_alen, o_gi, o_gr, o_pi, o_pz, o_pr, o_new, o_newa, o_copy, o_oinit, o_call, o_callV, o_callVc, o_callI, popn, cnO, o_BAD, lgt, lst, isL, kil, st1, st2, entL, List.length_nil, List.length_cons, List.replicate, Nat.reduceAdd, Nat.reduceLeDiff, Nat.reduceSub, true_and, and_true, Nat.zero_le, ne_eq, qk_wi, ql_wi, qr_wi, qj_wi, qt_wi, qk_wj, ql_wj, qr_wj, qi_wj, qt_wj, qk_wr, ql_wr, qi_wr, qj_wr, qt_wr, qi_ws, qj_ws, qr_ws, Int.toNat_natCast, Int.toNat_zero, Int.reduceToNat, not_true_eq_false, not_false_eq_true, false_implies, implies_true, Option.some.injEq, reduceCtorEq, Sp0, true_or, or_true, or_self, wi_wi, wj_wj, qk_wc, ql_wc, qr_wc, qc_0, wc_0, qc_1, wc_1, qc_2, wc_2, qc_3, wc_3, qc_4, wc_4, qc_5, wc_5, qc_6, wc_6, fr_a, ↓reduceIte, Nat.reduceEqDiff, show qk (wm h a g) = qk h from rfl, k0, eb]
      repeat' (first | (with_reducible refine And.intro ?_ ?_) | (with_reducible intro))
      all_goals (try (first | assumption | omega | (unfold inI; omega)))
      exact hk.2 q g hg
  all_goals (try ((first | (refine s_X0_seekCheapest_0 x ok _ _ _ _ ?_) | (refine s_X0_seekCheapest_28 x ok _ _ _ _ ?_) | (refine s_X0_seekCheapest_44 x ok _ _ _ _ ?_)); (try simp only [wpS, o_c, o_cl, o_il, o_ll, o_al, o_is, o_ls, o_as, o_inc, o_add, o_sub, o_mul, o_and, o_or, o_xor, o_shl, o_shr, o_div, o_neg, o_ladd, o_lsub, o_lmul, o_ldiv, o_lrem, o_lneg, o_lcmp, o_i2l, o_l2i, o_dup, o_dup2, o_pop, o_go, o_nn, o_sw, swc, o_iret, o_zret, o_lret, o_vret, o_ieq, o_eq0, o_ine, o_ne0, o_ilt, o_lt0, o_ige, o_ge0, o_igt, o_gt0, o_ile, o_le0, o_iald, o_zald, o_lald, o_aald, o_iast, o_zast, o_last, o_aast, o_alen, o_gi, o_gr, o_pi, o_pz, o_pr, o_new, o_newa, o_copy, o_oinit, o_call, o_callV, o_callVc, o_callI, popn, cnO, o_BAD, lgt, lst, isL, kil, st1, st2, entL, List.length_nil, List.length_cons, List.replicate, Nat.reduceAdd, Nat.reduceLeDiff, Nat.reduceSub, true_and, and_true, Nat.zero_le, ne_eq, qk_wi, ql_wi, qr_wi, qj_wi, qt_wi, qk_wj, ql_wj, qr_wj, qi_wj, qt_wj, qk_wr, ql_wr, qi_wr, qj_wr, qt_wr, qi_ws, qj_ws, qr_ws, Int.toNat_natCast, Int.toNat_zero, Int.reduceToNat, not_true_eq_false, not_false_eq_true, false_implies, implies_true, Option.some.injEq, reduceCtorEq, Sp0, true_or, or_true, or_self, wi_wi, wj_wj, hS.k, hS.r0, k0]); (repeat' (first | (with_reducible refine And.intro ?_ ?_) | (with_reducible intro))); (all_goals (try (first | assumption | omega | (unfold inI; omega))))))
  refine c_gatherGraded' hC hS.ms (by omega) hI (fun F2 hF2 => ?_)
  obtain ⟨f1, f2, f3, f4, f5, f6, f7, f8⟩ := hF2
  simp only [wpS, o_c, o_cl, o_il, o_ll, o_al, o_is, o_ls, o_as, o_inc, o_add, o_sub, o_mul, o_and, o_or, o_xor, o_shl, o_shr, o_div, o_neg, o_ladd, o_lsub, o_lmul, o_ldiv, o_lrem, o_lneg, o_lcmp, o_i2l, o_l2i, o_dup, o_dup2, o_pop, o_go, o_nn, o_sw, swc, o_iret, o_zret, o_lret, o_vret, o_ieq, o_eq0, o_ine, o_ne0, o_ilt, o_lt0, o_ige, o_ge0, o_igt, o_gt0, o_ile, o_le0, o_iald, o_zald, o_lald, o_aald, o_iast, o_zast, o_last, o_aast, o_alen, o_gi, o_gr, o_pi, o_pz, o_pr, o_new, o_newa, o_copy, o_oinit, o_call, o_callV, o_callVc, o_callI, popn, cnO, o_BAD, lgt, lst, isL, kil, st1, st2, entL, List.length_nil, List.length_cons, List.replicate, Nat.reduceAdd, Nat.reduceLeDiff, Nat.reduceSub, true_and, and_true, Nat.zero_le, ne_eq, qk_wi, ql_wi, qr_wi, qj_wi, qt_wi, qk_wj, ql_wj, qr_wj, qi_wj, qt_wj, qk_wr, ql_wr, qi_wr, qj_wr, qt_wr, qi_ws, qj_ws, qr_ws, Int.toNat_natCast, Int.toNat_zero, Int.reduceToNat, not_true_eq_false, not_false_eq_true, false_implies, implies_true, Option.some.injEq, reduceCtorEq, Sp0, true_or, or_true, or_self, wi_wi, wj_wj, qk_wc, ql_wc, qr_wc, qc_0, wc_0, qc_1, wc_1, qc_2, wc_2, qc_3, wc_3, qc_4, wc_4, qc_5, wc_5, qc_6, wc_6, fr_a, ↓reduceIte, Nat.reduceEqDiff, k0]
  repeat' (first | (with_reducible refine And.intro ?_ ?_) | (with_reducible intro))
  all_goals (try (first | assumption | omega | (unfold inI; omega)))
  refine c_startRooms (F := fr F2 0 (fu (F2 0) 4 (-1))) hC hS haC (fun F3 hF3 hR => ?_)
  obtain ⟨t0, t1, t2, t3, t4⟩ := hF3
  have hga : gaR d F3 := ⟨by rw [t0]; show fu (F2 0) 4 (-1) 1 = _; rw [fu_n (by omega)]; exact f1, fun i hi => by rw [t1]; exact f3 i hi, fun i hi => by rw [t4]; exact f4 i hi⟩
  have hb0 : bsF d (-1, zz) F3 := ⟨by rw [t0]; show fu (F2 0) 4 (-1) 4 = _; rw [fu_s], fun q => absurd rfl q⟩
  refine ⟨fun hok => ?_, fun hno => ?_⟩
  · simp only [wpS, o_c, o_cl, o_il, o_ll, o_al, o_is, o_ls, o_as, o_inc, o_add, o_sub, o_mul, o_and, o_or, o_xor, o_shl, o_shr, o_div, o_neg, o_ladd, o_lsub, o_lmul, o_ldiv, o_lrem, o_lneg, o_lcmp, o_i2l, o_l2i, o_dup, o_dup2, o_pop, o_go, o_nn, o_sw, swc, o_iret, o_zret, o_lret, o_vret, o_ieq, o_eq0, o_ine, o_ne0, o_ilt, o_lt0, o_ige, o_ge0, o_igt, o_gt0, o_ile, o_le0, o_iald, o_zald, o_lald, o_aald, o_iast, o_zast, o_last, o_aast, o_alen, o_gi, o_gr, o_pi, o_pz, o_pr, o_new, o_newa, o_copy, o_oinit, o_call, o_callV, o_callVc, o_callI, popn, cnO, o_BAD, lgt, lst, isL, kil, st1, st2, entL, List.length_nil, List.length_cons, List.replicate, Nat.reduceAdd, Nat.reduceLeDiff, Nat.reduceSub, true_and, and_true, Nat.zero_le, ne_eq, qk_wi, ql_wi, qr_wi, qj_wi, qt_wi, qk_wj, ql_wj, qr_wj, qi_wj, qt_wj, qk_wr, ql_wr, qi_wr, qj_wr, qt_wr, qi_ws, qj_ws, qr_ws, Int.toNat_natCast, Int.toNat_zero, Int.reduceToNat, not_true_eq_false, not_false_eq_true, false_implies, implies_true, Option.some.injEq, reduceCtorEq, Sp0, true_or, or_true, or_self, wi_wi, wj_wj, qk_wc, ql_wc, qr_wc, qc_0, wc_0, qc_1, wc_1, qc_2, wc_2, qc_3, wc_3, qc_4, wc_4, qc_5, wc_5, qc_6, wc_6, fr_a, ↓reduceIte, Nat.reduceEqDiff, k0]
    repeat' (first | (with_reducible refine And.intro ?_ ?_) | (with_reducible intro))
    all_goals (try (first | assumption | omega | (unfold inI; omega)))
    refine c_pick (i := 0) (n := gk d) (pk := zz) (b := (-1, zz)) (d := d) (by have := gk_le hI; omega) (by omega) hC hS haC hga ⟨fun j hj => by omega, hrok.mpr hok, fun j hj => by omega, fun c hc => ?_⟩ hb0 (.inl rfl) ⟨by omega, by omega⟩ (fun F4 hF4 hb4 ho4 => ?_)
    · have := hR c hc
      unfold rl rh
      rw [sg_0, sg_0]
      simp only [Nat.mul_zero, Nat.zero_add, Int.add_zero, Int.sub_zero]
      exact this
    · have := fin F4 ⟨by rw [hF4.1 1 (by omega)]; exact hga.1, fun i hi => by rw [hF4.2.1]; exact hga.2.1 i hi, fun i hi => by rw [hF4.2.2.1]; exact hga.2.2 i hi⟩ hb4
      have hk := hK F4
      have eb : F4 0 4 = (bst d).1 := hb4.1
      have hga4 : gaR d F4 := ⟨by rw [hF4.1 1 (by omega)]; exact hga.1, fun i hi => by rw [hF4.2.1]; exact hga.2.1 i hi, fun i hi => by rw [hF4.2.2.1]; exact hga.2.2 i hi⟩
      simp only [wpS, o_c, o_cl, o_il, o_ll, o_al, o_is, o_ls, o_as, o_inc, o_add, o_sub, o_mul, o_and, o_or, o_xor, o_shl, o_shr, o_div, o_neg, o_ladd, o_lsub, o_lmul, o_ldiv, o_lrem, o_lneg, o_lcmp, o_i2l, o_l2i, o_dup, o_dup2, o_pop, o_go, o_nn, o_sw, swc, o_iret, o_zret, o_lret, o_vret, o_ieq, o_eq0, o_ine, o_ne0, o_ilt, o_lt0, o_ige, o_ge0, o_igt, o_gt0, o_ile, o_le0, o_iald, o_zald, o_lald, o_aald, o_iast, o_zast, o_last, o_aast, o_alen, o_gi, o_gr, o_pi, o_pz, o_pr, o_new, o_newa, o_copy, o_oinit, o_call, o_callV, o_callVc, o_callI, popn, cnO, o_BAD, lgt, lst, isL, kil, st1, st2, entL, List.length_nil, List.length_cons, List.replicate, Nat.reduceAdd, Nat.reduceLeDiff, Nat.reduceSub, true_and, and_true, Nat.zero_le, ne_eq, qk_wi, ql_wi, qr_wi, qj_wi, qt_wi, qk_wj, ql_wj, qr_wj, qi_wj, qt_wj, qk_wr, ql_wr, qi_wr, qj_wr, qt_wr, qi_ws, qj_ws, qr_ws, Int.toNat_natCast, Int.toNat_zero, Int.reduceToNat, not_true_eq_false, not_false_eq_true, false_implies, implies_true, Option.some.injEq, reduceCtorEq, Sp0, true_or, or_true, or_self, wi_wi, wj_wj, qk_wc, ql_wc, qr_wc, qc_0, wc_0, qc_1, wc_1, qc_2, wc_2, qc_3, wc_3, qc_4, wc_4, qc_5, wc_5, qc_6, wc_6, fr_a, ↓reduceIte, Nat.reduceEqDiff, k0, eb, hS.k, hS.r0]
      repeat' (first | (with_reducible refine And.intro ?_ ?_) | (with_reducible intro))
      all_goals (try (first | assumption | omega | (unfold inI; omega)))
      · rename_i q
        all_goals (try ((first | (refine s_X0_seekCheapest_0 x ok _ _ _ _ ?_) | (refine s_X0_seekCheapest_28 x ok _ _ _ _ ?_) | (refine s_X0_seekCheapest_44 x ok _ _ _ _ ?_)); (try simp only [wpS, o_c, o_cl, o_il, o_ll, o_al, o_is, o_ls, o_as, o_inc, o_add, o_sub, o_mul, o_and, o_or, o_xor, o_shl, o_shr, o_div, o_neg, o_ladd, o_lsub, o_lmul, o_ldiv, o_lrem, o_lneg, o_lcmp, o_i2l, o_l2i, o_dup, o_dup2, o_pop, o_go, o_nn, o_sw, swc, o_iret, o_zret, o_lret, o_vret, o_ieq, o_eq0, o_ine, o_ne0, o_ilt, o_lt0, o_ige, o_ge0, o_igt, o_gt0, o_ile, o_le0, o_iald, o_zald, o_lald, o_aald, o_iast, o_zast, o_last, o_aast, o_alen, o_gi, o_gr, o_pi, o_pz, o_pr, o_new, o_newa, o_copy, o_oinit, o_call, o_callV, o_callVc, o_callI, popn, cnO, o_BAD, lgt, lst, isL, kil, st1, st2, entL, List.length_nil, List.length_cons, List.replicate, Nat.reduceAdd, Nat.reduceLeDiff, Nat.reduceSub, true_and, and_true, Nat.zero_le, ne_eq, qk_wi, ql_wi, qr_wi, qj_wi, qt_wi, qk_wj, ql_wj, qr_wj, qi_wj, qt_wj, qk_wr, ql_wr, qi_wr, qj_wr, qt_wr, qi_ws, qj_ws, qr_ws, Int.toNat_natCast, Int.toNat_zero, Int.reduceToNat, not_true_eq_false, not_false_eq_true, false_implies, implies_true, Option.some.injEq, reduceCtorEq, Sp0, true_or, or_true, or_self, wi_wi, wj_wj, qk_wc, ql_wc, qr_wc, qc_0, wc_0, qc_1, wc_1, qc_2, wc_2, qc_3, wc_3, qc_4, wc_4, qc_5, wc_5, qc_6, wc_6, fr_a, ↓reduceIte, Nat.reduceEqDiff, k0, eb]); (repeat' (first | (with_reducible refine And.intro ?_ ?_) | (with_reducible intro))); (all_goals (try (first | assumption | omega | (unfold inI; omega))))))
        rw [q]
        exact hk.1 q
      · rename_i q
        refine c_tellChoice hC hS.1 haC hI hga4 (hb4.2 q) (fun g hg => ?_)
        simp only [wpS, o_c, o_cl, o_il, o_ll, o_al, o_is, o_ls, o_as, o_inc, o_add, o_sub, o_mul, o_and, o_or, o_xor, o_shl, o_shr, o_div, o_neg, o_ladd, o_lsub, o_lmul, o_ldiv, o_lrem, o_lneg, o_lcmp, o_i2l, o_l2i, o_dup, o_dup2, o_pop, o_go, o_nn, o_sw, swc, o_iret, o_zret, o_lret, o_vret, o_ieq, o_eq0, o_ine, o_ne0, o_ilt, o_lt0, o_ige, o_ge0, o_igt, o_gt0, o_ile, o_le0, o_iald, o_zald, o_lald, o_aald, o_iast, o_zast, o_last, o_aast, o_alen, o_gi, o_gr, o_pi, o_pz, o_pr, o_new, o_newa, o_copy, o_oinit, o_call, o_callV, o_callVc, o_callI, popn, cnO, o_BAD, lgt, lst, isL, kil, st1, st2, entL, List.length_nil, List.length_cons, List.replicate, Nat.reduceAdd, Nat.reduceLeDiff, Nat.reduceSub, true_and, and_true, Nat.zero_le, ne_eq, qk_wi, ql_wi, qr_wi, qj_wi, qt_wi, qk_wj, ql_wj, qr_wj, qi_wj, qt_wj, qk_wr, ql_wr, qi_wr, qj_wr, qt_wr, qi_ws, qj_ws, qr_ws, Int.toNat_natCast, Int.toNat_zero, Int.reduceToNat, not_true_eq_false, not_false_eq_true, false_implies, implies_true, Option.some.injEq, reduceCtorEq, Sp0, true_or, or_true, or_self, wi_wi, wj_wj, qk_wc, ql_wc, qr_wc, qc_0, wc_0, qc_1, wc_1, qc_2, wc_2, qc_3, wc_3, qc_4, wc_4, qc_5, wc_5, qc_6, wc_6, fr_a, ↓reduceIte, Nat.reduceEqDiff, show qk (wm h a g) = qk h from rfl, k0, eb]
        repeat' (first | (with_reducible refine And.intro ?_ ?_) | (with_reducible intro))
        all_goals (try (first | assumption | omega | (unfold inI; omega)))
        exact hk.2 q g hg
  · have eb : bst d = (-1, zz) := bfs_tight hI (gk d) zz 0 _ (Nat.le_refl _) (by rw [Nat.sub_self]; exact fun q => hno (hrok.mp q))
    have := fin F3 hga (by rw [eb]; exact hb0)
    simp only [wpS, o_c, o_cl, o_il, o_ll, o_al, o_is, o_ls, o_as, o_inc, o_add, o_sub, o_mul, o_and, o_or, o_xor, o_shl, o_shr, o_div, o_neg, o_ladd, o_lsub, o_lmul, o_ldiv, o_lrem, o_lneg, o_lcmp, o_i2l, o_l2i, o_dup, o_dup2, o_pop, o_go, o_nn, o_sw, swc, o_iret, o_zret, o_lret, o_vret, o_ieq, o_eq0, o_ine, o_ne0, o_ilt, o_lt0, o_ige, o_ge0, o_igt, o_gt0, o_ile, o_le0, o_iald, o_zald, o_lald, o_aald, o_iast, o_zast, o_last, o_aast, o_alen, o_gi, o_gr, o_pi, o_pz, o_pr, o_new, o_newa, o_copy, o_oinit, o_call, o_callV, o_callVc, o_callI, popn, cnO, o_BAD, lgt, lst, isL, kil, st1, st2, entL, List.length_nil, List.length_cons, List.replicate, Nat.reduceAdd, Nat.reduceLeDiff, Nat.reduceSub, true_and, and_true, Nat.zero_le, ne_eq, qk_wi, ql_wi, qr_wi, qj_wi, qt_wi, qk_wj, ql_wj, qr_wj, qi_wj, qt_wj, qk_wr, ql_wr, qi_wr, qj_wr, qt_wr, qi_ws, qj_ws, qr_ws, Int.toNat_natCast, Int.toNat_zero, Int.reduceToNat, not_true_eq_false, not_false_eq_true, false_implies, implies_true, Option.some.injEq, reduceCtorEq, Sp0, true_or, or_true, or_self, wi_wi, wj_wj]
    repeat' (first | (with_reducible refine And.intro ?_ ?_) | (with_reducible intro))
    all_goals (try (first | assumption | omega | (unfold inI; omega)))
def T_X7_best : TT := fun as h K => ∃ (x a C : Nat) (d : Dd), as = [vr (some x)] ∧ Nw h x a d ∧ qr h x 5 = some C ∧ isCa h C ∧ a + 81 ≤ C ∧ ∀ F, ((bst d).1 = -1 → K (some (vl (-1))) (wc h C F)) ∧ ((bst d).1 ≠ -1 → ∀ g, (∀ m, m < 12 → g m = chG d (bst d).2 (gk d) m) → K (some (vl (bst d).1)) (wc (wm h a g) C F))
abbrev i_X7_best : MI := (cX7_best, 1, RX7, (some .long), "best", 19)
theorem k_X7_best_0 : Okop i_X7_best 0 (o_al 0) 1 := k_aln (j := 0) (by decide +kernel)
theorem k_X7_best_1 : Okop i_X7_best 1 (o_gr 7 5) 4 := k_gr (idx := 44) fo_7 (by decide) (by decide) gw_260 (by decide +kernel)
theorem k_X7_best_4 : Okop i_X7_best 4 (o_al 0) 5 := k_aln (j := 0) (by decide +kernel)
theorem k_X7_best_5 : Okop i_X7_best 5 (o_gr 7 0) 8 := k_gr (idx := 12) fo_7 (by decide) (by decide) gw_255 (by decide +kernel)
theorem k_X7_best_8 : Okop i_X7_best 8 (o_callV 0 1 T_X0_seekCheapest) 11 := k_callV (idx := 205) (r0 := (RX0, TX0, 8)) m_X0_seekCheapest ⟨gw_537, gw_9, ⟨by decide, by decide, by decide +kernel⟩, by decide, by decide⟩ rfl gw_534 gw_535 gw_536 (by decide +kernel)
theorem k_X7_best_11 : Okop i_X7_best 11 (o_i2l) 12 := k_i2l (by decide +kernel)
theorem k_X7_best_12 : Okop i_X7_best 12 (o_lret) 13 := k_lret (by decide +kernel) rfl
theorem s_X7_best_0 : Seg i_X7_best 0 [o_al 0, o_gr 7 5, o_al 0, o_gr 7 0, o_callV 0 1 T_X0_seekCheapest, o_i2l, o_lret] 13 := Seg.cons k_X7_best_0 (Seg.cons k_X7_best_1 (Seg.cons k_X7_best_4 (Seg.cons k_X7_best_5 (Seg.cons k_X7_best_8 (Seg.cons k_X7_best_11 (Seg.cons k_X7_best_12 (Seg.nil)))))))

theorem m_X7_best : Mth yX7_best cX7_best 1 (some .long) 19 (Sp0 T_X7_best) := by
  refine Mth.of (by decide) ?_
  rintro x as h ok ⟨X, a, C, d, rfl, ⟨kx, rx, hS⟩, rC, hC, haC, hK⟩
  refine ⟨Nat.le_of_ble_eq_true rfl, ?_⟩
  have hbo := bst_ok hS.2.2
  unfold bOk at hbo
  all_goals (try ((first | (refine s_X7_best_0 x ok _ _ _ _ ?_)); (try simp only [wpS, o_c, o_cl, o_il, o_ll, o_al, o_is, o_ls, o_as, o_inc, o_add, o_sub, o_mul, o_and, o_or, o_xor, o_shl, o_shr, o_div, o_neg, o_ladd, o_lsub, o_lmul, o_ldiv, o_lrem, o_lneg, o_lcmp, o_i2l, o_l2i, o_dup, o_dup2, o_pop, o_go, o_nn, o_sw, swc, o_iret, o_zret, o_lret, o_vret, o_ieq, o_eq0, o_ine, o_ne0, o_ilt, o_lt0, o_ige, o_ge0, o_igt, o_gt0, o_ile, o_le0, o_iald, o_zald, o_lald, o_aald, o_iast, o_zast, o_last, o_aast, o_alen, o_gi, o_gr, o_pi, o_pz, o_pr, o_new, o_newa, o_copy, o_oinit, o_call, o_callV, o_callVc, o_callI, popn, cnO, o_BAD, lgt, lst, isL, kil, st1, st2, entL, List.length_nil, List.length_cons, List.replicate, Nat.reduceAdd, Nat.reduceLeDiff, Nat.reduceSub, true_and, and_true, Nat.zero_le, ne_eq, qk_wi, ql_wi, qr_wi, qj_wi, qt_wi, qk_wj, ql_wj, qr_wj, qi_wj, qt_wj, qk_wr, ql_wr, qi_wr, qj_wr, qt_wr, qi_ws, qj_ws, qr_ws, Int.toNat_natCast, Int.toNat_zero, Int.reduceToNat, not_true_eq_false, not_false_eq_true, false_implies, implies_true, Option.some.injEq, reduceCtorEq, Sp0, true_or, or_true, or_self, wi_wi, wj_wj, kx, rx, rC, hC.1]); (repeat' (first | (with_reducible refine And.intro ?_ ?_) | (with_reducible intro))); (all_goals (try (first | assumption | omega | (unfold inI; omega))))))
  refine c_seekCheapest hC hS haC (fun F => ⟨fun q => ?_, fun q g hg => ?_⟩)
  · simp only [wpS, o_c, o_cl, o_il, o_ll, o_al, o_is, o_ls, o_as, o_inc, o_add, o_sub, o_mul, o_and, o_or, o_xor, o_shl, o_shr, o_div, o_neg, o_ladd, o_lsub, o_lmul, o_ldiv, o_lrem, o_lneg, o_lcmp, o_i2l, o_l2i, o_dup, o_dup2, o_pop, o_go, o_nn, o_sw, swc, o_iret, o_zret, o_lret, o_vret, o_ieq, o_eq0, o_ine, o_ne0, o_ilt, o_lt0, o_ige, o_ge0, o_igt, o_gt0, o_ile, o_le0, o_iald, o_zald, o_lald, o_aald, o_iast, o_zast, o_last, o_aast, o_alen, o_gi, o_gr, o_pi, o_pz, o_pr, o_new, o_newa, o_copy, o_oinit, o_call, o_callV, o_callVc, o_callI, popn, cnO, o_BAD, lgt, lst, isL, kil, st1, st2, entL, List.length_nil, List.length_cons, List.replicate, Nat.reduceAdd, Nat.reduceLeDiff, Nat.reduceSub, true_and, and_true, Nat.zero_le, ne_eq, qk_wi, ql_wi, qr_wi, qj_wi, qt_wi, qk_wj, ql_wj, qr_wj, qi_wj, qt_wj, qk_wr, ql_wr, qi_wr, qj_wr, qt_wr, qi_ws, qj_ws, qr_ws, Int.toNat_natCast, Int.toNat_zero, Int.reduceToNat, not_true_eq_false, not_false_eq_true, false_implies, implies_true, Option.some.injEq, reduceCtorEq, Sp0, true_or, or_true, or_self, wi_wi, wj_wj]
    repeat' (first | (with_reducible refine And.intro ?_ ?_) | (with_reducible intro))
    all_goals (try (first | assumption | omega | (unfold inI; omega)))
    exact (hK F).1 q
  · simp only [wpS, o_c, o_cl, o_il, o_ll, o_al, o_is, o_ls, o_as, o_inc, o_add, o_sub, o_mul, o_and, o_or, o_xor, o_shl, o_shr, o_div, o_neg, o_ladd, o_lsub, o_lmul, o_ldiv, o_lrem, o_lneg, o_lcmp, o_i2l, o_l2i, o_dup, o_dup2, o_pop, o_go, o_nn, o_sw, swc, o_iret, o_zret, o_lret, o_vret, o_ieq, o_eq0, o_ine, o_ne0, o_ilt, o_lt0, o_ige, o_ge0, o_igt, o_gt0, o_ile, o_le0, o_iald, o_zald, o_lald, o_aald, o_iast, o_zast, o_last, o_aast, o_alen, o_gi, o_gr, o_pi, o_pz, o_pr, o_new, o_newa, o_copy, o_oinit, o_call, o_callV, o_callVc, o_callI, popn, cnO, o_BAD, lgt, lst, isL, kil, st1, st2, entL, List.length_nil, List.length_cons, List.replicate, Nat.reduceAdd, Nat.reduceLeDiff, Nat.reduceSub, true_and, and_true, Nat.zero_le, ne_eq, qk_wi, ql_wi, qr_wi, qj_wi, qt_wi, qk_wj, ql_wj, qr_wj, qi_wj, qt_wj, qk_wr, ql_wr, qi_wr, qj_wr, qt_wr, qi_ws, qj_ws, qr_ws, Int.toNat_natCast, Int.toNat_zero, Int.reduceToNat, not_true_eq_false, not_false_eq_true, false_implies, implies_true, Option.some.injEq, reduceCtorEq, Sp0, true_or, or_true, or_self, wi_wi, wj_wj]
    repeat' (first | (with_reducible refine And.intro ?_ ?_) | (with_reducible intro))
    all_goals (try (first | assumption | omega | (unfold inI; omega)))
    exact (hK F).2 q g hg

/-! ===== the law: image; the loop ===== -/
def nk (kf : Nat → Int) (p : Nat) : Nat := if kf p = 1 then 0 else 1
theorem nN_kdo (D : Dd) (kf : Nat → Int) (p : Nat) : nN (kdo D kf) p = nk kf p := by
  unfold nN kdo nk
  by_cases e : kf p = 1
  · rw [if_pos e, if_pos e]
  · rw [if_neg e, if_neg e]
theorem nF_kdo (D : Dd) (kf : Nat → Int) : nF (kdo D kf) = nk kf 0 + nk kf 1 + nk kf 2 := by unfold nF; rw [nN_kdo, nN_kdo, nN_kdo]
theorem nk_fu {kf : Nat → Int} {p q : Nat} : nk (fu kf p 1) q = if q = p then 0 else nk kf q := by
  unfold nk fu
  by_cases e : q = p
  · rw [if_pos e, if_pos e, if_pos rfl]
  · rw [if_neg e, if_neg e]
theorem nF_im {D D' : Dd} {kf : Nat → Int} {p : Nat} (hp : p < 3) : nF (kdo D' (fu kf p 1)) + nk kf p = nF (kdo D kf) := by
  rw [nF_kdo, nF_kdo, nk_fu, nk_fu, nk_fu]
  obtain rfl | rfl | rfl : p = 0 ∨ p = 1 ∨ p = 2 := by omega
  · simp; omega
  · simp; omega
  · simp
theorem FB.at82 {h h' : Hp} {x R : Nat} {D : Dd} (H : FB h x D R) (e : ∀ b, b < qt h → b ≠ x + 82 → At h h' b) (e1 : qk h' (x + 82) = qk h (x + 82)) (e2 : ql h' (x + 82) = ql h (x + 82)) (hq : x + 115 ≤ qt h) (hq2 : qt h ≤ qt h') : FB h' x D R ∧ ql h' R = ql h R := by
  obtain ⟨⟨⟨a1, a2, a3⟩, b1, b2, b3, b4, b5, b6, b7⟩, c1, c2, c3, c4, c5, c6, c7⟩ := H
  have hR : R ≠ x + 82 := fun z => by
    have := b5.2.2.2.2.2.2.2.2.1
    rw [z, c2] at this
    cases this
  have ex := e x (by omega) (by omega)
  have eR := e R b6 hR
  have e83 := e (x + 83) (by omega) (by omega)
  have e84 := e (x + 83 + 1) (by omega) (by omega)
  have e89 := e (x + 89) (by omega) (by omega)
  have e91 := e (x + 89 + 2) (by omega) (by omega)
  have e92 := e (x + 89 + 3) (by omega) (by omega)
  refine ⟨⟨⟨⟨by rw [ex.1]; exact a1, by rw [ex.2.2.2]; exact a2, a3.rg (fun b h1 h2 => e b (by omega) (by omega))⟩, by rw [ex.2.2.2]; exact b1, ?_, ?_, by rw [ex.2.2.2]; exact b4, ?_, by omega, by omega⟩, by rw [ex.2.2.2]; exact c1, by rw [e1]; exact c2, by rw [e2]; exact c3, by rw [ex.2.2.2]; exact c4, c5.rg (fun b h1 h2 => e b (by omega) (by omega)), by rw [ex.2.2.2]; exact c6, c7.rg (fun b h1 h2 => e b (by omega) (by omega))⟩, eR.2.1⟩
  · unfold Chv isCh at *
    rw [e83.1, e83.2.2.2, e84.1, e84.2.1, e84.2.2.1]
    exact b2
  · rw [e83.2.2.1]; exact b3
  · unfold isSp at *
    rw [e89.1, e89.2.2.2, e91.1, e91.2.1, e92.1, e92.2.1, eR.1, eR.2.1]
    exact b5
theorem law_image {B L x I : Nat} {xs : Nat → Int} {X : Ctx} (sc : ScX B L xs X) (ok : OkC i_L_law X) (hxs : ∀ j, inI (xs j)) (hIL : I + 6 ≤ L) (hL : L ≤ 3072) {h : Hp} {b : Nat × Nat} (H : LI h x b) (next : ∀ h' b', LI h' x b' → V i_L_law X 1155 [some (vr (some B)), some (vr (some x)), some (vr (some (x + 100))), some (vi I)] [] h' b') : V i_L_law X 1109 [some (vr (some B)), some (vr (some x)), some (vr (some (x + 100))), some (vi I)] [] h b := by
  obtain ⟨D, kf, hC, hM, hf⟩ := id H
  obtain ⟨R, hFB, hqt, hKp, hB⟩ := id hC
  have hNw := hFB.1.1
  have hDi := hNw.2.2.2.2
  have hkf : ∀ p, p < 3 → kdo D kf p = none → kf p = 0 := fun p hp e => by
    unfold kdo at e
    rcases hf p hp with z | z
    · exact z
    · rw [if_pos z] at e; cases e
  have hkt : ∀ p e, kdo D kf p = some e → kf p = 1 ∧ e = fun k => D (1382 * (p + 1) + k) := fun p e he => by
    unfold kdo at he
    by_cases u : kf p = 1
    · rw [if_pos u] at he; cases he; exact ⟨u, rfl⟩
    · rw [if_neg u] at he; cases he
  -- a new image
  have mk : ∀ (P : Nat) (h1 : Hp), P < 3 → qr h (x + 82) P = none → kdo D kf P = none → Eqj (wr h (x + 82) (fu (qr h (x + 82)) P (some (qt h)))) h1 (qt h) → qt h1 = qt h + 81 → Stt h1 (qt h) D → (MS h1 (x + 100) D kf ∧ LI (wi (wi h1 (x + 100 + 1) (imF D P 1382)) (x + 100 + 2) (fu kf P 1)) x (b.1 - 81, b.2 - 1462)) := by
    intro P h1 hP hr hkn e t S
    have at' : ∀ c, c < qt h → c ≠ x + 82 → At h h1 c := fun c h2 h3 => by
      have := e.1 c h2
      exact ⟨this.1, this.2.1, this.2.2.1, this.2.2.2.trans (qr_wn h3)⟩
    have q82 := e.1 (x + 82) (by omega)
    have r82 : qr h1 (x + 82) = fu (qr h (x + 82)) P (some (qt h)) := q82.2.2.2.trans qr_ws
    obtain ⟨hFB1, hl1⟩ := hFB.at82 at' q82.1 q82.2.1 hqt (by omega)
    have hM1 : MS h1 (x + 100) D kf := hM.rg (fun c h2 h3 => at' c (by omega) (by omega))
    refine ⟨hM1, LI.image hP hFB1 (by omega) hM1 hf ⟨qt h, by rw [r82, fu_s], hqt, by omega, S⟩ (fun p' hp' hne => ?_) (fun p1 p2 q1 q2 a1 a2 a3 a4 a5 => ?_) ?_⟩
    · rcases hKp.1 p' hp' with ⟨z1, z2⟩ | ⟨q, e2, z1, z2, z3, z4, z5⟩
      · exact .inl ⟨hkf p' hp' z1, by rw [r82, fu_n hne]; exact z2⟩
      · obtain ⟨y1, y2⟩ := hkt p' e2 z1
        exact .inr ⟨q, y1, by rw [r82, fu_n hne]; exact z2, z3, by omega, by rw [← y2]; exact z5.rg (fun c h2 h3 => at' c (by omega) (by omega))⟩
    · rw [r82] at a4 a5
      have old : ∀ p' q', p' < 3 → qr h (x + 82) p' = some q' → q' + 81 ≤ qt h := fun p' q' hp' hq' => by
        rcases hKp.1 p' hp' with ⟨z1, z2⟩ | ⟨q, e2, z1, z2, z3, z4, z5⟩
        · rw [hq'] at z2; cases z2
        · rw [hq'] at z2; cases z2; exact z4
      by_cases u1 : p1 = P
      · subst u1
        rw [fu_s] at a4
        rw [fu_n (fun z => a3 z.symm)] at a5
        have := old p2 q2 a2 a5
        cases a4
        omega
      · rw [fu_n u1] at a4
        by_cases u2 : p2 = P
        · subst u2
          rw [fu_s] at a5
          have := old p1 q1 a1 a4
          cases a5
          omega
        · rw [fu_n u2] at a5
          exact hKp.2 p1 p2 q1 q2 a1 a2 a3 a4 a5
    · have hn := nF_im (D := D) (D' := imF D P 1382) (kf := kf) hP
      have hk1 : nk kf P = 1 := by unfold nk; rw [hkf P hP hkn]; rfl
      unfold Bdg at *
      rw [hl1]
      dsimp only
      omega
  have bud : ∀ P, P < 3 → kdo D kf P = none → 81 ≤ b.1 ∧ 1462 ≤ b.2 := fun P hP hkn => by
    have hn := nF_im (D := D) (D' := D) (kf := kf) hP
    have hk1 : nk kf P = 1 := by unfold nk; rw [hkf P hP hkn]; rfl
    unfold Bdg at hB
    omega
  -- an image that stood there
  have up : ∀ (P q : Nat) (h1 : Hp), P < 3 → qr h (x + 82) P = some q → kf P = 1 → x + 115 ≤ q → q + 81 ≤ qt h → Chg h h1 q (q + 81) → Stt h1 q D → (MS h1 (x + 100) D kf ∧ LI (wi (wi h1 (x + 100 + 1) (imF D P 1382)) (x + 100 + 2) (fu kf P 1)) x b) := by
    intro P q h1 hP hr hk z3 z4 c S
    have ex : Qx h h1 (fun c => q ≤ c ∧ c < q + 81) := ⟨⟨c.1, c.2.1, c.2.2.1, c.2.2.2.2.1⟩, fun d hd => c.2.2.2.2.2 d (by omega)⟩
    have rr : qr h1 = qr h := c.2.2.1
    have tt : qt h1 = qt h := c.2.2.2.2.1
    have hFB1 : FB h1 x D R := hFB.upd ex (by omega) (by omega) (hNw.2.2.qx ex (fun d h2 h3 => by omega))
    have hM1 : MS h1 (x + 100) D kf := hM.rg (Rg.chg c (by omega))
    refine ⟨hM1, LI.image hP hFB1 (by omega) hM1 hf ⟨q, by rw [rr]; exact hr, z3, by omega, S⟩ (fun p' hp' hne => ?_) (fun p1 p2 q1 q2 a1 a2 a3 a4 a5 => hKp.2 p1 p2 q1 q2 a1 a2 a3 (by rw [← rr]; exact a4) (by rw [← rr]; exact a5)) ?_⟩
    · rcases hKp.1 p' hp' with ⟨w1, w2⟩ | ⟨q', e2, w1, w2, w3, w4, w5⟩
      · exact .inl ⟨hkf p' hp' w1, by rw [rr]; exact w2⟩
      · obtain ⟨y1, y2⟩ := hkt p' e2 w1
        have := hKp.2 P p' q q' hP hp' (fun z => hne z.symm) hr w2
        exact .inr ⟨q', y1, by rw [rr]; exact w2, w3, by omega, by rw [← y2]; exact w5.rg (Rg.chg c (by omega))⟩
    · have hn := nF_im (D := D) (D' := imF D P 1382) (kf := kf) hP
      have hk1 : nk kf P = 0 := by unfold nk; rw [hk]; rfl
      unfold Bdg at *
      rw [show ql h1 = ql h from c.2.1]
      omega
  have hq1 : x + 100 ≤ qt h := by omega
  have hKp1 := hKp.1
  clear hB hqt hKp
  refine q_L_law_1109 X sc ok _ _ _ _ ?_
  simp only [wpS, o_c, o_cl, o_il, o_ll, o_al, o_is, o_ls, o_as, o_inc, o_add, o_sub, o_mul, o_and, o_or, o_xor, o_shl, o_shr, o_div, o_neg, o_ladd, o_lsub, o_lmul, o_ldiv, o_lrem, o_lneg, o_lcmp, o_i2l, o_l2i, o_dup, o_dup2, o_pop, o_go, o_nn, o_sw, swc, o_iret, o_zret, o_lret, o_vret, o_ieq, o_eq0, o_ine, o_ne0, o_ilt, o_lt0, o_ige, o_ge0, o_igt, o_gt0, o_ile, o_le0, o_iald, o_zald, o_lald, o_aald, o_iast, o_zast, o_last, o_aast, o_alen, o_gi, o_gr, o_pi, o_pz, o_pr, o_new, o_newa, o_copy, o_oinit, o_call, o_callV, o_callVc, o_callI, popn, cnO, o_BAD, lgt, lst, isL, kil, st1, st2, entL, List.length_nil, List.length_cons, List.replicate, Nat.reduceAdd, Nat.reduceLeDiff, Nat.reduceSub, true_and, and_true, Nat.zero_le, ne_eq, qk_wi, ql_wi, qr_wi, qj_wi, qt_wi, qk_wj, ql_wj, qr_wj, qi_wj, qt_wj, qk_wr, ql_wr, qi_wr, qj_wr, qt_wr, qi_ws, qj_ws, qr_ws, Int.toNat_natCast, Int.toNat_zero, Int.reduceToNat, not_true_eq_false, not_false_eq_true, false_implies, implies_true, Option.some.injEq, reduceCtorEq, Sp0, true_or, or_true, or_self, wi_wi, wj_wj, o_callVx, o_scr, o_slen, o_same, o_lsame, eq_self, hNw.1]
  repeat' (first | (with_reducible refine And.intro ?_ ?_) | (with_reducible intro))
  all_goals (try (first | with_reducible assumption | omega | (unfold inI; omega) | (unfold inL; omega) | exact cz_in _ _))
  generalize hp : xs ((I : Int) + 1).toNat = p
  have ip : inI p := by rw [← hp]; exact hxs _
  have hnx := fun (h2 : Hp) (b2 : Nat × Nat) => next h2 b2
  by_cases q : 0 ≤ p ∧ p ≤ 2
  · rcases hKp1 p.toNat (by omega) with ⟨z1, z2⟩ | ⟨qq, e, z1, z2, z3, z4, z5⟩
    · have hb := bud p.toNat (by omega) z1
      refine ⟨(81, 1462), hb.1, hb.2, x, p, D, rfl, hNw, hq1, hFB.2.1, hFB.2.2.1, hFB.2.2.2.1, ip, fun z => absurd q z, fun _ => .inl ⟨z2, Nat.le_refl _, Nat.le_refl _, fun h1 e1 t1 S => ?_⟩⟩
      obtain ⟨hM1, hLI⟩ := mk p.toNat h1 (by omega) z2 z1 e1 t1 S
      clear e1 t1 hq1 hb
      simp only [wpS, o_c, o_cl, o_il, o_ll, o_al, o_is, o_ls, o_as, o_inc, o_add, o_sub, o_mul, o_and, o_or, o_xor, o_shl, o_shr, o_div, o_neg, o_ladd, o_lsub, o_lmul, o_ldiv, o_lrem, o_lneg, o_lcmp, o_i2l, o_l2i, o_dup, o_dup2, o_pop, o_go, o_nn, o_sw, swc, o_iret, o_zret, o_lret, o_vret, o_ieq, o_eq0, o_ine, o_ne0, o_ilt, o_lt0, o_ige, o_ge0, o_igt, o_gt0, o_ile, o_le0, o_iald, o_zald, o_lald, o_aald, o_iast, o_zast, o_last, o_aast, o_alen, o_gi, o_gr, o_pi, o_pz, o_pr, o_new, o_newa, o_copy, o_oinit, o_call, o_callV, o_callVc, o_callI, popn, cnO, o_BAD, lgt, lst, isL, kil, st1, st2, entL, List.length_nil, List.length_cons, List.replicate, Nat.reduceAdd, Nat.reduceLeDiff, Nat.reduceSub, true_and, and_true, Nat.zero_le, ne_eq, qk_wi, ql_wi, qr_wi, qj_wi, qt_wi, qk_wj, ql_wj, qr_wj, qi_wj, qt_wj, qk_wr, ql_wr, qi_wr, qj_wr, qt_wr, qi_ws, qj_ws, qr_ws, Int.toNat_natCast, Int.toNat_zero, Int.reduceToNat, not_true_eq_false, not_false_eq_true, false_implies, implies_true, Option.some.injEq, reduceCtorEq, Sp0, true_or, or_true, or_self, wi_wi, wj_wj, o_callVx, o_scr, o_slen, o_same, o_lsame, eq_self, hM1.1.k, hp]
      repeat' (first | (with_reducible refine And.intro ?_ ?_) | (with_reducible intro))
      all_goals (try (first | with_reducible assumption | omega | (unfold inI; omega) | (unfold inL; omega) | exact cz_in _ _))
      refine ⟨x + 100, p, rfl, hM1.1, ip, fun z => absurd q z, fun _ => ?_⟩
      rw [hM1.2.1, hM1.2.2]
      simp only [wpS, o_c, o_cl, o_il, o_ll, o_al, o_is, o_ls, o_as, o_inc, o_add, o_sub, o_mul, o_and, o_or, o_xor, o_shl, o_shr, o_div, o_neg, o_ladd, o_lsub, o_lmul, o_ldiv, o_lrem, o_lneg, o_lcmp, o_i2l, o_l2i, o_dup, o_dup2, o_pop, o_go, o_nn, o_sw, swc, o_iret, o_zret, o_lret, o_vret, o_ieq, o_eq0, o_ine, o_ne0, o_ilt, o_lt0, o_ige, o_ge0, o_igt, o_gt0, o_ile, o_le0, o_iald, o_zald, o_lald, o_aald, o_iast, o_zast, o_last, o_aast, o_alen, o_gi, o_gr, o_pi, o_pz, o_pr, o_new, o_newa, o_copy, o_oinit, o_call, o_callV, o_callVc, o_callI, popn, cnO, o_BAD, lgt, lst, isL, kil, st1, st2, entL, List.length_nil, List.length_cons, List.replicate, Nat.reduceAdd, Nat.reduceLeDiff, Nat.reduceSub, true_and, and_true, Nat.zero_le, ne_eq, qk_wi, ql_wi, qr_wi, qj_wi, qt_wi, qk_wj, ql_wj, qr_wj, qi_wj, qt_wj, qk_wr, ql_wr, qi_wr, qj_wr, qt_wr, qi_ws, qj_ws, qr_ws, Int.toNat_natCast, Int.toNat_zero, Int.reduceToNat, not_true_eq_false, not_false_eq_true, false_implies, implies_true, Option.some.injEq, reduceCtorEq, Sp0, true_or, or_true, or_self, wi_wi, wj_wj, o_callVx, o_scr, o_slen, o_same, o_lsame, eq_self, hM1.1.k]
      repeat' (first | (with_reducible refine And.intro ?_ ?_) | (with_reducible intro))
      all_goals (try (first | with_reducible assumption | omega | (unfold inI; omega) | (unfold inL; omega) | exact cz_in _ _))
      all_goals (first | exact next _ _ hLI | skip)
    · obtain ⟨y1, y2⟩ := hkt p.toNat e z1
      refine ⟨(0, 0), Nat.zero_le _, Nat.zero_le _, x, p, D, rfl, hNw, hq1, hFB.2.1, hFB.2.2.1, hFB.2.2.2.1, ip, fun z => absurd q z, fun _ => .inr ⟨qq, z2, z5.1, by omega, fun h1 c1 S => ?_⟩⟩
      obtain ⟨hM1, hLI⟩ := up p.toNat qq h1 (by omega) z2 y1 z3 z4 c1 S
      clear z4 hq1
      simp only [wpS, o_c, o_cl, o_il, o_ll, o_al, o_is, o_ls, o_as, o_inc, o_add, o_sub, o_mul, o_and, o_or, o_xor, o_shl, o_shr, o_div, o_neg, o_ladd, o_lsub, o_lmul, o_ldiv, o_lrem, o_lneg, o_lcmp, o_i2l, o_l2i, o_dup, o_dup2, o_pop, o_go, o_nn, o_sw, swc, o_iret, o_zret, o_lret, o_vret, o_ieq, o_eq0, o_ine, o_ne0, o_ilt, o_lt0, o_ige, o_ge0, o_igt, o_gt0, o_ile, o_le0, o_iald, o_zald, o_lald, o_aald, o_iast, o_zast, o_last, o_aast, o_alen, o_gi, o_gr, o_pi, o_pz, o_pr, o_new, o_newa, o_copy, o_oinit, o_call, o_callV, o_callVc, o_callI, popn, cnO, o_BAD, lgt, lst, isL, kil, st1, st2, entL, List.length_nil, List.length_cons, List.replicate, Nat.reduceAdd, Nat.reduceLeDiff, Nat.reduceSub, true_and, and_true, Nat.zero_le, ne_eq, qk_wi, ql_wi, qr_wi, qj_wi, qt_wi, qk_wj, ql_wj, qr_wj, qi_wj, qt_wj, qk_wr, ql_wr, qi_wr, qj_wr, qt_wr, qi_ws, qj_ws, qr_ws, Int.toNat_natCast, Int.toNat_zero, Int.reduceToNat, not_true_eq_false, not_false_eq_true, false_implies, implies_true, Option.some.injEq, reduceCtorEq, Sp0, true_or, or_true, or_self, wi_wi, wj_wj, o_callVx, o_scr, o_slen, o_same, o_lsame, eq_self, hM1.1.k, hp]
      repeat' (first | (with_reducible refine And.intro ?_ ?_) | (with_reducible intro))
      all_goals (try (first | with_reducible assumption | omega | (unfold inI; omega) | (unfold inL; omega) | exact cz_in _ _))
      refine ⟨x + 100, p, rfl, hM1.1, ip, fun z => absurd q z, fun _ => ?_⟩
      rw [hM1.2.1, hM1.2.2]
      simp only [wpS, o_c, o_cl, o_il, o_ll, o_al, o_is, o_ls, o_as, o_inc, o_add, o_sub, o_mul, o_and, o_or, o_xor, o_shl, o_shr, o_div, o_neg, o_ladd, o_lsub, o_lmul, o_ldiv, o_lrem, o_lneg, o_lcmp, o_i2l, o_l2i, o_dup, o_dup2, o_pop, o_go, o_nn, o_sw, swc, o_iret, o_zret, o_lret, o_vret, o_ieq, o_eq0, o_ine, o_ne0, o_ilt, o_lt0, o_ige, o_ge0, o_igt, o_gt0, o_ile, o_le0, o_iald, o_zald, o_lald, o_aald, o_iast, o_zast, o_last, o_aast, o_alen, o_gi, o_gr, o_pi, o_pz, o_pr, o_new, o_newa, o_copy, o_oinit, o_call, o_callV, o_callVc, o_callI, popn, cnO, o_BAD, lgt, lst, isL, kil, st1, st2, entL, List.length_nil, List.length_cons, List.replicate, Nat.reduceAdd, Nat.reduceLeDiff, Nat.reduceSub, true_and, and_true, Nat.zero_le, ne_eq, qk_wi, ql_wi, qr_wi, qj_wi, qt_wi, qk_wj, ql_wj, qr_wj, qi_wj, qt_wj, qk_wr, ql_wr, qi_wr, qj_wr, qt_wr, qi_ws, qj_ws, qr_ws, Int.toNat_natCast, Int.toNat_zero, Int.reduceToNat, not_true_eq_false, not_false_eq_true, false_implies, implies_true, Option.some.injEq, reduceCtorEq, Sp0, true_or, or_true, or_self, wi_wi, wj_wj, o_callVx, o_scr, o_slen, o_same, o_lsame, eq_self, hM1.1.k]
      repeat' (first | (with_reducible refine And.intro ?_ ?_) | (with_reducible intro))
      all_goals (try (first | with_reducible assumption | omega | (unfold inI; omega) | (unfold inL; omega) | exact cz_in _ _))
      all_goals (first | exact next _ _ hLI | skip)
  · refine ⟨(0, 0), Nat.zero_le _, Nat.zero_le _, x, p, D, rfl, hNw, hq1, hFB.2.1, hFB.2.2.1, hFB.2.2.2.1, ip, fun _ => ?_, fun z => absurd z q⟩
    clear hq1
    simp only [wpS, o_c, o_cl, o_il, o_ll, o_al, o_is, o_ls, o_as, o_inc, o_add, o_sub, o_mul, o_and, o_or, o_xor, o_shl, o_shr, o_div, o_neg, o_ladd, o_lsub, o_lmul, o_ldiv, o_lrem, o_lneg, o_lcmp, o_i2l, o_l2i, o_dup, o_dup2, o_pop, o_go, o_nn, o_sw, swc, o_iret, o_zret, o_lret, o_vret, o_ieq, o_eq0, o_ine, o_ne0, o_ilt, o_lt0, o_ige, o_ge0, o_igt, o_gt0, o_ile, o_le0, o_iald, o_zald, o_lald, o_aald, o_iast, o_zast, o_last, o_aast, o_alen, o_gi, o_gr, o_pi, o_pz, o_pr, o_new, o_newa, o_copy, o_oinit, o_call, o_callV, o_callVc, o_callI, popn, cnO, o_BAD, lgt, lst, isL, kil, st1, st2, entL, List.length_nil, List.length_cons, List.replicate, Nat.reduceAdd, Nat.reduceLeDiff, Nat.reduceSub, true_and, and_true, Nat.zero_le, ne_eq, qk_wi, ql_wi, qr_wi, qj_wi, qt_wi, qk_wj, ql_wj, qr_wj, qi_wj, qt_wj, qk_wr, ql_wr, qi_wr, qj_wr, qt_wr, qi_ws, qj_ws, qr_ws, Int.toNat_natCast, Int.toNat_zero, Int.reduceToNat, not_true_eq_false, not_false_eq_true, false_implies, implies_true, Option.some.injEq, reduceCtorEq, Sp0, true_or, or_true, or_self, wi_wi, wj_wj, o_callVx, o_scr, o_slen, o_same, o_lsame, eq_self, hM.1.k, hp]
    repeat' (first | (with_reducible refine And.intro ?_ ?_) | (with_reducible intro))
    all_goals (try (first | with_reducible assumption | omega | (unfold inI; omega) | (unfold inL; omega) | exact cz_in _ _))
    refine ⟨x + 100, p, rfl, hM.1, ip, fun _ => ?_, fun z => absurd z q⟩
    simp only [wpS, o_c, o_cl, o_il, o_ll, o_al, o_is, o_ls, o_as, o_inc, o_add, o_sub, o_mul, o_and, o_or, o_xor, o_shl, o_shr, o_div, o_neg, o_ladd, o_lsub, o_lmul, o_ldiv, o_lrem, o_lneg, o_lcmp, o_i2l, o_l2i, o_dup, o_dup2, o_pop, o_go, o_nn, o_sw, swc, o_iret, o_zret, o_lret, o_vret, o_ieq, o_eq0, o_ine, o_ne0, o_ilt, o_lt0, o_ige, o_ge0, o_igt, o_gt0, o_ile, o_le0, o_iald, o_zald, o_lald, o_aald, o_iast, o_zast, o_last, o_aast, o_alen, o_gi, o_gr, o_pi, o_pz, o_pr, o_new, o_newa, o_copy, o_oinit, o_call, o_callV, o_callVc, o_callI, popn, cnO, o_BAD, lgt, lst, isL, kil, st1, st2, entL, List.length_nil, List.length_cons, List.replicate, Nat.reduceAdd, Nat.reduceLeDiff, Nat.reduceSub, true_and, and_true, Nat.zero_le, ne_eq, qk_wi, ql_wi, qr_wi, qj_wi, qt_wi, qk_wj, ql_wj, qr_wj, qi_wj, qt_wj, qk_wr, ql_wr, qi_wr, qj_wr, qt_wr, qi_ws, qj_ws, qr_ws, Int.toNat_natCast, Int.toNat_zero, Int.reduceToNat, not_true_eq_false, not_false_eq_true, false_implies, implies_true, Option.some.injEq, reduceCtorEq, Sp0, true_or, or_true, or_self, wi_wi, wj_wj, o_callVx, o_scr, o_slen, o_same, o_lsame, eq_self, hM.1.k]
    repeat' (first | (with_reducible refine And.intro ?_ ?_) | (with_reducible intro))
    all_goals (try (first | with_reducible assumption | omega | (unfold inI; omega) | (unfold inL; omega) | exact cz_in _ _))
    all_goals (first | exact next _ _ H | skip)
theorem law_loop {B L x : Nat} {xs : Nat → Int} {X : Ctx} (sc : ScX B L xs X) (ok : OkC i_L_law X) (hxs : ∀ j, inI (xs j)) (hL : L ≤ 3072) (hR : ∀ h, xR X (some (vi 1)) h) : ∀ (n I : Nat) (h : Hp) (b : Nat × Nat), L ≤ I + n → I ≤ L + 6 → LI h x b → V i_L_law X 18 [some (vr (some B)), some (vr (some x)), some (vr (some (x + 100))), some (vi I)] [] h b := by
  intro n
  induction n with
  | zero =>
    intro I h b h1 h2 hLI
    have hk := hR h
    refine s_L_law_18 X sc ok _ _ _ _ ?_
    simp only [wpS, o_c, o_cl, o_il, o_ll, o_al, o_is, o_ls, o_as, o_inc, o_add, o_sub, o_mul, o_and, o_or, o_xor, o_shl, o_shr, o_div, o_neg, o_ladd, o_lsub, o_lmul, o_ldiv, o_lrem, o_lneg, o_lcmp, o_i2l, o_l2i, o_dup, o_dup2, o_pop, o_go, o_nn, o_sw, swc, o_iret, o_zret, o_lret, o_vret, o_ieq, o_eq0, o_ine, o_ne0, o_ilt, o_lt0, o_ige, o_ge0, o_igt, o_gt0, o_ile, o_le0, o_iald, o_zald, o_lald, o_aald, o_iast, o_zast, o_last, o_aast, o_alen, o_gi, o_gr, o_pi, o_pz, o_pr, o_new, o_newa, o_copy, o_oinit, o_call, o_callV, o_callVc, o_callI, popn, cnO, o_BAD, lgt, lst, isL, kil, st1, st2, entL, List.length_nil, List.length_cons, List.replicate, Nat.reduceAdd, Nat.reduceLeDiff, Nat.reduceSub, true_and, and_true, Nat.zero_le, ne_eq, qk_wi, ql_wi, qr_wi, qj_wi, qt_wi, qk_wj, ql_wj, qr_wj, qi_wj, qt_wj, qk_wr, ql_wr, qi_wr, qj_wr, qt_wr, qi_ws, qj_ws, qr_ws, Int.toNat_natCast, Int.toNat_zero, Int.reduceToNat, not_true_eq_false, not_false_eq_true, false_implies, implies_true, Option.some.injEq, reduceCtorEq, Sp0, true_or, or_true, or_self, wi_wi, wj_wj, o_scr, o_slen]
    repeat' (first | (with_reducible refine And.intro ?_ ?_) | (with_reducible intro))
    all_goals (try (first | with_reducible assumption | omega | (unfold inI; omega) | (unfold inL; omega) | exact cz_in _ _))
    all_goals (try (exfalso; omega))
    refine s_L_law_1161 X sc ok _ _ _ _ ?_
    simp only [wpS, o_c, o_cl, o_il, o_ll, o_al, o_is, o_ls, o_as, o_inc, o_add, o_sub, o_mul, o_and, o_or, o_xor, o_shl, o_shr, o_div, o_neg, o_ladd, o_lsub, o_lmul, o_ldiv, o_lrem, o_lneg, o_lcmp, o_i2l, o_l2i, o_dup, o_dup2, o_pop, o_go, o_nn, o_sw, swc, o_iret, o_zret, o_lret, o_vret, o_ieq, o_eq0, o_ine, o_ne0, o_ilt, o_lt0, o_ige, o_ge0, o_igt, o_gt0, o_ile, o_le0, o_iald, o_zald, o_lald, o_aald, o_iast, o_zast, o_last, o_aast, o_alen, o_gi, o_gr, o_pi, o_pz, o_pr, o_new, o_newa, o_copy, o_oinit, o_call, o_callV, o_callVc, o_callI, popn, cnO, o_BAD, lgt, lst, isL, kil, st1, st2, entL, List.length_nil, List.length_cons, List.replicate, Nat.reduceAdd, Nat.reduceLeDiff, Nat.reduceSub, true_and, and_true, Nat.zero_le, ne_eq, qk_wi, ql_wi, qr_wi, qj_wi, qt_wi, qk_wj, ql_wj, qr_wj, qi_wj, qt_wj, qk_wr, ql_wr, qi_wr, qj_wr, qt_wr, qi_ws, qj_ws, qr_ws, Int.toNat_natCast, Int.toNat_zero, Int.reduceToNat, not_true_eq_false, not_false_eq_true, false_implies, implies_true, Option.some.injEq, reduceCtorEq, Sp0, true_or, or_true, or_self, wi_wi, wj_wj]
    repeat' (first | (with_reducible refine And.intro ?_ ?_) | (with_reducible intro))
    all_goals (try (first | with_reducible assumption | omega | (unfold inI; omega) | (unfold inL; omega) | exact cz_in _ _))
    all_goals (first | exact hk | skip)
  | succ n ih =>
    intro I h b h1 h2 hLI
    by_cases q : I + 6 ≤ L
    · have next : ∀ h' b', LI h' x b' → V i_L_law X 1155 [some (vr (some B)), some (vr (some x)), some (vr (some (x + 100))), some (vi I)] [] h' b' := fun h' b' hl => by
        have := ih (I + 6) h' b' (by omega) (by omega) hl
        refine s_L_law_1155 X sc ok _ _ _ _ ?_
        simp only [wpS, o_c, o_cl, o_il, o_ll, o_al, o_is, o_ls, o_as, o_inc, o_add, o_sub, o_mul, o_and, o_or, o_xor, o_shl, o_shr, o_div, o_neg, o_ladd, o_lsub, o_lmul, o_ldiv, o_lrem, o_lneg, o_lcmp, o_i2l, o_l2i, o_dup, o_dup2, o_pop, o_go, o_nn, o_sw, swc, o_iret, o_zret, o_lret, o_vret, o_ieq, o_eq0, o_ine, o_ne0, o_ilt, o_lt0, o_ige, o_ge0, o_igt, o_gt0, o_ile, o_le0, o_iald, o_zald, o_lald, o_aald, o_iast, o_zast, o_last, o_aast, o_alen, o_gi, o_gr, o_pi, o_pz, o_pr, o_new, o_newa, o_copy, o_oinit, o_call, o_callV, o_callVc, o_callI, popn, cnO, o_BAD, lgt, lst, isL, kil, st1, st2, entL, List.length_nil, List.length_cons, List.replicate, Nat.reduceAdd, Nat.reduceLeDiff, Nat.reduceSub, true_and, and_true, Nat.zero_le, ne_eq, qk_wi, ql_wi, qr_wi, qj_wi, qt_wi, qk_wj, ql_wj, qr_wj, qi_wj, qt_wj, qk_wr, ql_wr, qi_wr, qj_wr, qt_wr, qi_ws, qj_ws, qr_ws, Int.toNat_natCast, Int.toNat_zero, Int.reduceToNat, not_true_eq_false, not_false_eq_true, false_implies, implies_true, Option.some.injEq, reduceCtorEq, Sp0, true_or, or_true, or_self, wi_wi, wj_wj]
        repeat' (first | (with_reducible refine And.intro ?_ ?_) | (with_reducible intro))
        all_goals (try (first | with_reducible assumption | omega | (unfold inI; omega) | (unfold inL; omega) | exact cz_in _ _))
        all_goals (first | exact this | skip)
      refine s_L_law_18 X sc ok _ _ _ _ ?_
      simp only [wpS, o_c, o_cl, o_il, o_ll, o_al, o_is, o_ls, o_as, o_inc, o_add, o_sub, o_mul, o_and, o_or, o_xor, o_shl, o_shr, o_div, o_neg, o_ladd, o_lsub, o_lmul, o_ldiv, o_lrem, o_lneg, o_lcmp, o_i2l, o_l2i, o_dup, o_dup2, o_pop, o_go, o_nn, o_sw, swc, o_iret, o_zret, o_lret, o_vret, o_ieq, o_eq0, o_ine, o_ne0, o_ilt, o_lt0, o_ige, o_ge0, o_igt, o_gt0, o_ile, o_le0, o_iald, o_zald, o_lald, o_aald, o_iast, o_zast, o_last, o_aast, o_alen, o_gi, o_gr, o_pi, o_pz, o_pr, o_new, o_newa, o_copy, o_oinit, o_call, o_callV, o_callVc, o_callI, popn, cnO, o_BAD, lgt, lst, isL, kil, st1, st2, entL, List.length_nil, List.length_cons, List.replicate, Nat.reduceAdd, Nat.reduceLeDiff, Nat.reduceSub, true_and, and_true, Nat.zero_le, ne_eq, qk_wi, ql_wi, qr_wi, qj_wi, qt_wi, qk_wj, ql_wj, qr_wj, qi_wj, qt_wj, qk_wr, ql_wr, qi_wr, qj_wr, qt_wr, qi_ws, qj_ws, qr_ws, Int.toNat_natCast, Int.toNat_zero, Int.reduceToNat, not_true_eq_false, not_false_eq_true, false_implies, implies_true, Option.some.injEq, reduceCtorEq, Sp0, true_or, or_true, or_self, wi_wi, wj_wj, o_scr, o_slen, List.length_cons, List.length_nil]
      repeat' (first | (with_reducible refine And.intro ?_ ?_) | (with_reducible intro))
      all_goals (try (first | with_reducible assumption | omega | (unfold inI; omega) | (unfold inL; omega) | exact cz_in _ _))
      all_goals (try (exfalso; omega))
      all_goals (first | exact inI_of _ | exact next h b hLI | exact law_measure sc ok hxs (by omega) hL hLI next | exact law_book sc ok hxs (by omega) hL hLI next | exact law_tear sc ok hxs (by omega) hL hLI next | exact law_of sc ok hxs (by omega) hL hLI next | exact law_share sc ok hxs (by omega) hL hLI next | exact law_ends sc ok hxs (by omega) hL hLI next | exact law_chain sc ok hxs (by omega) hL hLI next | exact law_join sc ok hxs (by omega) hL hLI next | exact law_round sc ok hxs (by omega) hL hLI next | exact law_over sc ok hxs (by omega) hL hLI next | exact law_worst sc ok hxs (by omega) hL hLI next | exact law_corner sc ok hxs (by omega) hL hLI next | exact law_always sc ok hxs (by omega) hL hLI next | exact law_chance sc ok hxs (by omega) hL hLI next | exact law_both sc ok hxs (by omega) hL hLI next | exact law_mean sc ok hxs (by omega) hL hLI next | exact law_span sc ok hxs (by omega) hL hLI next | exact law_pull sc ok hxs (by omega) hL hLI next | exact law_level sc ok hxs (by omega) hL hLI next | exact law_plain sc ok hxs (by omega) hL hLI next | exact law_best sc ok hxs (by omega) hL hLI next | exact law_choice sc ok hxs (by omega) hL hLI next | exact law_part sc ok hxs (by omega) hL hLI next | exact law_sweep sc ok hxs (by omega) hL hLI next | exact law_match sc ok hxs (by omega) hL hLI next | exact law_mate sc ok hxs (by omega) hL hLI next | exact law_shim sc ok hxs (by omega) hL hLI next | exact law_image sc ok hxs (by omega) hL hLI next | exact law_back sc ok hxs (by omega) hL hLI next | skip)
    · have hk := hR h
      refine s_L_law_18 X sc ok _ _ _ _ ?_
      simp only [wpS, o_c, o_cl, o_il, o_ll, o_al, o_is, o_ls, o_as, o_inc, o_add, o_sub, o_mul, o_and, o_or, o_xor, o_shl, o_shr, o_div, o_neg, o_ladd, o_lsub, o_lmul, o_ldiv, o_lrem, o_lneg, o_lcmp, o_i2l, o_l2i, o_dup, o_dup2, o_pop, o_go, o_nn, o_sw, swc, o_iret, o_zret, o_lret, o_vret, o_ieq, o_eq0, o_ine, o_ne0, o_ilt, o_lt0, o_ige, o_ge0, o_igt, o_gt0, o_ile, o_le0, o_iald, o_zald, o_lald, o_aald, o_iast, o_zast, o_last, o_aast, o_alen, o_gi, o_gr, o_pi, o_pz, o_pr, o_new, o_newa, o_copy, o_oinit, o_call, o_callV, o_callVc, o_callI, popn, cnO, o_BAD, lgt, lst, isL, kil, st1, st2, entL, List.length_nil, List.length_cons, List.replicate, Nat.reduceAdd, Nat.reduceLeDiff, Nat.reduceSub, true_and, and_true, Nat.zero_le, ne_eq, qk_wi, ql_wi, qr_wi, qj_wi, qt_wi, qk_wj, ql_wj, qr_wj, qi_wj, qt_wj, qk_wr, ql_wr, qi_wr, qj_wr, qt_wr, qi_ws, qj_ws, qr_ws, Int.toNat_natCast, Int.toNat_zero, Int.reduceToNat, not_true_eq_false, not_false_eq_true, false_implies, implies_true, Option.some.injEq, reduceCtorEq, Sp0, true_or, or_true, or_self, wi_wi, wj_wj, o_scr, o_slen]
      repeat' (first | (with_reducible refine And.intro ?_ ?_) | (with_reducible intro))
      all_goals (try (first | with_reducible assumption | omega | (unfold inI; omega) | (unfold inL; omega) | exact cz_in _ _))
      all_goals (try (exfalso; omega))
      refine s_L_law_1161 X sc ok _ _ _ _ ?_
      simp only [wpS, o_c, o_cl, o_il, o_ll, o_al, o_is, o_ls, o_as, o_inc, o_add, o_sub, o_mul, o_and, o_or, o_xor, o_shl, o_shr, o_div, o_neg, o_ladd, o_lsub, o_lmul, o_ldiv, o_lrem, o_lneg, o_lcmp, o_i2l, o_l2i, o_dup, o_dup2, o_pop, o_go, o_nn, o_sw, swc, o_iret, o_zret, o_lret, o_vret, o_ieq, o_eq0, o_ine, o_ne0, o_ilt, o_lt0, o_ige, o_ge0, o_igt, o_gt0, o_ile, o_le0, o_iald, o_zald, o_lald, o_aald, o_iast, o_zast, o_last, o_aast, o_alen, o_gi, o_gr, o_pi, o_pz, o_pr, o_new, o_newa, o_copy, o_oinit, o_call, o_callV, o_callVc, o_callI, popn, cnO, o_BAD, lgt, lst, isL, kil, st1, st2, entL, List.length_nil, List.length_cons, List.replicate, Nat.reduceAdd, Nat.reduceLeDiff, Nat.reduceSub, true_and, and_true, Nat.zero_le, ne_eq, qk_wi, ql_wi, qr_wi, qj_wi, qt_wi, qk_wj, ql_wj, qr_wj, qi_wj, qt_wj, qk_wr, ql_wr, qi_wr, qj_wr, qt_wr, qi_ws, qj_ws, qr_ws, Int.toNat_natCast, Int.toNat_zero, Int.reduceToNat, not_true_eq_false, not_false_eq_true, false_implies, implies_true, Option.some.injEq, reduceCtorEq, Sp0, true_or, or_true, or_self, wi_wi, wj_wj]
      repeat' (first | (with_reducible refine And.intro ?_ ?_) | (with_reducible intro))
      all_goals (try (first | with_reducible assumption | omega | (unfold inI; omega) | (unfold inL; omega) | exact cz_in _ _))
      all_goals (first | exact hk | skip)

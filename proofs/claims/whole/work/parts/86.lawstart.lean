/-! ===== the law: its start ===== -/
def hE (N : Nat) : Hp := (fun _ => 0, fun _ => 0, fun _ _ => 0, fun _ _ => 0, fun _ _ => none, N)
theorem s7c (as : List AV) (h : Hp) : S_X7_init.1 as h = (99, 4722) := rfl
theorem s8c (as : List AV) (h : Hp) : S_X8_init.1 as h = (14, 411653) := rfl
theorem FB.lo {h h' : Hp} {x : Nat} {D : Dd} (H : FB h x D (x + 90)) (e : ∀ b, b < x + 100 → At h h' b) (hq2 : x + 100 ≤ qt h') : FB h' x D (x + 90) ∧ ql h' (x + 90) = ql h (x + 90) := by
  obtain ⟨⟨⟨a1, a2, a3⟩, b1, b2, b3, b4, b5, b6, b7⟩, c1, c2, c3, c4, c5, c6, c7⟩ := H
  have ex := e x (by omega)
  have eR := e (x + 90) (by omega)
  have e83 := e (x + 83) (by omega)
  have e84 := e (x + 83 + 1) (by omega)
  have e89 := e (x + 89) (by omega)
  have e91 := e (x + 89 + 2) (by omega)
  have e92 := e (x + 89 + 3) (by omega)
  have e82 := e (x + 82) (by omega)
  refine ⟨⟨⟨⟨by rw [ex.1]; exact a1, by rw [ex.2.2.2]; exact a2, a3.rg (fun b h1 h2 => e b (by omega))⟩, by rw [ex.2.2.2]; exact b1, ?_, ?_, by rw [ex.2.2.2]; exact b4, ?_, by omega, by omega⟩, by rw [ex.2.2.2]; exact c1, by rw [e82.1]; exact c2, by rw [e82.2.1]; exact c3, by rw [ex.2.2.2]; exact c4, c5.rg (fun b h1 h2 => e b (by omega)), by rw [ex.2.2.2]; exact c6, c7.rg (fun b h1 h2 => e b (by omega))⟩, eR.2.1⟩
  · unfold Chv isCh at *
    rw [e83.1, e83.2.2.2, e84.1, e84.2.1, e84.2.2.1]
    exact b2
  · rw [e83.2.2.1]; exact b3
  · unfold isSp at *
    rw [e89.1, e89.2.2.2, e91.1, e91.2.1, e92.1, e92.2.1, eR.1, eR.2.1]
    exact b5
theorem law_start {B L N : Nat} {xs : Nat → Int} {X : Ctx} (sc : ScX B L xs X) (ok : OkC i_L_law X) (hxs : ∀ j, inI (xs j)) (hL : L ≤ 3072) (hR : ∀ h, xR X (some (vi 1)) h) : V i_L_law X 0 [some (vr (some B)), none, none, none] [] (hE N) (600000, 7302250) := by
  have tE : qt (hE N) = N := rfl
  refine s_L_law_0 X sc ok _ _ _ _ ?_
  simp only [wpS, o_c, o_cl, o_il, o_ll, o_al, o_is, o_ls, o_as, o_inc, o_add, o_sub, o_mul, o_and, o_or, o_xor, o_shl, o_shr, o_div, o_neg, o_ladd, o_lsub, o_lmul, o_ldiv, o_lrem, o_lneg, o_lcmp, o_i2l, o_l2i, o_dup, o_dup2, o_pop, o_go, o_nn, o_sw, swc, o_iret, o_zret, o_lret, o_vret, o_ieq, o_eq0, o_ine, o_ne0, o_ilt, o_lt0, o_ige, o_ge0, o_igt, o_gt0, o_ile, o_le0, o_iald, o_zald, o_lald, o_aald, o_iast, o_zast, o_last, o_aast, o_alen, o_gi, o_gr, o_pi, o_pz, o_pr, o_new, o_newa, o_copy, o_oinit, o_call, o_callV, o_callVc, o_callI, popn, cnO, o_BAD, lgt, lst, isL, kil, st1, st2, entL, List.length_nil, List.length_cons, List.replicate, Nat.reduceAdd, Nat.reduceLeDiff, Nat.reduceSub, true_and, and_true, Nat.zero_le, ne_eq, qk_wi, ql_wi, qr_wi, qj_wi, qt_wi, qk_wj, ql_wj, qr_wj, qi_wj, qt_wj, qk_wr, ql_wr, qi_wr, qj_wr, qt_wr, qi_ws, qj_ws, qr_ws, Int.toNat_natCast, Int.toNat_zero, Int.reduceToNat, not_true_eq_false, not_false_eq_true, false_implies, implies_true, Option.some.injEq, reduceCtorEq, Sp0, true_or, or_true, or_self, wi_wi, wj_wj, s7c, tE]
  repeat' (first | (with_reducible refine And.intro ?_ ?_) | (with_reducible intro))
  all_goals (try (first | with_reducible assumption | omega | (unfold inI; omega) | (unfold inL; omega) | exact cz_in _ _))
  refine ⟨N, rfl, by rw [qk_al, tE, if_pos rfl], rfl, fun h1 e1 t1 f1 l1 k1 => ?_⟩
  simp only [wpS, o_c, o_cl, o_il, o_ll, o_al, o_is, o_ls, o_as, o_inc, o_add, o_sub, o_mul, o_and, o_or, o_xor, o_shl, o_shr, o_div, o_neg, o_ladd, o_lsub, o_lmul, o_ldiv, o_lrem, o_lneg, o_lcmp, o_i2l, o_l2i, o_dup, o_dup2, o_pop, o_go, o_nn, o_sw, swc, o_iret, o_zret, o_lret, o_vret, o_ieq, o_eq0, o_ine, o_ne0, o_ilt, o_lt0, o_ige, o_ge0, o_igt, o_gt0, o_ile, o_le0, o_iald, o_zald, o_lald, o_aald, o_iast, o_zast, o_last, o_aast, o_alen, o_gi, o_gr, o_pi, o_pz, o_pr, o_new, o_newa, o_copy, o_oinit, o_call, o_callV, o_callVc, o_callI, popn, cnO, o_BAD, lgt, lst, isL, kil, st1, st2, entL, List.length_nil, List.length_cons, List.replicate, Nat.reduceAdd, Nat.reduceLeDiff, Nat.reduceSub, true_and, and_true, Nat.zero_le, ne_eq, qk_wi, ql_wi, qr_wi, qj_wi, qt_wi, qk_wj, ql_wj, qr_wj, qi_wj, qt_wj, qk_wr, ql_wr, qi_wr, qj_wr, qt_wr, qi_ws, qj_ws, qr_ws, Int.toNat_natCast, Int.toNat_zero, Int.reduceToNat, not_true_eq_false, not_false_eq_true, false_implies, implies_true, Option.some.injEq, reduceCtorEq, Sp0, true_or, or_true, or_self, wi_wi, wj_wj, s8c, t1]
  repeat' (first | (with_reducible refine And.intro ?_ ?_) | (with_reducible intro))
  all_goals (try (first | with_reducible assumption | omega | (unfold inI; omega) | (unfold inL; omega) | exact cz_in _ _))
  refine ⟨N + 100, rfl, by rw [qk_al, if_pos t1.symm], by rw [qt_al, t1], fun h2 e2 t2 m2 d2 z2 => ?_⟩
  have hLI : ∀ b : Nat × Nat, 245 ≤ b.1 → 228386 ≤ b.2 → LI h2 N b := by
    intro b hb1 hb2
    have w2 := (Eqj.wn h1 18 14 (a := N + 100) (by omega)).tr e2 (Nat.le_refl _)
    have at' : ∀ c, c < N + 100 → At h1 h2 c := fun c hc => w2.1 c hc
    obtain ⟨f2, l2⟩ := f1.lo at' (by omega)
    have kn : ∀ p, kdo dI (fun _ => 0) p = none := fun p => if_neg (show ¬ (0 : Int) = 1 by decide)
    have hn : nF (kdo dI (fun _ => 0)) = 3 := by rw [nF_kdo]; rfl
    refine ⟨dI, fun _ => 0, ⟨N + 90, f2, by omega, ⟨fun p hp => .inl ⟨kn p, by rw [(at' (N + 82) (by omega)).2.2.2]; exact k1 p⟩, fun p p' q q' h3 h4 h5 h6 h7 => ?_⟩, ?_⟩, ⟨m2, d2, z2⟩, fun p hp => .inl rfl⟩
    · rw [(at' (N + 82) (by omega)).2.2.2, k1 p] at h6
      cases h6
    · unfold Bdg
      rw [hn, l2, l1]
      have : pot 2881 = (2, 224000) := rfl
      rw [this]
      dsimp only
      omega
  clear t1 t2
  simp only [wpS, o_c, o_cl, o_il, o_ll, o_al, o_is, o_ls, o_as, o_inc, o_add, o_sub, o_mul, o_and, o_or, o_xor, o_shl, o_shr, o_div, o_neg, o_ladd, o_lsub, o_lmul, o_ldiv, o_lrem, o_lneg, o_lcmp, o_i2l, o_l2i, o_dup, o_dup2, o_pop, o_go, o_nn, o_sw, swc, o_iret, o_zret, o_lret, o_vret, o_ieq, o_eq0, o_ine, o_ne0, o_ilt, o_lt0, o_ige, o_ge0, o_igt, o_gt0, o_ile, o_le0, o_iald, o_zald, o_lald, o_aald, o_iast, o_zast, o_last, o_aast, o_alen, o_gi, o_gr, o_pi, o_pz, o_pr, o_new, o_newa, o_copy, o_oinit, o_call, o_callV, o_callVc, o_callI, popn, cnO, o_BAD, lgt, lst, isL, kil, st1, st2, entL, List.length_nil, List.length_cons, List.replicate, Nat.reduceAdd, Nat.reduceLeDiff, Nat.reduceSub, true_and, and_true, Nat.zero_le, ne_eq, qk_wi, ql_wi, qr_wi, qj_wi, qt_wi, qk_wj, ql_wj, qr_wj, qi_wj, qt_wj, qk_wr, ql_wr, qi_wr, qj_wr, qt_wr, qi_ws, qj_ws, qr_ws, Int.toNat_natCast, Int.toNat_zero, Int.reduceToNat, not_true_eq_false, not_false_eq_true, false_implies, implies_true, Option.some.injEq, reduceCtorEq, Sp0, true_or, or_true, or_self, wi_wi, wj_wj]
  repeat' (first | (with_reducible refine And.intro ?_ ?_) | (with_reducible intro))
  all_goals (try (first | with_reducible assumption | omega | (unfold inI; omega) | (unfold inL; omega) | exact cz_in _ _))
  all_goals (first | exact law_loop sc ok hxs hL hR L 0 h2 _ (by omega) (by omega) (hLI _ (by decide) (by decide)) | skip)

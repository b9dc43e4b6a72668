/-! ===== facts that speak of a range of cells ===== -/
def At (h h' : Hp) (b : Nat) : Prop := qk h' b = qk h b ∧ ql h' b = ql h b ∧ qi h' b = qi h b ∧ qr h' b = qr h b
def Rg (h h' : Hp) (lo hi : Nat) : Prop := ∀ b, lo ≤ b → b < hi → At h h' b
theorem Rg.sub {h h' : Hp} {lo hi l2 h2 : Nat} (e : Rg h h' lo hi) (h1 : lo ≤ l2) (h3 : h2 ≤ hi) : Rg h h' l2 h2 := fun b a1 a2 => e b (by omega) (by omega)
theorem Rg.tr {h h1 h2 : Hp} {lo hi : Nat} (e : Rg h h1 lo hi) (f : Rg h1 h2 lo hi) : Rg h h2 lo hi := fun b a1 a2 => ⟨(f b a1 a2).1.trans (e b a1 a2).1, (f b a1 a2).2.1.trans (e b a1 a2).2.1, (f b a1 a2).2.2.1.trans (e b a1 a2).2.2.1, (f b a1 a2).2.2.2.trans (e b a1 a2).2.2.2⟩
theorem Rg.rf (h : Hp) (lo hi : Nat) : Rg h h lo hi := fun _ _ _ => ⟨rfl, rfl, rfl, rfl⟩
theorem Rg.eqj {h h' : Hp} {lo n hi : Nat} (e : Eqj h h' n) (hn : hi ≤ n) : Rg h h' lo hi := fun b _ h2 => e.1 b (by omega)
theorem Rg.wr {h : Hp} {lo hi x : Nat} {f : Nat → Option Nat} (hx : x < lo ∨ hi ≤ x) : Rg h (wr h x f) lo hi := fun b _ _ => ⟨rfl, rfl, rfl, qr_wn (by omega)⟩
theorem Rg.chg {h h' : Hp} {lo hi l2 h2 : Nat} (e : Chg h h' l2 h2) (hx : hi ≤ l2 ∨ h2 ≤ lo) : Rg h h' lo hi := fun b _ _ => ⟨by rw [e.1], by rw [e.2.1], e.2.2.2.2.2 b (by omega), by rw [e.2.2.1]⟩
theorem isMe.rg {h h' : Hp} {p : Nat} (H : isMe h p) (e : Rg h h' p (p + 5)) : isMe h' p := by
  unfold isMe at *
  rw [(e p (by omega) (by omega)).1, (e p (by omega) (by omega)).2.2.2, (e (p + 1) (by omega) (by omega)).1, (e (p + 1) (by omega) (by omega)).2.1, (e (p + 2) (by omega) (by omega)).1, (e (p + 2) (by omega) (by omega)).2.1, (e (p + 3) (by omega) (by omega)).1, (e (p + 3) (by omega) (by omega)).2.1, (e (p + 4) (by omega) (by omega)).1, (e (p + 4) (by omega) (by omega)).2.1]
  exact H
theorem MeC.rg {h h' : Hp} {p : Nat} {d : Dd} {m : Nat} (H : MeC h p d m) (e : Rg h h' p (p + 5)) : MeC h' p d m := by
  unfold MeC at *
  rw [(e p (by omega) (by omega)).2.2.1, (e (p + 1) (by omega) (by omega)).2.2.1, (e (p + 2) (by omega) (by omega)).2.2.1, (e (p + 3) (by omega) (by omega)).2.2.1, (e (p + 4) (by omega) (by omega)).2.2.1]
  exact H
theorem isCh.rg {h h' : Hp} {p : Nat} (H : isCh h p) (e : Rg h h' p (p + 2)) : isCh h' p := by
  unfold isCh at *
  rw [(e p (by omega) (by omega)).1, (e p (by omega) (by omega)).2.2.2, (e (p + 1) (by omega) (by omega)).1, (e (p + 1) (by omega) (by omega)).2.1]
  exact H
theorem isLo.rg {h h' : Hp} {p : Nat} (H : isLo h p) (e : Rg h h' p (p + 2)) : isLo h' p := by
  unfold isLo at *
  rw [(e p (by omega) (by omega)).1, (e p (by omega) (by omega)).2.2.2, (e (p + 1) (by omega) (by omega)).1, (e (p + 1) (by omega) (by omega)).2.1]
  exact H
theorem ChC.rg {h h' : Hp} {p c : Nat} {d : Dd} (H : ChC h p d c) (e : Rg h h' p (p + 2)) : ChC h' p d c := by
  unfold ChC at *
  rw [(e p (by omega) (by omega)).2.2.1, (e (p + 1) (by omega) (by omega)).2.2.1]
  exact H
theorem LoC.rg {h h' : Hp} {p c : Nat} {d : Dd} (H : LoC h p d c) (e : Rg h h' p (p + 2)) : LoC h' p d c := by
  unfold LoC at *
  rw [(e p (by omega) (by omega)).2.2.1, (e (p + 1) (by omega) (by omega)).2.2.1]
  exact H
theorem isSt.rg {h h' : Hp} {a : Nat} (H : isSt h a) (e : Rg h h' a (a + 81)) : isSt h' a := by
  unfold isSt at *
  rw [(e a (by omega) (by omega)).1, (e a (by omega) (by omega)).2.2.2, (e (a + 1) (by omega) (by omega)).1, (e (a + 1) (by omega) (by omega)).2.1, (e (a + 2) (by omega) (by omega)).1, (e (a + 2) (by omega) (by omega)).2.1, (e (a + 3) (by omega) (by omega)).1, (e (a + 3) (by omega) (by omega)).2.1, (e (a + 4) (by omega) (by omega)).1, (e (a + 4) (by omega) (by omega)).2.1, (e (a + 1) (by omega) (by omega)).2.2.2, (e (a + 2) (by omega) (by omega)).2.2.2, (e (a + 3) (by omega) (by omega)).2.2.2]
  obtain ⟨h1, h2, h3, h4, h5, h6, h7, h8, h9, h10, h11, h12, h13, h14, h15, h16, h17, h18, h19⟩ := H
  exact ⟨h1, h2, h3, h4, h5, h6, h7, h8, h9, h10, h11, h12, h13, h14, fun m hm => (h15 m hm).rg (e.sub (by omega) (by omega)), h16, fun m hm => (h17 m hm).rg (e.sub (by omega) (by omega)), h18, fun m hm => (h19 m hm).rg (e.sub (by omega) (by omega))⟩
theorem StC.rg {h h' : Hp} {a : Nat} {d : Dd} (H : StC h a d) (e : Rg h h' a (a + 81)) : StC h' a d := by
  obtain ⟨h1, h2, h3, h4⟩ := H
  refine ⟨fun m hm => (h1 m hm).rg (e.sub (by omega) (by omega)), fun m hm => (h2 m hm).rg (e.sub (by omega) (by omega)), fun m hm => (h3 m hm).rg (e.sub (by omega) (by omega)), ?_⟩
  rw [(e (a + 4) (by omega) (by omega)).2.2.1]
  exact h4
theorem Stt.rg {h h' : Hp} {a : Nat} {d : Dd} (H : Stt h a d) (e : Rg h h' a (a + 81)) : Stt h' a d := ⟨H.1.rg e, H.2.1.rg e, H.2.2⟩
theorem isDr.rg {h h' : Hp} {D : Nat} (H : isDr h D) (e : Rg h h' D (D + 4)) : isDr h' D := by
  unfold isDr at *
  rw [(e D (by omega) (by omega)).1, (e D (by omega) (by omega)).2.2.2, (e (D + 1) (by omega) (by omega)).1, (e (D + 1) (by omega) (by omega)).2.1, (e (D + 2) (by omega) (by omega)).1, (e (D + 2) (by omega) (by omega)).2.1, (e (D + 3) (by omega) (by omega)).1, (e (D + 3) (by omega) (by omega)).2.1]
  exact H
theorem isCa.rg {h h' : Hp} {C : Nat} (H : isCa h C) (e : Rg h h' C (C + 7)) : isCa h' C := by
  unfold isCa at *
  rw [(e C (by omega) (by omega)).1, (e C (by omega) (by omega)).2.2.2, (e (C + 1) (by omega) (by omega)).1, (e (C + 1) (by omega) (by omega)).2.1, (e (C + 2) (by omega) (by omega)).1, (e (C + 2) (by omega) (by omega)).2.1, (e (C + 3) (by omega) (by omega)).1, (e (C + 3) (by omega) (by omega)).2.1, (e (C + 4) (by omega) (by omega)).1, (e (C + 4) (by omega) (by omega)).2.1, (e (C + 5) (by omega) (by omega)).1, (e (C + 5) (by omega) (by omega)).2.1, (e (C + 6) (by omega) (by omega)).1, (e (C + 6) (by omega) (by omega)).2.1]
  exact H
theorem isSp.rg {h h' : Hp} {S : Nat} (H : isSp h S (S + 1)) (e : Rg h h' S (S + 4)) : isSp h' S (S + 1) := by
  unfold isSp at *
  rw [(e S (by omega) (by omega)).1, (e S (by omega) (by omega)).2.2.2, (e (S + 1) (by omega) (by omega)).1, (e (S + 1) (by omega) (by omega)).2.1, (e (S + 2) (by omega) (by omega)).1, (e (S + 2) (by omega) (by omega)).2.1, (e (S + 3) (by omega) (by omega)).1, (e (S + 3) (by omega) (by omega)).2.1]
  exact H
/-! ===== FitBench.back ===== -/
def T_X7_back : TT := fun as h K => ∃ (X : Nat) (p : Int) (d : Dd), as = [vr (some X), vi p] ∧ Nw h X (X + 1) d ∧ qr h X 1 = some (X + 82) ∧ qk h (X + 82) = 7 ∧ ql h (X + 82) = 3 ∧ inI p ∧ (¬ (0 ≤ p ∧ p ≤ 2) → K (some (vi 0)) h) ∧ (0 ≤ p ∧ p ≤ 2 → (qr h (X + 82) p.toNat = none ∧ K (some (vi 0)) h) ∨ ∃ b e, qr h (X + 82) p.toNat = some b ∧ Stt h b e ∧ X + 82 ≤ b ∧ ∀ h', Chg h h' (X + 1) (X + 82) → Stt h' (X + 1) e → K (some (vi 1)) h')
abbrev i_X7_back : MI := (cX7_back, 2, RX7, (some .boolean), "back", 4)
theorem k_X7_back_0 : Okop i_X7_back 0 (o_il 1) 1 := k_iln (j := 1) (by decide +kernel)
theorem k_X7_back_1 : Okop i_X7_back 1 (o_call 1 T_X7_isPlace) 4 := k_call (idx := 252) m_X7_isPlace ⟨gw_628, gw_1, ⟨by decide, by decide, by decide +kernel⟩, by decide, by decide⟩ gw_626 gw_627 (by decide +kernel)
theorem k_X7_back_4 : Okop i_X7_back 4 (o_eq0 16) 7 := k_eq0 (off := 12) (by decide +kernel) (by decide)
theorem k_X7_back_7 : Okop i_X7_back 7 (o_al 0) 8 := k_aln (j := 0) (by decide +kernel)
theorem k_X7_back_8 : Okop i_X7_back 8 (o_gr 7 1) 11 := k_gr (idx := 16) fo_7 (by decide) (by decide) gw_256 (by decide +kernel)
theorem k_X7_back_11 : Okop i_X7_back 11 (o_il 1) 12 := k_iln (j := 1) (by decide +kernel)
theorem k_X7_back_12 : Okop i_X7_back 12 (o_aald) 13 := k_aald (by decide +kernel)
theorem k_X7_back_13 : Okop i_X7_back 13 (o_nn 18) 16 := k_nn (off := 5) (by decide +kernel) (by decide)
theorem k_X7_back_16 : Okop i_X7_back 16 (o_c 0) 17 := k_iconst (by decide +kernel)
theorem k_X7_back_17 : Okop i_X7_back 17 (o_zret) 18 := k_zret (by decide +kernel) rfl
theorem k_X7_back_18 : Okop i_X7_back 18 (o_al 0) 19 := k_aln (j := 0) (by decide +kernel)
theorem k_X7_back_19 : Okop i_X7_back 19 (o_gr 7 0) 22 := k_gr (idx := 12) fo_7 (by decide) (by decide) gw_255 (by decide +kernel)
theorem k_X7_back_22 : Okop i_X7_back 22 (o_al 0) 23 := k_aln (j := 0) (by decide +kernel)
theorem k_X7_back_23 : Okop i_X7_back 23 (o_gr 7 1) 26 := k_gr (idx := 16) fo_7 (by decide) (by decide) gw_256 (by decide +kernel)
theorem k_X7_back_26 : Okop i_X7_back 26 (o_il 1) 27 := k_iln (j := 1) (by decide +kernel)
theorem k_X7_back_27 : Okop i_X7_back 27 (o_aald) 28 := k_aald (by decide +kernel)
theorem k_X7_back_28 : Okop i_X7_back 28 (o_callV 6 1 T_X6_takeAll) 31 := k_callV (idx := 255) (r0 := (RX6, TX6, 4)) m_X6_takeAll ⟨gw_632, gw_2, ⟨by decide, by decide, by decide +kernel⟩, by decide, by decide⟩ rfl gw_629 gw_630 gw_631 (by decide +kernel)
theorem k_X7_back_31 : Okop i_X7_back 31 (o_c 1) 32 := k_iconst (by decide +kernel)
theorem k_X7_back_32 : Okop i_X7_back 32 (o_zret) 33 := k_zret (by decide +kernel) rfl
theorem s_X7_back_0 : Seg i_X7_back 0 [o_il 1, o_call 1 T_X7_isPlace, o_eq0 16, o_al 0, o_gr 7 1, o_il 1, o_aald, o_nn 18, o_c 0, o_zret] 18 := Seg.cons k_X7_back_0 (Seg.cons k_X7_back_1 (Seg.cons k_X7_back_4 (Seg.cons k_X7_back_7 (Seg.cons k_X7_back_8 (Seg.cons k_X7_back_11 (Seg.cons k_X7_back_12 (Seg.cons k_X7_back_13 (Seg.cons k_X7_back_16 (Seg.cons k_X7_back_17 (Seg.nil))))))))))
theorem s_X7_back_16 : Seg i_X7_back 16 [o_c 0, o_zret] 18 := Seg.cons k_X7_back_16 (Seg.cons k_X7_back_17 (Seg.nil))
theorem s_X7_back_18 : Seg i_X7_back 18 [o_al 0, o_gr 7 0, o_al 0, o_gr 7 1, o_il 1, o_aald, o_callV 6 1 T_X6_takeAll, o_c 1, o_zret] 33 := Seg.cons k_X7_back_18 (Seg.cons k_X7_back_19 (Seg.cons k_X7_back_22 (Seg.cons k_X7_back_23 (Seg.cons k_X7_back_26 (Seg.cons k_X7_back_27 (Seg.cons k_X7_back_28 (Seg.cons k_X7_back_31 (Seg.cons k_X7_back_32 (Seg.nil)))))))))

theorem m_X7_back : Mth yX7_back cX7_back 2 (some .boolean) 4 (Sp0 T_X7_back) := by
  refine Mth.of (by decide) ?_
  rintro x as h ok ⟨X, p, d, rfl, ⟨kx, rx, hS⟩, r1, kk, lk, ip, hK1, hK2⟩
  refine ⟨Nat.le_of_ble_eq_true rfl, ?_⟩
  by_cases q : 0 ≤ p ∧ p ≤ 2
  · obtain ⟨P, rfl, hP⟩ : ∃ C : Nat, p = (C : Int) ∧ C < 3 := ⟨p.toNat, by omega, by omega⟩
    have hK := hK2 q
    rw [Int.toNat_natCast] at hK
    rcases hK with ⟨hn, hK⟩ | ⟨b, e, hb, hE, hXb, hK⟩
    · refine s_X7_back_0 x ok _ _ _ _ ?_
      simp only [wpS, o_c, o_cl, o_il, o_ll, o_al, o_is, o_ls, o_as, o_inc, o_add, o_sub, o_mul, o_and, o_or, o_xor, o_shl, o_shr, o_div, o_neg, o_ladd, o_lsub, o_lmul, o_ldiv, o_lrem, o_lneg, o_lcmp, o_i2l, o_l2i, o_dup, o_dup2, o_pop, o_go, o_nn, o_sw, swc, o_iret, o_zret, o_lret, o_vret, o_ieq, o_eq0, o_ine, o_ne0, o_ilt, o_lt0, o_ige, o_ge0, o_igt, o_gt0, o_ile, o_le0, o_iald, o_zald, o_lald, o_aald, o_iast, o_zast, o_last, o_aast, o_alen, o_gi, o_gr, o_pi, o_pz, o_pr, o_new, o_newa, o_copy, o_oinit, o_call, o_callV, o_callVc, o_callI, popn, cnO, o_BAD, lgt, lst, isL, kil, st1, st2, entL, List.length_nil, List.length_cons, List.replicate, Nat.reduceAdd, Nat.reduceLeDiff, Nat.reduceSub, true_and, and_true, Nat.zero_le, ne_eq, qk_wi, ql_wi, qr_wi, qj_wi, qt_wi, qk_wj, ql_wj, qr_wj, qi_wj, qt_wj, qk_wr, ql_wr, qi_wr, qj_wr, qt_wr, qi_ws, qj_ws, qr_ws, Int.toNat_natCast, Int.toNat_zero, Int.reduceToNat, not_true_eq_false, not_false_eq_true, false_implies, implies_true, Option.some.injEq, reduceCtorEq, Sp0, true_or, or_true, or_self, wi_wi, wj_wj]
      repeat' (first | (with_reducible refine And.intro ?_ ?_) | (with_reducible intro))
      all_goals (try (first | with_reducible assumption | omega | (unfold inI; omega) | (unfold inL; omega) | exact cz_in _ _))
      refine c_rg ⟨ip, fun _ => ?_, fun z => by omega⟩
      simp only [wpS, o_c, o_cl, o_il, o_ll, o_al, o_is, o_ls, o_as, o_inc, o_add, o_sub, o_mul, o_and, o_or, o_xor, o_shl, o_shr, o_div, o_neg, o_ladd, o_lsub, o_lmul, o_ldiv, o_lrem, o_lneg, o_lcmp, o_i2l, o_l2i, o_dup, o_dup2, o_pop, o_go, o_nn, o_sw, swc, o_iret, o_zret, o_lret, o_vret, o_ieq, o_eq0, o_ine, o_ne0, o_ilt, o_lt0, o_ige, o_ge0, o_igt, o_gt0, o_ile, o_le0, o_iald, o_zald, o_lald, o_aald, o_iast, o_zast, o_last, o_aast, o_alen, o_gi, o_gr, o_pi, o_pz, o_pr, o_new, o_newa, o_copy, o_oinit, o_call, o_callV, o_callVc, o_callI, popn, cnO, o_BAD, lgt, lst, isL, kil, st1, st2, entL, List.length_nil, List.length_cons, List.replicate, Nat.reduceAdd, Nat.reduceLeDiff, Nat.reduceSub, true_and, and_true, Nat.zero_le, ne_eq, qk_wi, ql_wi, qr_wi, qj_wi, qt_wi, qk_wj, ql_wj, qr_wj, qi_wj, qt_wj, qk_wr, ql_wr, qi_wr, qj_wr, qt_wr, qi_ws, qj_ws, qr_ws, Int.toNat_natCast, Int.toNat_zero, Int.reduceToNat, not_true_eq_false, not_false_eq_true, false_implies, implies_true, Option.some.injEq, reduceCtorEq, Sp0, true_or, or_true, or_self, wi_wi, wj_wj, kx, r1, kk, lk, hn]
      repeat' (first | (with_reducible refine And.intro ?_ ?_) | (with_reducible intro))
      all_goals (try (first | with_reducible assumption | omega | (unfold inI; omega) | (unfold inL; omega) | exact cz_in _ _))
      all_goals (first | (exfalso; omega) | exact hK)
    · refine s_X7_back_0 x ok _ _ _ _ ?_
      simp only [wpS, o_c, o_cl, o_il, o_ll, o_al, o_is, o_ls, o_as, o_inc, o_add, o_sub, o_mul, o_and, o_or, o_xor, o_shl, o_shr, o_div, o_neg, o_ladd, o_lsub, o_lmul, o_ldiv, o_lrem, o_lneg, o_lcmp, o_i2l, o_l2i, o_dup, o_dup2, o_pop, o_go, o_nn, o_sw, swc, o_iret, o_zret, o_lret, o_vret, o_ieq, o_eq0, o_ine, o_ne0, o_ilt, o_lt0, o_ige, o_ge0, o_igt, o_gt0, o_ile, o_le0, o_iald, o_zald, o_lald, o_aald, o_iast, o_zast, o_last, o_aast, o_alen, o_gi, o_gr, o_pi, o_pz, o_pr, o_new, o_newa, o_copy, o_oinit, o_call, o_callV, o_callVc, o_callI, popn, cnO, o_BAD, lgt, lst, isL, kil, st1, st2, entL, List.length_nil, List.length_cons, List.replicate, Nat.reduceAdd, Nat.reduceLeDiff, Nat.reduceSub, true_and, and_true, Nat.zero_le, ne_eq, qk_wi, ql_wi, qr_wi, qj_wi, qt_wi, qk_wj, ql_wj, qr_wj, qi_wj, qt_wj, qk_wr, ql_wr, qi_wr, qj_wr, qt_wr, qi_ws, qj_ws, qr_ws, Int.toNat_natCast, Int.toNat_zero, Int.reduceToNat, not_true_eq_false, not_false_eq_true, false_implies, implies_true, Option.some.injEq, reduceCtorEq, Sp0, true_or, or_true, or_self, wi_wi, wj_wj]
      repeat' (first | (with_reducible refine And.intro ?_ ?_) | (with_reducible intro))
      all_goals (try (first | with_reducible assumption | omega | (unfold inI; omega) | (unfold inL; omega) | exact cz_in _ _))
      refine c_rg ⟨ip, fun _ => ?_, fun z => by omega⟩
      simp only [wpS, o_c, o_cl, o_il, o_ll, o_al, o_is, o_ls, o_as, o_inc, o_add, o_sub, o_mul, o_and, o_or, o_xor, o_shl, o_shr, o_div, o_neg, o_ladd, o_lsub, o_lmul, o_ldiv, o_lrem, o_lneg, o_lcmp, o_i2l, o_l2i, o_dup, o_dup2, o_pop, o_go, o_nn, o_sw, swc, o_iret, o_zret, o_lret, o_vret, o_ieq, o_eq0, o_ine, o_ne0, o_ilt, o_lt0, o_ige, o_ge0, o_igt, o_gt0, o_ile, o_le0, o_iald, o_zald, o_lald, o_aald, o_iast, o_zast, o_last, o_aast, o_alen, o_gi, o_gr, o_pi, o_pz, o_pr, o_new, o_newa, o_copy, o_oinit, o_call, o_callV, o_callVc, o_callI, popn, cnO, o_BAD, lgt, lst, isL, kil, st1, st2, entL, List.length_nil, List.length_cons, List.replicate, Nat.reduceAdd, Nat.reduceLeDiff, Nat.reduceSub, true_and, and_true, Nat.zero_le, ne_eq, qk_wi, ql_wi, qr_wi, qj_wi, qt_wi, qk_wj, ql_wj, qr_wj, qi_wj, qt_wj, qk_wr, ql_wr, qi_wr, qj_wr, qt_wr, qi_ws, qj_ws, qr_ws, Int.toNat_natCast, Int.toNat_zero, Int.reduceToNat, not_true_eq_false, not_false_eq_true, false_implies, implies_true, Option.some.injEq, reduceCtorEq, Sp0, true_or, or_true, or_self, wi_wi, wj_wj, kx, r1, kk, lk, hb]
      repeat' (first | (with_reducible refine And.intro ?_ ?_) | (with_reducible intro))
      all_goals (try (first | with_reducible assumption | omega | (unfold inI; omega) | (unfold inL; omega) | exact cz_in _ _))
      all_goals (try (exfalso; omega))
      refine s_X7_back_18 x ok _ _ _ _ ?_
      simp only [wpS, o_c, o_cl, o_il, o_ll, o_al, o_is, o_ls, o_as, o_inc, o_add, o_sub, o_mul, o_and, o_or, o_xor, o_shl, o_shr, o_div, o_neg, o_ladd, o_lsub, o_lmul, o_ldiv, o_lrem, o_lneg, o_lcmp, o_i2l, o_l2i, o_dup, o_dup2, o_pop, o_go, o_nn, o_sw, swc, o_iret, o_zret, o_lret, o_vret, o_ieq, o_eq0, o_ine, o_ne0, o_ilt, o_lt0, o_ige, o_ge0, o_igt, o_gt0, o_ile, o_le0, o_iald, o_zald, o_lald, o_aald, o_iast, o_zast, o_last, o_aast, o_alen, o_gi, o_gr, o_pi, o_pz, o_pr, o_new, o_newa, o_copy, o_oinit, o_call, o_callV, o_callVc, o_callI, popn, cnO, o_BAD, lgt, lst, isL, kil, st1, st2, entL, List.length_nil, List.length_cons, List.replicate, Nat.reduceAdd, Nat.reduceLeDiff, Nat.reduceSub, true_and, and_true, Nat.zero_le, ne_eq, qk_wi, ql_wi, qr_wi, qj_wi, qt_wi, qk_wj, ql_wj, qr_wj, qi_wj, qt_wj, qk_wr, ql_wr, qi_wr, qj_wr, qt_wr, qi_ws, qj_ws, qr_ws, Int.toNat_natCast, Int.toNat_zero, Int.reduceToNat, not_true_eq_false, not_false_eq_true, false_implies, implies_true, Option.some.injEq, reduceCtorEq, Sp0, true_or, or_true, or_self, wi_wi, wj_wj, kx, rx, r1, kk, lk, hb, hS.k]
      repeat' (first | (with_reducible refine And.intro ?_ ?_) | (with_reducible intro))
      all_goals (try (first | with_reducible assumption | omega | (unfold inI; omega) | (unfold inL; omega) | exact cz_in _ _))
      refine c_takeAllS hS.1 hE (by omega) (fun h' g1 g2 => ?_)
      simp only [wpS, o_c, o_cl, o_il, o_ll, o_al, o_is, o_ls, o_as, o_inc, o_add, o_sub, o_mul, o_and, o_or, o_xor, o_shl, o_shr, o_div, o_neg, o_ladd, o_lsub, o_lmul, o_ldiv, o_lrem, o_lneg, o_lcmp, o_i2l, o_l2i, o_dup, o_dup2, o_pop, o_go, o_nn, o_sw, swc, o_iret, o_zret, o_lret, o_vret, o_ieq, o_eq0, o_ine, o_ne0, o_ilt, o_lt0, o_ige, o_ge0, o_igt, o_gt0, o_ile, o_le0, o_iald, o_zald, o_lald, o_aald, o_iast, o_zast, o_last, o_aast, o_alen, o_gi, o_gr, o_pi, o_pz, o_pr, o_new, o_newa, o_copy, o_oinit, o_call, o_callV, o_callVc, o_callI, popn, cnO, o_BAD, lgt, lst, isL, kil, st1, st2, entL, List.length_nil, List.length_cons, List.replicate, Nat.reduceAdd, Nat.reduceLeDiff, Nat.reduceSub, true_and, and_true, Nat.zero_le, ne_eq, qk_wi, ql_wi, qr_wi, qj_wi, qt_wi, qk_wj, ql_wj, qr_wj, qi_wj, qt_wj, qk_wr, ql_wr, qi_wr, qj_wr, qt_wr, qi_ws, qj_ws, qr_ws, Int.toNat_natCast, Int.toNat_zero, Int.reduceToNat, not_true_eq_false, not_false_eq_true, false_implies, implies_true, Option.some.injEq, reduceCtorEq, Sp0, true_or, or_true, or_self, wi_wi, wj_wj]
      repeat' (first | (with_reducible refine And.intro ?_ ?_) | (with_reducible intro))
      all_goals (try (first | with_reducible assumption | omega | (unfold inI; omega) | (unfold inL; omega) | exact cz_in _ _))
      exact hK h' g1 g2
  · have hK := hK1 q
    refine s_X7_back_0 x ok _ _ _ _ ?_
    simp only [wpS, o_c, o_cl, o_il, o_ll, o_al, o_is, o_ls, o_as, o_inc, o_add, o_sub, o_mul, o_and, o_or, o_xor, o_shl, o_shr, o_div, o_neg, o_ladd, o_lsub, o_lmul, o_ldiv, o_lrem, o_lneg, o_lcmp, o_i2l, o_l2i, o_dup, o_dup2, o_pop, o_go, o_nn, o_sw, swc, o_iret, o_zret, o_lret, o_vret, o_ieq, o_eq0, o_ine, o_ne0, o_ilt, o_lt0, o_ige, o_ge0, o_igt, o_gt0, o_ile, o_le0, o_iald, o_zald, o_lald, o_aald, o_iast, o_zast, o_last, o_aast, o_alen, o_gi, o_gr, o_pi, o_pz, o_pr, o_new, o_newa, o_copy, o_oinit, o_call, o_callV, o_callVc, o_callI, popn, cnO, o_BAD, lgt, lst, isL, kil, st1, st2, entL, List.length_nil, List.length_cons, List.replicate, Nat.reduceAdd, Nat.reduceLeDiff, Nat.reduceSub, true_and, and_true, Nat.zero_le, ne_eq, qk_wi, ql_wi, qr_wi, qj_wi, qt_wi, qk_wj, ql_wj, qr_wj, qi_wj, qt_wj, qk_wr, ql_wr, qi_wr, qj_wr, qt_wr, qi_ws, qj_ws, qr_ws, Int.toNat_natCast, Int.toNat_zero, Int.reduceToNat, not_true_eq_false, not_false_eq_true, false_implies, implies_true, Option.some.injEq, reduceCtorEq, Sp0, true_or, or_true, or_self, wi_wi, wj_wj]
    repeat' (first | (with_reducible refine And.intro ?_ ?_) | (with_reducible intro))
    all_goals (try (first | with_reducible assumption | omega | (unfold inI; omega) | (unfold inL; omega) | exact cz_in _ _))
    refine c_rg ⟨ip, fun z => by omega, fun z => ?_⟩
    simp only [wpS, o_c, o_cl, o_il, o_ll, o_al, o_is, o_ls, o_as, o_inc, o_add, o_sub, o_mul, o_and, o_or, o_xor, o_shl, o_shr, o_div, o_neg, o_ladd, o_lsub, o_lmul, o_ldiv, o_lrem, o_lneg, o_lcmp, o_i2l, o_l2i, o_dup, o_dup2, o_pop, o_go, o_nn, o_sw, swc, o_iret, o_zret, o_lret, o_vret, o_ieq, o_eq0, o_ine, o_ne0, o_ilt, o_lt0, o_ige, o_ge0, o_igt, o_gt0, o_ile, o_le0, o_iald, o_zald, o_lald, o_aald, o_iast, o_zast, o_last, o_aast, o_alen, o_gi, o_gr, o_pi, o_pz, o_pr, o_new, o_newa, o_copy, o_oinit, o_call, o_callV, o_callVc, o_callI, popn, cnO, o_BAD, lgt, lst, isL, kil, st1, st2, entL, List.length_nil, List.length_cons, List.replicate, Nat.reduceAdd, Nat.reduceLeDiff, Nat.reduceSub, true_and, and_true, Nat.zero_le, ne_eq, qk_wi, ql_wi, qr_wi, qj_wi, qt_wi, qk_wj, ql_wj, qr_wj, qi_wj, qt_wj, qk_wr, ql_wr, qi_wr, qj_wr, qt_wr, qi_ws, qj_ws, qr_ws, Int.toNat_natCast, Int.toNat_zero, Int.reduceToNat, not_true_eq_false, not_false_eq_true, false_implies, implies_true, Option.some.injEq, reduceCtorEq, Sp0, true_or, or_true, or_self, wi_wi, wj_wj]
    repeat' (first | (with_reducible refine And.intro ?_ ?_) | (with_reducible intro))
    all_goals (try (first | with_reducible assumption | omega | (unfold inI; omega) | (unfold inL; omega) | exact cz_in _ _))
    all_goals (try (exfalso; omega))
    all_goals (try ((first | (refine s_X7_back_0 x ok _ _ _ _ ?_) | (refine s_X7_back_16 x ok _ _ _ _ ?_) | (refine s_X7_back_18 x ok _ _ _ _ ?_)); (try simp only [wpS, o_c, o_cl, o_il, o_ll, o_al, o_is, o_ls, o_as, o_inc, o_add, o_sub, o_mul, o_and, o_or, o_xor, o_shl, o_shr, o_div, o_neg, o_ladd, o_lsub, o_lmul, o_ldiv, o_lrem, o_lneg, o_lcmp, o_i2l, o_l2i, o_dup, o_dup2, o_pop, o_go, o_nn, o_sw, swc, o_iret, o_zret, o_lret, o_vret, o_ieq, o_eq0, o_ine, o_ne0, o_ilt, o_lt0, o_ige, o_ge0, o_igt, o_gt0, o_ile, o_le0, o_iald, o_zald, o_lald, o_aald, o_iast, o_zast, o_last, o_aast, o_alen, o_gi, o_gr, o_pi, o_pz, o_pr, o_new, o_newa, o_copy, o_oinit, o_call, o_callV, o_callVc, o_callI, popn, cnO, o_BAD, lgt, lst, isL, kil, st1, st2, entL, List.length_nil, List.length_cons, List.replicate, Nat.reduceAdd, Nat.reduceLeDiff, Nat.reduceSub, true_and, and_true, Nat.zero_le, ne_eq, qk_wi, ql_wi, qr_wi, qj_wi, qt_wi, qk_wj, ql_wj, qr_wj, qi_wj, qt_wj, qk_wr, ql_wr, qi_wr, qj_wr, qt_wr, qi_ws, qj_ws, qr_ws, Int.toNat_natCast, Int.toNat_zero, Int.reduceToNat, not_true_eq_false, not_false_eq_true, false_implies, implies_true, Option.some.injEq, reduceCtorEq, Sp0, true_or, or_true, or_self, wi_wi, wj_wj]); (repeat' (first | (with_reducible refine And.intro ?_ ?_) | (with_reducible intro))); (all_goals (try (first | assumption | omega | (unfold inI; omega))))))
/-! ===== FitBench.image ===== -/
def B_X7_image : TB := fun as h c K => ∃ (X : Nat) (p : Int) (d : Dd), as = [vr (some X), vi p] ∧ Nw h X (X + 1) d ∧ X + 100 ≤ qt h ∧ qr h X 1 = some (X + 82) ∧ qk h (X + 82) = 7 ∧ ql h (X + 82) = 3 ∧ inI p ∧ (¬ (0 ≤ p ∧ p ≤ 2) → K (some (vi 0)) h) ∧ (0 ≤ p ∧ p ≤ 2 → (qr h (X + 82) p.toNat = none ∧ 81 ≤ c.1 ∧ 1462 ≤ c.2 ∧ ∀ h', Eqj (wr h (X + 82) (fu (qr h (X + 82)) p.toNat (some (qt h)))) h' (qt h) → qt h' = qt h + 81 → Stt h' (qt h) d → K (some (vi 1)) h') ∨ ∃ b, qr h (X + 82) p.toNat = some b ∧ isSt h b ∧ X + 82 ≤ b ∧ ∀ h', Chg h h' b (b + 81) → Stt h' b d → K (some (vi 1)) h')
theorem s6c (as : List AV) (h : Hp) : S_X6_init.1 as h = (80, 1458) := rfl
abbrev i_X7_image : MI := (cX7_image, 2, RX7, (some .boolean), "image", 4)
theorem k_X7_image_0 : Okop i_X7_image 0 (o_il 1) 1 := k_iln (j := 1) (by decide +kernel)
theorem k_X7_image_1 : Okop i_X7_image 1 (o_call 1 T_X7_isPlace) 4 := k_call (idx := 252) m_X7_isPlace ⟨gw_628, gw_1, ⟨by decide, by decide, by decide +kernel⟩, by decide, by decide⟩ gw_626 gw_627 (by decide +kernel)
theorem k_X7_image_4 : Okop i_X7_image 4 (o_ne0 9) 7 := k_ne0 (off := 5) (by decide +kernel) (by decide)
theorem k_X7_image_7 : Okop i_X7_image 7 (o_c 0) 8 := k_iconst (by decide +kernel)
theorem k_X7_image_8 : Okop i_X7_image 8 (o_zret) 9 := k_zret (by decide +kernel) rfl
theorem k_X7_image_9 : Okop i_X7_image 9 (o_al 0) 10 := k_aln (j := 0) (by decide +kernel)
theorem k_X7_image_10 : Okop i_X7_image 10 (o_gr 7 1) 13 := k_gr (idx := 16) fo_7 (by decide) (by decide) gw_256 (by decide +kernel)
theorem k_X7_image_13 : Okop i_X7_image 13 (o_il 1) 14 := k_iln (j := 1) (by decide +kernel)
theorem k_X7_image_14 : Okop i_X7_image 14 (o_aald) 15 := k_aald (by decide +kernel)
theorem k_X7_image_15 : Okop i_X7_image 15 (o_nn 31) 18 := k_nn (off := 16) (by decide +kernel) (by decide)
theorem k_X7_image_18 : Okop i_X7_image 18 (o_al 0) 19 := k_aln (j := 0) (by decide +kernel)
theorem k_X7_image_19 : Okop i_X7_image 19 (o_gr 7 1) 22 := k_gr (idx := 16) fo_7 (by decide) (by decide) gw_256 (by decide +kernel)
theorem k_X7_image_22 : Okop i_X7_image 22 (o_il 1) 23 := k_iln (j := 1) (by decide +kernel)
theorem k_X7_image_23 : Okop i_X7_image 23 (o_new 6 4) 26 := k_new (idx := 9) fo_6 fd_6 (by decide) gw_21 gw_22 gw_2 (by decide +kernel)
theorem k_X7_image_26 : Okop i_X7_image 26 (o_dup) 27 := k_dup (by decide +kernel)
theorem k_X7_image_27 : Okop i_X7_image 27 (o_callI S_X6_init) 30 := k_callI (idx := 11) m_X6_init ⟨gw_25, gw_2, ⟨by decide, by decide, by decide +kernel⟩, by decide, by decide⟩ gw_23 gw_24 rfl (by decide +kernel)
theorem k_X7_image_30 : Okop i_X7_image 30 (o_aast 7 6) 31 := k_aast (r0 := (RX6, TX6, 4)) (by decide +kernel) (by decide) (by decide) rfl rfl
theorem k_X7_image_31 : Okop i_X7_image 31 (o_al 0) 32 := k_aln (j := 0) (by decide +kernel)
theorem k_X7_image_32 : Okop i_X7_image 32 (o_gr 7 1) 35 := k_gr (idx := 16) fo_7 (by decide) (by decide) gw_256 (by decide +kernel)
theorem k_X7_image_35 : Okop i_X7_image 35 (o_il 1) 36 := k_iln (j := 1) (by decide +kernel)
theorem k_X7_image_36 : Okop i_X7_image 36 (o_aald) 37 := k_aald (by decide +kernel)
theorem k_X7_image_37 : Okop i_X7_image 37 (o_al 0) 38 := k_aln (j := 0) (by decide +kernel)
theorem k_X7_image_38 : Okop i_X7_image 38 (o_gr 7 0) 41 := k_gr (idx := 12) fo_7 (by decide) (by decide) gw_255 (by decide +kernel)
theorem k_X7_image_41 : Okop i_X7_image 41 (o_callV 6 1 T_X6_takeAll) 44 := k_callV (idx := 255) (r0 := (RX6, TX6, 4)) m_X6_takeAll ⟨gw_632, gw_2, ⟨by decide, by decide, by decide +kernel⟩, by decide, by decide⟩ rfl gw_629 gw_630 gw_631 (by decide +kernel)
theorem k_X7_image_44 : Okop i_X7_image 44 (o_c 1) 45 := k_iconst (by decide +kernel)
theorem k_X7_image_45 : Okop i_X7_image 45 (o_zret) 46 := k_zret (by decide +kernel) rfl
theorem s_X7_image_0 : Seg i_X7_image 0 [o_il 1, o_call 1 T_X7_isPlace, o_ne0 9, o_c 0, o_zret] 9 := Seg.cons k_X7_image_0 (Seg.cons k_X7_image_1 (Seg.cons k_X7_image_4 (Seg.cons k_X7_image_7 (Seg.cons k_X7_image_8 (Seg.nil)))))
theorem s_X7_image_9 : Seg i_X7_image 9 [o_al 0, o_gr 7 1, o_il 1, o_aald, o_nn 31, o_al 0, o_gr 7 1, o_il 1, o_new 6 4, o_dup, o_callI S_X6_init, o_aast 7 6, o_al 0, o_gr 7 1, o_il 1, o_aald, o_al 0, o_gr 7 0, o_callV 6 1 T_X6_takeAll, o_c 1, o_zret] 46 := Seg.cons k_X7_image_9 (Seg.cons k_X7_image_10 (Seg.cons k_X7_image_13 (Seg.cons k_X7_image_14 (Seg.cons k_X7_image_15 (Seg.cons k_X7_image_18 (Seg.cons k_X7_image_19 (Seg.cons k_X7_image_22 (Seg.cons k_X7_image_23 (Seg.cons k_X7_image_26 (Seg.cons k_X7_image_27 (Seg.cons k_X7_image_30 (Seg.cons k_X7_image_31 (Seg.cons k_X7_image_32 (Seg.cons k_X7_image_35 (Seg.cons k_X7_image_36 (Seg.cons k_X7_image_37 (Seg.cons k_X7_image_38 (Seg.cons k_X7_image_41 (Seg.cons k_X7_image_44 (Seg.cons k_X7_image_45 (Seg.nil)))))))))))))))))))))
theorem s_X7_image_31 : Seg i_X7_image 31 [o_al 0, o_gr 7 1, o_il 1, o_aald, o_al 0, o_gr 7 0, o_callV 6 1 T_X6_takeAll, o_c 1, o_zret] 46 := Seg.cons k_X7_image_31 (Seg.cons k_X7_image_32 (Seg.cons k_X7_image_35 (Seg.cons k_X7_image_36 (Seg.cons k_X7_image_37 (Seg.cons k_X7_image_38 (Seg.cons k_X7_image_41 (Seg.cons k_X7_image_44 (Seg.cons k_X7_image_45 (Seg.nil)))))))))

theorem m_X7_image : Mthx yX7_image cX7_image 2 (some .boolean) 4 B_X7_image := by
  refine Mthx.of (by decide) ?_
  rintro x as h c ok ⟨X, p, d, rfl, ⟨kx, rx, hS⟩, hq, r1, kk, lk, ip, hK1, hK2⟩
  refine ⟨Nat.le_of_ble_eq_true rfl, ?_⟩
  by_cases q : 0 ≤ p ∧ p ≤ 2
  · obtain ⟨P, rfl, hP⟩ : ∃ C : Nat, p = (C : Int) ∧ C < 3 := ⟨p.toNat, by omega, by omega⟩
    have hK := hK2 q
    rw [Int.toNat_natCast] at hK
    rcases hK with ⟨hn, b1, b2, hK⟩ | ⟨b, hb, hE, hXb, hK⟩
    · refine s_X7_image_0 x ok _ _ _ _ ?_
      simp only [wpS, o_c, o_cl, o_il, o_ll, o_al, o_is, o_ls, o_as, o_inc, o_add, o_sub, o_mul, o_and, o_or, o_xor, o_shl, o_shr, o_div, o_neg, o_ladd, o_lsub, o_lmul, o_ldiv, o_lrem, o_lneg, o_lcmp, o_i2l, o_l2i, o_dup, o_dup2, o_pop, o_go, o_nn, o_sw, swc, o_iret, o_zret, o_lret, o_vret, o_ieq, o_eq0, o_ine, o_ne0, o_ilt, o_lt0, o_ige, o_ge0, o_igt, o_gt0, o_ile, o_le0, o_iald, o_zald, o_lald, o_aald, o_iast, o_zast, o_last, o_aast, o_alen, o_gi, o_gr, o_pi, o_pz, o_pr, o_new, o_newa, o_copy, o_oinit, o_call, o_callV, o_callVc, o_callI, popn, cnO, o_BAD, lgt, lst, isL, kil, st1, st2, entL, List.length_nil, List.length_cons, List.replicate, Nat.reduceAdd, Nat.reduceLeDiff, Nat.reduceSub, true_and, and_true, Nat.zero_le, ne_eq, qk_wi, ql_wi, qr_wi, qj_wi, qt_wi, qk_wj, ql_wj, qr_wj, qi_wj, qt_wj, qk_wr, ql_wr, qi_wr, qj_wr, qt_wr, qi_ws, qj_ws, qr_ws, Int.toNat_natCast, Int.toNat_zero, Int.reduceToNat, not_true_eq_false, not_false_eq_true, false_implies, implies_true, Option.some.injEq, reduceCtorEq, Sp0, true_or, or_true, or_self, wi_wi, wj_wj]
      repeat' (first | (with_reducible refine And.intro ?_ ?_) | (with_reducible intro))
      all_goals (try (first | with_reducible assumption | omega | (unfold inI; omega) | (unfold inL; omega) | exact cz_in _ _))
      refine c_rg ⟨ip, fun _ => ?_, fun z => by omega⟩
      simp only [wpS, o_c, o_cl, o_il, o_ll, o_al, o_is, o_ls, o_as, o_inc, o_add, o_sub, o_mul, o_and, o_or, o_xor, o_shl, o_shr, o_div, o_neg, o_ladd, o_lsub, o_lmul, o_ldiv, o_lrem, o_lneg, o_lcmp, o_i2l, o_l2i, o_dup, o_dup2, o_pop, o_go, o_nn, o_sw, swc, o_iret, o_zret, o_lret, o_vret, o_ieq, o_eq0, o_ine, o_ne0, o_ilt, o_lt0, o_ige, o_ge0, o_igt, o_gt0, o_ile, o_le0, o_iald, o_zald, o_lald, o_aald, o_iast, o_zast, o_last, o_aast, o_alen, o_gi, o_gr, o_pi, o_pz, o_pr, o_new, o_newa, o_copy, o_oinit, o_call, o_callV, o_callVc, o_callI, popn, cnO, o_BAD, lgt, lst, isL, kil, st1, st2, entL, List.length_nil, List.length_cons, List.replicate, Nat.reduceAdd, Nat.reduceLeDiff, Nat.reduceSub, true_and, and_true, Nat.zero_le, ne_eq, qk_wi, ql_wi, qr_wi, qj_wi, qt_wi, qk_wj, ql_wj, qr_wj, qi_wj, qt_wj, qk_wr, ql_wr, qi_wr, qj_wr, qt_wr, qi_ws, qj_ws, qr_ws, Int.toNat_natCast, Int.toNat_zero, Int.reduceToNat, not_true_eq_false, not_false_eq_true, false_implies, implies_true, Option.some.injEq, reduceCtorEq, Sp0, true_or, or_true, or_self, wi_wi, wj_wj]
      repeat' (first | (with_reducible refine And.intro ?_ ?_) | (with_reducible intro))
      all_goals (try (first | with_reducible assumption | omega | (unfold inI; omega) | (unfold inL; omega) | exact cz_in _ _))
      all_goals (try (exfalso; omega))
      refine s_X7_image_9 x ok _ _ _ _ ?_
      simp only [wpS, o_c, o_cl, o_il, o_ll, o_al, o_is, o_ls, o_as, o_inc, o_add, o_sub, o_mul, o_and, o_or, o_xor, o_shl, o_shr, o_div, o_neg, o_ladd, o_lsub, o_lmul, o_ldiv, o_lrem, o_lneg, o_lcmp, o_i2l, o_l2i, o_dup, o_dup2, o_pop, o_go, o_nn, o_sw, swc, o_iret, o_zret, o_lret, o_vret, o_ieq, o_eq0, o_ine, o_ne0, o_ilt, o_lt0, o_ige, o_ge0, o_igt, o_gt0, o_ile, o_le0, o_iald, o_zald, o_lald, o_aald, o_iast, o_zast, o_last, o_aast, o_alen, o_gi, o_gr, o_pi, o_pz, o_pr, o_new, o_newa, o_copy, o_oinit, o_call, o_callV, o_callVc, o_callI, popn, cnO, o_BAD, lgt, lst, isL, kil, st1, st2, entL, List.length_nil, List.length_cons, List.replicate, Nat.reduceAdd, Nat.reduceLeDiff, Nat.reduceSub, true_and, and_true, Nat.zero_le, ne_eq, qk_wi, ql_wi, qr_wi, qj_wi, qt_wi, qk_wj, ql_wj, qr_wj, qi_wj, qt_wj, qk_wr, ql_wr, qi_wr, qj_wr, qt_wr, qi_ws, qj_ws, qr_ws, Int.toNat_natCast, Int.toNat_zero, Int.reduceToNat, not_true_eq_false, not_false_eq_true, false_implies, implies_true, Option.some.injEq, reduceCtorEq, Sp0, true_or, or_true, or_self, wi_wi, wj_wj, kx, r1, kk, lk, hn, s6c]
      repeat' (first | (with_reducible refine And.intro ?_ ?_) | (with_reducible intro))
      all_goals (try (first | with_reducible assumption | omega | (unfold inI; omega) | (unfold inL; omega) | exact cz_in _ _))
      have ew := Eqj.wn h 16 4 (a := qt h) (Nat.le_refl _)
      refine ⟨qt h, rfl, by rw [qk_al, if_pos rfl], by rw [qt_al], fun h2 e2 t2 g2 => ?_⟩
      have e3 := ew.tr e2 (Nat.le_refl _)
      have eb := e3.1
      have kx2 : qk h2 X = 17 := by rw [(eb X (by omega)).1]; exact kx
      have rx2 : qr h2 X 0 = some (X + 1) := by rw [(eb X (by omega)).2.2.2]; exact rx
      have r12 : qr h2 X 1 = some (X + 82) := by rw [(eb X (by omega)).2.2.2]; exact r1
      have kk2 : qk h2 (X + 82) = 7 := by rw [(eb (X + 82) (by omega)).1]; exact kk
      have lk2 : ql h2 (X + 82) = 3 := by rw [(eb (X + 82) (by omega)).2.1]; exact lk
      have hX : X ≠ X + 82 := by omega
      have kn : qk h2 (qt h) = 16 := g2.k
      have er : qr h2 (X + 82) = qr h (X + 82) := (eb (X + 82) (by omega)).2.2.2
      simp only [wpS, o_c, o_cl, o_il, o_ll, o_al, o_is, o_ls, o_as, o_inc, o_add, o_sub, o_mul, o_and, o_or, o_xor, o_shl, o_shr, o_div, o_neg, o_ladd, o_lsub, o_lmul, o_ldiv, o_lrem, o_lneg, o_lcmp, o_i2l, o_l2i, o_dup, o_dup2, o_pop, o_go, o_nn, o_sw, swc, o_iret, o_zret, o_lret, o_vret, o_ieq, o_eq0, o_ine, o_ne0, o_ilt, o_lt0, o_ige, o_ge0, o_igt, o_gt0, o_ile, o_le0, o_iald, o_zald, o_lald, o_aald, o_iast, o_zast, o_last, o_aast, o_alen, o_gi, o_gr, o_pi, o_pz, o_pr, o_new, o_newa, o_copy, o_oinit, o_call, o_callV, o_callVc, o_callI, popn, cnO, o_BAD, lgt, lst, isL, kil, st1, st2, entL, List.length_nil, List.length_cons, List.replicate, Nat.reduceAdd, Nat.reduceLeDiff, Nat.reduceSub, true_and, and_true, Nat.zero_le, ne_eq, qk_wi, ql_wi, qr_wi, qj_wi, qt_wi, qk_wj, ql_wj, qr_wj, qi_wj, qt_wj, qk_wr, ql_wr, qi_wr, qj_wr, qt_wr, qi_ws, qj_ws, qr_ws, Int.toNat_natCast, Int.toNat_zero, Int.reduceToNat, not_true_eq_false, not_false_eq_true, false_implies, implies_true, Option.some.injEq, reduceCtorEq, Sp0, true_or, or_true, or_self, wi_wi, wj_wj, kx2, rx2, r12, kk2, lk2, kn, qr_wn hX, fu_s, er]
      repeat' (first | (with_reducible refine And.intro ?_ ?_) | (with_reducible intro))
      all_goals (try (first | with_reducible assumption | omega | (unfold inI; omega) | (unfold inL; omega) | exact cz_in _ _))
      have eS : Stt (wr h2 (X + 82) (fu (qr h (X + 82)) P (some (qt h)))) (X + 1) d := (hS.eqb (e3.sub (a := X + 82) (by omega)).1 (by omega)).rg (Rg.wr (by omega))
      have eG : isSt (wr h2 (X + 82) (fu (qr h (X + 82)) P (some (qt h)))) (qt h) := g2.1.rg (Rg.wr (by omega))
      refine c_takeAllS eG eS (by omega) (fun h' g3 g4 => ?_)
      simp only [wpS, o_c, o_cl, o_il, o_ll, o_al, o_is, o_ls, o_as, o_inc, o_add, o_sub, o_mul, o_and, o_or, o_xor, o_shl, o_shr, o_div, o_neg, o_ladd, o_lsub, o_lmul, o_ldiv, o_lrem, o_lneg, o_lcmp, o_i2l, o_l2i, o_dup, o_dup2, o_pop, o_go, o_nn, o_sw, swc, o_iret, o_zret, o_lret, o_vret, o_ieq, o_eq0, o_ine, o_ne0, o_ilt, o_lt0, o_ige, o_ge0, o_igt, o_gt0, o_ile, o_le0, o_iald, o_zald, o_lald, o_aald, o_iast, o_zast, o_last, o_aast, o_alen, o_gi, o_gr, o_pi, o_pz, o_pr, o_new, o_newa, o_copy, o_oinit, o_call, o_callV, o_callVc, o_callI, popn, cnO, o_BAD, lgt, lst, isL, kil, st1, st2, entL, List.length_nil, List.length_cons, List.replicate, Nat.reduceAdd, Nat.reduceLeDiff, Nat.reduceSub, true_and, and_true, Nat.zero_le, ne_eq, qk_wi, ql_wi, qr_wi, qj_wi, qt_wi, qk_wj, ql_wj, qr_wj, qi_wj, qt_wj, qk_wr, ql_wr, qi_wr, qj_wr, qt_wr, qi_ws, qj_ws, qr_ws, Int.toNat_natCast, Int.toNat_zero, Int.reduceToNat, not_true_eq_false, not_false_eq_true, false_implies, implies_true, Option.some.injEq, reduceCtorEq, Sp0, true_or, or_true, or_self, wi_wi, wj_wj]
      repeat' (first | (with_reducible refine And.intro ?_ ?_) | (with_reducible intro))
      all_goals (try (first | with_reducible assumption | omega | (unfold inI; omega) | (unfold inL; omega) | exact cz_in _ _))
      refine hK h' ?_ ?_ g4
      · have e5 := Eqj.chg g3 (a := qt h) (Nat.le_refl _)
        have e6 : Eqj (wr h (X + 82) (fu (qr h (X + 82)) P (some (qt h)))) (wr h2 (X + 82) (fu (qr h (X + 82)) P (some (qt h)))) (qt h) := by
          refine ⟨fun b hb => ⟨(eb b hb).1, (eb b hb).2.1, (eb b hb).2.2.1, ?_⟩, fun b hb => e3.2 b hb⟩
          rw [qr_wr', qr_wr', (eb b hb).2.2.2]
        exact e6.tr e5 (Nat.le_refl _)
      · rw [g3.2.2.2.2.1, qt_wr, t2]
    · have ne : ¬ (some b = (none : Option Nat)) := by simp
      refine s_X7_image_0 x ok _ _ _ _ ?_
      simp only [wpS, o_c, o_cl, o_il, o_ll, o_al, o_is, o_ls, o_as, o_inc, o_add, o_sub, o_mul, o_and, o_or, o_xor, o_shl, o_shr, o_div, o_neg, o_ladd, o_lsub, o_lmul, o_ldiv, o_lrem, o_lneg, o_lcmp, o_i2l, o_l2i, o_dup, o_dup2, o_pop, o_go, o_nn, o_sw, swc, o_iret, o_zret, o_lret, o_vret, o_ieq, o_eq0, o_ine, o_ne0, o_ilt, o_lt0, o_ige, o_ge0, o_igt, o_gt0, o_ile, o_le0, o_iald, o_zald, o_lald, o_aald, o_iast, o_zast, o_last, o_aast, o_alen, o_gi, o_gr, o_pi, o_pz, o_pr, o_new, o_newa, o_copy, o_oinit, o_call, o_callV, o_callVc, o_callI, popn, cnO, o_BAD, lgt, lst, isL, kil, st1, st2, entL, List.length_nil, List.length_cons, List.replicate, Nat.reduceAdd, Nat.reduceLeDiff, Nat.reduceSub, true_and, and_true, Nat.zero_le, ne_eq, qk_wi, ql_wi, qr_wi, qj_wi, qt_wi, qk_wj, ql_wj, qr_wj, qi_wj, qt_wj, qk_wr, ql_wr, qi_wr, qj_wr, qt_wr, qi_ws, qj_ws, qr_ws, Int.toNat_natCast, Int.toNat_zero, Int.reduceToNat, not_true_eq_false, not_false_eq_true, false_implies, implies_true, Option.some.injEq, reduceCtorEq, Sp0, true_or, or_true, or_self, wi_wi, wj_wj]
      repeat' (first | (with_reducible refine And.intro ?_ ?_) | (with_reducible intro))
      all_goals (try (first | with_reducible assumption | omega | (unfold inI; omega) | (unfold inL; omega) | exact cz_in _ _))
      refine c_rg ⟨ip, fun _ => ?_, fun z => by omega⟩
      simp only [wpS, o_c, o_cl, o_il, o_ll, o_al, o_is, o_ls, o_as, o_inc, o_add, o_sub, o_mul, o_and, o_or, o_xor, o_shl, o_shr, o_div, o_neg, o_ladd, o_lsub, o_lmul, o_ldiv, o_lrem, o_lneg, o_lcmp, o_i2l, o_l2i, o_dup, o_dup2, o_pop, o_go, o_nn, o_sw, swc, o_iret, o_zret, o_lret, o_vret, o_ieq, o_eq0, o_ine, o_ne0, o_ilt, o_lt0, o_ige, o_ge0, o_igt, o_gt0, o_ile, o_le0, o_iald, o_zald, o_lald, o_aald, o_iast, o_zast, o_last, o_aast, o_alen, o_gi, o_gr, o_pi, o_pz, o_pr, o_new, o_newa, o_copy, o_oinit, o_call, o_callV, o_callVc, o_callI, popn, cnO, o_BAD, lgt, lst, isL, kil, st1, st2, entL, List.length_nil, List.length_cons, List.replicate, Nat.reduceAdd, Nat.reduceLeDiff, Nat.reduceSub, true_and, and_true, Nat.zero_le, ne_eq, qk_wi, ql_wi, qr_wi, qj_wi, qt_wi, qk_wj, ql_wj, qr_wj, qi_wj, qt_wj, qk_wr, ql_wr, qi_wr, qj_wr, qt_wr, qi_ws, qj_ws, qr_ws, Int.toNat_natCast, Int.toNat_zero, Int.reduceToNat, not_true_eq_false, not_false_eq_true, false_implies, implies_true, Option.some.injEq, reduceCtorEq, Sp0, true_or, or_true, or_self, wi_wi, wj_wj]
      repeat' (first | (with_reducible refine And.intro ?_ ?_) | (with_reducible intro))
      all_goals (try (first | with_reducible assumption | omega | (unfold inI; omega) | (unfold inL; omega) | exact cz_in _ _))
      all_goals (try (exfalso; omega))
      refine s_X7_image_9 x ok _ _ _ _ ?_
      simp only [wpS, o_c, o_cl, o_il, o_ll, o_al, o_is, o_ls, o_as, o_inc, o_add, o_sub, o_mul, o_and, o_or, o_xor, o_shl, o_shr, o_div, o_neg, o_ladd, o_lsub, o_lmul, o_ldiv, o_lrem, o_lneg, o_lcmp, o_i2l, o_l2i, o_dup, o_dup2, o_pop, o_go, o_nn, o_sw, swc, o_iret, o_zret, o_lret, o_vret, o_ieq, o_eq0, o_ine, o_ne0, o_ilt, o_lt0, o_ige, o_ge0, o_igt, o_gt0, o_ile, o_le0, o_iald, o_zald, o_lald, o_aald, o_iast, o_zast, o_last, o_aast, o_alen, o_gi, o_gr, o_pi, o_pz, o_pr, o_new, o_newa, o_copy, o_oinit, o_call, o_callV, o_callVc, o_callI, popn, cnO, o_BAD, lgt, lst, isL, kil, st1, st2, entL, List.length_nil, List.length_cons, List.replicate, Nat.reduceAdd, Nat.reduceLeDiff, Nat.reduceSub, true_and, and_true, Nat.zero_le, ne_eq, qk_wi, ql_wi, qr_wi, qj_wi, qt_wi, qk_wj, ql_wj, qr_wj, qi_wj, qt_wj, qk_wr, ql_wr, qi_wr, qj_wr, qt_wr, qi_ws, qj_ws, qr_ws, Int.toNat_natCast, Int.toNat_zero, Int.reduceToNat, not_true_eq_false, not_false_eq_true, false_implies, implies_true, Option.some.injEq, reduceCtorEq, Sp0, true_or, or_true, or_self, wi_wi, wj_wj, kx, r1, kk, lk, hb, s6c]
      repeat' (first | (with_reducible refine And.intro ?_ ?_) | (with_reducible intro))
      all_goals (try (first | with_reducible assumption | omega | (unfold inI; omega) | (unfold inL; omega) | exact cz_in _ _))
      refine s_X7_image_31 x ok _ _ _ _ ?_
      simp only [wpS, o_c, o_cl, o_il, o_ll, o_al, o_is, o_ls, o_as, o_inc, o_add, o_sub, o_mul, o_and, o_or, o_xor, o_shl, o_shr, o_div, o_neg, o_ladd, o_lsub, o_lmul, o_ldiv, o_lrem, o_lneg, o_lcmp, o_i2l, o_l2i, o_dup, o_dup2, o_pop, o_go, o_nn, o_sw, swc, o_iret, o_zret, o_lret, o_vret, o_ieq, o_eq0, o_ine, o_ne0, o_ilt, o_lt0, o_ige, o_ge0, o_igt, o_gt0, o_ile, o_le0, o_iald, o_zald, o_lald, o_aald, o_iast, o_zast, o_last, o_aast, o_alen, o_gi, o_gr, o_pi, o_pz, o_pr, o_new, o_newa, o_copy, o_oinit, o_call, o_callV, o_callVc, o_callI, popn, cnO, o_BAD, lgt, lst, isL, kil, st1, st2, entL, List.length_nil, List.length_cons, List.replicate, Nat.reduceAdd, Nat.reduceLeDiff, Nat.reduceSub, true_and, and_true, Nat.zero_le, ne_eq, qk_wi, ql_wi, qr_wi, qj_wi, qt_wi, qk_wj, ql_wj, qr_wj, qi_wj, qt_wj, qk_wr, ql_wr, qi_wr, qj_wr, qt_wr, qi_ws, qj_ws, qr_ws, Int.toNat_natCast, Int.toNat_zero, Int.reduceToNat, not_true_eq_false, not_false_eq_true, false_implies, implies_true, Option.some.injEq, reduceCtorEq, Sp0, true_or, or_true, or_self, wi_wi, wj_wj, kx, rx, r1, kk, lk, hb, hE.1]
      repeat' (first | (with_reducible refine And.intro ?_ ?_) | (with_reducible intro))
      all_goals (try (first | with_reducible assumption | omega | (unfold inI; omega) | (unfold inL; omega) | exact cz_in _ _))
      refine c_takeAllS hE hS (by omega) (fun h' g1 g2 => ?_)
      simp only [wpS, o_c, o_cl, o_il, o_ll, o_al, o_is, o_ls, o_as, o_inc, o_add, o_sub, o_mul, o_and, o_or, o_xor, o_shl, o_shr, o_div, o_neg, o_ladd, o_lsub, o_lmul, o_ldiv, o_lrem, o_lneg, o_lcmp, o_i2l, o_l2i, o_dup, o_dup2, o_pop, o_go, o_nn, o_sw, swc, o_iret, o_zret, o_lret, o_vret, o_ieq, o_eq0, o_ine, o_ne0, o_ilt, o_lt0, o_ige, o_ge0, o_igt, o_gt0, o_ile, o_le0, o_iald, o_zald, o_lald, o_aald, o_iast, o_zast, o_last, o_aast, o_alen, o_gi, o_gr, o_pi, o_pz, o_pr, o_new, o_newa, o_copy, o_oinit, o_call, o_callV, o_callVc, o_callI, popn, cnO, o_BAD, lgt, lst, isL, kil, st1, st2, entL, List.length_nil, List.length_cons, List.replicate, Nat.reduceAdd, Nat.reduceLeDiff, Nat.reduceSub, true_and, and_true, Nat.zero_le, ne_eq, qk_wi, ql_wi, qr_wi, qj_wi, qt_wi, qk_wj, ql_wj, qr_wj, qi_wj, qt_wj, qk_wr, ql_wr, qi_wr, qj_wr, qt_wr, qi_ws, qj_ws, qr_ws, Int.toNat_natCast, Int.toNat_zero, Int.reduceToNat, not_true_eq_false, not_false_eq_true, false_implies, implies_true, Option.some.injEq, reduceCtorEq, Sp0, true_or, or_true, or_self, wi_wi, wj_wj]
      repeat' (first | (with_reducible refine And.intro ?_ ?_) | (with_reducible intro))
      all_goals (try (first | with_reducible assumption | omega | (unfold inI; omega) | (unfold inL; omega) | exact cz_in _ _))
      exact hK h' g1 g2
  · have hK := hK1 q
    refine s_X7_image_0 x ok _ _ _ _ ?_
    simp only [wpS, o_c, o_cl, o_il, o_ll, o_al, o_is, o_ls, o_as, o_inc, o_add, o_sub, o_mul, o_and, o_or, o_xor, o_shl, o_shr, o_div, o_neg, o_ladd, o_lsub, o_lmul, o_ldiv, o_lrem, o_lneg, o_lcmp, o_i2l, o_l2i, o_dup, o_dup2, o_pop, o_go, o_nn, o_sw, swc, o_iret, o_zret, o_lret, o_vret, o_ieq, o_eq0, o_ine, o_ne0, o_ilt, o_lt0, o_ige, o_ge0, o_igt, o_gt0, o_ile, o_le0, o_iald, o_zald, o_lald, o_aald, o_iast, o_zast, o_last, o_aast, o_alen, o_gi, o_gr, o_pi, o_pz, o_pr, o_new, o_newa, o_copy, o_oinit, o_call, o_callV, o_callVc, o_callI, popn, cnO, o_BAD, lgt, lst, isL, kil, st1, st2, entL, List.length_nil, List.length_cons, List.replicate, Nat.reduceAdd, Nat.reduceLeDiff, Nat.reduceSub, true_and, and_true, Nat.zero_le, ne_eq, qk_wi, ql_wi, qr_wi, qj_wi, qt_wi, qk_wj, ql_wj, qr_wj, qi_wj, qt_wj, qk_wr, ql_wr, qi_wr, qj_wr, qt_wr, qi_ws, qj_ws, qr_ws, Int.toNat_natCast, Int.toNat_zero, Int.reduceToNat, not_true_eq_false, not_false_eq_true, false_implies, implies_true, Option.some.injEq, reduceCtorEq, Sp0, true_or, or_true, or_self, wi_wi, wj_wj]
    repeat' (first | (with_reducible refine And.intro ?_ ?_) | (with_reducible intro))
    all_goals (try (first | with_reducible assumption | omega | (unfold inI; omega) | (unfold inL; omega) | exact cz_in _ _))
    refine c_rg ⟨ip, fun z => by omega, fun z => ?_⟩
    simp only [wpS, o_c, o_cl, o_il, o_ll, o_al, o_is, o_ls, o_as, o_inc, o_add, o_sub, o_mul, o_and, o_or, o_xor, o_shl, o_shr, o_div, o_neg, o_ladd, o_lsub, o_lmul, o_ldiv, o_lrem, o_lneg, o_lcmp, o_i2l, o_l2i, o_dup, o_dup2, o_pop, o_go, o_nn, o_sw, swc, o_iret, o_zret, o_lret, o_vret, o_ieq, o_eq0, o_ine, o_ne0, o_ilt, o_lt0, o_ige, o_ge0, o_igt, o_gt0, o_ile, o_le0, o_iald, o_zald, o_lald, o_aald, o_iast, o_zast, o_last, o_aast, o_alen, o_gi, o_gr, o_pi, o_pz, o_pr, o_new, o_newa, o_copy, o_oinit, o_call, o_callV, o_callVc, o_callI, popn, cnO, o_BAD, lgt, lst, isL, kil, st1, st2, entL, List.length_nil, List.length_cons, List.replicate, Nat.reduceAdd, Nat.reduceLeDiff, Nat.reduceSub, true_and, and_true, Nat.zero_le, ne_eq, qk_wi, ql_wi, qr_wi, qj_wi, qt_wi, qk_wj, ql_wj, qr_wj, qi_wj, qt_wj, qk_wr, ql_wr, qi_wr, qj_wr, qt_wr, qi_ws, qj_ws, qr_ws, Int.toNat_natCast, Int.toNat_zero, Int.reduceToNat, not_true_eq_false, not_false_eq_true, false_implies, implies_true, Option.some.injEq, reduceCtorEq, Sp0, true_or, or_true, or_self, wi_wi, wj_wj]
    repeat' (first | (with_reducible refine And.intro ?_ ?_) | (with_reducible intro))
    all_goals (try (first | with_reducible assumption | omega | (unfold inI; omega) | (unfold inL; omega) | exact cz_in _ _))
    all_goals (try (exfalso; omega))

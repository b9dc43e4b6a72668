/-! ===== constructors ===== -/
theorem qr_wr' (h : Hp) (a : Nat) (f : Nat → Option Nat) (b : Nat) : qr (wr h a f) b = if b = a then f else qr h b := rfl
theorem qj_wj' (h : Hp) (a : Nat) (f : Nat → Int) (b : Nat) : qj (wj h a f) b = if b = a then f else qj h b := rfl
/-- all below a is as it was -/
def Eqj (h h' : Hp) (a : Nat) : Prop := Eqb h h' a ∧ ∀ b, b < a → qj h' b = qj h b
theorem Eqj.rf (h : Hp) (a : Nat) : Eqj h h a := ⟨fun _ _ => ⟨rfl, rfl, rfl, rfl⟩, fun _ _ => rfl⟩
theorem Eqj.tr {h h1 h2 : Hp} {a b : Nat} (x : Eqj h h1 a) (y : Eqj h1 h2 b) (hb : a ≤ b) : Eqj h h2 a := ⟨x.1.tr (fun k hk => y.1 k (by omega)), fun k hk => (y.2 k (by omega)).trans (x.2 k hk)⟩
theorem Eqj.sub {h h1 : Hp} {a b : Nat} (x : Eqj h h1 b) (hb : a ≤ b) : Eqj h h1 a := ⟨fun k hk => x.1 k (by omega), fun k hk => x.2 k (by omega)⟩
theorem Eqj.wn (h : Hp) (k n : Nat) {a : Nat} (ha : a ≤ qt h) : Eqj h (wn h k n) a := by
  refine ⟨fun b hb => ⟨?_, ?_, ?_, ?_⟩, fun b hb => ?_⟩
  · rw [qk_al, if_neg (by omega)]
  · rw [ql_al, if_neg (by omega)]
  · rw [qi_al, if_neg (by omega)]
  · rw [qr_al, if_neg (by omega)]
  · rw [qj_al, if_neg (by omega)]
theorem Eqj.wr (h : Hp) (b : Nat) (f : Nat → Option Nat) {a : Nat} (ha : a ≤ b) : Eqj h (wr h b f) a := ⟨fun k hk => ⟨rfl, rfl, rfl, qr_wn (by omega)⟩, fun _ _ => rfl⟩
theorem Eqj.wi (h : Hp) (b : Nat) (f : Nat → Int) {a : Nat} (ha : a ≤ b) : Eqj h (wi h b f) a := ⟨fun k hk => ⟨rfl, rfl, qi_wn (by omega), rfl⟩, fun _ _ => rfl⟩
theorem Eqj.chg {h h' : Hp} {lo hi : Nat} (e : Chg h h' lo hi) {a : Nat} (ha : a ≤ lo) : Eqj h h' a := ⟨fun k hk => ⟨by rw [e.1], by rw [e.2.1], e.2.2.2.2.2 k (by omega), by rw [e.2.2.1]⟩, fun k _ => by rw [e.2.2.2.1]⟩
def dI : Dd := fun k => if (1188 ≤ k ∧ k < 1212) ∨ (1346 ≤ k ∧ k < 1382) then -1 else 0
def S_X1_init : Sp := (fun _ _ => (1, 12), fun as h K => ∃ a, as = [vr (some a)] ∧ qk h a = 11 ∧ qt h = a + 1 ∧ qi h a = (fun _ => 0) ∧ ∀ h', Eqj h h' a → qt h' = a + 2 → isCh h' a → qi h' a = (fun _ => 0) → qi h' (a + 1) = (fun _ => 0) → K none h')
abbrev i_X1_init : MI := (cX1_init, 1, RX1, none, "<init>", 2)
theorem k_X1_init_0 : Okop i_X1_init 0 (o_al 0) 1 := k_aln (j := 0) (by decide +kernel)
theorem k_X1_init_1 : Okop i_X1_init 1 (o_oinit) 4 := k_oinit (idx := 3) (by decide +kernel) gw_108 gw_19 gw_20 (by decide)
theorem k_X1_init_4 : Okop i_X1_init 4 (o_al 0) 5 := k_aln (j := 0) (by decide +kernel)
theorem k_X1_init_5 : Okop i_X1_init 5 (o_c 12) 7 := k_bipush (by decide +kernel) rfl
theorem k_X1_init_7 : Okop i_X1_init 7 (o_newa 1) 9 := k_newa (.inl ⟨rfl, rfl⟩) gw_103 (by decide +kernel)
theorem k_X1_init_9 : Okop i_X1_init 9 (o_pr 1 0) 12 := k_pr (idx := 9) fo_1 (by decide) (by decide) gw_109 (by decide +kernel) (.inr ⟨rfl, rfl, rfl⟩)
theorem k_X1_init_12 : Okop i_X1_init 12 (o_vret) 13 := k_vret (by decide +kernel) rfl
theorem s_X1_init_0 : Seg i_X1_init 0 [o_al 0, o_oinit, o_al 0, o_c 12, o_newa 1, o_pr 1 0, o_vret] 13 := Seg.cons k_X1_init_0 (Seg.cons k_X1_init_1 (Seg.cons k_X1_init_4 (Seg.cons k_X1_init_5 (Seg.cons k_X1_init_7 (Seg.cons k_X1_init_9 (Seg.cons k_X1_init_12 (Seg.nil)))))))

theorem m_X1_init : Mth yX1_init cX1_init 1 none 2 S_X1_init := by
  refine Mth.of (by decide) ?_
  rintro x as h ok ⟨a, rfl, k0, ht, hz, hK⟩
  refine ⟨Nat.le_of_ble_eq_true rfl, ?_⟩
  have n1 : a ≠ a + 1 := by omega
  have n2 : a + 1 ≠ a := by omega
  show V i_X1_init x 0 _ [] h (1, 12)
  refine s_X1_init_0 x ok _ _ _ _ ?_
  simp only [wpS, o_c, o_cl, o_il, o_ll, o_al, o_is, o_ls, o_as, o_inc, o_add, o_sub, o_mul, o_and, o_or, o_xor, o_shl, o_shr, o_div, o_neg, o_ladd, o_lsub, o_lmul, o_ldiv, o_lrem, o_lneg, o_lcmp, o_i2l, o_l2i, o_dup, o_dup2, o_pop, o_go, o_nn, o_sw, swc, o_iret, o_zret, o_lret, o_vret, o_ieq, o_eq0, o_ine, o_ne0, o_ilt, o_lt0, o_ige, o_ge0, o_igt, o_gt0, o_ile, o_le0, o_iald, o_zald, o_lald, o_aald, o_iast, o_zast, o_last, o_aast, o_alen, o_gi, o_gr, o_pi, o_pz, o_pr, o_new, o_newa, o_copy, o_oinit, o_call, o_callV, o_callVc, o_callI, popn, cnO, o_BAD, lgt, lst, isL, kil, st1, st2, entL, List.length_nil, List.length_cons, List.replicate, Nat.reduceAdd, Nat.reduceLeDiff, Nat.reduceSub, true_and, and_true, Nat.zero_le, ne_eq, qk_wi, ql_wi, qr_wi, qj_wi, qt_wi, qk_wj, ql_wj, qr_wj, qi_wj, qt_wj, qk_wr, ql_wr, qi_wr, qj_wr, qt_wr, qi_ws, qj_ws, qr_ws, Int.toNat_natCast, Int.toNat_zero, Int.reduceToNat, not_true_eq_false, not_false_eq_true, false_implies, implies_true, Option.some.injEq, reduceCtorEq, Sp0, true_or, or_true, or_self, wi_wi, wj_wj, qk_al, ql_al, qr_al, ht, n1, k0, ↓reduceIte]
  repeat' (first | (with_reducible refine And.intro ?_ ?_) | (with_reducible intro))
  all_goals (try (first | with_reducible assumption | omega | (unfold inI; omega) | (unfold inL; omega) | exact cz_in _ _))
  refine hK _ ?_ ?_ ?_ ?_ ?_
  · exact (Eqj.wn h 1 12 (by omega)).tr (Eqj.wr _ a _ (Nat.le_refl a)) (Nat.le_refl a)
  · rw [qt_wr, qt_al, ht]
  · refine ⟨?_, ?_, ?_, ?_⟩
    · rw [qk_wr, qk_al, if_neg (by omega), k0]
    · rw [qr_ws, fu_s]
    · rw [qk_wr, qk_al, if_pos ht.symm]
    · rw [ql_wr, ql_al, if_pos ht.symm]
  · rw [qi_wr, qi_al, if_neg (by omega), hz]
  · rw [qi_wr, qi_al, if_pos ht.symm]

/-! ===== calls that may make cells, as many as is said before ===== -/
abbrev TB : Type := List AV → Hp → Nat × Nat → RT → Prop
def SpB (T : TB) (c : Nat × Nat) : Sp := (fun _ _ => c, fun as h Rt => T as h c Rt)
def Mthx (y : MethodName) (cc : ByteArray) (nL : Nat) (ret : Option FieldType) (lev : Nat) (T : TB) : Prop := ∀ c : Nat × Nat, Mth y cc nL ret lev (SpB T c)
def o_callVx (ci n : Nat) (T : TB) : OPP := fun ls st h b _ _ nx => match popn (n + 1) st [] with
  | some (.inr (.inr (some a)) :: as, r) => qk h a = 10 + ci ∧ r.length ≤ 4 ∧ ∃ c : Nat × Nat, c.1 ≤ b.1 ∧ c.2 ≤ b.2 ∧ T (vr (some a) :: as) h c (fun v h' => nx ls (cnO v r) h' (b.1 - c.1, b.2 - c.2))
  | _ => False
theorem k_callVx {i : MI} {pc ci idx nL lev n : Nat} {y : MethodName} {cc : ByteArray} {ret : Option FieldType} {T : TB} {r0 : vw_C} (hM : Mthx y cc nL ret lev T) (hC : Cok i y cc nL ret lev n) (hr0 : vwCl[ci]? = some r0) (hl : Cond.methodLink i.2.2.1 idx y ∈ gTbl) (hin : Cond.instanceMethod y ∈ gTbl) (hse : Cond.selects r0.1 y y ∈ gTbl) (hd : decode i.1 pc = .ok (.invokevirtual idx, 3)) : Okop i pc (o_callVx ci n T) (pc + 3) := by
  intro x ok ls st h b nx hnx hop
  unfold o_callVx at hop
  split at hop
  · rename_i a as r hpop
    obtain ⟨h1, h2, c, h3, h4, h5⟩ := hop
    refine k_callVc (S := SpB T c) (hM c) hC hr0 hl hin hse hd x ok ls st h b nx hnx ?_
    unfold o_callVc
    rw [hpop]
    exact ⟨h1, h2, h3, h4, h5⟩
  · exact hop.elim
theorem Mthx.of {y : MethodName} {cc : ByteArray} {nL lev : Nat} {ret : Option FieldType} {T : TB} (hy : plainName y.cls = true)
    (body : ∀ (x : Ctx) (as : List AV) (h : Hp) (c : Nat × Nat), OkC (cc, nL, y.cls, ret, y.name, lev) x → T as h c (xR x) → aln as ≤ nL ∧ V (cc, nL, y.cls, ret, y.name, lev) x 0 (entL nL as) [] h c) : Mthx y cc nL ret lev T :=
  fun c => Mth.of hy (fun x as h ok hS => body x as h c ok hS)
/-! ===== FitBench$Spread: its heap ===== -/
/-- the heap with the Spread's own ints f, its changes ca and cb, its row g at R -/
def ws (h : Hp) (S R : Nat) (f ca cb g : Nat → Int) : Hp := (h.1, h.2.1, fun b => if b = S then f else if b = S + 2 then ca else if b = S + 3 then cb else h.2.2.1 b, fun b => if b = R then g else h.2.2.2.1 b, h.2.2.2.2)
theorem qk_ws (h : Hp) (S R : Nat) (f ca cb g : Nat → Int) : qk (ws h S R f ca cb g) = qk h := rfl
theorem ql_ws (h : Hp) (S R : Nat) (f ca cb g : Nat → Int) : ql (ws h S R f ca cb g) = ql h := rfl
theorem qr_ws' (h : Hp) (S R : Nat) (f ca cb g : Nat → Int) : qr (ws h S R f ca cb g) = qr h := rfl
theorem qt_ws (h : Hp) (S R : Nat) (f ca cb g : Nat → Int) : qt (ws h S R f ca cb g) = qt h := rfl
theorem qsS (h : Hp) (S R : Nat) (f ca cb g : Nat → Int) : qi (ws h S R f ca cb g) S = f := if_pos rfl
theorem qs2 (h : Hp) (S R : Nat) (f ca cb g : Nat → Int) : qi (ws h S R f ca cb g) (S + 2) = ca := by
  show (if S + 2 = S then f else if S + 2 = S + 2 then ca else _) = _
  rw [if_neg (by omega), if_pos rfl]
theorem qs3 (h : Hp) (S R : Nat) (f ca cb g : Nat → Int) : qi (ws h S R f ca cb g) (S + 3) = cb := by
  show (if S + 3 = S then f else if S + 3 = S + 2 then ca else if S + 3 = S + 3 then cb else _) = _
  rw [if_neg (by omega), if_neg (by omega), if_pos rfl]
theorem qsn {h : Hp} {S R b : Nat} {f ca cb g : Nat → Int} (n1 : b ≠ S) (n2 : b ≠ S + 2) (n3 : b ≠ S + 3) : qi (ws h S R f ca cb g) b = qi h b := by
  show (if b = S then f else if b = S + 2 then ca else if b = S + 3 then cb else _) = _
  rw [if_neg n1, if_neg n2, if_neg n3]
  rfl
theorem qsR (h : Hp) (S R : Nat) (f ca cb g : Nat → Int) : qj (ws h S R f ca cb g) R = g := if_pos rfl
theorem qsRn {h : Hp} {S R b : Nat} {f ca cb g : Nat → Int} (n : b ≠ R) : qj (ws h S R f ca cb g) b = qj h b := if_neg n
theorem wtS (h : Hp) (S R : Nat) (f ca cb g f2 : Nat → Int) : wi (ws h S R f ca cb g) S f2 = ws h S R f2 ca cb g := by
  unfold wi ws
  congr 1
  congr 1
  congr 1
  funext b
  unfold fu
  dsimp only
  by_cases e : b = S
  · rw [if_pos e, if_pos e]
  · rw [if_neg e, if_neg e, if_neg e]
theorem wt2 (h : Hp) (S R : Nat) (f ca cb g f2 : Nat → Int) : wi (ws h S R f ca cb g) (S + 2) f2 = ws h S R f f2 cb g := by
  unfold wi ws
  congr 1
  congr 1
  congr 1
  funext b
  unfold fu
  dsimp only
  by_cases e : b = S + 2
  · rw [if_pos e, if_neg (by omega), if_pos e]
  · rw [if_neg e, if_neg e, if_neg e]
theorem wt3 (h : Hp) (S R : Nat) (f ca cb g f2 : Nat → Int) : wi (ws h S R f ca cb g) (S + 3) f2 = ws h S R f ca f2 g := by
  unfold wi ws
  congr 1
  congr 1
  congr 1
  funext b
  unfold fu
  dsimp only
  by_cases e : b = S + 3
  · rw [if_pos e, if_neg (by omega), if_neg (by omega), if_pos e]
  · rw [if_neg e, if_neg e, if_neg e]
theorem wtR (h : Hp) (S R : Nat) (f ca cb g g2 : Nat → Int) : wj (ws h S R f ca cb g) R g2 = ws h S R f ca cb g2 := by
  unfold wj ws
  congr 1
  congr 1
  congr 1
  congr 1
  funext b
  unfold fu
  dsimp only
  by_cases e : b = R
  · rw [if_pos e, if_pos e]
  · rw [if_neg e, if_neg e, if_neg e]
theorem ws_self (h : Hp) (S R : Nat) : ws h S R (qi h S) (qi h (S + 2)) (qi h (S + 3)) (qj h R) = h := by
  have e1 : (fun b => if b = S then qi h S else if b = S + 2 then qi h (S + 2) else if b = S + 3 then qi h (S + 3) else h.2.2.1 b) = h.2.2.1 := by
    funext b
    by_cases q1 : b = S
    · rw [if_pos q1, q1]; rfl
    · rw [if_neg q1]
      by_cases q2 : b = S + 2
      · rw [if_pos q2, q2]; rfl
      · rw [if_neg q2]
        by_cases q3 : b = S + 3
        · rw [if_pos q3, q3]; rfl
        · rw [if_neg q3]
  have e2 : (fun b => if b = R then qj h R else h.2.2.2.1 b) = h.2.2.2.1 := by
    funext b
    by_cases q1 : b = R
    · rw [if_pos q1, q1]; rfl
    · rw [if_neg q1]
  unfold ws
  rw [e1, e2]
def isSp (h : Hp) (S R : Nat) : Prop := qk h S = 15 ∧ qr h S 4 = some R ∧ qr h S 6 = some (S + 2) ∧ qr h S 7 = some (S + 3) ∧ qk h (S + 2) = 1 ∧ ql h (S + 2) = 82 ∧ qk h (S + 3) = 1 ∧ ql h (S + 3) = 82 ∧ qk h R = 2 ∧ (ql h R = 2881 ∨ ql h R = 24000 ∨ ql h R = 200000)
theorem MeC.ws {h : Hp} {p S R : Nat} {d : Dd} {m : Nat} {f ca cb g : Nat → Int} (H : MeC h p d m) (n : p + 4 < S) : MeC (ws h S R f ca cb g) p d m := by
  unfold MeC at *
  rw [qsn (by omega) (by omega) (by omega), qsn (by omega) (by omega) (by omega), qsn (by omega) (by omega) (by omega), qsn (by omega) (by omega) (by omega), qsn (by omega) (by omega) (by omega)]
  exact H
theorem Me.ws {h : Hp} {p S R : Nat} {d : Dd} {m : Nat} {f ca cb g : Nat → Int} (H : Me h p d m) (n : p + 4 < S) : Me (ws h S R f ca cb g) p d m := ⟨H.1, H.2.1.ws n, H.2.2⟩
theorem Ms.ws {h : Hp} {M S R : Nat} {d : Dd} {f ca cb g : Nat → Int} (H : Ms h M d) (n : M + 64 ≤ S) : Ms (ws h S R f ca cb g) M d := ⟨H.1, H.2.1, H.2.2.1, fun m hm => (H.2.2.2 m hm).ws (by omega)⟩
theorem Chv.ws {h : Hp} {p S R : Nat} {s : Nat → Int} {f ca cb g : Nat → Int} (H : Chv h p s) (n : p + 1 < S) : Chv (ws h S R f ca cb g) p s := ⟨H.1, fun m hm => by rw [qsn (by omega) (by omega) (by omega)]; exact H.2.1 m hm, H.2.2⟩
/-! at -/
def T_X5_at : TT := fun as h K => ∃ (S R : Nat) (a b : Int), as = [vr (some S), vi a, vi b] ∧ isSp h S R ∧ inI (a * qi h S 1 + b) ∧ K (some (vl (if 0 ≤ a * qi h S 1 + b ∧ a * qi h S 1 + b < ql h R then qj h R (a * qi h S 1 + b).toNat else 0))) h
theorem c_at {h : Hp} {S R : Nat} {a b : Int} {K : RT} (h1 : isSp h S R) (h2 : inI (a * qi h S 1 + b) ∧ K (some (vl (if 0 ≤ a * qi h S 1 + b ∧ a * qi h S 1 + b < ql h R then qj h R (a * qi h S 1 + b).toNat else 0))) h) : T_X5_at [vr (some S), vi a, vi b] h K := ⟨S, R, a, b, rfl, h1, h2⟩
abbrev i_X5_at : MI := (cX5_at, 4, RX5, (some .long), "at", 2)
theorem k_X5_at_0 : Okop i_X5_at 0 (o_il 1) 1 := k_iln (j := 1) (by decide +kernel)
theorem k_X5_at_1 : Okop i_X5_at 1 (o_al 0) 2 := k_aln (j := 0) (by decide +kernel)
theorem k_X5_at_2 : Okop i_X5_at 2 (o_gi 5 1) 5 := k_gi (idx := 59) fo_5 (by decide) (by decide) gw_193 (by decide +kernel)
theorem k_X5_at_5 : Okop i_X5_at 5 (o_mul) 6 := k_mul (by decide +kernel)
theorem k_X5_at_6 : Okop i_X5_at 6 (o_il 2) 7 := k_iln (j := 2) (by decide +kernel)
theorem k_X5_at_7 : Okop i_X5_at 7 (o_add) 8 := k_add (by decide +kernel)
theorem k_X5_at_8 : Okop i_X5_at 8 (o_is 3) 9 := k_isn (j := 3) (by decide +kernel) (by decide)
theorem k_X5_at_9 : Okop i_X5_at 9 (o_il 3) 10 := k_iln (j := 3) (by decide +kernel)
theorem k_X5_at_10 : Okop i_X5_at 10 (o_lt0 31) 13 := k_lt0 (off := 21) (by decide +kernel) (by decide)
theorem k_X5_at_13 : Okop i_X5_at 13 (o_il 3) 14 := k_iln (j := 3) (by decide +kernel)
theorem k_X5_at_14 : Okop i_X5_at 14 (o_al 0) 15 := k_aln (j := 0) (by decide +kernel)
theorem k_X5_at_15 : Okop i_X5_at 15 (o_gr 5 4) 18 := k_gr (idx := 9) fo_5 (by decide) (by decide) gw_199 (by decide +kernel)
theorem k_X5_at_18 : Okop i_X5_at 18 (o_alen) 19 := k_alen (by decide +kernel)
theorem k_X5_at_19 : Okop i_X5_at 19 (o_ige 31) 22 := k_ige (off := 12) (by decide +kernel) (by decide)
theorem k_X5_at_22 : Okop i_X5_at 22 (o_al 0) 23 := k_aln (j := 0) (by decide +kernel)
theorem k_X5_at_23 : Okop i_X5_at 23 (o_gr 5 4) 26 := k_gr (idx := 9) fo_5 (by decide) (by decide) gw_199 (by decide +kernel)
theorem k_X5_at_26 : Okop i_X5_at 26 (o_il 3) 27 := k_iln (j := 3) (by decide +kernel)
theorem k_X5_at_27 : Okop i_X5_at 27 (o_lald) 28 := k_lald (by decide +kernel)
theorem k_X5_at_28 : Okop i_X5_at 28 (o_go 32) 31 := k_go (off := 4) (by decide +kernel) (by decide)
theorem k_X5_at_31 : Okop i_X5_at 31 (o_cl 0) 32 := k_lconst (n := 0) (by decide +kernel) rfl
theorem k_X5_at_32 : Okop i_X5_at 32 (o_lret) 33 := k_lret (by decide +kernel) rfl
theorem s_X5_at_0 : Seg i_X5_at 0 [o_il 1, o_al 0, o_gi 5 1, o_mul, o_il 2, o_add, o_is 3, o_il 3, o_lt0 31, o_il 3, o_al 0, o_gr 5 4, o_alen, o_ige 31, o_al 0, o_gr 5 4, o_il 3, o_lald, o_go 32] 31 := Seg.cons k_X5_at_0 (Seg.cons k_X5_at_1 (Seg.cons k_X5_at_2 (Seg.cons k_X5_at_5 (Seg.cons k_X5_at_6 (Seg.cons k_X5_at_7 (Seg.cons k_X5_at_8 (Seg.cons k_X5_at_9 (Seg.cons k_X5_at_10 (Seg.cons k_X5_at_13 (Seg.cons k_X5_at_14 (Seg.cons k_X5_at_15 (Seg.cons k_X5_at_18 (Seg.cons k_X5_at_19 (Seg.cons k_X5_at_22 (Seg.cons k_X5_at_23 (Seg.cons k_X5_at_26 (Seg.cons k_X5_at_27 (Seg.cons k_X5_at_28 (Seg.nil)))))))))))))))))))
theorem s_X5_at_31 : Seg i_X5_at 31 [o_cl 0, o_lret] 33 := Seg.cons k_X5_at_31 (Seg.cons k_X5_at_32 (Seg.nil))
theorem s_X5_at_32 : Seg i_X5_at 32 [o_lret] 33 := Seg.cons k_X5_at_32 (Seg.nil)

theorem m_X5_at : Mth yX5_at cX5_at 4 (some .long) 2 (Sp0 T_X5_at) := by
  refine Mth.of (by decide) ?_
  rintro x as h ok ⟨S, R, a, b, rfl, ⟨k0, r4, r6, r7, k2, l2, k3, l3, kR, lR⟩, hin, hK⟩
  refine ⟨Nat.le_of_ble_eq_true rfl, ?_⟩
  have hK' : ∀ r, r = (if 0 ≤ a * qi h S 1 + b ∧ a * qi h S 1 + b < ql h R then qj h R (a * qi h S 1 + b).toNat else 0) → xR x (some (vl r)) h := fun r e => e ▸ hK
  all_goals (try ((first | (refine s_X5_at_0 x ok _ _ _ _ ?_) | (refine s_X5_at_31 x ok _ _ _ _ ?_) | (refine s_X5_at_32 x ok _ _ _ _ ?_)); (try simp only [wpS, o_c, o_cl, o_il, o_ll, o_al, o_is, o_ls, o_as, o_inc, o_add, o_sub, o_mul, o_and, o_or, o_xor, o_shl, o_shr, o_div, o_neg, o_ladd, o_lsub, o_lmul, o_ldiv, o_lrem, o_lneg, o_lcmp, o_i2l, o_l2i, o_dup, o_dup2, o_pop, o_go, o_nn, o_sw, swc, o_iret, o_zret, o_lret, o_vret, o_ieq, o_eq0, o_ine, o_ne0, o_ilt, o_lt0, o_ige, o_ge0, o_igt, o_gt0, o_ile, o_le0, o_iald, o_zald, o_lald, o_aald, o_iast, o_zast, o_last, o_aast, o_alen, o_gi, o_gr, o_pi, o_pz, o_pr, o_new, o_newa, o_copy, o_oinit, o_call, o_callV, o_callVc, o_callI, popn, cnO, o_BAD, lgt, lst, isL, kil, st1, st2, entL, List.length_nil, List.length_cons, List.replicate, Nat.reduceAdd, Nat.reduceLeDiff, Nat.reduceSub, true_and, and_true, Nat.zero_le, ne_eq, qk_wi, ql_wi, qr_wi, qj_wi, qt_wi, qk_wj, ql_wj, qr_wj, qi_wj, qt_wj, qk_wr, ql_wr, qi_wr, qj_wr, qt_wr, qi_ws, qj_ws, qr_ws, Int.toNat_natCast, Int.toNat_zero, Int.reduceToNat, not_true_eq_false, not_false_eq_true, false_implies, implies_true, Option.some.injEq, reduceCtorEq, Sp0, true_or, or_true, or_self, wi_wi, wj_wj, k0, r4, kR]); (repeat' (first | (with_reducible refine And.intro ?_ ?_) | (with_reducible intro))); (all_goals (try (first | assumption | omega | (unfold inI; omega))))))
  all_goals (try ((first | (refine s_X5_at_0 x ok _ _ _ _ ?_) | (refine s_X5_at_31 x ok _ _ _ _ ?_) | (refine s_X5_at_32 x ok _ _ _ _ ?_)); (try simp only [wpS, o_c, o_cl, o_il, o_ll, o_al, o_is, o_ls, o_as, o_inc, o_add, o_sub, o_mul, o_and, o_or, o_xor, o_shl, o_shr, o_div, o_neg, o_ladd, o_lsub, o_lmul, o_ldiv, o_lrem, o_lneg, o_lcmp, o_i2l, o_l2i, o_dup, o_dup2, o_pop, o_go, o_nn, o_sw, swc, o_iret, o_zret, o_lret, o_vret, o_ieq, o_eq0, o_ine, o_ne0, o_ilt, o_lt0, o_ige, o_ge0, o_igt, o_gt0, o_ile, o_le0, o_iald, o_zald, o_lald, o_aald, o_iast, o_zast, o_last, o_aast, o_alen, o_gi, o_gr, o_pi, o_pz, o_pr, o_new, o_newa, o_copy, o_oinit, o_call, o_callV, o_callVc, o_callI, popn, cnO, o_BAD, lgt, lst, isL, kil, st1, st2, entL, List.length_nil, List.length_cons, List.replicate, Nat.reduceAdd, Nat.reduceLeDiff, Nat.reduceSub, true_and, and_true, Nat.zero_le, ne_eq, qk_wi, ql_wi, qr_wi, qj_wi, qt_wi, qk_wj, ql_wj, qr_wj, qi_wj, qt_wj, qk_wr, ql_wr, qi_wr, qj_wr, qt_wr, qi_ws, qj_ws, qr_ws, Int.toNat_natCast, Int.toNat_zero, Int.reduceToNat, not_true_eq_false, not_false_eq_true, false_implies, implies_true, Option.some.injEq, reduceCtorEq, Sp0, true_or, or_true, or_self, wi_wi, wj_wj, k0, r4, kR]); (repeat' (first | (with_reducible refine And.intro ?_ ?_) | (with_reducible intro))); (all_goals (try (first | assumption | omega | (unfold inI; omega))))))
  all_goals (try ((first | (refine s_X5_at_0 x ok _ _ _ _ ?_) | (refine s_X5_at_31 x ok _ _ _ _ ?_) | (refine s_X5_at_32 x ok _ _ _ _ ?_)); (try simp only [wpS, o_c, o_cl, o_il, o_ll, o_al, o_is, o_ls, o_as, o_inc, o_add, o_sub, o_mul, o_and, o_or, o_xor, o_shl, o_shr, o_div, o_neg, o_ladd, o_lsub, o_lmul, o_ldiv, o_lrem, o_lneg, o_lcmp, o_i2l, o_l2i, o_dup, o_dup2, o_pop, o_go, o_nn, o_sw, swc, o_iret, o_zret, o_lret, o_vret, o_ieq, o_eq0, o_ine, o_ne0, o_ilt, o_lt0, o_ige, o_ge0, o_igt, o_gt0, o_ile, o_le0, o_iald, o_zald, o_lald, o_aald, o_iast, o_zast, o_last, o_aast, o_alen, o_gi, o_gr, o_pi, o_pz, o_pr, o_new, o_newa, o_copy, o_oinit, o_call, o_callV, o_callVc, o_callI, popn, cnO, o_BAD, lgt, lst, isL, kil, st1, st2, entL, List.length_nil, List.length_cons, List.replicate, Nat.reduceAdd, Nat.reduceLeDiff, Nat.reduceSub, true_and, and_true, Nat.zero_le, ne_eq, qk_wi, ql_wi, qr_wi, qj_wi, qt_wi, qk_wj, ql_wj, qr_wj, qi_wj, qt_wj, qk_wr, ql_wr, qi_wr, qj_wr, qt_wr, qi_ws, qj_ws, qr_ws, Int.toNat_natCast, Int.toNat_zero, Int.reduceToNat, not_true_eq_false, not_false_eq_true, false_implies, implies_true, Option.some.injEq, reduceCtorEq, Sp0, true_or, or_true, or_self, wi_wi, wj_wj, k0, r4, kR]); (repeat' (first | (with_reducible refine And.intro ?_ ?_) | (with_reducible intro))); (all_goals (try (first | assumption | omega | (unfold inI; omega))))))
  all_goals (try ((first | (refine s_X5_at_0 x ok _ _ _ _ ?_) | (refine s_X5_at_31 x ok _ _ _ _ ?_) | (refine s_X5_at_32 x ok _ _ _ _ ?_)); (try simp only [wpS, o_c, o_cl, o_il, o_ll, o_al, o_is, o_ls, o_as, o_inc, o_add, o_sub, o_mul, o_and, o_or, o_xor, o_shl, o_shr, o_div, o_neg, o_ladd, o_lsub, o_lmul, o_ldiv, o_lrem, o_lneg, o_lcmp, o_i2l, o_l2i, o_dup, o_dup2, o_pop, o_go, o_nn, o_sw, swc, o_iret, o_zret, o_lret, o_vret, o_ieq, o_eq0, o_ine, o_ne0, o_ilt, o_lt0, o_ige, o_ge0, o_igt, o_gt0, o_ile, o_le0, o_iald, o_zald, o_lald, o_aald, o_iast, o_zast, o_last, o_aast, o_alen, o_gi, o_gr, o_pi, o_pz, o_pr, o_new, o_newa, o_copy, o_oinit, o_call, o_callV, o_callVc, o_callI, popn, cnO, o_BAD, lgt, lst, isL, kil, st1, st2, entL, List.length_nil, List.length_cons, List.replicate, Nat.reduceAdd, Nat.reduceLeDiff, Nat.reduceSub, true_and, and_true, Nat.zero_le, ne_eq, qk_wi, ql_wi, qr_wi, qj_wi, qt_wi, qk_wj, ql_wj, qr_wj, qi_wj, qt_wj, qk_wr, ql_wr, qi_wr, qj_wr, qt_wr, qi_ws, qj_ws, qr_ws, Int.toNat_natCast, Int.toNat_zero, Int.reduceToNat, not_true_eq_false, not_false_eq_true, false_implies, implies_true, Option.some.injEq, reduceCtorEq, Sp0, true_or, or_true, or_self, wi_wi, wj_wj, k0, r4, kR]); (repeat' (first | (with_reducible refine And.intro ?_ ?_) | (with_reducible intro))); (all_goals (try (first | assumption | omega | (unfold inI; omega))))))
  all_goals (try ((first | (refine s_X5_at_0 x ok _ _ _ _ ?_) | (refine s_X5_at_31 x ok _ _ _ _ ?_) | (refine s_X5_at_32 x ok _ _ _ _ ?_)); (try simp only [wpS, o_c, o_cl, o_il, o_ll, o_al, o_is, o_ls, o_as, o_inc, o_add, o_sub, o_mul, o_and, o_or, o_xor, o_shl, o_shr, o_div, o_neg, o_ladd, o_lsub, o_lmul, o_ldiv, o_lrem, o_lneg, o_lcmp, o_i2l, o_l2i, o_dup, o_dup2, o_pop, o_go, o_nn, o_sw, swc, o_iret, o_zret, o_lret, o_vret, o_ieq, o_eq0, o_ine, o_ne0, o_ilt, o_lt0, o_ige, o_ge0, o_igt, o_gt0, o_ile, o_le0, o_iald, o_zald, o_lald, o_aald, o_iast, o_zast, o_last, o_aast, o_alen, o_gi, o_gr, o_pi, o_pz, o_pr, o_new, o_newa, o_copy, o_oinit, o_call, o_callV, o_callVc, o_callI, popn, cnO, o_BAD, lgt, lst, isL, kil, st1, st2, entL, List.length_nil, List.length_cons, List.replicate, Nat.reduceAdd, Nat.reduceLeDiff, Nat.reduceSub, true_and, and_true, Nat.zero_le, ne_eq, qk_wi, ql_wi, qr_wi, qj_wi, qt_wi, qk_wj, ql_wj, qr_wj, qi_wj, qt_wj, qk_wr, ql_wr, qi_wr, qj_wr, qt_wr, qi_ws, qj_ws, qr_ws, Int.toNat_natCast, Int.toNat_zero, Int.reduceToNat, not_true_eq_false, not_false_eq_true, false_implies, implies_true, Option.some.injEq, reduceCtorEq, Sp0, true_or, or_true, or_self, wi_wi, wj_wj, k0, r4, kR]); (repeat' (first | (with_reducible refine And.intro ?_ ?_) | (with_reducible intro))); (all_goals (try (first | assumption | omega | (unfold inI; omega))))))
  all_goals (try ((first | (refine s_X5_at_0 x ok _ _ _ _ ?_) | (refine s_X5_at_31 x ok _ _ _ _ ?_) | (refine s_X5_at_32 x ok _ _ _ _ ?_)); (try simp only [wpS, o_c, o_cl, o_il, o_ll, o_al, o_is, o_ls, o_as, o_inc, o_add, o_sub, o_mul, o_and, o_or, o_xor, o_shl, o_shr, o_div, o_neg, o_ladd, o_lsub, o_lmul, o_ldiv, o_lrem, o_lneg, o_lcmp, o_i2l, o_l2i, o_dup, o_dup2, o_pop, o_go, o_nn, o_sw, swc, o_iret, o_zret, o_lret, o_vret, o_ieq, o_eq0, o_ine, o_ne0, o_ilt, o_lt0, o_ige, o_ge0, o_igt, o_gt0, o_ile, o_le0, o_iald, o_zald, o_lald, o_aald, o_iast, o_zast, o_last, o_aast, o_alen, o_gi, o_gr, o_pi, o_pz, o_pr, o_new, o_newa, o_copy, o_oinit, o_call, o_callV, o_callVc, o_callI, popn, cnO, o_BAD, lgt, lst, isL, kil, st1, st2, entL, List.length_nil, List.length_cons, List.replicate, Nat.reduceAdd, Nat.reduceLeDiff, Nat.reduceSub, true_and, and_true, Nat.zero_le, ne_eq, qk_wi, ql_wi, qr_wi, qj_wi, qt_wi, qk_wj, ql_wj, qr_wj, qi_wj, qt_wj, qk_wr, ql_wr, qi_wr, qj_wr, qt_wr, qi_ws, qj_ws, qr_ws, Int.toNat_natCast, Int.toNat_zero, Int.reduceToNat, not_true_eq_false, not_false_eq_true, false_implies, implies_true, Option.some.injEq, reduceCtorEq, Sp0, true_or, or_true, or_self, wi_wi, wj_wj, k0, r4, kR]); (repeat' (first | (with_reducible refine And.intro ?_ ?_) | (with_reducible intro))); (all_goals (try (first | assumption | omega | (unfold inI; omega))))))
  all_goals (first | omega | (unfold inI; omega) | (refine hK' _ ?_; grind))
/-! timesAll, sumBy -/
def T_X5_timesAll : TT := fun as h0 K => ∃ (h : Hp) (S R n : Nat) (v : Int) (f ca cb g : Nat → Int), as = [vr (some S), vi v] ∧ h0 = ws h S R f ca cb g ∧ isSp h S R ∧ f 5 = (n : Int) ∧ n < ql h R ∧ inI v ∧ ∀ g2 : Nat → Int, (∀ k, g2 k = if k ≤ n then g k * v else g k) → K none (ws h S R f ca cb g2)
theorem c_timesAll {h : Hp} {S R n : Nat} {v : Int} {f ca cb g : Nat → Int} {K : RT} (h1 : isSp h S R) (h2 : f 5 = (n : Int)) (h3 : n < ql h R) (h4 : inI v) (h5 : ∀ g2 : Nat → Int, (∀ k, g2 k = if k ≤ n then g k * v else g k) → K none (ws h S R f ca cb g2)) : T_X5_timesAll [vr (some S), vi v] (ws h S R f ca cb g) K := ⟨h, S, R, n, v, f, ca, cb, g, rfl, rfl, h1, h2, h3, h4, h5⟩
abbrev i_X5_timesAll : MI := (cX5_timesAll, 3, RX5, none, "timesAll", 2)
theorem k_X5_timesAll_0 : Okop i_X5_timesAll 0 (o_c 0) 1 := k_iconst (by decide +kernel)
theorem k_X5_timesAll_1 : Okop i_X5_timesAll 1 (o_is 2) 2 := k_isn (j := 2) (by decide +kernel) (by decide)
theorem k_X5_timesAll_2 : Okop i_X5_timesAll 2 (o_il 2) 3 := k_iln (j := 2) (by decide +kernel)
theorem k_X5_timesAll_3 : Okop i_X5_timesAll 3 (o_al 0) 4 := k_aln (j := 0) (by decide +kernel)
theorem k_X5_timesAll_4 : Okop i_X5_timesAll 4 (o_gi 5 5) 7 := k_gi (idx := 75) fo_5 (by decide) (by decide) gw_200 (by decide +kernel)
theorem k_X5_timesAll_7 : Okop i_X5_timesAll 7 (o_igt 27) 10 := k_igt (off := 20) (by decide +kernel) (by decide)
theorem k_X5_timesAll_10 : Okop i_X5_timesAll 10 (o_al 0) 11 := k_aln (j := 0) (by decide +kernel)
theorem k_X5_timesAll_11 : Okop i_X5_timesAll 11 (o_gr 5 4) 14 := k_gr (idx := 9) fo_5 (by decide) (by decide) gw_199 (by decide +kernel)
theorem k_X5_timesAll_14 : Okop i_X5_timesAll 14 (o_il 2) 15 := k_iln (j := 2) (by decide +kernel)
theorem k_X5_timesAll_15 : Okop i_X5_timesAll 15 (o_dup2) 16 := k_dup2 (by decide +kernel)
theorem k_X5_timesAll_16 : Okop i_X5_timesAll 16 (o_lald) 17 := k_lald (by decide +kernel)
theorem k_X5_timesAll_17 : Okop i_X5_timesAll 17 (o_il 1) 18 := k_iln (j := 1) (by decide +kernel)
theorem k_X5_timesAll_18 : Okop i_X5_timesAll 18 (o_i2l) 19 := k_i2l (by decide +kernel)
theorem k_X5_timesAll_19 : Okop i_X5_timesAll 19 (o_lmul) 20 := k_lmul (by decide +kernel)
theorem k_X5_timesAll_20 : Okop i_X5_timesAll 20 (o_last) 21 := k_last (by decide +kernel)
theorem k_X5_timesAll_21 : Okop i_X5_timesAll 21 (o_inc 2 1) 24 := k_inc (by decide +kernel) (by decide)
theorem k_X5_timesAll_24 : Okop i_X5_timesAll 24 (o_go 2) 27 := k_go (off := -22) (by decide +kernel) (by decide)
theorem k_X5_timesAll_27 : Okop i_X5_timesAll 27 (o_vret) 28 := k_vret (by decide +kernel) rfl
theorem s_X5_timesAll_0 : Seg i_X5_timesAll 0 [o_c 0, o_is 2] 2 := Seg.cons k_X5_timesAll_0 (Seg.cons k_X5_timesAll_1 (Seg.nil))
theorem s_X5_timesAll_2 : Seg i_X5_timesAll 2 [o_il 2, o_al 0, o_gi 5 5, o_igt 27, o_al 0, o_gr 5 4, o_il 2, o_dup2, o_lald, o_il 1, o_i2l, o_lmul, o_last, o_inc 2 1, o_go 2] 27 := Seg.cons k_X5_timesAll_2 (Seg.cons k_X5_timesAll_3 (Seg.cons k_X5_timesAll_4 (Seg.cons k_X5_timesAll_7 (Seg.cons k_X5_timesAll_10 (Seg.cons k_X5_timesAll_11 (Seg.cons k_X5_timesAll_14 (Seg.cons k_X5_timesAll_15 (Seg.cons k_X5_timesAll_16 (Seg.cons k_X5_timesAll_17 (Seg.cons k_X5_timesAll_18 (Seg.cons k_X5_timesAll_19 (Seg.cons k_X5_timesAll_20 (Seg.cons k_X5_timesAll_21 (Seg.cons k_X5_timesAll_24 (Seg.nil)))))))))))))))
theorem s_X5_timesAll_27 : Seg i_X5_timesAll 27 [o_vret] 28 := Seg.cons k_X5_timesAll_27 (Seg.nil)

theorem m_X5_timesAll : Mth yX5_timesAll cX5_timesAll 3 none 2 (Sp0 T_X5_timesAll) := by
  refine Mth.of (by decide) ?_
  rintro x as h0 ok ⟨h, S, R, n, v, f, ca, cb, g, rfl, rfl, ⟨k0, r4, r6, r7, k2, l2, k3, l3, kR, lR⟩, hf, hn, hv, hK⟩
  refine ⟨Nat.le_of_ble_eq_true rfl, ?_⟩
  have loop : ∀ j, j ≤ n + 1 → ∀ g2 : Nat → Int, (∀ k, g2 k = if k < j then g k * v else g k) → V i_X5_timesAll x 2 [some (vr (some S)), some (vi v), some (vi j)] [] (ws h S R f ca cb g2) (0, 0) := by
    refine bwd _ ?_ ?_
    · intro g2 hg
      refine s_X5_timesAll_2 x ok _ _ _ _ ?_
      simp only [wpS, o_c, o_cl, o_il, o_ll, o_al, o_is, o_ls, o_as, o_inc, o_add, o_sub, o_mul, o_and, o_or, o_xor, o_shl, o_shr, o_div, o_neg, o_ladd, o_lsub, o_lmul, o_ldiv, o_lrem, o_lneg, o_lcmp, o_i2l, o_l2i, o_dup, o_dup2, o_pop, o_go, o_nn, o_sw, swc, o_iret, o_zret, o_lret, o_vret, o_ieq, o_eq0, o_ine, o_ne0, o_ilt, o_lt0, o_ige, o_ge0, o_igt, o_gt0, o_ile, o_le0, o_iald, o_zald, o_lald, o_aald, o_iast, o_zast, o_last, o_aast, o_alen, o_gi, o_gr, o_pi, o_pz, o_pr, o_new, o_newa, o_copy, o_oinit, o_call, o_callV, o_callVc, o_callI, popn, cnO, o_BAD, lgt, lst, isL, kil, st1, st2, entL, List.length_nil, List.length_cons, List.replicate, Nat.reduceAdd, Nat.reduceLeDiff, Nat.reduceSub, true_and, and_true, Nat.zero_le, ne_eq, qk_wi, ql_wi, qr_wi, qj_wi, qt_wi, qk_wj, ql_wj, qr_wj, qi_wj, qt_wj, qk_wr, ql_wr, qi_wr, qj_wr, qt_wr, qi_ws, qj_ws, qr_ws, Int.toNat_natCast, Int.toNat_zero, Int.reduceToNat, not_true_eq_false, not_false_eq_true, false_implies, implies_true, Option.some.injEq, reduceCtorEq, Sp0, true_or, or_true, or_self, wi_wi, wj_wj, qk_ws, ql_ws, qr_ws', qsS, k0, hf]
      repeat' (first | (with_reducible refine And.intro ?_ ?_) | (with_reducible intro))
      all_goals (try (first | assumption | omega | (unfold inI; omega)))
      all_goals (try ((first | (refine s_X5_timesAll_0 x ok _ _ _ _ ?_) | (refine s_X5_timesAll_27 x ok _ _ _ _ ?_)); (try simp only [wpS, o_c, o_cl, o_il, o_ll, o_al, o_is, o_ls, o_as, o_inc, o_add, o_sub, o_mul, o_and, o_or, o_xor, o_shl, o_shr, o_div, o_neg, o_ladd, o_lsub, o_lmul, o_ldiv, o_lrem, o_lneg, o_lcmp, o_i2l, o_l2i, o_dup, o_dup2, o_pop, o_go, o_nn, o_sw, swc, o_iret, o_zret, o_lret, o_vret, o_ieq, o_eq0, o_ine, o_ne0, o_ilt, o_lt0, o_ige, o_ge0, o_igt, o_gt0, o_ile, o_le0, o_iald, o_zald, o_lald, o_aald, o_iast, o_zast, o_last, o_aast, o_alen, o_gi, o_gr, o_pi, o_pz, o_pr, o_new, o_newa, o_copy, o_oinit, o_call, o_callV, o_callVc, o_callI, popn, cnO, o_BAD, lgt, lst, isL, kil, st1, st2, entL, List.length_nil, List.length_cons, List.replicate, Nat.reduceAdd, Nat.reduceLeDiff, Nat.reduceSub, true_and, and_true, Nat.zero_le, ne_eq, qk_wi, ql_wi, qr_wi, qj_wi, qt_wi, qk_wj, ql_wj, qr_wj, qi_wj, qt_wj, qk_wr, ql_wr, qi_wr, qj_wr, qt_wr, qi_ws, qj_ws, qr_ws, Int.toNat_natCast, Int.toNat_zero, Int.reduceToNat, not_true_eq_false, not_false_eq_true, false_implies, implies_true, Option.some.injEq, reduceCtorEq, Sp0, true_or, or_true, or_self, wi_wi, wj_wj]); (repeat' (first | (with_reducible refine And.intro ?_ ?_) | (with_reducible intro))); (all_goals (try (first | assumption | omega | (unfold inI; omega))))))
      exact hK g2 (fun k => by rw [hg k]; grind)
    · intro j hj ih g2 hg
      have hgj : g2 j = g j := by rw [hg j, if_neg (by omega)]
      refine s_X5_timesAll_2 x ok _ _ _ _ ?_
      simp only [wpS, o_c, o_cl, o_il, o_ll, o_al, o_is, o_ls, o_as, o_inc, o_add, o_sub, o_mul, o_and, o_or, o_xor, o_shl, o_shr, o_div, o_neg, o_ladd, o_lsub, o_lmul, o_ldiv, o_lrem, o_lneg, o_lcmp, o_i2l, o_l2i, o_dup, o_dup2, o_pop, o_go, o_nn, o_sw, swc, o_iret, o_zret, o_lret, o_vret, o_ieq, o_eq0, o_ine, o_ne0, o_ilt, o_lt0, o_ige, o_ge0, o_igt, o_gt0, o_ile, o_le0, o_iald, o_zald, o_lald, o_aald, o_iast, o_zast, o_last, o_aast, o_alen, o_gi, o_gr, o_pi, o_pz, o_pr, o_new, o_newa, o_copy, o_oinit, o_call, o_callV, o_callVc, o_callI, popn, cnO, o_BAD, lgt, lst, isL, kil, st1, st2, entL, List.length_nil, List.length_cons, List.replicate, Nat.reduceAdd, Nat.reduceLeDiff, Nat.reduceSub, true_and, and_true, Nat.zero_le, ne_eq, qk_wi, ql_wi, qr_wi, qj_wi, qt_wi, qk_wj, ql_wj, qr_wj, qi_wj, qt_wj, qk_wr, ql_wr, qi_wr, qj_wr, qt_wr, qi_ws, qj_ws, qr_ws, Int.toNat_natCast, Int.toNat_zero, Int.reduceToNat, not_true_eq_false, not_false_eq_true, false_implies, implies_true, Option.some.injEq, reduceCtorEq, Sp0, true_or, or_true, or_self, wi_wi, wj_wj, qk_ws, ql_ws, qr_ws', qsS, qsR, wtR, k0, r4, kR, hf, hgj]
      repeat' (first | (with_reducible refine And.intro ?_ ?_) | (with_reducible intro))
      all_goals (try (first | assumption | omega | (unfold inI; omega)))
      exact ih _ (fun k => by
        unfold fu
        have := hg k
        grind)
  all_goals (try ((first | (refine s_X5_timesAll_0 x ok _ _ _ _ ?_) | (refine s_X5_timesAll_27 x ok _ _ _ _ ?_)); (try simp only [wpS, o_c, o_cl, o_il, o_ll, o_al, o_is, o_ls, o_as, o_inc, o_add, o_sub, o_mul, o_and, o_or, o_xor, o_shl, o_shr, o_div, o_neg, o_ladd, o_lsub, o_lmul, o_ldiv, o_lrem, o_lneg, o_lcmp, o_i2l, o_l2i, o_dup, o_dup2, o_pop, o_go, o_nn, o_sw, swc, o_iret, o_zret, o_lret, o_vret, o_ieq, o_eq0, o_ine, o_ne0, o_ilt, o_lt0, o_ige, o_ge0, o_igt, o_gt0, o_ile, o_le0, o_iald, o_zald, o_lald, o_aald, o_iast, o_zast, o_last, o_aast, o_alen, o_gi, o_gr, o_pi, o_pz, o_pr, o_new, o_newa, o_copy, o_oinit, o_call, o_callV, o_callVc, o_callI, popn, cnO, o_BAD, lgt, lst, isL, kil, st1, st2, entL, List.length_nil, List.length_cons, List.replicate, Nat.reduceAdd, Nat.reduceLeDiff, Nat.reduceSub, true_and, and_true, Nat.zero_le, ne_eq, qk_wi, ql_wi, qr_wi, qj_wi, qt_wi, qk_wj, ql_wj, qr_wj, qi_wj, qt_wj, qk_wr, ql_wr, qi_wr, qj_wr, qt_wr, qi_ws, qj_ws, qr_ws, Int.toNat_natCast, Int.toNat_zero, Int.reduceToNat, not_true_eq_false, not_false_eq_true, false_implies, implies_true, Option.some.injEq, reduceCtorEq, Sp0, true_or, or_true, or_self, wi_wi, wj_wj]); (repeat' (first | (with_reducible refine And.intro ?_ ?_) | (with_reducible intro))); (all_goals (try (first | assumption | omega | (unfold inI; omega))))))
  exact loop 0 (by omega) g (fun k => by simp)
/-- sums by a stride -/
def pfx (g : Nat → Int) (s : Nat) (k : Nat) : Int := if s ≤ k ∧ 0 < s then g k + pfx g s (k - s) else g k
termination_by k
decreasing_by omega
theorem pfx_s {g : Nat → Int} {s k : Nat} (hs : 0 < s) (h : s ≤ k) : pfx g s k = g k + pfx g s (k - s) := by rw [pfx, if_pos ⟨h, hs⟩]
theorem pfx_0 {g : Nat → Int} {s k : Nat} (h : k < s) : pfx g s k = g k := by rw [pfx, if_neg (by omega)]
def T_X5_sumBy : TT := fun as h0 K => ∃ (h : Hp) (S R s n : Nat) (f ca cb g : Nat → Int), as = [vr (some S), vi s, vi n] ∧ h0 = ws h S R f ca cb g ∧ isSp h S R ∧ 0 < s ∧ s < 1000000 ∧ n < ql h R ∧ ∀ g2 : Nat → Int, (∀ k, g2 k = if k ≤ n then pfx g s k else g k) → K none (ws h S R f ca cb g2)
theorem c_sumBy {h : Hp} {S R s n : Nat} {f ca cb g : Nat → Int} {K : RT} (h1 : isSp h S R) (h2 : 0 < s) (h2' : s < 1000000) (h3 : n < ql h R) (h5 : ∀ g2 : Nat → Int, (∀ k, g2 k = if k ≤ n then pfx g s k else g k) → K none (ws h S R f ca cb g2)) : T_X5_sumBy [vr (some S), vi s, vi n] (ws h S R f ca cb g) K := ⟨h, S, R, s, n, f, ca, cb, g, rfl, rfl, h1, h2, h2', h3, h5⟩
abbrev i_X5_sumBy : MI := (cX5_sumBy, 4, RX5, none, "sumBy", 2)
theorem k_X5_sumBy_0 : Okop i_X5_sumBy 0 (o_il 1) 1 := k_iln (j := 1) (by decide +kernel)
theorem k_X5_sumBy_1 : Okop i_X5_sumBy 1 (o_is 3) 2 := k_isn (j := 3) (by decide +kernel) (by decide)
theorem k_X5_sumBy_2 : Okop i_X5_sumBy 2 (o_il 3) 3 := k_iln (j := 3) (by decide +kernel)
theorem k_X5_sumBy_3 : Okop i_X5_sumBy 3 (o_il 2) 4 := k_iln (j := 2) (by decide +kernel)
theorem k_X5_sumBy_4 : Okop i_X5_sumBy 4 (o_igt 30) 7 := k_igt (off := 26) (by decide +kernel) (by decide)
theorem k_X5_sumBy_7 : Okop i_X5_sumBy 7 (o_al 0) 8 := k_aln (j := 0) (by decide +kernel)
theorem k_X5_sumBy_8 : Okop i_X5_sumBy 8 (o_gr 5 4) 11 := k_gr (idx := 9) fo_5 (by decide) (by decide) gw_199 (by decide +kernel)
theorem k_X5_sumBy_11 : Okop i_X5_sumBy 11 (o_il 3) 12 := k_iln (j := 3) (by decide +kernel)
theorem k_X5_sumBy_12 : Okop i_X5_sumBy 12 (o_dup2) 13 := k_dup2 (by decide +kernel)
theorem k_X5_sumBy_13 : Okop i_X5_sumBy 13 (o_lald) 14 := k_lald (by decide +kernel)
theorem k_X5_sumBy_14 : Okop i_X5_sumBy 14 (o_al 0) 15 := k_aln (j := 0) (by decide +kernel)
theorem k_X5_sumBy_15 : Okop i_X5_sumBy 15 (o_gr 5 4) 18 := k_gr (idx := 9) fo_5 (by decide) (by decide) gw_199 (by decide +kernel)
theorem k_X5_sumBy_18 : Okop i_X5_sumBy 18 (o_il 3) 19 := k_iln (j := 3) (by decide +kernel)
theorem k_X5_sumBy_19 : Okop i_X5_sumBy 19 (o_il 1) 20 := k_iln (j := 1) (by decide +kernel)
theorem k_X5_sumBy_20 : Okop i_X5_sumBy 20 (o_sub) 21 := k_sub (by decide +kernel)
theorem k_X5_sumBy_21 : Okop i_X5_sumBy 21 (o_lald) 22 := k_lald (by decide +kernel)
theorem k_X5_sumBy_22 : Okop i_X5_sumBy 22 (o_ladd) 23 := k_ladd (by decide +kernel)
theorem k_X5_sumBy_23 : Okop i_X5_sumBy 23 (o_last) 24 := k_last (by decide +kernel)
theorem k_X5_sumBy_24 : Okop i_X5_sumBy 24 (o_inc 3 1) 27 := k_inc (by decide +kernel) (by decide)
theorem k_X5_sumBy_27 : Okop i_X5_sumBy 27 (o_go 2) 30 := k_go (off := -25) (by decide +kernel) (by decide)
theorem k_X5_sumBy_30 : Okop i_X5_sumBy 30 (o_vret) 31 := k_vret (by decide +kernel) rfl
theorem s_X5_sumBy_0 : Seg i_X5_sumBy 0 [o_il 1, o_is 3] 2 := Seg.cons k_X5_sumBy_0 (Seg.cons k_X5_sumBy_1 (Seg.nil))
theorem s_X5_sumBy_2 : Seg i_X5_sumBy 2 [o_il 3, o_il 2, o_igt 30, o_al 0, o_gr 5 4, o_il 3, o_dup2, o_lald, o_al 0, o_gr 5 4, o_il 3, o_il 1, o_sub, o_lald, o_ladd, o_last, o_inc 3 1, o_go 2] 30 := Seg.cons k_X5_sumBy_2 (Seg.cons k_X5_sumBy_3 (Seg.cons k_X5_sumBy_4 (Seg.cons k_X5_sumBy_7 (Seg.cons k_X5_sumBy_8 (Seg.cons k_X5_sumBy_11 (Seg.cons k_X5_sumBy_12 (Seg.cons k_X5_sumBy_13 (Seg.cons k_X5_sumBy_14 (Seg.cons k_X5_sumBy_15 (Seg.cons k_X5_sumBy_18 (Seg.cons k_X5_sumBy_19 (Seg.cons k_X5_sumBy_20 (Seg.cons k_X5_sumBy_21 (Seg.cons k_X5_sumBy_22 (Seg.cons k_X5_sumBy_23 (Seg.cons k_X5_sumBy_24 (Seg.cons k_X5_sumBy_27 (Seg.nil))))))))))))))))))
theorem s_X5_sumBy_30 : Seg i_X5_sumBy 30 [o_vret] 31 := Seg.cons k_X5_sumBy_30 (Seg.nil)

theorem m_X5_sumBy : Mth yX5_sumBy cX5_sumBy 4 none 2 (Sp0 T_X5_sumBy) := by
  refine Mth.of (by decide) ?_
  rintro x as h0 ok ⟨h, S, R, s, n, f, ca, cb, g, rfl, rfl, ⟨k0, r4, r6, r7, k2, l2, k3, l3, kR, lR⟩, hs, hs2, hn, hK⟩
  refine ⟨Nat.le_of_ble_eq_true rfl, ?_⟩
  have exit : ∀ j : Nat, n < j → j < 2000000 → ∀ g2 : Nat → Int, (∀ k, g2 k = if k ≤ n then pfx g s k else g k) → V i_X5_sumBy x 2 [some (vr (some S)), some (vi s), some (vi n), some (vi j)] [] (ws h S R f ca cb g2) (0, 0) := by
    intro j hj hj2 g2 hg
    refine s_X5_sumBy_2 x ok _ _ _ _ ?_
    simp only [wpS, o_c, o_cl, o_il, o_ll, o_al, o_is, o_ls, o_as, o_inc, o_add, o_sub, o_mul, o_and, o_or, o_xor, o_shl, o_shr, o_div, o_neg, o_ladd, o_lsub, o_lmul, o_ldiv, o_lrem, o_lneg, o_lcmp, o_i2l, o_l2i, o_dup, o_dup2, o_pop, o_go, o_nn, o_sw, swc, o_iret, o_zret, o_lret, o_vret, o_ieq, o_eq0, o_ine, o_ne0, o_ilt, o_lt0, o_ige, o_ge0, o_igt, o_gt0, o_ile, o_le0, o_iald, o_zald, o_lald, o_aald, o_iast, o_zast, o_last, o_aast, o_alen, o_gi, o_gr, o_pi, o_pz, o_pr, o_new, o_newa, o_copy, o_oinit, o_call, o_callV, o_callVc, o_callI, popn, cnO, o_BAD, lgt, lst, isL, kil, st1, st2, entL, List.length_nil, List.length_cons, List.replicate, Nat.reduceAdd, Nat.reduceLeDiff, Nat.reduceSub, true_and, and_true, Nat.zero_le, ne_eq, qk_wi, ql_wi, qr_wi, qj_wi, qt_wi, qk_wj, ql_wj, qr_wj, qi_wj, qt_wj, qk_wr, ql_wr, qi_wr, qj_wr, qt_wr, qi_ws, qj_ws, qr_ws, Int.toNat_natCast, Int.toNat_zero, Int.reduceToNat, not_true_eq_false, not_false_eq_true, false_implies, implies_true, Option.some.injEq, reduceCtorEq, Sp0, true_or, or_true, or_self, wi_wi, wj_wj]
    repeat' (first | (with_reducible refine And.intro ?_ ?_) | (with_reducible intro))
    all_goals (try (first | assumption | omega | (unfold inI; omega)))
    all_goals (try ((first | (refine s_X5_sumBy_0 x ok _ _ _ _ ?_) | (refine s_X5_sumBy_30 x ok _ _ _ _ ?_)); (try simp only [wpS, o_c, o_cl, o_il, o_ll, o_al, o_is, o_ls, o_as, o_inc, o_add, o_sub, o_mul, o_and, o_or, o_xor, o_shl, o_shr, o_div, o_neg, o_ladd, o_lsub, o_lmul, o_ldiv, o_lrem, o_lneg, o_lcmp, o_i2l, o_l2i, o_dup, o_dup2, o_pop, o_go, o_nn, o_sw, swc, o_iret, o_zret, o_lret, o_vret, o_ieq, o_eq0, o_ine, o_ne0, o_ilt, o_lt0, o_ige, o_ge0, o_igt, o_gt0, o_ile, o_le0, o_iald, o_zald, o_lald, o_aald, o_iast, o_zast, o_last, o_aast, o_alen, o_gi, o_gr, o_pi, o_pz, o_pr, o_new, o_newa, o_copy, o_oinit, o_call, o_callV, o_callVc, o_callI, popn, cnO, o_BAD, lgt, lst, isL, kil, st1, st2, entL, List.length_nil, List.length_cons, List.replicate, Nat.reduceAdd, Nat.reduceLeDiff, Nat.reduceSub, true_and, and_true, Nat.zero_le, ne_eq, qk_wi, ql_wi, qr_wi, qj_wi, qt_wi, qk_wj, ql_wj, qr_wj, qi_wj, qt_wj, qk_wr, ql_wr, qi_wr, qj_wr, qt_wr, qi_ws, qj_ws, qr_ws, Int.toNat_natCast, Int.toNat_zero, Int.reduceToNat, not_true_eq_false, not_false_eq_true, false_implies, implies_true, Option.some.injEq, reduceCtorEq, Sp0, true_or, or_true, or_self, wi_wi, wj_wj]); (repeat' (first | (with_reducible refine And.intro ?_ ?_) | (with_reducible intro))); (all_goals (try (first | assumption | omega | (unfold inI; omega))))))
    exact hK g2 hg
  have loop : ∀ j, j ≤ n + 1 → s ≤ j → ∀ g2 : Nat → Int, (∀ k, g2 k = if k < j ∧ k ≤ n then pfx g s k else g k) → V i_X5_sumBy x 2 [some (vr (some S)), some (vi s), some (vi n), some (vi j)] [] (ws h S R f ca cb g2) (0, 0) := by
    refine bwd _ ?_ ?_
    · intro hj g2 hg
      exact exit (n + 1) (by omega) (by omega) g2 (fun k => by rw [hg k]; grind)
    · intro j hj ih hsj g2 hg
      have hgj : g2 j = g j := by rw [hg j, if_neg (by omega)]
      have e1 : ((j : Int) - s).toNat = j - s := by omega
      have hgs : g2 (j - s) = pfx g s (j - s) := by rw [hg (j - s), if_pos (by omega)]
      have hp := pfx_s (g := g) (s := s) (k := j) hs hsj
      refine s_X5_sumBy_2 x ok _ _ _ _ ?_
      simp only [wpS, o_c, o_cl, o_il, o_ll, o_al, o_is, o_ls, o_as, o_inc, o_add, o_sub, o_mul, o_and, o_or, o_xor, o_shl, o_shr, o_div, o_neg, o_ladd, o_lsub, o_lmul, o_ldiv, o_lrem, o_lneg, o_lcmp, o_i2l, o_l2i, o_dup, o_dup2, o_pop, o_go, o_nn, o_sw, swc, o_iret, o_zret, o_lret, o_vret, o_ieq, o_eq0, o_ine, o_ne0, o_ilt, o_lt0, o_ige, o_ge0, o_igt, o_gt0, o_ile, o_le0, o_iald, o_zald, o_lald, o_aald, o_iast, o_zast, o_last, o_aast, o_alen, o_gi, o_gr, o_pi, o_pz, o_pr, o_new, o_newa, o_copy, o_oinit, o_call, o_callV, o_callVc, o_callI, popn, cnO, o_BAD, lgt, lst, isL, kil, st1, st2, entL, List.length_nil, List.length_cons, List.replicate, Nat.reduceAdd, Nat.reduceLeDiff, Nat.reduceSub, true_and, and_true, Nat.zero_le, ne_eq, qk_wi, ql_wi, qr_wi, qj_wi, qt_wi, qk_wj, ql_wj, qr_wj, qi_wj, qt_wj, qk_wr, ql_wr, qi_wr, qj_wr, qt_wr, qi_ws, qj_ws, qr_ws, Int.toNat_natCast, Int.toNat_zero, Int.reduceToNat, not_true_eq_false, not_false_eq_true, false_implies, implies_true, Option.some.injEq, reduceCtorEq, Sp0, true_or, or_true, or_self, wi_wi, wj_wj, qk_ws, ql_ws, qr_ws', qsS, qsR, wtR, k0, r4, kR, hgj, e1, hgs]
      repeat' (first | (with_reducible refine And.intro ?_ ?_) | (with_reducible intro))
      all_goals (try (first | assumption | omega | (unfold inI; omega)))
      exact ih (by omega) _ (fun k => by
        unfold fu
        have := hg k
        grind)
  all_goals (try ((first | (refine s_X5_sumBy_0 x ok _ _ _ _ ?_) | (refine s_X5_sumBy_30 x ok _ _ _ _ ?_)); (try simp only [wpS, o_c, o_cl, o_il, o_ll, o_al, o_is, o_ls, o_as, o_inc, o_add, o_sub, o_mul, o_and, o_or, o_xor, o_shl, o_shr, o_div, o_neg, o_ladd, o_lsub, o_lmul, o_ldiv, o_lrem, o_lneg, o_lcmp, o_i2l, o_l2i, o_dup, o_dup2, o_pop, o_go, o_nn, o_sw, swc, o_iret, o_zret, o_lret, o_vret, o_ieq, o_eq0, o_ine, o_ne0, o_ilt, o_lt0, o_ige, o_ge0, o_igt, o_gt0, o_ile, o_le0, o_iald, o_zald, o_lald, o_aald, o_iast, o_zast, o_last, o_aast, o_alen, o_gi, o_gr, o_pi, o_pz, o_pr, o_new, o_newa, o_copy, o_oinit, o_call, o_callV, o_callVc, o_callI, popn, cnO, o_BAD, lgt, lst, isL, kil, st1, st2, entL, List.length_nil, List.length_cons, List.replicate, Nat.reduceAdd, Nat.reduceLeDiff, Nat.reduceSub, true_and, and_true, Nat.zero_le, ne_eq, qk_wi, ql_wi, qr_wi, qj_wi, qt_wi, qk_wj, ql_wj, qr_wj, qi_wj, qt_wj, qk_wr, ql_wr, qi_wr, qj_wr, qt_wr, qi_ws, qj_ws, qr_ws, Int.toNat_natCast, Int.toNat_zero, Int.reduceToNat, not_true_eq_false, not_false_eq_true, false_implies, implies_true, Option.some.injEq, reduceCtorEq, Sp0, true_or, or_true, or_self, wi_wi, wj_wj]); (repeat' (first | (with_reducible refine And.intro ?_ ?_) | (with_reducible intro))); (all_goals (try (first | assumption | omega | (unfold inI; omega))))))
  rcases Nat.lt_or_ge (n + 1) s with q | q
  · exact exit s (by omega) (by omega) g (fun k => by
      split
      · rw [pfx_0 (by omega)]
      · rfl)
  · exact loop s q (Nat.le_refl s) g (fun k => by
      split
      · rw [pfx_0 (by omega)]
      · rfl)
/-! the changes of a book's numbers -/
/-- the numbers in order, from one end or the other; 0 beyond -/
def sqn (d : Dd) (m : Nat) (u : Bool) (k : Nat) : Int := nmb d m (if u then db d m + k else da d m - k)
/-- the changes noted behind k numbers: their places, by how much -/
def chl (a : Nat → Int) : Nat → List (Nat × Int)
  | 0 => []
  | k + 1 => if a k = (if k = 0 then 0 else a (k - 1)) then chl a k else chl a k ++ [(k, a k - (if k = 0 then 0 else a (k - 1)))]
theorem chl_len (a : Nat → Int) : ∀ k, (chl a k).length ≤ k
  | 0 => Nat.le_refl _
  | k + 1 => by
    have := chl_len a k
    show (if a k = (if k = 0 then 0 else a (k - 1)) then chl a k else chl a k ++ [(k, a k - (if k = 0 then 0 else a (k - 1)))]).length ≤ k + 1
    generalize (if k = 0 then 0 else a (k - 1)) = P
    split
    · omega
    · rw [List.length_append]; simp; omega
theorem chl_mem {a : Nat → Int} {q : Nat × Int} : ∀ {k : Nat}, q ∈ chl a k → q.1 < k
  | 0, h => by cases h
  | k + 1, h => by
    have h : q ∈ (if a k = (if k = 0 then 0 else a (k - 1)) then chl a k else chl a k ++ [(k, a k - (if k = 0 then 0 else a (k - 1)))]) := h
    generalize (if k = 0 then 0 else a (k - 1)) = P at h
    split at h
    · have := chl_mem h; omega
    · rcases List.mem_append.mp h with h | h
      · have := chl_mem h; omega
      · have := List.mem_singleton.mp h
        subst this
        exact Nat.lt_succ_self k
def T_X5_noteChanges : TT := fun as h0 K => ∃ (h : Hp) (S R p : Nat) (u : Bool) (f ca cb g : Nat → Int) (d : Dd) (m : Nat), as = [vr (some S), vr (some p), vi (if u then 1 else 0)] ∧ h0 = ws h S R f ca cb g ∧ isSp h S R ∧ Me h p d m ∧ p + 5 ≤ S ∧ ∀ f2 ca2 cb2 : Nat → Int, (∀ j, j ≠ 8 → f2 j = f j) → f2 8 = ((chl (sqn d m u) (rng d m + 2)).length : Int) → (∀ i, i < (chl (sqn d m u) (rng d m + 2)).length → ca2 i = (((chl (sqn d m u) (rng d m + 2)).getD i (0, 0)).1 : Int) ∧ cb2 i = ((chl (sqn d m u) (rng d m + 2)).getD i (0, 0)).2) → K none (ws h S R f2 ca2 cb2 g)
theorem c_noteChanges {h : Hp} {S R p : Nat} {u : Bool} {f ca cb g : Nat → Int} {d : Dd} {m : Nat} {z : Int} {K : RT} (h1 : isSp h S R) (h2 : Me h p d m) (h3 : p + 5 ≤ S) (hz : z = (if u then 1 else 0)) (h5 : ∀ f2 ca2 cb2 : Nat → Int, (∀ j, j ≠ 8 → f2 j = f j) → f2 8 = ((chl (sqn d m u) (rng d m + 2)).length : Int) → (∀ i, i < (chl (sqn d m u) (rng d m + 2)).length → ca2 i = (((chl (sqn d m u) (rng d m + 2)).getD i (0, 0)).1 : Int) ∧ cb2 i = ((chl (sqn d m u) (rng d m + 2)).getD i (0, 0)).2) → K none (ws h S R f2 ca2 cb2 g)) : T_X5_noteChanges [vr (some S), vr (some p), vi z] (ws h S R f ca cb g) K := by
  subst hz
  exact ⟨h, S, R, p, u, f, ca, cb, g, d, m, rfl, rfl, h1, h2, h3, h5⟩
abbrev i_X5_noteChanges : MI := (cX5_noteChanges, 7, RX5, none, "noteChanges", 3)
theorem k_X5_noteChanges_0 : Okop i_X5_noteChanges 0 (o_al 0) 1 := k_aln (j := 0) (by decide +kernel)
theorem k_X5_noteChanges_1 : Okop i_X5_noteChanges 1 (o_c 0) 2 := k_iconst (by decide +kernel)
theorem k_X5_noteChanges_2 : Okop i_X5_noteChanges 2 (o_pi 5 8) 5 := k_pi (idx := 117) fo_5 (by decide) (by decide) gw_203 (by decide +kernel) (.inl rfl)
theorem k_X5_noteChanges_5 : Okop i_X5_noteChanges 5 (o_c 0) 6 := k_iconst (by decide +kernel)
theorem k_X5_noteChanges_6 : Okop i_X5_noteChanges 6 (o_is 3) 7 := k_isn (j := 3) (by decide +kernel) (by decide)
theorem k_X5_noteChanges_7 : Okop i_X5_noteChanges 7 (o_al 1) 8 := k_aln (j := 1) (by decide +kernel)
theorem k_X5_noteChanges_8 : Okop i_X5_noteChanges 8 (o_gi 4 3) 11 := k_gi (idx := 89) fo_4 (by decide) (by decide) gw_50 (by decide +kernel)
theorem k_X5_noteChanges_11 : Okop i_X5_noteChanges 11 (o_al 1) 12 := k_aln (j := 1) (by decide +kernel)
theorem k_X5_noteChanges_12 : Okop i_X5_noteChanges 12 (o_gi 4 2) 15 := k_gi (idx := 92) fo_4 (by decide) (by decide) gw_47 (by decide +kernel)
theorem k_X5_noteChanges_15 : Okop i_X5_noteChanges 15 (o_sub) 16 := k_sub (by decide +kernel)
theorem k_X5_noteChanges_16 : Okop i_X5_noteChanges 16 (o_is 4) 18 := k_is (by decide +kernel) (by decide)
theorem k_X5_noteChanges_18 : Okop i_X5_noteChanges 18 (o_c 0) 19 := k_iconst (by decide +kernel)
theorem k_X5_noteChanges_19 : Okop i_X5_noteChanges 19 (o_is 5) 21 := k_is (by decide +kernel) (by decide)
theorem k_X5_noteChanges_21 : Okop i_X5_noteChanges 21 (o_il 5) 23 := k_il (by decide +kernel)
theorem k_X5_noteChanges_23 : Okop i_X5_noteChanges 23 (o_il 4) 25 := k_il (by decide +kernel)
theorem k_X5_noteChanges_25 : Okop i_X5_noteChanges 25 (o_c 1) 26 := k_iconst (by decide +kernel)
theorem k_X5_noteChanges_26 : Okop i_X5_noteChanges 26 (o_add) 27 := k_add (by decide +kernel)
theorem k_X5_noteChanges_27 : Okop i_X5_noteChanges 27 (o_igt 118) 30 := k_igt (off := 91) (by decide +kernel) (by decide)
theorem k_X5_noteChanges_30 : Okop i_X5_noteChanges 30 (o_al 0) 31 := k_aln (j := 0) (by decide +kernel)
theorem k_X5_noteChanges_31 : Okop i_X5_noteChanges 31 (o_gi 5 8) 34 := k_gi (idx := 117) fo_5 (by decide) (by decide) gw_203 (by decide +kernel)
theorem k_X5_noteChanges_34 : Okop i_X5_noteChanges 34 (o_al 0) 35 := k_aln (j := 0) (by decide +kernel)
theorem k_X5_noteChanges_35 : Okop i_X5_noteChanges 35 (o_gr 5 6) 38 := k_gr (idx := 15) fo_5 (by decide) (by decide) gw_201 (by decide +kernel)
theorem k_X5_noteChanges_38 : Okop i_X5_noteChanges 38 (o_alen) 39 := k_alen (by decide +kernel)
theorem k_X5_noteChanges_39 : Okop i_X5_noteChanges 39 (o_ige 118) 42 := k_ige (off := 79) (by decide +kernel) (by decide)
theorem k_X5_noteChanges_42 : Okop i_X5_noteChanges 42 (o_al 1) 43 := k_aln (j := 1) (by decide +kernel)
theorem k_X5_noteChanges_43 : Okop i_X5_noteChanges 43 (o_il 2) 44 := k_iln (j := 2) (by decide +kernel)
theorem k_X5_noteChanges_44 : Okop i_X5_noteChanges 44 (o_eq0 57) 47 := k_eq0 (off := 13) (by decide +kernel) (by decide)
theorem k_X5_noteChanges_47 : Okop i_X5_noteChanges 47 (o_al 1) 48 := k_aln (j := 1) (by decide +kernel)
theorem k_X5_noteChanges_48 : Okop i_X5_noteChanges 48 (o_gi 4 2) 51 := k_gi (idx := 92) fo_4 (by decide) (by decide) gw_47 (by decide +kernel)
theorem k_X5_noteChanges_51 : Okop i_X5_noteChanges 51 (o_il 5) 53 := k_il (by decide +kernel)
theorem k_X5_noteChanges_53 : Okop i_X5_noteChanges 53 (o_add) 54 := k_add (by decide +kernel)
theorem k_X5_noteChanges_54 : Okop i_X5_noteChanges 54 (o_go 64) 57 := k_go (off := 10) (by decide +kernel) (by decide)
theorem k_X5_noteChanges_57 : Okop i_X5_noteChanges 57 (o_al 1) 58 := k_aln (j := 1) (by decide +kernel)
theorem k_X5_noteChanges_58 : Okop i_X5_noteChanges 58 (o_gi 4 3) 61 := k_gi (idx := 89) fo_4 (by decide) (by decide) gw_50 (by decide +kernel)
theorem k_X5_noteChanges_61 : Okop i_X5_noteChanges 61 (o_il 5) 63 := k_il (by decide +kernel)
theorem k_X5_noteChanges_63 : Okop i_X5_noteChanges 63 (o_sub) 64 := k_sub (by decide +kernel)
theorem k_X5_noteChanges_64 : Okop i_X5_noteChanges 64 (o_callV 4 1 T_X4_numberAt) 67 := k_callV (idx := 99) (r0 := (RX4, TX4, 13)) m_X4_numberAt ⟨gw_302, gw_3, ⟨by decide, by decide, by decide +kernel⟩, by decide, by decide⟩ rfl gw_455 gw_300 gw_301 (by decide +kernel)
theorem k_X5_noteChanges_67 : Okop i_X5_noteChanges 67 (o_is 6) 69 := k_is (by decide +kernel) (by decide)
theorem k_X5_noteChanges_69 : Okop i_X5_noteChanges 69 (o_il 6) 71 := k_il (by decide +kernel)
theorem k_X5_noteChanges_71 : Okop i_X5_noteChanges 71 (o_il 3) 72 := k_iln (j := 3) (by decide +kernel)
theorem k_X5_noteChanges_72 : Okop i_X5_noteChanges 72 (o_ieq 109) 75 := k_ieq (off := 37) (by decide +kernel) (by decide)
theorem k_X5_noteChanges_75 : Okop i_X5_noteChanges 75 (o_al 0) 76 := k_aln (j := 0) (by decide +kernel)
theorem k_X5_noteChanges_76 : Okop i_X5_noteChanges 76 (o_gr 5 6) 79 := k_gr (idx := 15) fo_5 (by decide) (by decide) gw_201 (by decide +kernel)
theorem k_X5_noteChanges_79 : Okop i_X5_noteChanges 79 (o_al 0) 80 := k_aln (j := 0) (by decide +kernel)
theorem k_X5_noteChanges_80 : Okop i_X5_noteChanges 80 (o_gi 5 8) 83 := k_gi (idx := 117) fo_5 (by decide) (by decide) gw_203 (by decide +kernel)
theorem k_X5_noteChanges_83 : Okop i_X5_noteChanges 83 (o_il 5) 85 := k_il (by decide +kernel)
theorem k_X5_noteChanges_85 : Okop i_X5_noteChanges 85 (o_iast) 86 := k_iast (by decide +kernel)
theorem k_X5_noteChanges_86 : Okop i_X5_noteChanges 86 (o_al 0) 87 := k_aln (j := 0) (by decide +kernel)
theorem k_X5_noteChanges_87 : Okop i_X5_noteChanges 87 (o_gr 5 7) 90 := k_gr (idx := 19) fo_5 (by decide) (by decide) gw_202 (by decide +kernel)
theorem k_X5_noteChanges_90 : Okop i_X5_noteChanges 90 (o_al 0) 91 := k_aln (j := 0) (by decide +kernel)
theorem k_X5_noteChanges_91 : Okop i_X5_noteChanges 91 (o_gi 5 8) 94 := k_gi (idx := 117) fo_5 (by decide) (by decide) gw_203 (by decide +kernel)
theorem k_X5_noteChanges_94 : Okop i_X5_noteChanges 94 (o_il 6) 96 := k_il (by decide +kernel)
theorem k_X5_noteChanges_96 : Okop i_X5_noteChanges 96 (o_il 3) 97 := k_iln (j := 3) (by decide +kernel)
theorem k_X5_noteChanges_97 : Okop i_X5_noteChanges 97 (o_sub) 98 := k_sub (by decide +kernel)
theorem k_X5_noteChanges_98 : Okop i_X5_noteChanges 98 (o_iast) 99 := k_iast (by decide +kernel)
theorem k_X5_noteChanges_99 : Okop i_X5_noteChanges 99 (o_al 0) 100 := k_aln (j := 0) (by decide +kernel)
theorem k_X5_noteChanges_100 : Okop i_X5_noteChanges 100 (o_dup) 101 := k_dup (by decide +kernel)
theorem k_X5_noteChanges_101 : Okop i_X5_noteChanges 101 (o_gi 5 8) 104 := k_gi (idx := 117) fo_5 (by decide) (by decide) gw_203 (by decide +kernel)
theorem k_X5_noteChanges_104 : Okop i_X5_noteChanges 104 (o_c 1) 105 := k_iconst (by decide +kernel)
theorem k_X5_noteChanges_105 : Okop i_X5_noteChanges 105 (o_add) 106 := k_add (by decide +kernel)
theorem k_X5_noteChanges_106 : Okop i_X5_noteChanges 106 (o_pi 5 8) 109 := k_pi (idx := 117) fo_5 (by decide) (by decide) gw_203 (by decide +kernel) (.inl rfl)
theorem k_X5_noteChanges_109 : Okop i_X5_noteChanges 109 (o_il 6) 111 := k_il (by decide +kernel)
theorem k_X5_noteChanges_111 : Okop i_X5_noteChanges 111 (o_is 3) 112 := k_isn (j := 3) (by decide +kernel) (by decide)
theorem k_X5_noteChanges_112 : Okop i_X5_noteChanges 112 (o_inc 5 1) 115 := k_inc (by decide +kernel) (by decide)
theorem k_X5_noteChanges_115 : Okop i_X5_noteChanges 115 (o_go 21) 118 := k_go (off := -94) (by decide +kernel) (by decide)
theorem k_X5_noteChanges_118 : Okop i_X5_noteChanges 118 (o_vret) 119 := k_vret (by decide +kernel) rfl
theorem s_X5_noteChanges_0 : Seg i_X5_noteChanges 0 [o_al 0, o_c 0, o_pi 5 8, o_c 0, o_is 3, o_al 1, o_gi 4 3, o_al 1, o_gi 4 2, o_sub, o_is 4, o_c 0, o_is 5] 21 := Seg.cons k_X5_noteChanges_0 (Seg.cons k_X5_noteChanges_1 (Seg.cons k_X5_noteChanges_2 (Seg.cons k_X5_noteChanges_5 (Seg.cons k_X5_noteChanges_6 (Seg.cons k_X5_noteChanges_7 (Seg.cons k_X5_noteChanges_8 (Seg.cons k_X5_noteChanges_11 (Seg.cons k_X5_noteChanges_12 (Seg.cons k_X5_noteChanges_15 (Seg.cons k_X5_noteChanges_16 (Seg.cons k_X5_noteChanges_18 (Seg.cons k_X5_noteChanges_19 (Seg.nil)))))))))))))
theorem s_X5_noteChanges_21 : Seg i_X5_noteChanges 21 [o_il 5, o_il 4, o_c 1, o_add, o_igt 118, o_al 0, o_gi 5 8, o_al 0, o_gr 5 6, o_alen, o_ige 118, o_al 1, o_il 2, o_eq0 57, o_al 1, o_gi 4 2, o_il 5, o_add, o_go 64] 57 := Seg.cons k_X5_noteChanges_21 (Seg.cons k_X5_noteChanges_23 (Seg.cons k_X5_noteChanges_25 (Seg.cons k_X5_noteChanges_26 (Seg.cons k_X5_noteChanges_27 (Seg.cons k_X5_noteChanges_30 (Seg.cons k_X5_noteChanges_31 (Seg.cons k_X5_noteChanges_34 (Seg.cons k_X5_noteChanges_35 (Seg.cons k_X5_noteChanges_38 (Seg.cons k_X5_noteChanges_39 (Seg.cons k_X5_noteChanges_42 (Seg.cons k_X5_noteChanges_43 (Seg.cons k_X5_noteChanges_44 (Seg.cons k_X5_noteChanges_47 (Seg.cons k_X5_noteChanges_48 (Seg.cons k_X5_noteChanges_51 (Seg.cons k_X5_noteChanges_53 (Seg.cons k_X5_noteChanges_54 (Seg.nil)))))))))))))))))))
theorem s_X5_noteChanges_57 : Seg i_X5_noteChanges 57 [o_al 1, o_gi 4 3, o_il 5, o_sub, o_callV 4 1 T_X4_numberAt, o_is 6, o_il 6, o_il 3, o_ieq 109, o_al 0, o_gr 5 6, o_al 0, o_gi 5 8, o_il 5, o_iast, o_al 0, o_gr 5 7, o_al 0, o_gi 5 8, o_il 6, o_il 3, o_sub, o_iast, o_al 0, o_dup, o_gi 5 8, o_c 1, o_add, o_pi 5 8, o_il 6, o_is 3, o_inc 5 1, o_go 21] 118 := Seg.cons k_X5_noteChanges_57 (Seg.cons k_X5_noteChanges_58 (Seg.cons k_X5_noteChanges_61 (Seg.cons k_X5_noteChanges_63 (Seg.cons k_X5_noteChanges_64 (Seg.cons k_X5_noteChanges_67 (Seg.cons k_X5_noteChanges_69 (Seg.cons k_X5_noteChanges_71 (Seg.cons k_X5_noteChanges_72 (Seg.cons k_X5_noteChanges_75 (Seg.cons k_X5_noteChanges_76 (Seg.cons k_X5_noteChanges_79 (Seg.cons k_X5_noteChanges_80 (Seg.cons k_X5_noteChanges_83 (Seg.cons k_X5_noteChanges_85 (Seg.cons k_X5_noteChanges_86 (Seg.cons k_X5_noteChanges_87 (Seg.cons k_X5_noteChanges_90 (Seg.cons k_X5_noteChanges_91 (Seg.cons k_X5_noteChanges_94 (Seg.cons k_X5_noteChanges_96 (Seg.cons k_X5_noteChanges_97 (Seg.cons k_X5_noteChanges_98 (Seg.cons k_X5_noteChanges_99 (Seg.cons k_X5_noteChanges_100 (Seg.cons k_X5_noteChanges_101 (Seg.cons k_X5_noteChanges_104 (Seg.cons k_X5_noteChanges_105 (Seg.cons k_X5_noteChanges_106 (Seg.cons k_X5_noteChanges_109 (Seg.cons k_X5_noteChanges_111 (Seg.cons k_X5_noteChanges_112 (Seg.cons k_X5_noteChanges_115 (Seg.nil)))))))))))))))))))))))))))))))))
theorem s_X5_noteChanges_64 : Seg i_X5_noteChanges 64 [o_callV 4 1 T_X4_numberAt, o_is 6, o_il 6, o_il 3, o_ieq 109, o_al 0, o_gr 5 6, o_al 0, o_gi 5 8, o_il 5, o_iast, o_al 0, o_gr 5 7, o_al 0, o_gi 5 8, o_il 6, o_il 3, o_sub, o_iast, o_al 0, o_dup, o_gi 5 8, o_c 1, o_add, o_pi 5 8, o_il 6, o_is 3, o_inc 5 1, o_go 21] 118 := Seg.cons k_X5_noteChanges_64 (Seg.cons k_X5_noteChanges_67 (Seg.cons k_X5_noteChanges_69 (Seg.cons k_X5_noteChanges_71 (Seg.cons k_X5_noteChanges_72 (Seg.cons k_X5_noteChanges_75 (Seg.cons k_X5_noteChanges_76 (Seg.cons k_X5_noteChanges_79 (Seg.cons k_X5_noteChanges_80 (Seg.cons k_X5_noteChanges_83 (Seg.cons k_X5_noteChanges_85 (Seg.cons k_X5_noteChanges_86 (Seg.cons k_X5_noteChanges_87 (Seg.cons k_X5_noteChanges_90 (Seg.cons k_X5_noteChanges_91 (Seg.cons k_X5_noteChanges_94 (Seg.cons k_X5_noteChanges_96 (Seg.cons k_X5_noteChanges_97 (Seg.cons k_X5_noteChanges_98 (Seg.cons k_X5_noteChanges_99 (Seg.cons k_X5_noteChanges_100 (Seg.cons k_X5_noteChanges_101 (Seg.cons k_X5_noteChanges_104 (Seg.cons k_X5_noteChanges_105 (Seg.cons k_X5_noteChanges_106 (Seg.cons k_X5_noteChanges_109 (Seg.cons k_X5_noteChanges_111 (Seg.cons k_X5_noteChanges_112 (Seg.cons k_X5_noteChanges_115 (Seg.nil)))))))))))))))))))))))))))))
theorem s_X5_noteChanges_109 : Seg i_X5_noteChanges 109 [o_il 6, o_is 3, o_inc 5 1, o_go 21] 118 := Seg.cons k_X5_noteChanges_109 (Seg.cons k_X5_noteChanges_111 (Seg.cons k_X5_noteChanges_112 (Seg.cons k_X5_noteChanges_115 (Seg.nil))))
theorem s_X5_noteChanges_118 : Seg i_X5_noteChanges 118 [o_vret] 119 := Seg.cons k_X5_noteChanges_118 (Seg.nil)

theorem m_X5_noteChanges : Mth yX5_noteChanges cX5_noteChanges 7 none 3 (Sp0 T_X5_noteChanges) := by
  refine Mth.of (by decide) ?_
  rintro x as h0 ok ⟨h, S, R, p, u, f, ca, cb, g, d, m, rfl, rfl, ⟨k0, r4, r6, r7, k2, l2, k3, l3, kR, lR⟩, hM, hpS, hK⟩
  refine ⟨Nat.le_of_ble_eq_true rfl, ?_⟩
  have hI := hM.2.2
  have hr := hI.rg
  have hb := hI.b
  have ha := hI.a
  have hm := fun f ca cb g => hM.ws (S := S) (R := R) (f := f) (ca := ca) (cb := cb) (g := g) (by omega)
  generalize hA : sqn d m u = A at *
  have loop : ∀ j, j ≤ rng d m + 2 → ∀ (f2 ca2 cb2 : Nat → Int) (v6), (∀ i, i ≠ 8 → f2 i = f i) → f2 8 = ((chl A j).length : Int) → (∀ i, i < (chl A j).length → ca2 i = (((chl A j).getD i (0, 0)).1 : Int) ∧ cb2 i = ((chl A j).getD i (0, 0)).2) → V i_X5_noteChanges x 21 [some (vr (some S)), some (vr (some p)), some (vi (if u then 1 else 0)), some (vi (if j = 0 then 0 else A (j - 1))), some (vi (rng d m)), some (vi j), v6] [] (ws h S R f2 ca2 cb2 g) (0, 0) := by
    refine bwd _ ?_ ?_
    · intro f2 ca2 cb2 v6 h1 h2 h3
      refine s_X5_noteChanges_21 x ok _ _ _ _ ?_
      simp only [wpS, o_c, o_cl, o_il, o_ll, o_al, o_is, o_ls, o_as, o_inc, o_add, o_sub, o_mul, o_and, o_or, o_xor, o_shl, o_shr, o_div, o_neg, o_ladd, o_lsub, o_lmul, o_ldiv, o_lrem, o_lneg, o_lcmp, o_i2l, o_l2i, o_dup, o_dup2, o_pop, o_go, o_nn, o_sw, swc, o_iret, o_zret, o_lret, o_vret, o_ieq, o_eq0, o_ine, o_ne0, o_ilt, o_lt0, o_ige, o_ge0, o_igt, o_gt0, o_ile, o_le0, o_iald, o_zald, o_lald, o_aald, o_iast, o_zast, o_last, o_aast, o_alen, o_gi, o_gr, o_pi, o_pz, o_pr, o_new, o_newa, o_copy, o_oinit, o_call, o_callV, o_callVc, o_callI, popn, cnO, o_BAD, lgt, lst, isL, kil, st1, st2, entL, List.length_nil, List.length_cons, List.replicate, Nat.reduceAdd, Nat.reduceLeDiff, Nat.reduceSub, true_and, and_true, Nat.zero_le, ne_eq, qk_wi, ql_wi, qr_wi, qj_wi, qt_wi, qk_wj, ql_wj, qr_wj, qi_wj, qt_wj, qk_wr, ql_wr, qi_wr, qj_wr, qt_wr, qi_ws, qj_ws, qr_ws, Int.toNat_natCast, Int.toNat_zero, Int.reduceToNat, not_true_eq_false, not_false_eq_true, false_implies, implies_true, Option.some.injEq, reduceCtorEq, Sp0, true_or, or_true, or_self, wi_wi, wj_wj]
      repeat' (first | (with_reducible refine And.intro ?_ ?_) | (with_reducible intro))
      all_goals (try (first | assumption | omega | (unfold inI; omega)))
      all_goals (try ((first | (refine s_X5_noteChanges_0 x ok _ _ _ _ ?_) | (refine s_X5_noteChanges_57 x ok _ _ _ _ ?_) | (refine s_X5_noteChanges_64 x ok _ _ _ _ ?_) | (refine s_X5_noteChanges_109 x ok _ _ _ _ ?_) | (refine s_X5_noteChanges_118 x ok _ _ _ _ ?_)); (try simp only [wpS, o_c, o_cl, o_il, o_ll, o_al, o_is, o_ls, o_as, o_inc, o_add, o_sub, o_mul, o_and, o_or, o_xor, o_shl, o_shr, o_div, o_neg, o_ladd, o_lsub, o_lmul, o_ldiv, o_lrem, o_lneg, o_lcmp, o_i2l, o_l2i, o_dup, o_dup2, o_pop, o_go, o_nn, o_sw, swc, o_iret, o_zret, o_lret, o_vret, o_ieq, o_eq0, o_ine, o_ne0, o_ilt, o_lt0, o_ige, o_ge0, o_igt, o_gt0, o_ile, o_le0, o_iald, o_zald, o_lald, o_aald, o_iast, o_zast, o_last, o_aast, o_alen, o_gi, o_gr, o_pi, o_pz, o_pr, o_new, o_newa, o_copy, o_oinit, o_call, o_callV, o_callVc, o_callI, popn, cnO, o_BAD, lgt, lst, isL, kil, st1, st2, entL, List.length_nil, List.length_cons, List.replicate, Nat.reduceAdd, Nat.reduceLeDiff, Nat.reduceSub, true_and, and_true, Nat.zero_le, ne_eq, qk_wi, ql_wi, qr_wi, qj_wi, qt_wi, qk_wj, ql_wj, qr_wj, qi_wj, qt_wj, qk_wr, ql_wr, qi_wr, qj_wr, qt_wr, qi_ws, qj_ws, qr_ws, Int.toNat_natCast, Int.toNat_zero, Int.reduceToNat, not_true_eq_false, not_false_eq_true, false_implies, implies_true, Option.some.injEq, reduceCtorEq, Sp0, true_or, or_true, or_self, wi_wi, wj_wj]); (repeat' (first | (with_reducible refine And.intro ?_ ?_) | (with_reducible intro))); (all_goals (try (first | assumption | omega | (unfold inI; omega))))))
      exact hK f2 ca2 cb2 h1 h2 h3
    · intro j hj ih f2 ca2 cb2 v6 h1 h2 h3
      have hlen := chl_len A j
      have hM2 := hm f2 ca2 cb2 g
      have hAj : nmb d m (if u then db d m + j else da d m - j) = A j := by rw [← hA]; rfl
      have hn1 := hI.nb (if u then db d m + j else da d m - j)
      rw [hAj] at hn1
      have hn2 : 0 ≤ (if j = 0 then 0 else A (j - 1)) ∧ (if j = 0 then 0 else A (j - 1)) ≤ 9 := by
        split
        · omega
        · rw [← hA]; exact hI.nb _
      have e1 : chl A (j + 1) = if A j = (if j = 0 then 0 else A (j - 1)) then chl A j else chl A j ++ [(j, A j - (if j = 0 then 0 else A (j - 1)))] := rfl
      rw [if_neg (by omega : ¬ j + 1 = 0), Nat.add_sub_cancel] at ih
      rw [e1] at ih
      generalize (if j = 0 then 0 else A (j - 1)) = P at *
      have fin : ∀ v6, A j = P → V i_X5_noteChanges x 21 [some (vr (some S)), some (vr (some p)), some (vi (if u then 1 else 0)), some (vi (A j)), some (vi (rng d m)), some (vi ((j : Int) + 1)), v6] [] (ws h S R f2 ca2 cb2 g) (0, 0) := by
        intro v6 q
        rw [if_pos q] at ih
        exact ih f2 ca2 cb2 v6 h1 h2 h3
      have fin2 : ∀ v6, ¬ A j = P → V i_X5_noteChanges x 21 [some (vr (some S)), some (vr (some p)), some (vi (if u then 1 else 0)), some (vi (A j)), some (vi (rng d m)), some (vi ((j : Int) + 1)), v6] [] (ws h S R (fu f2 8 (((chl A j).length : Int) + 1)) (fu ca2 (chl A j).length (j : Int)) (fu cb2 (chl A j).length (A j - P)) g) (0, 0) := by
        intro v6 q
        rw [if_neg q] at ih
        refine ih _ _ _ v6 (fun i hi => by rw [fu_n hi]; exact h1 i hi) (by rw [fu_s, List.length_append]; rfl) (fun i hi => ?_)
        rw [List.length_append] at hi
        simp at hi
        by_cases q2 : i = (chl A j).length
        · subst q2
          rw [fu_s, fu_s]
          simp
        · rw [fu_n q2, fu_n q2, List.getD_eq_getElem?_getD, List.getElem?_append_left (by omega), ← List.getD_eq_getElem?_getD]
          exact h3 i (by omega)
      cases u with
      | true =>
        simp only [↓reduceIte] at hAj fin fin2 ⊢
        refine s_X5_noteChanges_21 x ok _ _ _ _ ?_
        simp only [wpS, o_c, o_cl, o_il, o_ll, o_al, o_is, o_ls, o_as, o_inc, o_add, o_sub, o_mul, o_and, o_or, o_xor, o_shl, o_shr, o_div, o_neg, o_ladd, o_lsub, o_lmul, o_ldiv, o_lrem, o_lneg, o_lcmp, o_i2l, o_l2i, o_dup, o_dup2, o_pop, o_go, o_nn, o_sw, swc, o_iret, o_zret, o_lret, o_vret, o_ieq, o_eq0, o_ine, o_ne0, o_ilt, o_lt0, o_ige, o_ge0, o_igt, o_gt0, o_ile, o_le0, o_iald, o_zald, o_lald, o_aald, o_iast, o_zast, o_last, o_aast, o_alen, o_gi, o_gr, o_pi, o_pz, o_pr, o_new, o_newa, o_copy, o_oinit, o_call, o_callV, o_callVc, o_callI, popn, cnO, o_BAD, lgt, lst, isL, kil, st1, st2, entL, List.length_nil, List.length_cons, List.replicate, Nat.reduceAdd, Nat.reduceLeDiff, Nat.reduceSub, true_and, and_true, Nat.zero_le, ne_eq, qk_wi, ql_wi, qr_wi, qj_wi, qt_wi, qk_wj, ql_wj, qr_wj, qi_wj, qt_wj, qk_wr, ql_wr, qi_wr, qj_wr, qt_wr, qi_ws, qj_ws, qr_ws, Int.toNat_natCast, Int.toNat_zero, Int.reduceToNat, not_true_eq_false, not_false_eq_true, false_implies, implies_true, Option.some.injEq, reduceCtorEq, Sp0, true_or, or_true, or_self, wi_wi, wj_wj, qk_ws, ql_ws, qr_ws', qsS, k0, r6, k2, l2, h2, (hm f2 ca2 cb2 g).1.1, (hm f2 ca2 cb2 g).2.1.2.2.1, (hm f2 ca2 cb2 g).2.1.2.2.2.1]
        repeat' (first | (with_reducible refine And.intro ?_ ?_) | (with_reducible intro))
        all_goals (try (first | assumption | omega | (unfold inI; omega)))
        all_goals (try ((first | (refine s_X5_noteChanges_0 x ok _ _ _ _ ?_) | (refine s_X5_noteChanges_57 x ok _ _ _ _ ?_) | (refine s_X5_noteChanges_64 x ok _ _ _ _ ?_) | (refine s_X5_noteChanges_109 x ok _ _ _ _ ?_) | (refine s_X5_noteChanges_118 x ok _ _ _ _ ?_) | (refine c_numberAt hM2 ?_)); (try simp only [wpS, o_c, o_cl, o_il, o_ll, o_al, o_is, o_ls, o_as, o_inc, o_add, o_sub, o_mul, o_and, o_or, o_xor, o_shl, o_shr, o_div, o_neg, o_ladd, o_lsub, o_lmul, o_ldiv, o_lrem, o_lneg, o_lcmp, o_i2l, o_l2i, o_dup, o_dup2, o_pop, o_go, o_nn, o_sw, swc, o_iret, o_zret, o_lret, o_vret, o_ieq, o_eq0, o_ine, o_ne0, o_ilt, o_lt0, o_ige, o_ge0, o_igt, o_gt0, o_ile, o_le0, o_iald, o_zald, o_lald, o_aald, o_iast, o_zast, o_last, o_aast, o_alen, o_gi, o_gr, o_pi, o_pz, o_pr, o_new, o_newa, o_copy, o_oinit, o_call, o_callV, o_callVc, o_callI, popn, cnO, o_BAD, lgt, lst, isL, kil, st1, st2, entL, List.length_nil, List.length_cons, List.replicate, Nat.reduceAdd, Nat.reduceLeDiff, Nat.reduceSub, true_and, and_true, Nat.zero_le, ne_eq, qk_wi, ql_wi, qr_wi, qj_wi, qt_wi, qk_wj, ql_wj, qr_wj, qi_wj, qt_wj, qk_wr, ql_wr, qi_wr, qj_wr, qt_wr, qi_ws, qj_ws, qr_ws, Int.toNat_natCast, Int.toNat_zero, Int.reduceToNat, not_true_eq_false, not_false_eq_true, false_implies, implies_true, Option.some.injEq, reduceCtorEq, Sp0, true_or, or_true, or_self, wi_wi, wj_wj, qk_ws, ql_ws, qr_ws', qsS, qs2, qs3, wtS, wt2, wt3, k0, r6, r7, k2, l2, k3, l3, h2, hM2.1.1, hM2.2.1.2.2.1, hM2.2.1.2.2.2.1, hAj]); (repeat' (first | (with_reducible refine And.intro ?_ ?_) | (with_reducible intro))); (all_goals (try (first | assumption | omega | (unfold inI; omega))))))
        all_goals (try ((first | (refine s_X5_noteChanges_0 x ok _ _ _ _ ?_) | (refine s_X5_noteChanges_57 x ok _ _ _ _ ?_) | (refine s_X5_noteChanges_64 x ok _ _ _ _ ?_) | (refine s_X5_noteChanges_109 x ok _ _ _ _ ?_) | (refine s_X5_noteChanges_118 x ok _ _ _ _ ?_) | (refine c_numberAt hM2 ?_)); (try simp only [wpS, o_c, o_cl, o_il, o_ll, o_al, o_is, o_ls, o_as, o_inc, o_add, o_sub, o_mul, o_and, o_or, o_xor, o_shl, o_shr, o_div, o_neg, o_ladd, o_lsub, o_lmul, o_ldiv, o_lrem, o_lneg, o_lcmp, o_i2l, o_l2i, o_dup, o_dup2, o_pop, o_go, o_nn, o_sw, swc, o_iret, o_zret, o_lret, o_vret, o_ieq, o_eq0, o_ine, o_ne0, o_ilt, o_lt0, o_ige, o_ge0, o_igt, o_gt0, o_ile, o_le0, o_iald, o_zald, o_lald, o_aald, o_iast, o_zast, o_last, o_aast, o_alen, o_gi, o_gr, o_pi, o_pz, o_pr, o_new, o_newa, o_copy, o_oinit, o_call, o_callV, o_callVc, o_callI, popn, cnO, o_BAD, lgt, lst, isL, kil, st1, st2, entL, List.length_nil, List.length_cons, List.replicate, Nat.reduceAdd, Nat.reduceLeDiff, Nat.reduceSub, true_and, and_true, Nat.zero_le, ne_eq, qk_wi, ql_wi, qr_wi, qj_wi, qt_wi, qk_wj, ql_wj, qr_wj, qi_wj, qt_wj, qk_wr, ql_wr, qi_wr, qj_wr, qt_wr, qi_ws, qj_ws, qr_ws, Int.toNat_natCast, Int.toNat_zero, Int.reduceToNat, not_true_eq_false, not_false_eq_true, false_implies, implies_true, Option.some.injEq, reduceCtorEq, Sp0, true_or, or_true, or_self, wi_wi, wj_wj, qk_ws, ql_ws, qr_ws', qsS, qs2, qs3, wtS, wt2, wt3, k0, r6, r7, k2, l2, k3, l3, h2, hM2.1.1, hM2.2.1.2.2.1, hM2.2.1.2.2.2.1, hAj]); (repeat' (first | (with_reducible refine And.intro ?_ ?_) | (with_reducible intro))); (all_goals (try (first | assumption | omega | (unfold inI; omega))))))
        all_goals (try ((first | (refine s_X5_noteChanges_0 x ok _ _ _ _ ?_) | (refine s_X5_noteChanges_57 x ok _ _ _ _ ?_) | (refine s_X5_noteChanges_64 x ok _ _ _ _ ?_) | (refine s_X5_noteChanges_109 x ok _ _ _ _ ?_) | (refine s_X5_noteChanges_118 x ok _ _ _ _ ?_) | (refine c_numberAt hM2 ?_)); (try simp only [wpS, o_c, o_cl, o_il, o_ll, o_al, o_is, o_ls, o_as, o_inc, o_add, o_sub, o_mul, o_and, o_or, o_xor, o_shl, o_shr, o_div, o_neg, o_ladd, o_lsub, o_lmul, o_ldiv, o_lrem, o_lneg, o_lcmp, o_i2l, o_l2i, o_dup, o_dup2, o_pop, o_go, o_nn, o_sw, swc, o_iret, o_zret, o_lret, o_vret, o_ieq, o_eq0, o_ine, o_ne0, o_ilt, o_lt0, o_ige, o_ge0, o_igt, o_gt0, o_ile, o_le0, o_iald, o_zald, o_lald, o_aald, o_iast, o_zast, o_last, o_aast, o_alen, o_gi, o_gr, o_pi, o_pz, o_pr, o_new, o_newa, o_copy, o_oinit, o_call, o_callV, o_callVc, o_callI, popn, cnO, o_BAD, lgt, lst, isL, kil, st1, st2, entL, List.length_nil, List.length_cons, List.replicate, Nat.reduceAdd, Nat.reduceLeDiff, Nat.reduceSub, true_and, and_true, Nat.zero_le, ne_eq, qk_wi, ql_wi, qr_wi, qj_wi, qt_wi, qk_wj, ql_wj, qr_wj, qi_wj, qt_wj, qk_wr, ql_wr, qi_wr, qj_wr, qt_wr, qi_ws, qj_ws, qr_ws, Int.toNat_natCast, Int.toNat_zero, Int.reduceToNat, not_true_eq_false, not_false_eq_true, false_implies, implies_true, Option.some.injEq, reduceCtorEq, Sp0, true_or, or_true, or_self, wi_wi, wj_wj, qk_ws, ql_ws, qr_ws', qsS, qs2, qs3, wtS, wt2, wt3, k0, r6, r7, k2, l2, k3, l3, h2, hM2.1.1, hM2.2.1.2.2.1, hM2.2.1.2.2.2.1, hAj]); (repeat' (first | (with_reducible refine And.intro ?_ ?_) | (with_reducible intro))); (all_goals (try (first | assumption | omega | (unfold inI; omega))))))
        all_goals (try ((first | (refine s_X5_noteChanges_0 x ok _ _ _ _ ?_) | (refine s_X5_noteChanges_57 x ok _ _ _ _ ?_) | (refine s_X5_noteChanges_64 x ok _ _ _ _ ?_) | (refine s_X5_noteChanges_109 x ok _ _ _ _ ?_) | (refine s_X5_noteChanges_118 x ok _ _ _ _ ?_) | (refine c_numberAt hM2 ?_)); (try simp only [wpS, o_c, o_cl, o_il, o_ll, o_al, o_is, o_ls, o_as, o_inc, o_add, o_sub, o_mul, o_and, o_or, o_xor, o_shl, o_shr, o_div, o_neg, o_ladd, o_lsub, o_lmul, o_ldiv, o_lrem, o_lneg, o_lcmp, o_i2l, o_l2i, o_dup, o_dup2, o_pop, o_go, o_nn, o_sw, swc, o_iret, o_zret, o_lret, o_vret, o_ieq, o_eq0, o_ine, o_ne0, o_ilt, o_lt0, o_ige, o_ge0, o_igt, o_gt0, o_ile, o_le0, o_iald, o_zald, o_lald, o_aald, o_iast, o_zast, o_last, o_aast, o_alen, o_gi, o_gr, o_pi, o_pz, o_pr, o_new, o_newa, o_copy, o_oinit, o_call, o_callV, o_callVc, o_callI, popn, cnO, o_BAD, lgt, lst, isL, kil, st1, st2, entL, List.length_nil, List.length_cons, List.replicate, Nat.reduceAdd, Nat.reduceLeDiff, Nat.reduceSub, true_and, and_true, Nat.zero_le, ne_eq, qk_wi, ql_wi, qr_wi, qj_wi, qt_wi, qk_wj, ql_wj, qr_wj, qi_wj, qt_wj, qk_wr, ql_wr, qi_wr, qj_wr, qt_wr, qi_ws, qj_ws, qr_ws, Int.toNat_natCast, Int.toNat_zero, Int.reduceToNat, not_true_eq_false, not_false_eq_true, false_implies, implies_true, Option.some.injEq, reduceCtorEq, Sp0, true_or, or_true, or_self, wi_wi, wj_wj, qk_ws, ql_ws, qr_ws', qsS, qs2, qs3, wtS, wt2, wt3, k0, r6, r7, k2, l2, k3, l3, h2, hM2.1.1, hM2.2.1.2.2.1, hM2.2.1.2.2.2.1, hAj]); (repeat' (first | (with_reducible refine And.intro ?_ ?_) | (with_reducible intro))); (all_goals (try (first | assumption | omega | (unfold inI; omega))))))
        all_goals (first | omega | exact fin _ (by assumption) | exact fin2 _ (by assumption) | skip)
      | false =>
        simp only [Bool.false_eq_true, ↓reduceIte] at hAj fin fin2 ⊢
        refine s_X5_noteChanges_21 x ok _ _ _ _ ?_
        simp only [wpS, o_c, o_cl, o_il, o_ll, o_al, o_is, o_ls, o_as, o_inc, o_add, o_sub, o_mul, o_and, o_or, o_xor, o_shl, o_shr, o_div, o_neg, o_ladd, o_lsub, o_lmul, o_ldiv, o_lrem, o_lneg, o_lcmp, o_i2l, o_l2i, o_dup, o_dup2, o_pop, o_go, o_nn, o_sw, swc, o_iret, o_zret, o_lret, o_vret, o_ieq, o_eq0, o_ine, o_ne0, o_ilt, o_lt0, o_ige, o_ge0, o_igt, o_gt0, o_ile, o_le0, o_iald, o_zald, o_lald, o_aald, o_iast, o_zast, o_last, o_aast, o_alen, o_gi, o_gr, o_pi, o_pz, o_pr, o_new, o_newa, o_copy, o_oinit, o_call, o_callV, o_callVc, o_callI, popn, cnO, o_BAD, lgt, lst, isL, kil, st1, st2, entL, List.length_nil, List.length_cons, List.replicate, Nat.reduceAdd, Nat.reduceLeDiff, Nat.reduceSub, true_and, and_true, Nat.zero_le, ne_eq, qk_wi, ql_wi, qr_wi, qj_wi, qt_wi, qk_wj, ql_wj, qr_wj, qi_wj, qt_wj, qk_wr, ql_wr, qi_wr, qj_wr, qt_wr, qi_ws, qj_ws, qr_ws, Int.toNat_natCast, Int.toNat_zero, Int.reduceToNat, not_true_eq_false, not_false_eq_true, false_implies, implies_true, Option.some.injEq, reduceCtorEq, Sp0, true_or, or_true, or_self, wi_wi, wj_wj, qk_ws, ql_ws, qr_ws', qsS, k0, r6, k2, l2, h2, (hm f2 ca2 cb2 g).1.1, (hm f2 ca2 cb2 g).2.1.2.2.1, (hm f2 ca2 cb2 g).2.1.2.2.2.1]
        repeat' (first | (with_reducible refine And.intro ?_ ?_) | (with_reducible intro))
        all_goals (try (first | assumption | omega | (unfold inI; omega)))
        all_goals (try ((first | (refine s_X5_noteChanges_0 x ok _ _ _ _ ?_) | (refine s_X5_noteChanges_57 x ok _ _ _ _ ?_) | (refine s_X5_noteChanges_64 x ok _ _ _ _ ?_) | (refine s_X5_noteChanges_109 x ok _ _ _ _ ?_) | (refine s_X5_noteChanges_118 x ok _ _ _ _ ?_) | (refine c_numberAt hM2 ?_)); (try simp only [wpS, o_c, o_cl, o_il, o_ll, o_al, o_is, o_ls, o_as, o_inc, o_add, o_sub, o_mul, o_and, o_or, o_xor, o_shl, o_shr, o_div, o_neg, o_ladd, o_lsub, o_lmul, o_ldiv, o_lrem, o_lneg, o_lcmp, o_i2l, o_l2i, o_dup, o_dup2, o_pop, o_go, o_nn, o_sw, swc, o_iret, o_zret, o_lret, o_vret, o_ieq, o_eq0, o_ine, o_ne0, o_ilt, o_lt0, o_ige, o_ge0, o_igt, o_gt0, o_ile, o_le0, o_iald, o_zald, o_lald, o_aald, o_iast, o_zast, o_last, o_aast, o_alen, o_gi, o_gr, o_pi, o_pz, o_pr, o_new, o_newa, o_copy, o_oinit, o_call, o_callV, o_callVc, o_callI, popn, cnO, o_BAD, lgt, lst, isL, kil, st1, st2, entL, List.length_nil, List.length_cons, List.replicate, Nat.reduceAdd, Nat.reduceLeDiff, Nat.reduceSub, true_and, and_true, Nat.zero_le, ne_eq, qk_wi, ql_wi, qr_wi, qj_wi, qt_wi, qk_wj, ql_wj, qr_wj, qi_wj, qt_wj, qk_wr, ql_wr, qi_wr, qj_wr, qt_wr, qi_ws, qj_ws, qr_ws, Int.toNat_natCast, Int.toNat_zero, Int.reduceToNat, not_true_eq_false, not_false_eq_true, false_implies, implies_true, Option.some.injEq, reduceCtorEq, Sp0, true_or, or_true, or_self, wi_wi, wj_wj, qk_ws, ql_ws, qr_ws', qsS, qs2, qs3, wtS, wt2, wt3, k0, r6, r7, k2, l2, k3, l3, h2, hM2.1.1, hM2.2.1.2.2.1, hM2.2.1.2.2.2.1, hAj]); (repeat' (first | (with_reducible refine And.intro ?_ ?_) | (with_reducible intro))); (all_goals (try (first | assumption | omega | (unfold inI; omega))))))
        all_goals (try ((first | (refine s_X5_noteChanges_0 x ok _ _ _ _ ?_) | (refine s_X5_noteChanges_57 x ok _ _ _ _ ?_) | (refine s_X5_noteChanges_64 x ok _ _ _ _ ?_) | (refine s_X5_noteChanges_109 x ok _ _ _ _ ?_) | (refine s_X5_noteChanges_118 x ok _ _ _ _ ?_) | (refine c_numberAt hM2 ?_)); (try simp only [wpS, o_c, o_cl, o_il, o_ll, o_al, o_is, o_ls, o_as, o_inc, o_add, o_sub, o_mul, o_and, o_or, o_xor, o_shl, o_shr, o_div, o_neg, o_ladd, o_lsub, o_lmul, o_ldiv, o_lrem, o_lneg, o_lcmp, o_i2l, o_l2i, o_dup, o_dup2, o_pop, o_go, o_nn, o_sw, swc, o_iret, o_zret, o_lret, o_vret, o_ieq, o_eq0, o_ine, o_ne0, o_ilt, o_lt0, o_ige, o_ge0, o_igt, o_gt0, o_ile, o_le0, o_iald, o_zald, o_lald, o_aald, o_iast, o_zast, o_last, o_aast, o_alen, o_gi, o_gr, o_pi, o_pz, o_pr, o_new, o_newa, o_copy, o_oinit, o_call, o_callV, o_callVc, o_callI, popn, cnO, o_BAD, lgt, lst, isL, kil, st1, st2, entL, List.length_nil, List.length_cons, List.replicate, Nat.reduceAdd, Nat.reduceLeDiff, Nat.reduceSub, true_and, and_true, Nat.zero_le, ne_eq, qk_wi, ql_wi, qr_wi, qj_wi, qt_wi, qk_wj, ql_wj, qr_wj, qi_wj, qt_wj, qk_wr, ql_wr, qi_wr, qj_wr, qt_wr, qi_ws, qj_ws, qr_ws, Int.toNat_natCast, Int.toNat_zero, Int.reduceToNat, not_true_eq_false, not_false_eq_true, false_implies, implies_true, Option.some.injEq, reduceCtorEq, Sp0, true_or, or_true, or_self, wi_wi, wj_wj, qk_ws, ql_ws, qr_ws', qsS, qs2, qs3, wtS, wt2, wt3, k0, r6, r7, k2, l2, k3, l3, h2, hM2.1.1, hM2.2.1.2.2.1, hM2.2.1.2.2.2.1, hAj]); (repeat' (first | (with_reducible refine And.intro ?_ ?_) | (with_reducible intro))); (all_goals (try (first | assumption | omega | (unfold inI; omega))))))
        all_goals (try ((first | (refine s_X5_noteChanges_0 x ok _ _ _ _ ?_) | (refine s_X5_noteChanges_57 x ok _ _ _ _ ?_) | (refine s_X5_noteChanges_64 x ok _ _ _ _ ?_) | (refine s_X5_noteChanges_109 x ok _ _ _ _ ?_) | (refine s_X5_noteChanges_118 x ok _ _ _ _ ?_) | (refine c_numberAt hM2 ?_)); (try simp only [wpS, o_c, o_cl, o_il, o_ll, o_al, o_is, o_ls, o_as, o_inc, o_add, o_sub, o_mul, o_and, o_or, o_xor, o_shl, o_shr, o_div, o_neg, o_ladd, o_lsub, o_lmul, o_ldiv, o_lrem, o_lneg, o_lcmp, o_i2l, o_l2i, o_dup, o_dup2, o_pop, o_go, o_nn, o_sw, swc, o_iret, o_zret, o_lret, o_vret, o_ieq, o_eq0, o_ine, o_ne0, o_ilt, o_lt0, o_ige, o_ge0, o_igt, o_gt0, o_ile, o_le0, o_iald, o_zald, o_lald, o_aald, o_iast, o_zast, o_last, o_aast, o_alen, o_gi, o_gr, o_pi, o_pz, o_pr, o_new, o_newa, o_copy, o_oinit, o_call, o_callV, o_callVc, o_callI, popn, cnO, o_BAD, lgt, lst, isL, kil, st1, st2, entL, List.length_nil, List.length_cons, List.replicate, Nat.reduceAdd, Nat.reduceLeDiff, Nat.reduceSub, true_and, and_true, Nat.zero_le, ne_eq, qk_wi, ql_wi, qr_wi, qj_wi, qt_wi, qk_wj, ql_wj, qr_wj, qi_wj, qt_wj, qk_wr, ql_wr, qi_wr, qj_wr, qt_wr, qi_ws, qj_ws, qr_ws, Int.toNat_natCast, Int.toNat_zero, Int.reduceToNat, not_true_eq_false, not_false_eq_true, false_implies, implies_true, Option.some.injEq, reduceCtorEq, Sp0, true_or, or_true, or_self, wi_wi, wj_wj, qk_ws, ql_ws, qr_ws', qsS, qs2, qs3, wtS, wt2, wt3, k0, r6, r7, k2, l2, k3, l3, h2, hM2.1.1, hM2.2.1.2.2.1, hM2.2.1.2.2.2.1, hAj]); (repeat' (first | (with_reducible refine And.intro ?_ ?_) | (with_reducible intro))); (all_goals (try (first | assumption | omega | (unfold inI; omega))))))
        all_goals (try ((first | (refine s_X5_noteChanges_0 x ok _ _ _ _ ?_) | (refine s_X5_noteChanges_57 x ok _ _ _ _ ?_) | (refine s_X5_noteChanges_64 x ok _ _ _ _ ?_) | (refine s_X5_noteChanges_109 x ok _ _ _ _ ?_) | (refine s_X5_noteChanges_118 x ok _ _ _ _ ?_) | (refine c_numberAt hM2 ?_)); (try simp only [wpS, o_c, o_cl, o_il, o_ll, o_al, o_is, o_ls, o_as, o_inc, o_add, o_sub, o_mul, o_and, o_or, o_xor, o_shl, o_shr, o_div, o_neg, o_ladd, o_lsub, o_lmul, o_ldiv, o_lrem, o_lneg, o_lcmp, o_i2l, o_l2i, o_dup, o_dup2, o_pop, o_go, o_nn, o_sw, swc, o_iret, o_zret, o_lret, o_vret, o_ieq, o_eq0, o_ine, o_ne0, o_ilt, o_lt0, o_ige, o_ge0, o_igt, o_gt0, o_ile, o_le0, o_iald, o_zald, o_lald, o_aald, o_iast, o_zast, o_last, o_aast, o_alen, o_gi, o_gr, o_pi, o_pz, o_pr, o_new, o_newa, o_copy, o_oinit, o_call, o_callV, o_callVc, o_callI, popn, cnO, o_BAD, lgt, lst, isL, kil, st1, st2, entL, List.length_nil, List.length_cons, List.replicate, Nat.reduceAdd, Nat.reduceLeDiff, Nat.reduceSub, true_and, and_true, Nat.zero_le, ne_eq, qk_wi, ql_wi, qr_wi, qj_wi, qt_wi, qk_wj, ql_wj, qr_wj, qi_wj, qt_wj, qk_wr, ql_wr, qi_wr, qj_wr, qt_wr, qi_ws, qj_ws, qr_ws, Int.toNat_natCast, Int.toNat_zero, Int.reduceToNat, not_true_eq_false, not_false_eq_true, false_implies, implies_true, Option.some.injEq, reduceCtorEq, Sp0, true_or, or_true, or_self, wi_wi, wj_wj, qk_ws, ql_ws, qr_ws', qsS, qs2, qs3, wtS, wt2, wt3, k0, r6, r7, k2, l2, k3, l3, h2, hM2.1.1, hM2.2.1.2.2.1, hM2.2.1.2.2.2.1, hAj]); (repeat' (first | (with_reducible refine And.intro ?_ ?_) | (with_reducible intro))); (all_goals (try (first | assumption | omega | (unfold inI; omega))))))
        all_goals (first | omega | exact fin _ (by assumption) | exact fin2 _ (by assumption) | skip)
  have e0 : da d m - db d m = (rng d m : Int) := by omega
  have kp : qk h p = 14 := hM.1.1
  all_goals (try ((first | (refine s_X5_noteChanges_0 x ok _ _ _ _ ?_) | (refine s_X5_noteChanges_57 x ok _ _ _ _ ?_) | (refine s_X5_noteChanges_64 x ok _ _ _ _ ?_) | (refine s_X5_noteChanges_109 x ok _ _ _ _ ?_) | (refine s_X5_noteChanges_118 x ok _ _ _ _ ?_)); (try simp only [wpS, o_c, o_cl, o_il, o_ll, o_al, o_is, o_ls, o_as, o_inc, o_add, o_sub, o_mul, o_and, o_or, o_xor, o_shl, o_shr, o_div, o_neg, o_ladd, o_lsub, o_lmul, o_ldiv, o_lrem, o_lneg, o_lcmp, o_i2l, o_l2i, o_dup, o_dup2, o_pop, o_go, o_nn, o_sw, swc, o_iret, o_zret, o_lret, o_vret, o_ieq, o_eq0, o_ine, o_ne0, o_ilt, o_lt0, o_ige, o_ge0, o_igt, o_gt0, o_ile, o_le0, o_iald, o_zald, o_lald, o_aald, o_iast, o_zast, o_last, o_aast, o_alen, o_gi, o_gr, o_pi, o_pz, o_pr, o_new, o_newa, o_copy, o_oinit, o_call, o_callV, o_callVc, o_callI, popn, cnO, o_BAD, lgt, lst, isL, kil, st1, st2, entL, List.length_nil, List.length_cons, List.replicate, Nat.reduceAdd, Nat.reduceLeDiff, Nat.reduceSub, true_and, and_true, Nat.zero_le, ne_eq, qk_wi, ql_wi, qr_wi, qj_wi, qt_wi, qk_wj, ql_wj, qr_wj, qi_wj, qt_wj, qk_wr, ql_wr, qi_wr, qj_wr, qt_wr, qi_ws, qj_ws, qr_ws, Int.toNat_natCast, Int.toNat_zero, Int.reduceToNat, not_true_eq_false, not_false_eq_true, false_implies, implies_true, Option.some.injEq, reduceCtorEq, Sp0, true_or, or_true, or_self, wi_wi, wj_wj, qk_ws, ql_ws, qr_ws', qsS, wtS, k0, (hm f ca cb g).1.1, (hm (fu f 8 0) ca cb g).2.1.2.2.1, (hm (fu f 8 0) ca cb g).2.1.2.2.2.1, e0]); (repeat' (first | (with_reducible refine And.intro ?_ ?_) | (with_reducible intro))); (all_goals (try (first | assumption | omega | (unfold inI; omega))))))
  exact loop 0 (by omega) (fu f 8 0) ca cb none (fun i hi => by rw [fu_n hi]) (by rw [fu_s]; rfl) (fun i hi => by simp [chl] at hi)

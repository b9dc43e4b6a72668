/-! ===== FitBench$State: counts ===== -/
def Stt (h : Hp) (a : Nat) (d : Dd) : Prop := isSt h a ∧ StC h a d ∧ Inv d
theorem Stt.k {h : Hp} {a : Nat} {d : Dd} (H : Stt h a d) : qk h a = 16 := H.1.1
theorem Stt.r0 {h : Hp} {a : Nat} {d : Dd} (H : Stt h a d) : qr h a 0 = some (a + 1) := H.1.2.1
theorem Stt.r1 {h : Hp} {a : Nat} {d : Dd} (H : Stt h a d) : qr h a 1 = some (a + 2) := H.1.2.2.1
theorem Stt.r2 {h : Hp} {a : Nat} {d : Dd} (H : Stt h a d) : qr h a 2 = some (a + 3) := H.1.2.2.2.1
theorem Stt.r3 {h : Hp} {a : Nat} {d : Dd} (H : Stt h a d) : qr h a 3 = some (a + 4) := H.1.2.2.2.2.1
theorem Stt.k1 {h : Hp} {a : Nat} {d : Dd} (H : Stt h a d) : qk h (a + 1) = 4 := H.1.2.2.2.2.2.1
theorem Stt.l1 {h : Hp} {a : Nat} {d : Dd} (H : Stt h a d) : ql h (a + 1) = 12 := H.1.2.2.2.2.2.2.1
theorem Stt.k2 {h : Hp} {a : Nat} {d : Dd} (H : Stt h a d) : qk h (a + 2) = 5 := H.1.2.2.2.2.2.2.2.1
theorem Stt.l2 {h : Hp} {a : Nat} {d : Dd} (H : Stt h a d) : ql h (a + 2) = 6 := H.1.2.2.2.2.2.2.2.2.1
theorem Stt.k3 {h : Hp} {a : Nat} {d : Dd} (H : Stt h a d) : qk h (a + 3) = 6 := H.1.2.2.2.2.2.2.2.2.2.1
theorem Stt.l3 {h : Hp} {a : Nat} {d : Dd} (H : Stt h a d) : ql h (a + 3) = 2 := H.1.2.2.2.2.2.2.2.2.2.2.1
theorem Stt.k4 {h : Hp} {a : Nat} {d : Dd} (H : Stt h a d) : qk h (a + 4) = 1 := H.1.2.2.2.2.2.2.2.2.2.2.2.1
theorem Stt.l4 {h : Hp} {a : Nat} {d : Dd} (H : Stt h a d) : ql h (a + 4) = 24 := H.1.2.2.2.2.2.2.2.2.2.2.2.2.1
theorem Stt.rm {h : Hp} {a : Nat} {d : Dd} (H : Stt h a d) {m : Nat} (hm : m < 12) : qr h (a + 1) m = some (a + 5 + 5 * m) := H.1.2.2.2.2.2.2.2.2.2.2.2.2.2.1 m hm
theorem Stt.me {h : Hp} {a : Nat} {d : Dd} (H : Stt h a d) {m : Nat} (hm : m < 12) : Me h (a + 5 + 5 * m) d m := ⟨H.1.2.2.2.2.2.2.2.2.2.2.2.2.2.2.1 m hm, H.2.1.1 m hm, H.2.2.1 m hm⟩
theorem Stt.rc {h : Hp} {a : Nat} {d : Dd} (H : Stt h a d) {c : Nat} (hc : c < 6) : qr h (a + 2) c = some (a + 65 + 2 * c) := H.1.2.2.2.2.2.2.2.2.2.2.2.2.2.2.2.1 c hc
theorem Stt.ch {h : Hp} {a : Nat} {d : Dd} (H : Stt h a d) {c : Nat} (hc : c < 6) : isCh h (a + 65 + 2 * c) ∧ ChC h (a + 65 + 2 * c) d c ∧ InvC d c := ⟨H.1.2.2.2.2.2.2.2.2.2.2.2.2.2.2.2.2.1 c hc, H.2.1.2.1 c hc, H.2.2.2.1 c hc⟩
theorem Stt.cv {h : Hp} {a : Nat} {d : Dd} (H : Stt h a d) {c : Nat} (hc : c < 6) : Chv h (a + 65 + 2 * c) (dsh d c) := ⟨(H.ch hc).1, (H.ch hc).2.1.2.2, (H.ch hc).2.2.1⟩
theorem Stt.rl {h : Hp} {a : Nat} {d : Dd} (H : Stt h a d) {l : Nat} (hl : l < 2) : qr h (a + 3) l = some (a + 77 + 2 * l) := H.1.2.2.2.2.2.2.2.2.2.2.2.2.2.2.2.2.2.1 l hl
theorem Stt.lo {h : Hp} {a : Nat} {d : Dd} (H : Stt h a d) {l : Nat} (hl : l < 2) : isLo h (a + 77 + 2 * l) ∧ LoC h (a + 77 + 2 * l) d l ∧ InvL d l := ⟨H.1.2.2.2.2.2.2.2.2.2.2.2.2.2.2.2.2.2.2 l hl, H.2.1.2.2.1 l hl, H.2.2.2.2.1 l hl⟩
theorem Stt.lv {h : Hp} {a : Nat} {d : Dd} (H : Stt h a d) {l : Nat} (hl : l < 2) : Lov h (a + 77 + 2 * l) (dct d l).toNat (dpt d l) := by
  obtain ⟨h1, h2, h3⟩ := H.lo hl
  have := h3.1
  exact ⟨h1, by rw [h2.1]; omega, by omega, h2.2, h3.2⟩
theorem Stt.ms {h : Hp} {a : Nat} {d : Dd} (H : Stt h a d) : Ms h (a + 1) d := by
  refine ⟨H.k1, H.l1, fun m hm => ?_, fun m hm => ?_⟩
  · rw [H.rm hm]
  · have := H.me hm
    rw [show a + 1 + 4 + 5 * m = a + 5 + 5 * m by omega]
    exact this
/-! the parts of a chance -/
def inC (d : Dd) (s t : Nat → Int) (m : Nat) : Prop := dk d m = 0 ∧ (s m ≠ 0 ∨ t m ≠ 0)
theorem inC_dec (d : Dd) (s t : Nat → Int) (m : Nat) : inC d s t m ∨ ¬ inC d s t m := Classical.em _
noncomputable def cpt (d : Dd) (s t : Nat → Int) : Nat → Int
  | 0 => 1
  | n + 1 => if 1000000000000 < cpt d s t n then cpt d s t n else if dk d n = 0 ∧ (s n ≠ 0 ∨ t n ≠ 0) then cpt d s t n * lot d n else cpt d s t n
theorem cpt_s (d : Dd) (s t : Nat → Int) (n : Nat) : cpt d s t (n + 1) = if 1000000000000 < cpt d s t n then cpt d s t n else if dk d n = 0 ∧ (s n ≠ 0 ∨ t n ≠ 0) then cpt d s t n * lot d n else cpt d s t n := rfl
theorem cpt_stay {d : Dd} {s t : Nat → Int} {n : Nat} (h : 1000000000000 < cpt d s t n) : ∀ k, cpt d s t (n + k) = cpt d s t n
  | 0 => rfl
  | k + 1 => by
    rw [← Nat.add_assoc]
    rw [cpt_s, cpt_stay h k, if_pos h]
theorem cpt_bd {d : Dd} {s t : Nat → Int} (hI : ∀ m, m < 12 → InvM d m) : ∀ n, n ≤ 12 → 1 ≤ cpt d s t n ∧ cpt d s t n ≤ 729000000000000
  | 0, _ => by unfold cpt; omega
  | n + 1, h => by
    have ih := cpt_bd (s := s) (t := t) hI n (by omega)
    have h1 := (hI n (by omega)).l
    have h2 := (hI n (by omega)).lt
    unfold cpt
    split
    · exact ih
    · split
      · rename_i q1 q2
        have e1 : 1 * 1 ≤ cpt d s t n * lot d n := Int.mul_le_mul ih.1 (by omega) (by omega) (by omega)
        have e2 : cpt d s t n * lot d n ≤ 1000000000000 * 729 := Int.mul_le_mul (by omega) h2 (by omega) (by omega)
        omega
      · exact ih
def T_X6_countParts : TT := fun as h K => ∃ (a p q : Nat) (d : Dd) (s t : Nat → Int), as = [vr (some a), vr (some p), vr (some q)] ∧ Stt h a d ∧ Chv h p s ∧ Chv h q t ∧ K (some (vl (cpt d s t 12))) h
theorem c_countParts {h : Hp} {a p q : Nat} {d : Dd} {s t : Nat → Int} {K : RT} (hS : Stt h a d) (h1 : Chv h p s) (h2 : Chv h q t) (h3 : K (some (vl (cpt d s t 12))) h) : T_X6_countParts [vr (some a), vr (some p), vr (some q)] h K := ⟨a, p, q, d, s, t, rfl, hS, h1, h2, h3⟩
abbrev i_X6_countParts : MI := (cX6_countParts, 6, RX6, (some .long), "countParts", 4)
theorem k_X6_countParts_0 : Okop i_X6_countParts 0 (o_cl 1) 1 := k_lconst (n := 1) (by decide +kernel) rfl
theorem k_X6_countParts_1 : Okop i_X6_countParts 1 (o_ls 3) 2 := k_lsn (j := 3) (by decide +kernel) (by decide)
theorem k_X6_countParts_2 : Okop i_X6_countParts 2 (o_c 0) 3 := k_iconst (by decide +kernel)
theorem k_X6_countParts_3 : Okop i_X6_countParts 3 (o_is 5) 5 := k_is (by decide +kernel) (by decide)
theorem k_X6_countParts_5 : Okop i_X6_countParts 5 (o_il 5) 7 := k_il (by decide +kernel)
theorem k_X6_countParts_7 : Okop i_X6_countParts 7 (o_c 12) 9 := k_bipush (by decide +kernel) rfl
theorem k_X6_countParts_9 : Okop i_X6_countParts 9 (o_ige 73) 12 := k_ige (off := 64) (by decide +kernel) (by decide)
theorem k_X6_countParts_12 : Okop i_X6_countParts 12 (o_ll 3) 13 := k_lln (j := 3) (by decide +kernel)
theorem k_X6_countParts_13 : Okop i_X6_countParts 13 (o_cl 1000000000000) 16 := k_ldc2 (idx := 42) (by decide +kernel) gw_426
theorem k_X6_countParts_16 : Okop i_X6_countParts 16 (o_lcmp) 17 := k_lcmp (by decide +kernel)
theorem k_X6_countParts_17 : Okop i_X6_countParts 17 (o_gt0 73) 20 := k_gt0 (off := 56) (by decide +kernel) (by decide)
theorem k_X6_countParts_20 : Okop i_X6_countParts 20 (o_al 0) 21 := k_aln (j := 0) (by decide +kernel)
theorem k_X6_countParts_21 : Okop i_X6_countParts 21 (o_gr 6 0) 24 := k_gr (idx := 11) fo_6 (by decide) (by decide) gw_146 (by decide +kernel)
theorem k_X6_countParts_24 : Okop i_X6_countParts 24 (o_il 5) 26 := k_il (by decide +kernel)
theorem k_X6_countParts_26 : Okop i_X6_countParts 26 (o_aald) 27 := k_aald (by decide +kernel)
theorem k_X6_countParts_27 : Okop i_X6_countParts 27 (o_gi 4 0) 30 := k_gi (idx := 44) fo_4 (by decide) (by decide) gw_38 (by decide +kernel)
theorem k_X6_countParts_30 : Okop i_X6_countParts 30 (o_ne0 67) 33 := k_ne0 (off := 37) (by decide +kernel) (by decide)
theorem k_X6_countParts_33 : Okop i_X6_countParts 33 (o_al 1) 34 := k_aln (j := 1) (by decide +kernel)
theorem k_X6_countParts_34 : Okop i_X6_countParts 34 (o_gr 1 0) 37 := k_gr (idx := 48) fo_1 (by decide) (by decide) gw_110 (by decide +kernel)
theorem k_X6_countParts_37 : Okop i_X6_countParts 37 (o_il 5) 39 := k_il (by decide +kernel)
theorem k_X6_countParts_39 : Okop i_X6_countParts 39 (o_iald) 40 := k_iald (by decide +kernel)
theorem k_X6_countParts_40 : Okop i_X6_countParts 40 (o_ne0 53) 43 := k_ne0 (off := 13) (by decide +kernel) (by decide)
theorem k_X6_countParts_43 : Okop i_X6_countParts 43 (o_al 2) 44 := k_aln (j := 2) (by decide +kernel)
theorem k_X6_countParts_44 : Okop i_X6_countParts 44 (o_gr 1 0) 47 := k_gr (idx := 48) fo_1 (by decide) (by decide) gw_110 (by decide +kernel)
theorem k_X6_countParts_47 : Okop i_X6_countParts 47 (o_il 5) 49 := k_il (by decide +kernel)
theorem k_X6_countParts_49 : Okop i_X6_countParts 49 (o_iald) 50 := k_iald (by decide +kernel)
theorem k_X6_countParts_50 : Okop i_X6_countParts 50 (o_eq0 67) 53 := k_eq0 (off := 17) (by decide +kernel) (by decide)
theorem k_X6_countParts_53 : Okop i_X6_countParts 53 (o_ll 3) 54 := k_lln (j := 3) (by decide +kernel)
theorem k_X6_countParts_54 : Okop i_X6_countParts 54 (o_al 0) 55 := k_aln (j := 0) (by decide +kernel)
theorem k_X6_countParts_55 : Okop i_X6_countParts 55 (o_gr 6 0) 58 := k_gr (idx := 11) fo_6 (by decide) (by decide) gw_146 (by decide +kernel)
theorem k_X6_countParts_58 : Okop i_X6_countParts 58 (o_il 5) 60 := k_il (by decide +kernel)
theorem k_X6_countParts_60 : Okop i_X6_countParts 60 (o_aald) 61 := k_aald (by decide +kernel)
theorem k_X6_countParts_61 : Okop i_X6_countParts 61 (o_callV 4 0 T_X4_lotSize) 64 := k_callV (idx := 51) (r0 := (RX4, TX4, 13)) m_X4_lotSize ⟨gw_298, gw_3, ⟨by decide, by decide, by decide +kernel⟩, by decide, by decide⟩ rfl gw_427 gw_296 gw_297 (by decide +kernel)
theorem k_X6_countParts_64 : Okop i_X6_countParts 64 (o_i2l) 65 := k_i2l (by decide +kernel)
theorem k_X6_countParts_65 : Okop i_X6_countParts 65 (o_lmul) 66 := k_lmul (by decide +kernel)
theorem k_X6_countParts_66 : Okop i_X6_countParts 66 (o_ls 3) 67 := k_lsn (j := 3) (by decide +kernel) (by decide)
theorem k_X6_countParts_67 : Okop i_X6_countParts 67 (o_inc 5 1) 70 := k_inc (by decide +kernel) (by decide)
theorem k_X6_countParts_70 : Okop i_X6_countParts 70 (o_go 5) 73 := k_go (off := -65) (by decide +kernel) (by decide)
theorem k_X6_countParts_73 : Okop i_X6_countParts 73 (o_ll 3) 74 := k_lln (j := 3) (by decide +kernel)
theorem k_X6_countParts_74 : Okop i_X6_countParts 74 (o_lret) 75 := k_lret (by decide +kernel) rfl
theorem s_X6_countParts_0 : Seg i_X6_countParts 0 [o_cl 1, o_ls 3, o_c 0, o_is 5] 5 := Seg.cons k_X6_countParts_0 (Seg.cons k_X6_countParts_1 (Seg.cons k_X6_countParts_2 (Seg.cons k_X6_countParts_3 (Seg.nil))))
theorem s_X6_countParts_5 : Seg i_X6_countParts 5 [o_il 5, o_c 12, o_ige 73, o_ll 3, o_cl 1000000000000, o_lcmp, o_gt0 73, o_al 0, o_gr 6 0, o_il 5, o_aald, o_gi 4 0, o_ne0 67, o_al 1, o_gr 1 0, o_il 5, o_iald, o_ne0 53, o_al 2, o_gr 1 0, o_il 5, o_iald, o_eq0 67, o_ll 3, o_al 0, o_gr 6 0, o_il 5, o_aald, o_callV 4 0 T_X4_lotSize, o_i2l, o_lmul, o_ls 3, o_inc 5 1, o_go 5] 73 := Seg.cons k_X6_countParts_5 (Seg.cons k_X6_countParts_7 (Seg.cons k_X6_countParts_9 (Seg.cons k_X6_countParts_12 (Seg.cons k_X6_countParts_13 (Seg.cons k_X6_countParts_16 (Seg.cons k_X6_countParts_17 (Seg.cons k_X6_countParts_20 (Seg.cons k_X6_countParts_21 (Seg.cons k_X6_countParts_24 (Seg.cons k_X6_countParts_26 (Seg.cons k_X6_countParts_27 (Seg.cons k_X6_countParts_30 (Seg.cons k_X6_countParts_33 (Seg.cons k_X6_countParts_34 (Seg.cons k_X6_countParts_37 (Seg.cons k_X6_countParts_39 (Seg.cons k_X6_countParts_40 (Seg.cons k_X6_countParts_43 (Seg.cons k_X6_countParts_44 (Seg.cons k_X6_countParts_47 (Seg.cons k_X6_countParts_49 (Seg.cons k_X6_countParts_50 (Seg.cons k_X6_countParts_53 (Seg.cons k_X6_countParts_54 (Seg.cons k_X6_countParts_55 (Seg.cons k_X6_countParts_58 (Seg.cons k_X6_countParts_60 (Seg.cons k_X6_countParts_61 (Seg.cons k_X6_countParts_64 (Seg.cons k_X6_countParts_65 (Seg.cons k_X6_countParts_66 (Seg.cons k_X6_countParts_67 (Seg.cons k_X6_countParts_70 (Seg.nil))))))))))))))))))))))))))))))))))
theorem s_X6_countParts_53 : Seg i_X6_countParts 53 [o_ll 3, o_al 0, o_gr 6 0, o_il 5, o_aald, o_callV 4 0 T_X4_lotSize, o_i2l, o_lmul, o_ls 3, o_inc 5 1, o_go 5] 73 := Seg.cons k_X6_countParts_53 (Seg.cons k_X6_countParts_54 (Seg.cons k_X6_countParts_55 (Seg.cons k_X6_countParts_58 (Seg.cons k_X6_countParts_60 (Seg.cons k_X6_countParts_61 (Seg.cons k_X6_countParts_64 (Seg.cons k_X6_countParts_65 (Seg.cons k_X6_countParts_66 (Seg.cons k_X6_countParts_67 (Seg.cons k_X6_countParts_70 (Seg.nil)))))))))))
theorem s_X6_countParts_67 : Seg i_X6_countParts 67 [o_inc 5 1, o_go 5] 73 := Seg.cons k_X6_countParts_67 (Seg.cons k_X6_countParts_70 (Seg.nil))
theorem s_X6_countParts_73 : Seg i_X6_countParts 73 [o_ll 3, o_lret] 75 := Seg.cons k_X6_countParts_73 (Seg.cons k_X6_countParts_74 (Seg.nil))

theorem m_X6_countParts : Mth yX6_countParts cX6_countParts 6 (some .long) 4 (Sp0 T_X6_countParts) := by
  refine Mth.of (by decide) ?_
  rintro x as h ok ⟨a, p, q, d, s, t, rfl, hS, ⟨⟨k1, r1, k2, l2⟩, cs, hs⟩, ⟨⟨j1, u1, j2, v2⟩, ct, ht⟩, hK⟩
  refine ⟨Nat.le_of_ble_eq_true rfl, ?_⟩
  have hb := cpt_bd (d := d) (s := s) (t := t) hS.2.2.1
  have loop : ∀ j, j ≤ 12 → V i_X6_countParts x 5 [some (vr (some a)), some (vr (some p)), some (vr (some q)), some (vl (cpt d s t j)), none, some (vi j)] [] h (0, 0) := by
    refine bwd _ ?_ ?_
    · refine s_X6_countParts_5 x ok _ _ _ _ ?_
      simp only [wpS, o_c, o_cl, o_il, o_ll, o_al, o_is, o_ls, o_as, o_inc, o_add, o_sub, o_mul, o_and, o_or, o_xor, o_shl, o_shr, o_div, o_neg, o_ladd, o_lsub, o_lmul, o_ldiv, o_lrem, o_lneg, o_lcmp, o_i2l, o_l2i, o_dup, o_dup2, o_pop, o_go, o_nn, o_sw, swc, o_iret, o_zret, o_lret, o_vret, o_ieq, o_eq0, o_ine, o_ne0, o_ilt, o_lt0, o_ige, o_ge0, o_igt, o_gt0, o_ile, o_le0, o_iald, o_zald, o_lald, o_aald, o_iast, o_zast, o_last, o_aast, o_alen, o_gi, o_gr, o_pi, o_pz, o_pr, o_new, o_newa, o_copy, o_oinit, o_call, o_callV, o_callVc, o_callI, popn, cnO, o_BAD, lgt, lst, isL, kil, st1, st2, entL, List.length_nil, List.length_cons, List.replicate, Nat.reduceAdd, Nat.reduceLeDiff, Nat.reduceSub, true_and, and_true, Nat.zero_le, ne_eq, qk_wi, ql_wi, qr_wi, qj_wi, qt_wi, qk_wj, ql_wj, qr_wj, qi_wj, qt_wj, qk_wr, ql_wr, qi_wr, qj_wr, qt_wr, qi_ws, qj_ws, qr_ws, Int.toNat_natCast, Int.toNat_zero, Int.reduceToNat, not_true_eq_false, not_false_eq_true, false_implies, implies_true, Option.some.injEq, reduceCtorEq, Sp0, true_or, or_true, or_self, wi_wi, wj_wj]
      repeat' (first | (with_reducible refine And.intro ?_ ?_) | (with_reducible intro))
      all_goals (try (first | assumption | omega | (unfold inI; omega)))
      all_goals (try ((first | (refine s_X6_countParts_0 x ok _ _ _ _ ?_) | (refine s_X6_countParts_53 x ok _ _ _ _ ?_) | (refine s_X6_countParts_67 x ok _ _ _ _ ?_) | (refine s_X6_countParts_73 x ok _ _ _ _ ?_)); (try simp only [wpS, o_c, o_cl, o_il, o_ll, o_al, o_is, o_ls, o_as, o_inc, o_add, o_sub, o_mul, o_and, o_or, o_xor, o_shl, o_shr, o_div, o_neg, o_ladd, o_lsub, o_lmul, o_ldiv, o_lrem, o_lneg, o_lcmp, o_i2l, o_l2i, o_dup, o_dup2, o_pop, o_go, o_nn, o_sw, swc, o_iret, o_zret, o_lret, o_vret, o_ieq, o_eq0, o_ine, o_ne0, o_ilt, o_lt0, o_ige, o_ge0, o_igt, o_gt0, o_ile, o_le0, o_iald, o_zald, o_lald, o_aald, o_iast, o_zast, o_last, o_aast, o_alen, o_gi, o_gr, o_pi, o_pz, o_pr, o_new, o_newa, o_copy, o_oinit, o_call, o_callV, o_callVc, o_callI, popn, cnO, o_BAD, lgt, lst, isL, kil, st1, st2, entL, List.length_nil, List.length_cons, List.replicate, Nat.reduceAdd, Nat.reduceLeDiff, Nat.reduceSub, true_and, and_true, Nat.zero_le, ne_eq, qk_wi, ql_wi, qr_wi, qj_wi, qt_wi, qk_wj, ql_wj, qr_wj, qi_wj, qt_wj, qk_wr, ql_wr, qi_wr, qj_wr, qt_wr, qi_ws, qj_ws, qr_ws, Int.toNat_natCast, Int.toNat_zero, Int.reduceToNat, not_true_eq_false, not_false_eq_true, false_implies, implies_true, Option.some.injEq, reduceCtorEq, Sp0, true_or, or_true, or_self, wi_wi, wj_wj]); (repeat' (first | (with_reducible refine And.intro ?_ ?_) | (with_reducible intro))); (all_goals (try (first | assumption | omega | (unfold inI; omega))))))
    · intro j hj ih
      have hM := hS.me hj
      have hbj := hb j (by omega)
      have hdk := hM.2.2.k
      have hsj := hs j hj
      have htj := ht j hj
      have hl := hM.2.2.lt
      have hl0 := hM.2.2.l
      have e1 : cpt d s t (j + 1) = if 1000000000000 < cpt d s t j then cpt d s t j else if dk d j = 0 ∧ (s j ≠ 0 ∨ t j ≠ 0) then cpt d s t j * lot d j else cpt d s t j := by conv => lhs; unfold cpt
      have hst := fun q => cpt_stay (d := d) (s := s) (t := t) (n := j) q (12 - j)
      rw [show j + (12 - j) = 12 by omega] at hst
      rw [e1] at ih
      generalize cpt d s t j = R at *
      have fin : 1000000000000 < R → xR x (some (vl R)) h := fun q => by rw [← hst q]; exact hK
      refine s_X6_countParts_5 x ok _ _ _ _ ?_
      simp only [wpS, o_c, o_cl, o_il, o_ll, o_al, o_is, o_ls, o_as, o_inc, o_add, o_sub, o_mul, o_and, o_or, o_xor, o_shl, o_shr, o_div, o_neg, o_ladd, o_lsub, o_lmul, o_ldiv, o_lrem, o_lneg, o_lcmp, o_i2l, o_l2i, o_dup, o_dup2, o_pop, o_go, o_nn, o_sw, swc, o_iret, o_zret, o_lret, o_vret, o_ieq, o_eq0, o_ine, o_ne0, o_ilt, o_lt0, o_ige, o_ge0, o_igt, o_gt0, o_ile, o_le0, o_iald, o_zald, o_lald, o_aald, o_iast, o_zast, o_last, o_aast, o_alen, o_gi, o_gr, o_pi, o_pz, o_pr, o_new, o_newa, o_copy, o_oinit, o_call, o_callV, o_callVc, o_callI, popn, cnO, o_BAD, lgt, lst, isL, kil, st1, st2, entL, List.length_nil, List.length_cons, List.replicate, Nat.reduceAdd, Nat.reduceLeDiff, Nat.reduceSub, true_and, and_true, Nat.zero_le, ne_eq, qk_wi, ql_wi, qr_wi, qj_wi, qt_wi, qk_wj, ql_wj, qr_wj, qi_wj, qt_wj, qk_wr, ql_wr, qi_wr, qj_wr, qt_wr, qi_ws, qj_ws, qr_ws, Int.toNat_natCast, Int.toNat_zero, Int.reduceToNat, not_true_eq_false, not_false_eq_true, false_implies, implies_true, Option.some.injEq, reduceCtorEq, Sp0, true_or, or_true, or_self, wi_wi, wj_wj, cz_le, cz_gt, hS.k, hS.r0, hS.k1, hS.l1, hS.rm hj, hM.1.1, hM.2.1.1, k1, r1, k2, l2, cs j hj, j1, u1, j2, v2, ct j hj]
      repeat' (first | (with_reducible refine And.intro ?_ ?_) | (with_reducible intro))
      all_goals (try (first | assumption | omega | (unfold inI; omega)))
      all_goals (try ((first | (refine s_X6_countParts_0 x ok _ _ _ _ ?_) | (refine s_X6_countParts_53 x ok _ _ _ _ ?_) | (refine s_X6_countParts_67 x ok _ _ _ _ ?_) | (refine s_X6_countParts_73 x ok _ _ _ _ ?_) | (refine c_lotSize hM ?_)); (try simp only [wpS, o_c, o_cl, o_il, o_ll, o_al, o_is, o_ls, o_as, o_inc, o_add, o_sub, o_mul, o_and, o_or, o_xor, o_shl, o_shr, o_div, o_neg, o_ladd, o_lsub, o_lmul, o_ldiv, o_lrem, o_lneg, o_lcmp, o_i2l, o_l2i, o_dup, o_dup2, o_pop, o_go, o_nn, o_sw, swc, o_iret, o_zret, o_lret, o_vret, o_ieq, o_eq0, o_ine, o_ne0, o_ilt, o_lt0, o_ige, o_ge0, o_igt, o_gt0, o_ile, o_le0, o_iald, o_zald, o_lald, o_aald, o_iast, o_zast, o_last, o_aast, o_alen, o_gi, o_gr, o_pi, o_pz, o_pr, o_new, o_newa, o_copy, o_oinit, o_call, o_callV, o_callVc, o_callI, popn, cnO, o_BAD, lgt, lst, isL, kil, st1, st2, entL, List.length_nil, List.length_cons, List.replicate, Nat.reduceAdd, Nat.reduceLeDiff, Nat.reduceSub, true_and, and_true, Nat.zero_le, ne_eq, qk_wi, ql_wi, qr_wi, qj_wi, qt_wi, qk_wj, ql_wj, qr_wj, qi_wj, qt_wj, qk_wr, ql_wr, qi_wr, qj_wr, qt_wr, qi_ws, qj_ws, qr_ws, Int.toNat_natCast, Int.toNat_zero, Int.reduceToNat, not_true_eq_false, not_false_eq_true, false_implies, implies_true, Option.some.injEq, reduceCtorEq, Sp0, true_or, or_true, or_self, wi_wi, wj_wj, cz_le, cz_gt, hS.k, hS.r0, hS.k1, hS.l1, hS.rm hj, hM.1.1, hM.2.1.1, k1, r1, k2, l2, cs j hj, j1, u1, j2, v2, ct j hj]); (repeat' (first | (with_reducible refine And.intro ?_ ?_) | (with_reducible intro))); (all_goals (try (first | assumption | omega | (unfold inI; omega))))))
      all_goals (try ((first | (refine s_X6_countParts_0 x ok _ _ _ _ ?_) | (refine s_X6_countParts_53 x ok _ _ _ _ ?_) | (refine s_X6_countParts_67 x ok _ _ _ _ ?_) | (refine s_X6_countParts_73 x ok _ _ _ _ ?_) | (refine c_lotSize hM ?_)); (try simp only [wpS, o_c, o_cl, o_il, o_ll, o_al, o_is, o_ls, o_as, o_inc, o_add, o_sub, o_mul, o_and, o_or, o_xor, o_shl, o_shr, o_div, o_neg, o_ladd, o_lsub, o_lmul, o_ldiv, o_lrem, o_lneg, o_lcmp, o_i2l, o_l2i, o_dup, o_dup2, o_pop, o_go, o_nn, o_sw, swc, o_iret, o_zret, o_lret, o_vret, o_ieq, o_eq0, o_ine, o_ne0, o_ilt, o_lt0, o_ige, o_ge0, o_igt, o_gt0, o_ile, o_le0, o_iald, o_zald, o_lald, o_aald, o_iast, o_zast, o_last, o_aast, o_alen, o_gi, o_gr, o_pi, o_pz, o_pr, o_new, o_newa, o_copy, o_oinit, o_call, o_callV, o_callVc, o_callI, popn, cnO, o_BAD, lgt, lst, isL, kil, st1, st2, entL, List.length_nil, List.length_cons, List.replicate, Nat.reduceAdd, Nat.reduceLeDiff, Nat.reduceSub, true_and, and_true, Nat.zero_le, ne_eq, qk_wi, ql_wi, qr_wi, qj_wi, qt_wi, qk_wj, ql_wj, qr_wj, qi_wj, qt_wj, qk_wr, ql_wr, qi_wr, qj_wr, qt_wr, qi_ws, qj_ws, qr_ws, Int.toNat_natCast, Int.toNat_zero, Int.reduceToNat, not_true_eq_false, not_false_eq_true, false_implies, implies_true, Option.some.injEq, reduceCtorEq, Sp0, true_or, or_true, or_self, wi_wi, wj_wj, cz_le, cz_gt, hS.k, hS.r0, hS.k1, hS.l1, hS.rm hj, hM.1.1, hM.2.1.1, k1, r1, k2, l2, cs j hj, j1, u1, j2, v2, ct j hj]); (repeat' (first | (with_reducible refine And.intro ?_ ?_) | (with_reducible intro))); (all_goals (try (first | assumption | omega | (unfold inI; omega))))))
      all_goals (try ((first | (refine s_X6_countParts_0 x ok _ _ _ _ ?_) | (refine s_X6_countParts_53 x ok _ _ _ _ ?_) | (refine s_X6_countParts_67 x ok _ _ _ _ ?_) | (refine s_X6_countParts_73 x ok _ _ _ _ ?_) | (refine c_lotSize hM ?_)); (try simp only [wpS, o_c, o_cl, o_il, o_ll, o_al, o_is, o_ls, o_as, o_inc, o_add, o_sub, o_mul, o_and, o_or, o_xor, o_shl, o_shr, o_div, o_neg, o_ladd, o_lsub, o_lmul, o_ldiv, o_lrem, o_lneg, o_lcmp, o_i2l, o_l2i, o_dup, o_dup2, o_pop, o_go, o_nn, o_sw, swc, o_iret, o_zret, o_lret, o_vret, o_ieq, o_eq0, o_ine, o_ne0, o_ilt, o_lt0, o_ige, o_ge0, o_igt, o_gt0, o_ile, o_le0, o_iald, o_zald, o_lald, o_aald, o_iast, o_zast, o_last, o_aast, o_alen, o_gi, o_gr, o_pi, o_pz, o_pr, o_new, o_newa, o_copy, o_oinit, o_call, o_callV, o_callVc, o_callI, popn, cnO, o_BAD, lgt, lst, isL, kil, st1, st2, entL, List.length_nil, List.length_cons, List.replicate, Nat.reduceAdd, Nat.reduceLeDiff, Nat.reduceSub, true_and, and_true, Nat.zero_le, ne_eq, qk_wi, ql_wi, qr_wi, qj_wi, qt_wi, qk_wj, ql_wj, qr_wj, qi_wj, qt_wj, qk_wr, ql_wr, qi_wr, qj_wr, qt_wr, qi_ws, qj_ws, qr_ws, Int.toNat_natCast, Int.toNat_zero, Int.reduceToNat, not_true_eq_false, not_false_eq_true, false_implies, implies_true, Option.some.injEq, reduceCtorEq, Sp0, true_or, or_true, or_self, wi_wi, wj_wj, cz_le, cz_gt, hS.k, hS.r0, hS.k1, hS.l1, hS.rm hj, hM.1.1, hM.2.1.1, k1, r1, k2, l2, cs j hj, j1, u1, j2, v2, ct j hj]); (repeat' (first | (with_reducible refine And.intro ?_ ?_) | (with_reducible intro))); (all_goals (try (first | assumption | omega | (unfold inI; omega))))))
      all_goals (try ((first | (refine s_X6_countParts_0 x ok _ _ _ _ ?_) | (refine s_X6_countParts_53 x ok _ _ _ _ ?_) | (refine s_X6_countParts_67 x ok _ _ _ _ ?_) | (refine s_X6_countParts_73 x ok _ _ _ _ ?_) | (refine c_lotSize hM ?_)); (try simp only [wpS, o_c, o_cl, o_il, o_ll, o_al, o_is, o_ls, o_as, o_inc, o_add, o_sub, o_mul, o_and, o_or, o_xor, o_shl, o_shr, o_div, o_neg, o_ladd, o_lsub, o_lmul, o_ldiv, o_lrem, o_lneg, o_lcmp, o_i2l, o_l2i, o_dup, o_dup2, o_pop, o_go, o_nn, o_sw, swc, o_iret, o_zret, o_lret, o_vret, o_ieq, o_eq0, o_ine, o_ne0, o_ilt, o_lt0, o_ige, o_ge0, o_igt, o_gt0, o_ile, o_le0, o_iald, o_zald, o_lald, o_aald, o_iast, o_zast, o_last, o_aast, o_alen, o_gi, o_gr, o_pi, o_pz, o_pr, o_new, o_newa, o_copy, o_oinit, o_call, o_callV, o_callVc, o_callI, popn, cnO, o_BAD, lgt, lst, isL, kil, st1, st2, entL, List.length_nil, List.length_cons, List.replicate, Nat.reduceAdd, Nat.reduceLeDiff, Nat.reduceSub, true_and, and_true, Nat.zero_le, ne_eq, qk_wi, ql_wi, qr_wi, qj_wi, qt_wi, qk_wj, ql_wj, qr_wj, qi_wj, qt_wj, qk_wr, ql_wr, qi_wr, qj_wr, qt_wr, qi_ws, qj_ws, qr_ws, Int.toNat_natCast, Int.toNat_zero, Int.reduceToNat, not_true_eq_false, not_false_eq_true, false_implies, implies_true, Option.some.injEq, reduceCtorEq, Sp0, true_or, or_true, or_self, wi_wi, wj_wj, cz_le, cz_gt, hS.k, hS.r0, hS.k1, hS.l1, hS.rm hj, hM.1.1, hM.2.1.1, k1, r1, k2, l2, cs j hj, j1, u1, j2, v2, ct j hj]); (repeat' (first | (with_reducible refine And.intro ?_ ?_) | (with_reducible intro))); (all_goals (try (first | assumption | omega | (unfold inI; omega))))))
      all_goals (try ((first | (refine s_X6_countParts_0 x ok _ _ _ _ ?_) | (refine s_X6_countParts_53 x ok _ _ _ _ ?_) | (refine s_X6_countParts_67 x ok _ _ _ _ ?_) | (refine s_X6_countParts_73 x ok _ _ _ _ ?_) | (refine c_lotSize hM ?_)); (try simp only [wpS, o_c, o_cl, o_il, o_ll, o_al, o_is, o_ls, o_as, o_inc, o_add, o_sub, o_mul, o_and, o_or, o_xor, o_shl, o_shr, o_div, o_neg, o_ladd, o_lsub, o_lmul, o_ldiv, o_lrem, o_lneg, o_lcmp, o_i2l, o_l2i, o_dup, o_dup2, o_pop, o_go, o_nn, o_sw, swc, o_iret, o_zret, o_lret, o_vret, o_ieq, o_eq0, o_ine, o_ne0, o_ilt, o_lt0, o_ige, o_ge0, o_igt, o_gt0, o_ile, o_le0, o_iald, o_zald, o_lald, o_aald, o_iast, o_zast, o_last, o_aast, o_alen, o_gi, o_gr, o_pi, o_pz, o_pr, o_new, o_newa, o_copy, o_oinit, o_call, o_callV, o_callVc, o_callI, popn, cnO, o_BAD, lgt, lst, isL, kil, st1, st2, entL, List.length_nil, List.length_cons, List.replicate, Nat.reduceAdd, Nat.reduceLeDiff, Nat.reduceSub, true_and, and_true, Nat.zero_le, ne_eq, qk_wi, ql_wi, qr_wi, qj_wi, qt_wi, qk_wj, ql_wj, qr_wj, qi_wj, qt_wj, qk_wr, ql_wr, qi_wr, qj_wr, qt_wr, qi_ws, qj_ws, qr_ws, Int.toNat_natCast, Int.toNat_zero, Int.reduceToNat, not_true_eq_false, not_false_eq_true, false_implies, implies_true, Option.some.injEq, reduceCtorEq, Sp0, true_or, or_true, or_self, wi_wi, wj_wj, cz_le, cz_gt, hS.k, hS.r0, hS.k1, hS.l1, hS.rm hj, hM.1.1, hM.2.1.1, k1, r1, k2, l2, cs j hj, j1, u1, j2, v2, ct j hj]); (repeat' (first | (with_reducible refine And.intro ?_ ?_) | (with_reducible intro))); (all_goals (try (first | assumption | omega | (unfold inI; omega))))))
      all_goals (try ((first | (refine s_X6_countParts_0 x ok _ _ _ _ ?_) | (refine s_X6_countParts_53 x ok _ _ _ _ ?_) | (refine s_X6_countParts_67 x ok _ _ _ _ ?_) | (refine s_X6_countParts_73 x ok _ _ _ _ ?_) | (refine c_lotSize hM ?_)); (try simp only [wpS, o_c, o_cl, o_il, o_ll, o_al, o_is, o_ls, o_as, o_inc, o_add, o_sub, o_mul, o_and, o_or, o_xor, o_shl, o_shr, o_div, o_neg, o_ladd, o_lsub, o_lmul, o_ldiv, o_lrem, o_lneg, o_lcmp, o_i2l, o_l2i, o_dup, o_dup2, o_pop, o_go, o_nn, o_sw, swc, o_iret, o_zret, o_lret, o_vret, o_ieq, o_eq0, o_ine, o_ne0, o_ilt, o_lt0, o_ige, o_ge0, o_igt, o_gt0, o_ile, o_le0, o_iald, o_zald, o_lald, o_aald, o_iast, o_zast, o_last, o_aast, o_alen, o_gi, o_gr, o_pi, o_pz, o_pr, o_new, o_newa, o_copy, o_oinit, o_call, o_callV, o_callVc, o_callI, popn, cnO, o_BAD, lgt, lst, isL, kil, st1, st2, entL, List.length_nil, List.length_cons, List.replicate, Nat.reduceAdd, Nat.reduceLeDiff, Nat.reduceSub, true_and, and_true, Nat.zero_le, ne_eq, qk_wi, ql_wi, qr_wi, qj_wi, qt_wi, qk_wj, ql_wj, qr_wj, qi_wj, qt_wj, qk_wr, ql_wr, qi_wr, qj_wr, qt_wr, qi_ws, qj_ws, qr_ws, Int.toNat_natCast, Int.toNat_zero, Int.reduceToNat, not_true_eq_false, not_false_eq_true, false_implies, implies_true, Option.some.injEq, reduceCtorEq, Sp0, true_or, or_true, or_self, wi_wi, wj_wj, cz_le, cz_gt, hS.k, hS.r0, hS.k1, hS.l1, hS.rm hj, hM.1.1, hM.2.1.1, k1, r1, k2, l2, cs j hj, j1, u1, j2, v2, ct j hj]); (repeat' (first | (with_reducible refine And.intro ?_ ?_) | (with_reducible intro))); (all_goals (try (first | assumption | omega | (unfold inI; omega))))))
      all_goals (first | exact cz_in _ _ | (unfold inL; omega) | exact fin (by omega) | (rw [if_neg (by omega)] at ih; first | (rw [if_pos (by omega)] at ih; exact ih) | (rw [if_neg (by omega)] at ih; exact ih)))
  all_goals (try ((first | (refine s_X6_countParts_0 x ok _ _ _ _ ?_) | (refine s_X6_countParts_53 x ok _ _ _ _ ?_) | (refine s_X6_countParts_67 x ok _ _ _ _ ?_) | (refine s_X6_countParts_73 x ok _ _ _ _ ?_)); (try simp only [wpS, o_c, o_cl, o_il, o_ll, o_al, o_is, o_ls, o_as, o_inc, o_add, o_sub, o_mul, o_and, o_or, o_xor, o_shl, o_shr, o_div, o_neg, o_ladd, o_lsub, o_lmul, o_ldiv, o_lrem, o_lneg, o_lcmp, o_i2l, o_l2i, o_dup, o_dup2, o_pop, o_go, o_nn, o_sw, swc, o_iret, o_zret, o_lret, o_vret, o_ieq, o_eq0, o_ine, o_ne0, o_ilt, o_lt0, o_ige, o_ge0, o_igt, o_gt0, o_ile, o_le0, o_iald, o_zald, o_lald, o_aald, o_iast, o_zast, o_last, o_aast, o_alen, o_gi, o_gr, o_pi, o_pz, o_pr, o_new, o_newa, o_copy, o_oinit, o_call, o_callV, o_callVc, o_callI, popn, cnO, o_BAD, lgt, lst, isL, kil, st1, st2, entL, List.length_nil, List.length_cons, List.replicate, Nat.reduceAdd, Nat.reduceLeDiff, Nat.reduceSub, true_and, and_true, Nat.zero_le, ne_eq, qk_wi, ql_wi, qr_wi, qj_wi, qt_wi, qk_wj, ql_wj, qr_wj, qi_wj, qt_wj, qk_wr, ql_wr, qi_wr, qj_wr, qt_wr, qi_ws, qj_ws, qr_ws, Int.toNat_natCast, Int.toNat_zero, Int.reduceToNat, not_true_eq_false, not_false_eq_true, false_implies, implies_true, Option.some.injEq, reduceCtorEq, Sp0, true_or, or_true, or_self, wi_wi, wj_wj]); (repeat' (first | (with_reducible refine And.intro ?_ ?_) | (with_reducible intro))); (all_goals (try (first | assumption | omega | (unfold inI; omega))))))
  exact loop 0 (by omega)
def T_X6_countGraded : TT := fun as h K => ∃ (a : Nat) (d : Dd), as = [vr (some a)] ∧ Stt h a d ∧ K (some (vi (grd d 12))) h
theorem c_countGraded {h : Hp} {a : Nat} {d : Dd} {K : RT} (hS : Stt h a d) (h3 : K (some (vi (grd d 12))) h) : T_X6_countGraded [vr (some a)] h K := ⟨a, d, rfl, hS, h3⟩
abbrev i_X6_countGraded : MI := (cX6_countGraded, 3, RX6, (some .int), "countGraded", 2)
theorem k_X6_countGraded_0 : Okop i_X6_countGraded 0 (o_c 0) 1 := k_iconst (by decide +kernel)
theorem k_X6_countGraded_1 : Okop i_X6_countGraded 1 (o_is 1) 2 := k_isn (j := 1) (by decide +kernel) (by decide)
theorem k_X6_countGraded_2 : Okop i_X6_countGraded 2 (o_c 0) 3 := k_iconst (by decide +kernel)
theorem k_X6_countGraded_3 : Okop i_X6_countGraded 3 (o_is 2) 4 := k_isn (j := 2) (by decide +kernel) (by decide)
theorem k_X6_countGraded_4 : Okop i_X6_countGraded 4 (o_il 2) 5 := k_iln (j := 2) (by decide +kernel)
theorem k_X6_countGraded_5 : Okop i_X6_countGraded 5 (o_c 12) 7 := k_bipush (by decide +kernel) rfl
theorem k_X6_countGraded_7 : Okop i_X6_countGraded 7 (o_ige 31) 10 := k_ige (off := 24) (by decide +kernel) (by decide)
theorem k_X6_countGraded_10 : Okop i_X6_countGraded 10 (o_al 0) 11 := k_aln (j := 0) (by decide +kernel)
theorem k_X6_countGraded_11 : Okop i_X6_countGraded 11 (o_gr 6 0) 14 := k_gr (idx := 11) fo_6 (by decide) (by decide) gw_146 (by decide +kernel)
theorem k_X6_countGraded_14 : Okop i_X6_countGraded 14 (o_il 2) 15 := k_iln (j := 2) (by decide +kernel)
theorem k_X6_countGraded_15 : Okop i_X6_countGraded 15 (o_aald) 16 := k_aald (by decide +kernel)
theorem k_X6_countGraded_16 : Okop i_X6_countGraded 16 (o_gi 4 8) 19 := k_gi (idx := 55) fo_4 (by decide) (by decide) gw_60 (by decide +kernel)
theorem k_X6_countGraded_19 : Okop i_X6_countGraded 19 (o_le0 25) 22 := k_le0 (off := 6) (by decide +kernel) (by decide)
theorem k_X6_countGraded_22 : Okop i_X6_countGraded 22 (o_inc 1 1) 25 := k_inc (by decide +kernel) (by decide)
theorem k_X6_countGraded_25 : Okop i_X6_countGraded 25 (o_inc 2 1) 28 := k_inc (by decide +kernel) (by decide)
theorem k_X6_countGraded_28 : Okop i_X6_countGraded 28 (o_go 4) 31 := k_go (off := -24) (by decide +kernel) (by decide)
theorem k_X6_countGraded_31 : Okop i_X6_countGraded 31 (o_il 1) 32 := k_iln (j := 1) (by decide +kernel)
theorem k_X6_countGraded_32 : Okop i_X6_countGraded 32 (o_iret) 33 := k_iret (by decide +kernel) rfl
theorem s_X6_countGraded_0 : Seg i_X6_countGraded 0 [o_c 0, o_is 1, o_c 0, o_is 2] 4 := Seg.cons k_X6_countGraded_0 (Seg.cons k_X6_countGraded_1 (Seg.cons k_X6_countGraded_2 (Seg.cons k_X6_countGraded_3 (Seg.nil))))
theorem s_X6_countGraded_4 : Seg i_X6_countGraded 4 [o_il 2, o_c 12, o_ige 31, o_al 0, o_gr 6 0, o_il 2, o_aald, o_gi 4 8, o_le0 25, o_inc 1 1, o_inc 2 1, o_go 4] 31 := Seg.cons k_X6_countGraded_4 (Seg.cons k_X6_countGraded_5 (Seg.cons k_X6_countGraded_7 (Seg.cons k_X6_countGraded_10 (Seg.cons k_X6_countGraded_11 (Seg.cons k_X6_countGraded_14 (Seg.cons k_X6_countGraded_15 (Seg.cons k_X6_countGraded_16 (Seg.cons k_X6_countGraded_19 (Seg.cons k_X6_countGraded_22 (Seg.cons k_X6_countGraded_25 (Seg.cons k_X6_countGraded_28 (Seg.nil))))))))))))
theorem s_X6_countGraded_25 : Seg i_X6_countGraded 25 [o_inc 2 1, o_go 4] 31 := Seg.cons k_X6_countGraded_25 (Seg.cons k_X6_countGraded_28 (Seg.nil))
theorem s_X6_countGraded_31 : Seg i_X6_countGraded 31 [o_il 1, o_iret] 33 := Seg.cons k_X6_countGraded_31 (Seg.cons k_X6_countGraded_32 (Seg.nil))

theorem m_X6_countGraded : Mth yX6_countGraded cX6_countGraded 3 (some .int) 2 (Sp0 T_X6_countGraded) := by
  refine Mth.of (by decide) ?_
  rintro x as h ok ⟨a, d, rfl, hS, hK⟩
  refine ⟨Nat.le_of_ble_eq_true rfl, ?_⟩
  have loop : ∀ j, j ≤ 12 → V i_X6_countGraded x 4 [some (vr (some a)), some (vi (grd d j)), some (vi j)] [] h (0, 0) := by
    refine bwd _ ?_ ?_
    · refine s_X6_countGraded_4 x ok _ _ _ _ ?_
      simp only [wpS, o_c, o_cl, o_il, o_ll, o_al, o_is, o_ls, o_as, o_inc, o_add, o_sub, o_mul, o_and, o_or, o_xor, o_shl, o_shr, o_div, o_neg, o_ladd, o_lsub, o_lmul, o_ldiv, o_lrem, o_lneg, o_lcmp, o_i2l, o_l2i, o_dup, o_dup2, o_pop, o_go, o_nn, o_sw, swc, o_iret, o_zret, o_lret, o_vret, o_ieq, o_eq0, o_ine, o_ne0, o_ilt, o_lt0, o_ige, o_ge0, o_igt, o_gt0, o_ile, o_le0, o_iald, o_zald, o_lald, o_aald, o_iast, o_zast, o_last, o_aast, o_alen, o_gi, o_gr, o_pi, o_pz, o_pr, o_new, o_newa, o_copy, o_oinit, o_call, o_callV, o_callVc, o_callI, popn, cnO, o_BAD, lgt, lst, isL, kil, st1, st2, entL, List.length_nil, List.length_cons, List.replicate, Nat.reduceAdd, Nat.reduceLeDiff, Nat.reduceSub, true_and, and_true, Nat.zero_le, ne_eq, qk_wi, ql_wi, qr_wi, qj_wi, qt_wi, qk_wj, ql_wj, qr_wj, qi_wj, qt_wj, qk_wr, ql_wr, qi_wr, qj_wr, qt_wr, qi_ws, qj_ws, qr_ws, Int.toNat_natCast, Int.toNat_zero, Int.reduceToNat, not_true_eq_false, not_false_eq_true, false_implies, implies_true, Option.some.injEq, reduceCtorEq, Sp0, true_or, or_true, or_self, wi_wi, wj_wj]
      repeat' (first | (with_reducible refine And.intro ?_ ?_) | (with_reducible intro))
      all_goals (try (first | assumption | omega | (unfold inI; omega)))
      all_goals (try ((first | (refine s_X6_countGraded_0 x ok _ _ _ _ ?_) | (refine s_X6_countGraded_25 x ok _ _ _ _ ?_) | (refine s_X6_countGraded_31 x ok _ _ _ _ ?_)); (try simp only [wpS, o_c, o_cl, o_il, o_ll, o_al, o_is, o_ls, o_as, o_inc, o_add, o_sub, o_mul, o_and, o_or, o_xor, o_shl, o_shr, o_div, o_neg, o_ladd, o_lsub, o_lmul, o_ldiv, o_lrem, o_lneg, o_lcmp, o_i2l, o_l2i, o_dup, o_dup2, o_pop, o_go, o_nn, o_sw, swc, o_iret, o_zret, o_lret, o_vret, o_ieq, o_eq0, o_ine, o_ne0, o_ilt, o_lt0, o_ige, o_ge0, o_igt, o_gt0, o_ile, o_le0, o_iald, o_zald, o_lald, o_aald, o_iast, o_zast, o_last, o_aast, o_alen, o_gi, o_gr, o_pi, o_pz, o_pr, o_new, o_newa, o_copy, o_oinit, o_call, o_callV, o_callVc, o_callI, popn, cnO, o_BAD, lgt, lst, isL, kil, st1, st2, entL, List.length_nil, List.length_cons, List.replicate, Nat.reduceAdd, Nat.reduceLeDiff, Nat.reduceSub, true_and, and_true, Nat.zero_le, ne_eq, qk_wi, ql_wi, qr_wi, qj_wi, qt_wi, qk_wj, ql_wj, qr_wj, qi_wj, qt_wj, qk_wr, ql_wr, qi_wr, qj_wr, qt_wr, qi_ws, qj_ws, qr_ws, Int.toNat_natCast, Int.toNat_zero, Int.reduceToNat, not_true_eq_false, not_false_eq_true, false_implies, implies_true, Option.some.injEq, reduceCtorEq, Sp0, true_or, or_true, or_self, wi_wi, wj_wj]); (repeat' (first | (with_reducible refine And.intro ?_ ?_) | (with_reducible intro))); (all_goals (try (first | assumption | omega | (unfold inI; omega))))))
    · intro j hj ih
      have hM := hS.me hj
      have hv := hM.2.2.v
      have e : grd d (j + 1) = grd d j + if 0 < dv d j then 1 else 0 := rfl
      rw [e] at ih
      refine s_X6_countGraded_4 x ok _ _ _ _ ?_
      simp only [wpS, o_c, o_cl, o_il, o_ll, o_al, o_is, o_ls, o_as, o_inc, o_add, o_sub, o_mul, o_and, o_or, o_xor, o_shl, o_shr, o_div, o_neg, o_ladd, o_lsub, o_lmul, o_ldiv, o_lrem, o_lneg, o_lcmp, o_i2l, o_l2i, o_dup, o_dup2, o_pop, o_go, o_nn, o_sw, swc, o_iret, o_zret, o_lret, o_vret, o_ieq, o_eq0, o_ine, o_ne0, o_ilt, o_lt0, o_ige, o_ge0, o_igt, o_gt0, o_ile, o_le0, o_iald, o_zald, o_lald, o_aald, o_iast, o_zast, o_last, o_aast, o_alen, o_gi, o_gr, o_pi, o_pz, o_pr, o_new, o_newa, o_copy, o_oinit, o_call, o_callV, o_callVc, o_callI, popn, cnO, o_BAD, lgt, lst, isL, kil, st1, st2, entL, List.length_nil, List.length_cons, List.replicate, Nat.reduceAdd, Nat.reduceLeDiff, Nat.reduceSub, true_and, and_true, Nat.zero_le, ne_eq, qk_wi, ql_wi, qr_wi, qj_wi, qt_wi, qk_wj, ql_wj, qr_wj, qi_wj, qt_wj, qk_wr, ql_wr, qi_wr, qj_wr, qt_wr, qi_ws, qj_ws, qr_ws, Int.toNat_natCast, Int.toNat_zero, Int.reduceToNat, not_true_eq_false, not_false_eq_true, false_implies, implies_true, Option.some.injEq, reduceCtorEq, Sp0, true_or, or_true, or_self, wi_wi, wj_wj, hS.k, hS.r0, hS.k1, hS.l1, hS.rm hj, hM.1.1, hM.2.1.2.2.2.2.2.2.2.1]
      repeat' (first | (with_reducible refine And.intro ?_ ?_) | (with_reducible intro))
      all_goals (try (first | assumption | omega | (unfold inI; omega)))
      · all_goals (try ((first | (refine s_X6_countGraded_0 x ok _ _ _ _ ?_) | (refine s_X6_countGraded_25 x ok _ _ _ _ ?_) | (refine s_X6_countGraded_31 x ok _ _ _ _ ?_)); (try simp only [wpS, o_c, o_cl, o_il, o_ll, o_al, o_is, o_ls, o_as, o_inc, o_add, o_sub, o_mul, o_and, o_or, o_xor, o_shl, o_shr, o_div, o_neg, o_ladd, o_lsub, o_lmul, o_ldiv, o_lrem, o_lneg, o_lcmp, o_i2l, o_l2i, o_dup, o_dup2, o_pop, o_go, o_nn, o_sw, swc, o_iret, o_zret, o_lret, o_vret, o_ieq, o_eq0, o_ine, o_ne0, o_ilt, o_lt0, o_ige, o_ge0, o_igt, o_gt0, o_ile, o_le0, o_iald, o_zald, o_lald, o_aald, o_iast, o_zast, o_last, o_aast, o_alen, o_gi, o_gr, o_pi, o_pz, o_pr, o_new, o_newa, o_copy, o_oinit, o_call, o_callV, o_callVc, o_callI, popn, cnO, o_BAD, lgt, lst, isL, kil, st1, st2, entL, List.length_nil, List.length_cons, List.replicate, Nat.reduceAdd, Nat.reduceLeDiff, Nat.reduceSub, true_and, and_true, Nat.zero_le, ne_eq, qk_wi, ql_wi, qr_wi, qj_wi, qt_wi, qk_wj, ql_wj, qr_wj, qi_wj, qt_wj, qk_wr, ql_wr, qi_wr, qj_wr, qt_wr, qi_ws, qj_ws, qr_ws, Int.toNat_natCast, Int.toNat_zero, Int.reduceToNat, not_true_eq_false, not_false_eq_true, false_implies, implies_true, Option.some.injEq, reduceCtorEq, Sp0, true_or, or_true, or_self, wi_wi, wj_wj]); (repeat' (first | (with_reducible refine And.intro ?_ ?_) | (with_reducible intro))); (all_goals (try (first | assumption | omega | (unfold inI; omega))))))
        rw [if_neg (by omega), Int.add_zero] at ih
        exact ih
      · rw [if_pos (by omega)] at ih
        exact ih
  all_goals (try ((first | (refine s_X6_countGraded_0 x ok _ _ _ _ ?_) | (refine s_X6_countGraded_25 x ok _ _ _ _ ?_) | (refine s_X6_countGraded_31 x ok _ _ _ _ ?_)); (try simp only [wpS, o_c, o_cl, o_il, o_ll, o_al, o_is, o_ls, o_as, o_inc, o_add, o_sub, o_mul, o_and, o_or, o_xor, o_shl, o_shr, o_div, o_neg, o_ladd, o_lsub, o_lmul, o_ldiv, o_lrem, o_lneg, o_lcmp, o_i2l, o_l2i, o_dup, o_dup2, o_pop, o_go, o_nn, o_sw, swc, o_iret, o_zret, o_lret, o_vret, o_ieq, o_eq0, o_ine, o_ne0, o_ilt, o_lt0, o_ige, o_ge0, o_igt, o_gt0, o_ile, o_le0, o_iald, o_zald, o_lald, o_aald, o_iast, o_zast, o_last, o_aast, o_alen, o_gi, o_gr, o_pi, o_pz, o_pr, o_new, o_newa, o_copy, o_oinit, o_call, o_callV, o_callVc, o_callI, popn, cnO, o_BAD, lgt, lst, isL, kil, st1, st2, entL, List.length_nil, List.length_cons, List.replicate, Nat.reduceAdd, Nat.reduceLeDiff, Nat.reduceSub, true_and, and_true, Nat.zero_le, ne_eq, qk_wi, ql_wi, qr_wi, qj_wi, qt_wi, qk_wj, ql_wj, qr_wj, qi_wj, qt_wj, qk_wr, ql_wr, qi_wr, qj_wr, qt_wr, qi_ws, qj_ws, qr_ws, Int.toNat_natCast, Int.toNat_zero, Int.reduceToNat, not_true_eq_false, not_false_eq_true, false_implies, implies_true, Option.some.injEq, reduceCtorEq, Sp0, true_or, or_true, or_self, wi_wi, wj_wj]); (repeat' (first | (with_reducible refine And.intro ?_ ?_) | (with_reducible intro))); (all_goals (try (first | assumption | omega | (unfold inI; omega))))))
  exact loop 0 (by omega)

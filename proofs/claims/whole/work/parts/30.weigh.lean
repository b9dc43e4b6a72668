/-! ===== a row times a measure ===== -/
/-- a row at a place that may be below 0 -/
def gz (g : Nat → Int) (y : Int) : Int := if y < 0 then 0 else g y.toNat
theorem gz_n {g : Nat → Int} {y : Int} (h : y < 0) : gz g y = 0 := if_pos h
theorem gz_p {g : Nat → Int} {k : Nat} : gz g (k : Int) = g k := by unfold gz; rw [if_neg (by omega), Int.toNat_natCast]
def lsm (s : Int) (g : Nat → Int) (y : Int) : List (Nat × Int) → Int
  | [] => 0
  | q :: L => q.2 * gz g (y - q.1 * s) + lsm s g y L
theorem lsm_app (s : Int) (g : Nat → Int) (y : Int) : ∀ (L M : List (Nat × Int)), lsm s g y (L ++ M) = lsm s g y L + lsm s g y M
  | [], M => by simp [lsm]
  | q :: L, M => by
    have := lsm_app s g y L M
    simp only [List.cons_append, lsm]
    omega
theorem lsm_z {s : Int} {g : Nat → Int} {y : Int} : ∀ {L : List (Nat × Int)}, (∀ q ∈ L, y - q.1 * s < 0) → lsm s g y L = 0
  | [], _ => rfl
  | q :: L, h => by
    unfold lsm
    rw [gz_n (h q List.mem_cons_self), lsm_z (fun q hq => h q (List.mem_cons_of_mem _ hq)), Int.mul_zero, Int.add_zero]
theorem lsm_c {s : Int} {g g2 : Nat → Int} {y : Int} {n : Nat} (hg : ∀ k, k ≤ n → g k = g2 k) (hy : y ≤ n) (hs : 0 ≤ s) : ∀ (L : List (Nat × Int)), lsm s g y L = lsm s g2 y L
  | [] => rfl
  | q :: L => by
    have hp : 0 ≤ (q.1 : Int) * s := Int.mul_nonneg (by omega) hs
    unfold lsm
    rw [lsm_c hg hy hs L]
    congr 2
    unfold gz
    split
    · rfl
    · exact hg _ (by omega)
theorem gz_pfx {g : Nat → Int} {s : Nat} (hs : 0 < s) (z : Int) : gz (pfx g s) z - gz (pfx g s) (z - s) = gz g z := by
  rcases Int.lt_or_le z 0 with q | q
  · rw [gz_n q, gz_n (by omega), gz_n q]; omega
  · obtain ⟨k, rfl⟩ : ∃ k : Nat, z = (k : Int) := ⟨z.toNat, by omega⟩
    rcases Nat.lt_or_ge k s with q2 | q2
    · rw [gz_n (by omega : (k : Int) - s < 0), gz_p, gz_p, pfx_0 q2]; omega
    · rw [show (k : Int) - s = ((k - s : Nat) : Int) by omega, gz_p, gz_p, gz_p, pfx_s hs q2]; omega
/-- sums by parts -/
theorem chl_sum {a g : Nat → Int} {s : Nat} (hs : 0 < s) (y : Int) : ∀ k, lsm s (pfx g s) y (chl a (k + 1)) = sg (fun j => a j * gz g (y - (j : Int) * s)) k + a k * gz (pfx g s) (y - (k : Int) * s) := by
  have step : ∀ k, lsm s (pfx g s) y (chl a (k + 1)) = lsm s (pfx g s) y (chl a k) + (a k - (if k = 0 then 0 else a (k - 1))) * gz (pfx g s) (y - (k : Int) * s) := by
    intro k
    show lsm s (pfx g s) y (if a k = (if k = 0 then 0 else a (k - 1)) then chl a k else chl a k ++ [(k, a k - (if k = 0 then 0 else a (k - 1)))]) = _
    generalize (if k = 0 then 0 else a (k - 1)) = P
    split
    · rename_i e
      rw [e, Int.sub_self, Int.zero_mul, Int.add_zero]
    · rw [lsm_app]
      simp [lsm]
  intro k
  induction k with
  | zero =>
    rw [step 0]
    simp [lsm, chl, sg_0]
  | succ k ih =>
    rw [step (k + 1), ih, if_neg (by omega), Nat.add_sub_cancel, sg_s]
    have e1 := gz_pfx (g := g) hs (y - (k : Int) * s)
    rw [show y - (k : Int) * s - s = y - ((k + 1 : Nat) : Int) * s by push_cast; rw [Int.add_mul]; omega] at e1
    rw [← e1]
    generalize gz (pfx g s) (y - (k : Int) * s) = A
    generalize gz (pfx g s) (y - ((k + 1 : Nat) : Int) * s) = B
    rw [Int.sub_mul, Int.mul_sub]
    omega
theorem chl_sorted {a : Nat → Int} : ∀ (k i j : Nat), i ≤ j → j < (chl a k).length → ((chl a k).getD i (0, 0)).1 ≤ ((chl a k).getD j (0, 0)).1
  | 0, i, j, h, hj => by simp [chl] at hj
  | k + 1, i, j, h, hj => by
    have key : chl a (k + 1) = chl a k ∨ ∃ v, chl a (k + 1) = chl a k ++ [(k, v)] := by
      show (if a k = (if k = 0 then 0 else a (k - 1)) then chl a k else chl a k ++ [(k, a k - (if k = 0 then 0 else a (k - 1)))]) = _ ∨ ∃ v, (if a k = (if k = 0 then 0 else a (k - 1)) then chl a k else chl a k ++ [(k, a k - (if k = 0 then 0 else a (k - 1)))]) = _
      generalize (if k = 0 then 0 else a (k - 1)) = P
      split
      · exact .inl rfl
      · exact .inr ⟨_, rfl⟩
    rcases key with e | ⟨v, e⟩
    · rw [e] at hj ⊢
      exact chl_sorted k i j h hj
    · rw [e] at hj ⊢
      rw [List.length_append] at hj
      simp only [List.length_cons, List.length_nil] at hj
      by_cases q : j = (chl a k).length
      · have e2 : ((chl a k ++ [(k, v)]).getD j (0, 0)) = (k, v) := by rw [q]; simp
        rw [e2]
        by_cases q2 : i = (chl a k).length
        · have e3 : ((chl a k ++ [(k, v)]).getD i (0, 0)) = (k, v) := by rw [q2]; simp
          rw [e3]
          exact Nat.le_refl k
        · rw [List.getD_eq_getElem?_getD, List.getElem?_append_left (by omega), List.getElem?_eq_getElem (by omega)]
          have := chl_mem (List.getElem_mem (l := chl a k) (n := i) (by omega))
          show _ ≤ k
          simp
          omega
      · rw [List.getD_eq_getElem?_getD, List.getElem?_append_left (by omega), ← List.getD_eq_getElem?_getD, List.getD_eq_getElem?_getD (l := chl a k ++ _), List.getElem?_append_left (by omega), ← List.getD_eq_getElem?_getD]
        exact chl_sorted k i j h (by omega)
def T_X5_weighChanges : TT := fun as h0 K => ∃ (h : Hp) (S R s n fm : Nat) (a : Nat → Int) (k : Nat) (f ca cb g : Nat → Int), as = [vr (some S), vi fm, vi s, vi n] ∧ h0 = ws h S R f ca cb g ∧ isSp h S R ∧ 0 < s ∧ s < 1000000 ∧ n < ql h R ∧ fm < 1000000 ∧ k ≤ 82 ∧ f 8 = ((chl a k).length : Int) ∧ (∀ i, i < (chl a k).length → ca i = (((chl a k).getD i (0, 0)).1 : Int) ∧ cb i = ((chl a k).getD i (0, 0)).2 ∧ -9 ≤ cb i ∧ cb i ≤ 9) ∧ ∀ g2 : Nat → Int, (∀ j, g2 j = if j ≤ n then lsm s g ((j : Int) - fm) (chl a k) else g j) → K none (ws h S R f ca cb g2)
theorem c_weighChanges {h : Hp} {S R s n fm : Nat} {a : Nat → Int} {k : Nat} {f ca cb g : Nat → Int} {K : RT} (h1 : isSp h S R) (h2 : 0 < s) (h3 : s < 1000000) (h4 : n < ql h R) (h5 : fm < 1000000) (h6 : k ≤ 82) (h7 : f 8 = ((chl a k).length : Int)) (h8 : ∀ i, i < (chl a k).length → ca i = (((chl a k).getD i (0, 0)).1 : Int) ∧ cb i = ((chl a k).getD i (0, 0)).2 ∧ -9 ≤ cb i ∧ cb i ≤ 9) (h9 : ∀ g2 : Nat → Int, (∀ j, g2 j = if j ≤ n then lsm s g ((j : Int) - fm) (chl a k) else g j) → K none (ws h S R f ca cb g2)) : T_X5_weighChanges [vr (some S), vi fm, vi s, vi n] (ws h S R f ca cb g) K := ⟨h, S, R, s, n, fm, a, k, f, ca, cb, g, rfl, rfl, h1, h2, h3, h4, h5, h6, h7, h8, h9⟩
theorem lsm_take {s : Int} {g : Nat → Int} {y : Int} {L : List (Nat × Int)} {i : Nat} (hi : i < L.length) : lsm s g y (L.take (i + 1)) = lsm s g y (L.take i) + (L.getD i (0, 0)).2 * gz g (y - (L.getD i (0, 0)).1 * s) := by
  rw [List.take_succ_eq_append_getElem hi, lsm_app, List.getD_eq_getElem?_getD, List.getElem?_eq_getElem hi]
  simp [lsm]
abbrev i_X5_weighChanges : MI := (cX5_weighChanges, 9, RX5, none, "weighChanges", 2)
theorem k_X5_weighChanges_0 : Okop i_X5_weighChanges 0 (o_il 3) 1 := k_iln (j := 3) (by decide +kernel)
theorem k_X5_weighChanges_1 : Okop i_X5_weighChanges 1 (o_is 4) 3 := k_is (by decide +kernel) (by decide)
theorem k_X5_weighChanges_3 : Okop i_X5_weighChanges 3 (o_il 4) 5 := k_il (by decide +kernel)
theorem k_X5_weighChanges_5 : Okop i_X5_weighChanges 5 (o_lt0 89) 8 := k_lt0 (off := 84) (by decide +kernel) (by decide)
theorem k_X5_weighChanges_8 : Okop i_X5_weighChanges 8 (o_cl 0) 9 := k_lconst (n := 0) (by decide +kernel) rfl
theorem k_X5_weighChanges_9 : Okop i_X5_weighChanges 9 (o_ls 5) 11 := k_ls (by decide +kernel) (by decide)
theorem k_X5_weighChanges_11 : Okop i_X5_weighChanges 11 (o_c 0) 12 := k_iconst (by decide +kernel)
theorem k_X5_weighChanges_12 : Okop i_X5_weighChanges 12 (o_is 7) 14 := k_is (by decide +kernel) (by decide)
theorem k_X5_weighChanges_14 : Okop i_X5_weighChanges 14 (o_il 7) 16 := k_il (by decide +kernel)
theorem k_X5_weighChanges_16 : Okop i_X5_weighChanges 16 (o_al 0) 17 := k_aln (j := 0) (by decide +kernel)
theorem k_X5_weighChanges_17 : Okop i_X5_weighChanges 17 (o_gi 5 8) 20 := k_gi (idx := 117) fo_5 (by decide) (by decide) gw_203 (by decide +kernel)
theorem k_X5_weighChanges_20 : Okop i_X5_weighChanges 20 (o_ige 74) 23 := k_ige (off := 54) (by decide +kernel) (by decide)
theorem k_X5_weighChanges_23 : Okop i_X5_weighChanges 23 (o_il 4) 25 := k_il (by decide +kernel)
theorem k_X5_weighChanges_25 : Okop i_X5_weighChanges 25 (o_il 1) 26 := k_iln (j := 1) (by decide +kernel)
theorem k_X5_weighChanges_26 : Okop i_X5_weighChanges 26 (o_sub) 27 := k_sub (by decide +kernel)
theorem k_X5_weighChanges_27 : Okop i_X5_weighChanges 27 (o_al 0) 28 := k_aln (j := 0) (by decide +kernel)
theorem k_X5_weighChanges_28 : Okop i_X5_weighChanges 28 (o_gr 5 6) 31 := k_gr (idx := 15) fo_5 (by decide) (by decide) gw_201 (by decide +kernel)
theorem k_X5_weighChanges_31 : Okop i_X5_weighChanges 31 (o_il 7) 33 := k_il (by decide +kernel)
theorem k_X5_weighChanges_33 : Okop i_X5_weighChanges 33 (o_iald) 34 := k_iald (by decide +kernel)
theorem k_X5_weighChanges_34 : Okop i_X5_weighChanges 34 (o_il 2) 35 := k_iln (j := 2) (by decide +kernel)
theorem k_X5_weighChanges_35 : Okop i_X5_weighChanges 35 (o_mul) 36 := k_mul (by decide +kernel)
theorem k_X5_weighChanges_36 : Okop i_X5_weighChanges 36 (o_sub) 37 := k_sub (by decide +kernel)
theorem k_X5_weighChanges_37 : Okop i_X5_weighChanges 37 (o_is 8) 39 := k_is (by decide +kernel) (by decide)
theorem k_X5_weighChanges_39 : Okop i_X5_weighChanges 39 (o_il 8) 41 := k_il (by decide +kernel)
theorem k_X5_weighChanges_41 : Okop i_X5_weighChanges 41 (o_ge0 47) 44 := k_ge0 (off := 6) (by decide +kernel) (by decide)
theorem k_X5_weighChanges_44 : Okop i_X5_weighChanges 44 (o_go 74) 47 := k_go (off := 30) (by decide +kernel) (by decide)
theorem k_X5_weighChanges_47 : Okop i_X5_weighChanges 47 (o_ll 5) 49 := k_ll (by decide +kernel)
theorem k_X5_weighChanges_49 : Okop i_X5_weighChanges 49 (o_al 0) 50 := k_aln (j := 0) (by decide +kernel)
theorem k_X5_weighChanges_50 : Okop i_X5_weighChanges 50 (o_gr 5 7) 53 := k_gr (idx := 19) fo_5 (by decide) (by decide) gw_202 (by decide +kernel)
theorem k_X5_weighChanges_53 : Okop i_X5_weighChanges 53 (o_il 7) 55 := k_il (by decide +kernel)
theorem k_X5_weighChanges_55 : Okop i_X5_weighChanges 55 (o_iald) 56 := k_iald (by decide +kernel)
theorem k_X5_weighChanges_56 : Okop i_X5_weighChanges 56 (o_i2l) 57 := k_i2l (by decide +kernel)
theorem k_X5_weighChanges_57 : Okop i_X5_weighChanges 57 (o_al 0) 58 := k_aln (j := 0) (by decide +kernel)
theorem k_X5_weighChanges_58 : Okop i_X5_weighChanges 58 (o_gr 5 4) 61 := k_gr (idx := 9) fo_5 (by decide) (by decide) gw_199 (by decide +kernel)
theorem k_X5_weighChanges_61 : Okop i_X5_weighChanges 61 (o_il 8) 63 := k_il (by decide +kernel)
theorem k_X5_weighChanges_63 : Okop i_X5_weighChanges 63 (o_lald) 64 := k_lald (by decide +kernel)
theorem k_X5_weighChanges_64 : Okop i_X5_weighChanges 64 (o_lmul) 65 := k_lmul (by decide +kernel)
theorem k_X5_weighChanges_65 : Okop i_X5_weighChanges 65 (o_ladd) 66 := k_ladd (by decide +kernel)
theorem k_X5_weighChanges_66 : Okop i_X5_weighChanges 66 (o_ls 5) 68 := k_ls (by decide +kernel) (by decide)
theorem k_X5_weighChanges_68 : Okop i_X5_weighChanges 68 (o_inc 7 1) 71 := k_inc (by decide +kernel) (by decide)
theorem k_X5_weighChanges_71 : Okop i_X5_weighChanges 71 (o_go 14) 74 := k_go (off := -57) (by decide +kernel) (by decide)
theorem k_X5_weighChanges_74 : Okop i_X5_weighChanges 74 (o_al 0) 75 := k_aln (j := 0) (by decide +kernel)
theorem k_X5_weighChanges_75 : Okop i_X5_weighChanges 75 (o_gr 5 4) 78 := k_gr (idx := 9) fo_5 (by decide) (by decide) gw_199 (by decide +kernel)
theorem k_X5_weighChanges_78 : Okop i_X5_weighChanges 78 (o_il 4) 80 := k_il (by decide +kernel)
theorem k_X5_weighChanges_80 : Okop i_X5_weighChanges 80 (o_ll 5) 82 := k_ll (by decide +kernel)
theorem k_X5_weighChanges_82 : Okop i_X5_weighChanges 82 (o_last) 83 := k_last (by decide +kernel)
theorem k_X5_weighChanges_83 : Okop i_X5_weighChanges 83 (o_inc 4 (-1)) 86 := k_inc (by decide +kernel) (by decide)
theorem k_X5_weighChanges_86 : Okop i_X5_weighChanges 86 (o_go 3) 89 := k_go (off := -83) (by decide +kernel) (by decide)
theorem k_X5_weighChanges_89 : Okop i_X5_weighChanges 89 (o_vret) 90 := k_vret (by decide +kernel) rfl
theorem s_X5_weighChanges_0 : Seg i_X5_weighChanges 0 [o_il 3, o_is 4] 3 := Seg.cons k_X5_weighChanges_0 (Seg.cons k_X5_weighChanges_1 (Seg.nil))
theorem s_X5_weighChanges_3 : Seg i_X5_weighChanges 3 [o_il 4, o_lt0 89, o_cl 0, o_ls 5, o_c 0, o_is 7] 14 := Seg.cons k_X5_weighChanges_3 (Seg.cons k_X5_weighChanges_5 (Seg.cons k_X5_weighChanges_8 (Seg.cons k_X5_weighChanges_9 (Seg.cons k_X5_weighChanges_11 (Seg.cons k_X5_weighChanges_12 (Seg.nil))))))
theorem s_X5_weighChanges_14 : Seg i_X5_weighChanges 14 [o_il 7, o_al 0, o_gi 5 8, o_ige 74, o_il 4, o_il 1, o_sub, o_al 0, o_gr 5 6, o_il 7, o_iald, o_il 2, o_mul, o_sub, o_is 8, o_il 8, o_ge0 47, o_go 74] 47 := Seg.cons k_X5_weighChanges_14 (Seg.cons k_X5_weighChanges_16 (Seg.cons k_X5_weighChanges_17 (Seg.cons k_X5_weighChanges_20 (Seg.cons k_X5_weighChanges_23 (Seg.cons k_X5_weighChanges_25 (Seg.cons k_X5_weighChanges_26 (Seg.cons k_X5_weighChanges_27 (Seg.cons k_X5_weighChanges_28 (Seg.cons k_X5_weighChanges_31 (Seg.cons k_X5_weighChanges_33 (Seg.cons k_X5_weighChanges_34 (Seg.cons k_X5_weighChanges_35 (Seg.cons k_X5_weighChanges_36 (Seg.cons k_X5_weighChanges_37 (Seg.cons k_X5_weighChanges_39 (Seg.cons k_X5_weighChanges_41 (Seg.cons k_X5_weighChanges_44 (Seg.nil))))))))))))))))))
theorem s_X5_weighChanges_47 : Seg i_X5_weighChanges 47 [o_ll 5, o_al 0, o_gr 5 7, o_il 7, o_iald, o_i2l, o_al 0, o_gr 5 4, o_il 8, o_lald, o_lmul, o_ladd, o_ls 5, o_inc 7 1, o_go 14] 74 := Seg.cons k_X5_weighChanges_47 (Seg.cons k_X5_weighChanges_49 (Seg.cons k_X5_weighChanges_50 (Seg.cons k_X5_weighChanges_53 (Seg.cons k_X5_weighChanges_55 (Seg.cons k_X5_weighChanges_56 (Seg.cons k_X5_weighChanges_57 (Seg.cons k_X5_weighChanges_58 (Seg.cons k_X5_weighChanges_61 (Seg.cons k_X5_weighChanges_63 (Seg.cons k_X5_weighChanges_64 (Seg.cons k_X5_weighChanges_65 (Seg.cons k_X5_weighChanges_66 (Seg.cons k_X5_weighChanges_68 (Seg.cons k_X5_weighChanges_71 (Seg.nil)))))))))))))))
theorem s_X5_weighChanges_74 : Seg i_X5_weighChanges 74 [o_al 0, o_gr 5 4, o_il 4, o_ll 5, o_last, o_inc 4 (-1), o_go 3] 89 := Seg.cons k_X5_weighChanges_74 (Seg.cons k_X5_weighChanges_75 (Seg.cons k_X5_weighChanges_78 (Seg.cons k_X5_weighChanges_80 (Seg.cons k_X5_weighChanges_82 (Seg.cons k_X5_weighChanges_83 (Seg.cons k_X5_weighChanges_86 (Seg.nil)))))))
theorem s_X5_weighChanges_89 : Seg i_X5_weighChanges 89 [o_vret] 90 := Seg.cons k_X5_weighChanges_89 (Seg.nil)

theorem m_X5_weighChanges : Mth yX5_weighChanges cX5_weighChanges 9 none 2 (Sp0 T_X5_weighChanges) := by
  refine Mth.of (by decide) ?_
  rintro x as h0 ok ⟨h, S, R, s, n, fm, a, k, f, ca, cb, g, rfl, rfl, ⟨k0, r4, r6, r7, k2, l2, k3, l3, kR, lR⟩, hs, hs2, hn, hfm, hk, hf8, hL, hK⟩
  refine ⟨Nat.le_of_ble_eq_true rfl, ?_⟩
  have hlen := chl_len a k
  have hsort := chl_sorted (a := a) k
  have hmem : ∀ i, i < (chl a k).length → ((chl a k).getD i (0, 0)).1 < k := fun i hi => by
    rw [List.getD_eq_getElem?_getD, List.getElem?_eq_getElem hi]
    exact chl_mem (List.getElem_mem hi)
  generalize hL0 : chl a k = L at *
  have outer : ∀ t, t ≤ n + 1 → ∀ (g2 : Nat → Int) v5 v6 v7 v8, (∀ j, g2 j = if t ≤ j ∧ j ≤ n then lsm s g ((j : Int) - fm) L else g j) → V i_X5_weighChanges x 3 [some (vr (some S)), some (vi fm), some (vi s), some (vi n), some (vi ((t : Int) - 1)), v5, v6, v7, v8] [] (ws h S R f ca cb g2) (0, 0) := by
    intro t
    induction t with
    | zero =>
      intro _ g2 v5 v6 v7 v8 hg
      refine s_X5_weighChanges_3 x ok _ _ _ _ ?_
      simp only [wpS, o_c, o_cl, o_il, o_ll, o_al, o_is, o_ls, o_as, o_inc, o_add, o_sub, o_mul, o_and, o_or, o_xor, o_shl, o_shr, o_div, o_neg, o_ladd, o_lsub, o_lmul, o_ldiv, o_lrem, o_lneg, o_lcmp, o_i2l, o_l2i, o_dup, o_dup2, o_pop, o_go, o_nn, o_sw, swc, o_iret, o_zret, o_lret, o_vret, o_ieq, o_eq0, o_ine, o_ne0, o_ilt, o_lt0, o_ige, o_ge0, o_igt, o_gt0, o_ile, o_le0, o_iald, o_zald, o_lald, o_aald, o_iast, o_zast, o_last, o_aast, o_alen, o_gi, o_gr, o_pi, o_pz, o_pr, o_new, o_newa, o_copy, o_oinit, o_call, o_callV, o_callVc, o_callI, popn, cnO, o_BAD, lgt, lst, isL, kil, st1, st2, entL, List.length_nil, List.length_cons, List.replicate, Nat.reduceAdd, Nat.reduceLeDiff, Nat.reduceSub, true_and, and_true, Nat.zero_le, ne_eq, qk_wi, ql_wi, qr_wi, qj_wi, qt_wi, qk_wj, ql_wj, qr_wj, qi_wj, qt_wj, qk_wr, ql_wr, qi_wr, qj_wr, qt_wr, qi_ws, qj_ws, qr_ws, Int.toNat_natCast, Int.toNat_zero, Int.reduceToNat, not_true_eq_false, not_false_eq_true, false_implies, implies_true, Option.some.injEq, reduceCtorEq, Sp0, true_or, or_true, or_self, wi_wi, wj_wj]
      repeat' (first | (with_reducible refine And.intro ?_ ?_) | (with_reducible intro))
      all_goals (try (first | assumption | omega | (unfold inI; omega)))
      all_goals (try ((first | (refine s_X5_weighChanges_0 x ok _ _ _ _ ?_) | (refine s_X5_weighChanges_47 x ok _ _ _ _ ?_) | (refine s_X5_weighChanges_74 x ok _ _ _ _ ?_) | (refine s_X5_weighChanges_89 x ok _ _ _ _ ?_)); (try simp only [wpS, o_c, o_cl, o_il, o_ll, o_al, o_is, o_ls, o_as, o_inc, o_add, o_sub, o_mul, o_and, o_or, o_xor, o_shl, o_shr, o_div, o_neg, o_ladd, o_lsub, o_lmul, o_ldiv, o_lrem, o_lneg, o_lcmp, o_i2l, o_l2i, o_dup, o_dup2, o_pop, o_go, o_nn, o_sw, swc, o_iret, o_zret, o_lret, o_vret, o_ieq, o_eq0, o_ine, o_ne0, o_ilt, o_lt0, o_ige, o_ge0, o_igt, o_gt0, o_ile, o_le0, o_iald, o_zald, o_lald, o_aald, o_iast, o_zast, o_last, o_aast, o_alen, o_gi, o_gr, o_pi, o_pz, o_pr, o_new, o_newa, o_copy, o_oinit, o_call, o_callV, o_callVc, o_callI, popn, cnO, o_BAD, lgt, lst, isL, kil, st1, st2, entL, List.length_nil, List.length_cons, List.replicate, Nat.reduceAdd, Nat.reduceLeDiff, Nat.reduceSub, true_and, and_true, Nat.zero_le, ne_eq, qk_wi, ql_wi, qr_wi, qj_wi, qt_wi, qk_wj, ql_wj, qr_wj, qi_wj, qt_wj, qk_wr, ql_wr, qi_wr, qj_wr, qt_wr, qi_ws, qj_ws, qr_ws, Int.toNat_natCast, Int.toNat_zero, Int.reduceToNat, not_true_eq_false, not_false_eq_true, false_implies, implies_true, Option.some.injEq, reduceCtorEq, Sp0, true_or, or_true, or_self, wi_wi, wj_wj]); (repeat' (first | (with_reducible refine And.intro ?_ ?_) | (with_reducible intro))); (all_goals (try (first | assumption | omega | (unfold inI; omega))))))
      exact hK g2 (fun j => by rw [hg j]; grind)
    | succ t ih =>
      intro ht g2 v5 v6 v7 v8 hg
      have e1 : ((t + 1 : Nat) : Int) - 1 = (t : Int) := by push_cast; omega
      rw [e1]
      have done : ∀ v7 v8 z, z = lsm s g ((t : Int) - fm) L → V i_X5_weighChanges x 74 [some (vr (some S)), some (vi fm), some (vi s), some (vi n), some (vi t), some (vl z), none, v7, v8] [] (ws h S R f ca cb g2) (0, 0) := by
        intro v7 v8 z hz
        refine s_X5_weighChanges_74 x ok _ _ _ _ ?_
        simp only [wpS, o_c, o_cl, o_il, o_ll, o_al, o_is, o_ls, o_as, o_inc, o_add, o_sub, o_mul, o_and, o_or, o_xor, o_shl, o_shr, o_div, o_neg, o_ladd, o_lsub, o_lmul, o_ldiv, o_lrem, o_lneg, o_lcmp, o_i2l, o_l2i, o_dup, o_dup2, o_pop, o_go, o_nn, o_sw, swc, o_iret, o_zret, o_lret, o_vret, o_ieq, o_eq0, o_ine, o_ne0, o_ilt, o_lt0, o_ige, o_ge0, o_igt, o_gt0, o_ile, o_le0, o_iald, o_zald, o_lald, o_aald, o_iast, o_zast, o_last, o_aast, o_alen, o_gi, o_gr, o_pi, o_pz, o_pr, o_new, o_newa, o_copy, o_oinit, o_call, o_callV, o_callVc, o_callI, popn, cnO, o_BAD, lgt, lst, isL, kil, st1, st2, entL, List.length_nil, List.length_cons, List.replicate, Nat.reduceAdd, Nat.reduceLeDiff, Nat.reduceSub, true_and, and_true, Nat.zero_le, ne_eq, qk_wi, ql_wi, qr_wi, qj_wi, qt_wi, qk_wj, ql_wj, qr_wj, qi_wj, qt_wj, qk_wr, ql_wr, qi_wr, qj_wr, qt_wr, qi_ws, qj_ws, qr_ws, Int.toNat_natCast, Int.toNat_zero, Int.reduceToNat, not_true_eq_false, not_false_eq_true, false_implies, implies_true, Option.some.injEq, reduceCtorEq, Sp0, true_or, or_true, or_self, wi_wi, wj_wj, qk_ws, ql_ws, qr_ws', qsS, qsR, wtR, k0, r4, kR]
        repeat' (first | (with_reducible refine And.intro ?_ ?_) | (with_reducible intro))
        all_goals (try (first | assumption | omega | (unfold inI; omega)))
        have := ih (by omega) (fu g2 t z) (some (vl z)) none v7 v8 (fun j => by
          unfold fu
          have := hg j
          grind)
        exact this
      have inner : ∀ i, i ≤ L.length → ∀ v8, V i_X5_weighChanges x 14 [some (vr (some S)), some (vi fm), some (vi s), some (vi n), some (vi t), some (vl (lsm s g ((t : Int) - fm) (L.take i))), none, some (vi i), v8] [] (ws h S R f ca cb g2) (0, 0) := by
        refine bwd _ ?_ ?_
        · intro v8
          refine s_X5_weighChanges_14 x ok _ _ _ _ ?_
          simp only [wpS, o_c, o_cl, o_il, o_ll, o_al, o_is, o_ls, o_as, o_inc, o_add, o_sub, o_mul, o_and, o_or, o_xor, o_shl, o_shr, o_div, o_neg, o_ladd, o_lsub, o_lmul, o_ldiv, o_lrem, o_lneg, o_lcmp, o_i2l, o_l2i, o_dup, o_dup2, o_pop, o_go, o_nn, o_sw, swc, o_iret, o_zret, o_lret, o_vret, o_ieq, o_eq0, o_ine, o_ne0, o_ilt, o_lt0, o_ige, o_ge0, o_igt, o_gt0, o_ile, o_le0, o_iald, o_zald, o_lald, o_aald, o_iast, o_zast, o_last, o_aast, o_alen, o_gi, o_gr, o_pi, o_pz, o_pr, o_new, o_newa, o_copy, o_oinit, o_call, o_callV, o_callVc, o_callI, popn, cnO, o_BAD, lgt, lst, isL, kil, st1, st2, entL, List.length_nil, List.length_cons, List.replicate, Nat.reduceAdd, Nat.reduceLeDiff, Nat.reduceSub, true_and, and_true, Nat.zero_le, ne_eq, qk_wi, ql_wi, qr_wi, qj_wi, qt_wi, qk_wj, ql_wj, qr_wj, qi_wj, qt_wj, qk_wr, ql_wr, qi_wr, qj_wr, qt_wr, qi_ws, qj_ws, qr_ws, Int.toNat_natCast, Int.toNat_zero, Int.reduceToNat, not_true_eq_false, not_false_eq_true, false_implies, implies_true, Option.some.injEq, reduceCtorEq, Sp0, true_or, or_true, or_self, wi_wi, wj_wj, qk_ws, ql_ws, qr_ws', qsS, k0, hf8]
          repeat' (first | (with_reducible refine And.intro ?_ ?_) | (with_reducible intro))
          all_goals (try (first | assumption | omega | (unfold inI; omega)))
          exact done _ _ _ (by rw [List.take_length])
        · intro i hi ihi v8
          obtain ⟨q1, q2, q3, q4⟩ := hL i hi
          have hmi := hmem i hi
          rw [lsm_take hi, ← q2] at ihi
          have hprod : 0 ≤ ((L.getD i (0, 0)).1 : Int) * s ∧ ((L.getD i (0, 0)).1 : Int) * s ≤ 82 * 1000000 := ⟨Int.mul_nonneg (by omega) (by omega), Int.mul_le_mul (by omega) (by omega) (by omega) (by omega)⟩
          by_cases hneg : (t : Int) - fm - ((L.getD i (0, 0)).1 : Int) * s < 0
          · have hz : lsm s g ((t : Int) - fm) (L.take i) = lsm s g ((t : Int) - fm) L := by
              conv => rhs; rw [← List.take_append_drop i L]
              rw [lsm_app, lsm_z (L := L.drop i), Int.add_zero]
              intro q hq
              obtain ⟨j, hj⟩ := List.mem_iff_getElem?.mp hq
              rw [List.getElem?_drop] at hj
              have hj2 : i + j < L.length := (List.getElem?_eq_some_iff.mp hj).1
              have := hsort i (i + j) (by omega) hj2
              have e3 : L.getD (i + j) (0, 0) = q := by rw [List.getD_eq_getElem?_getD, hj]; rfl
              rw [e3] at this
              have h5 : ((L.getD i (0, 0)).1 : Int) * s ≤ (q.1 : Int) * s := Int.mul_le_mul_of_nonneg_right (by omega) (by omega)
              omega
            refine s_X5_weighChanges_14 x ok _ _ _ _ ?_
            simp only [wpS, o_c, o_cl, o_il, o_ll, o_al, o_is, o_ls, o_as, o_inc, o_add, o_sub, o_mul, o_and, o_or, o_xor, o_shl, o_shr, o_div, o_neg, o_ladd, o_lsub, o_lmul, o_ldiv, o_lrem, o_lneg, o_lcmp, o_i2l, o_l2i, o_dup, o_dup2, o_pop, o_go, o_nn, o_sw, swc, o_iret, o_zret, o_lret, o_vret, o_ieq, o_eq0, o_ine, o_ne0, o_ilt, o_lt0, o_ige, o_ge0, o_igt, o_gt0, o_ile, o_le0, o_iald, o_zald, o_lald, o_aald, o_iast, o_zast, o_last, o_aast, o_alen, o_gi, o_gr, o_pi, o_pz, o_pr, o_new, o_newa, o_copy, o_oinit, o_call, o_callV, o_callVc, o_callI, popn, cnO, o_BAD, lgt, lst, isL, kil, st1, st2, entL, List.length_nil, List.length_cons, List.replicate, Nat.reduceAdd, Nat.reduceLeDiff, Nat.reduceSub, true_and, and_true, Nat.zero_le, ne_eq, qk_wi, ql_wi, qr_wi, qj_wi, qt_wi, qk_wj, ql_wj, qr_wj, qi_wj, qt_wj, qk_wr, ql_wr, qi_wr, qj_wr, qt_wr, qi_ws, qj_ws, qr_ws, Int.toNat_natCast, Int.toNat_zero, Int.reduceToNat, not_true_eq_false, not_false_eq_true, false_implies, implies_true, Option.some.injEq, reduceCtorEq, Sp0, true_or, or_true, or_self, wi_wi, wj_wj, qk_ws, ql_ws, qr_ws', qsS, qs2, k0, r6, k2, l2, hf8, q1]
            repeat' (first | (with_reducible refine And.intro ?_ ?_) | (with_reducible intro))
            all_goals (try (first | assumption | omega | (unfold inI; omega)))
            exact done _ _ _ hz
          · obtain ⟨y, hy⟩ : ∃ y : Nat, (t : Int) - fm - ((L.getD i (0, 0)).1 : Int) * s = (y : Int) := ⟨((t : Int) - fm - ((L.getD i (0, 0)).1 : Int) * s).toNat, by omega⟩
            rw [hy, gz_p] at ihi
            have hgy : g2 y = g y := by rw [hg y, if_neg (by omega)]
            refine s_X5_weighChanges_14 x ok _ _ _ _ ?_
            simp only [wpS, o_c, o_cl, o_il, o_ll, o_al, o_is, o_ls, o_as, o_inc, o_add, o_sub, o_mul, o_and, o_or, o_xor, o_shl, o_shr, o_div, o_neg, o_ladd, o_lsub, o_lmul, o_ldiv, o_lrem, o_lneg, o_lcmp, o_i2l, o_l2i, o_dup, o_dup2, o_pop, o_go, o_nn, o_sw, swc, o_iret, o_zret, o_lret, o_vret, o_ieq, o_eq0, o_ine, o_ne0, o_ilt, o_lt0, o_ige, o_ge0, o_igt, o_gt0, o_ile, o_le0, o_iald, o_zald, o_lald, o_aald, o_iast, o_zast, o_last, o_aast, o_alen, o_gi, o_gr, o_pi, o_pz, o_pr, o_new, o_newa, o_copy, o_oinit, o_call, o_callV, o_callVc, o_callI, popn, cnO, o_BAD, lgt, lst, isL, kil, st1, st2, entL, List.length_nil, List.length_cons, List.replicate, Nat.reduceAdd, Nat.reduceLeDiff, Nat.reduceSub, true_and, and_true, Nat.zero_le, ne_eq, qk_wi, ql_wi, qr_wi, qj_wi, qt_wi, qk_wj, ql_wj, qr_wj, qi_wj, qt_wj, qk_wr, ql_wr, qi_wr, qj_wr, qt_wr, qi_ws, qj_ws, qr_ws, Int.toNat_natCast, Int.toNat_zero, Int.reduceToNat, not_true_eq_false, not_false_eq_true, false_implies, implies_true, Option.some.injEq, reduceCtorEq, Sp0, true_or, or_true, or_self, wi_wi, wj_wj, qk_ws, ql_ws, qr_ws', qsS, qs2, k0, r6, k2, l2, hf8, q1, hy]
            repeat' (first | (with_reducible refine And.intro ?_ ?_) | (with_reducible intro))
            all_goals (try (first | assumption | omega | (unfold inI; omega)))
            all_goals (try ((first | (refine s_X5_weighChanges_0 x ok _ _ _ _ ?_) | (refine s_X5_weighChanges_47 x ok _ _ _ _ ?_) | (refine s_X5_weighChanges_74 x ok _ _ _ _ ?_) | (refine s_X5_weighChanges_89 x ok _ _ _ _ ?_)); (try simp only [wpS, o_c, o_cl, o_il, o_ll, o_al, o_is, o_ls, o_as, o_inc, o_add, o_sub, o_mul, o_and, o_or, o_xor, o_shl, o_shr, o_div, o_neg, o_ladd, o_lsub, o_lmul, o_ldiv, o_lrem, o_lneg, o_lcmp, o_i2l, o_l2i, o_dup, o_dup2, o_pop, o_go, o_nn, o_sw, swc, o_iret, o_zret, o_lret, o_vret, o_ieq, o_eq0, o_ine, o_ne0, o_ilt, o_lt0, o_ige, o_ge0, o_igt, o_gt0, o_ile, o_le0, o_iald, o_zald, o_lald, o_aald, o_iast, o_zast, o_last, o_aast, o_alen, o_gi, o_gr, o_pi, o_pz, o_pr, o_new, o_newa, o_copy, o_oinit, o_call, o_callV, o_callVc, o_callI, popn, cnO, o_BAD, lgt, lst, isL, kil, st1, st2, entL, List.length_nil, List.length_cons, List.replicate, Nat.reduceAdd, Nat.reduceLeDiff, Nat.reduceSub, true_and, and_true, Nat.zero_le, ne_eq, qk_wi, ql_wi, qr_wi, qj_wi, qt_wi, qk_wj, ql_wj, qr_wj, qi_wj, qt_wj, qk_wr, ql_wr, qi_wr, qj_wr, qt_wr, qi_ws, qj_ws, qr_ws, Int.toNat_natCast, Int.toNat_zero, Int.reduceToNat, not_true_eq_false, not_false_eq_true, false_implies, implies_true, Option.some.injEq, reduceCtorEq, Sp0, true_or, or_true, or_self, wi_wi, wj_wj, qk_ws, ql_ws, qr_ws', qsS, qs2, qs3, qsR, k0, r4, r6, r7, k3, l3, kR, hgy]); (repeat' (first | (with_reducible refine And.intro ?_ ?_) | (with_reducible intro))); (all_goals (try (first | assumption | omega | (unfold inI; omega))))))
            all_goals (first | exact ihi _ | (unfold inI; omega) | skip)
      refine s_X5_weighChanges_3 x ok _ _ _ _ ?_
      simp only [wpS, o_c, o_cl, o_il, o_ll, o_al, o_is, o_ls, o_as, o_inc, o_add, o_sub, o_mul, o_and, o_or, o_xor, o_shl, o_shr, o_div, o_neg, o_ladd, o_lsub, o_lmul, o_ldiv, o_lrem, o_lneg, o_lcmp, o_i2l, o_l2i, o_dup, o_dup2, o_pop, o_go, o_nn, o_sw, swc, o_iret, o_zret, o_lret, o_vret, o_ieq, o_eq0, o_ine, o_ne0, o_ilt, o_lt0, o_ige, o_ge0, o_igt, o_gt0, o_ile, o_le0, o_iald, o_zald, o_lald, o_aald, o_iast, o_zast, o_last, o_aast, o_alen, o_gi, o_gr, o_pi, o_pz, o_pr, o_new, o_newa, o_copy, o_oinit, o_call, o_callV, o_callVc, o_callI, popn, cnO, o_BAD, lgt, lst, isL, kil, st1, st2, entL, List.length_nil, List.length_cons, List.replicate, Nat.reduceAdd, Nat.reduceLeDiff, Nat.reduceSub, true_and, and_true, Nat.zero_le, ne_eq, qk_wi, ql_wi, qr_wi, qj_wi, qt_wi, qk_wj, ql_wj, qr_wj, qi_wj, qt_wj, qk_wr, ql_wr, qi_wr, qj_wr, qt_wr, qi_ws, qj_ws, qr_ws, Int.toNat_natCast, Int.toNat_zero, Int.reduceToNat, not_true_eq_false, not_false_eq_true, false_implies, implies_true, Option.some.injEq, reduceCtorEq, Sp0, true_or, or_true, or_self, wi_wi, wj_wj]
      repeat' (first | (with_reducible refine And.intro ?_ ?_) | (with_reducible intro))
      all_goals (try (first | assumption | omega | (unfold inI; omega)))
      exact inner 0 (by omega) _
  all_goals (try ((first | (refine s_X5_weighChanges_0 x ok _ _ _ _ ?_) | (refine s_X5_weighChanges_47 x ok _ _ _ _ ?_) | (refine s_X5_weighChanges_74 x ok _ _ _ _ ?_) | (refine s_X5_weighChanges_89 x ok _ _ _ _ ?_)); (try simp only [wpS, o_c, o_cl, o_il, o_ll, o_al, o_is, o_ls, o_as, o_inc, o_add, o_sub, o_mul, o_and, o_or, o_xor, o_shl, o_shr, o_div, o_neg, o_ladd, o_lsub, o_lmul, o_ldiv, o_lrem, o_lneg, o_lcmp, o_i2l, o_l2i, o_dup, o_dup2, o_pop, o_go, o_nn, o_sw, swc, o_iret, o_zret, o_lret, o_vret, o_ieq, o_eq0, o_ine, o_ne0, o_ilt, o_lt0, o_ige, o_ge0, o_igt, o_gt0, o_ile, o_le0, o_iald, o_zald, o_lald, o_aald, o_iast, o_zast, o_last, o_aast, o_alen, o_gi, o_gr, o_pi, o_pz, o_pr, o_new, o_newa, o_copy, o_oinit, o_call, o_callV, o_callVc, o_callI, popn, cnO, o_BAD, lgt, lst, isL, kil, st1, st2, entL, List.length_nil, List.length_cons, List.replicate, Nat.reduceAdd, Nat.reduceLeDiff, Nat.reduceSub, true_and, and_true, Nat.zero_le, ne_eq, qk_wi, ql_wi, qr_wi, qj_wi, qt_wi, qk_wj, ql_wj, qr_wj, qi_wj, qt_wj, qk_wr, ql_wr, qi_wr, qj_wr, qt_wr, qi_ws, qj_ws, qr_ws, Int.toNat_natCast, Int.toNat_zero, Int.reduceToNat, not_true_eq_false, not_false_eq_true, false_implies, implies_true, Option.some.injEq, reduceCtorEq, Sp0, true_or, or_true, or_self, wi_wi, wj_wj]); (repeat' (first | (with_reducible refine And.intro ?_ ?_) | (with_reducible intro))); (all_goals (try (first | assumption | omega | (unfold inI; omega))))))
  have := outer (n + 1) (Nat.le_refl _) g none none none none (fun j => by
    rw [if_neg (by omega)])
  rw [show ((n + 1 : Nat) : Int) - 1 = (n : Int) by push_cast; omega] at this
  exact this

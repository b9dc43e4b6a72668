/-! ===== Spread.clear ===== -/
/-- h' is h with new cells, and maybe another row for the Spread S -/
def Gro (h h' : Hp) (S : Nat) : Prop := (∀ b, b < qt h → qk h' b = qk h b ∧ ql h' b = ql h b ∧ qi h' b = qi h b ∧ (b ≠ S → qr h' b = qr h b)) ∧ (∀ j, j ≠ 4 → qr h' S j = qr h S j) ∧ qt h ≤ qt h' ∧ ∀ b, b < qt h → qj h' b = qj h b
theorem Gro.rfl' (h : Hp) (S : Nat) : Gro h h S := ⟨fun _ _ => ⟨rfl, rfl, rfl, fun _ => rfl⟩, fun _ _ => rfl, Nat.le_refl _, fun _ _ => rfl⟩
/-- the row's length after cells were asked for -/
def rwL (l c : Nat) : Nat := if c ≤ l ∨ 200000 < c then l else if c ≤ 24000 then 24000 else 200000
def gc (l l2 : Nat) : Nat × Nat := if l = l2 then (0, 0) else (1, l2)
theorem ws_of (h : Hp) (S R : Nat) (f g : Nat → Int) : wj (wi h S f) R g = ws h S R f (qi h (S + 2)) (qi h (S + 3)) g := by
  have := ws_self h S R
  conv => lhs; rw [← this]
  rw [wtS, wtR]
def B_X5_clear : TB := fun as h c K => ∃ (S R r q : Nat), as = [vr (some S), vi r, vi q] ∧ isSp h S R ∧ S + 3 < qt h ∧ R < qt h ∧ (1 ≤ r ∧ r ≤ 2881) ∧ (1 ≤ q ∧ q ≤ 2881) ∧ (gc (ql h R) (rwL (ql h R) (r * q))).1 ≤ c.1 ∧ (gc (ql h R) (rwL (ql h R) (r * q))).2 ≤ c.2 ∧
  (200000 < r * q → ∀ f2 : Nat → Int, (∀ j, j ≠ 0 → j ≠ 1 → j ≠ 5 → f2 j = qi h S j) → f2 0 = 0 → f2 1 = 0 → f2 5 = 0 → K (some (vi 0)) (wi h S f2)) ∧
  (r * q ≤ 200000 → ∀ (h' : Hp) (R' : Nat) (f2 g2 : Nat → Int), Gro h h' S → isSp h' S R' → R' < qt h' → (R' = R ∨ qt h ≤ R') → ql h' R' = rwL (ql h R) (r * q) → (∀ j, j ≠ 0 → j ≠ 1 → j ≠ 5 → f2 j = qi h S j) → f2 0 = (r : Int) → f2 1 = (q : Int) → f2 5 = 0 → (∀ k, k < r * q → g2 k = if k = 0 then 1 else 0) → K (some (vi 1)) (ws h' S R' f2 (qi h (S + 2)) (qi h (S + 3)) g2))
theorem c_clear {h : Hp} {c : Nat × Nat} {K : RT} {S R r q : Nat} (h1 : isSp h S R) (h2 : S + 3 < qt h) (h3 : R < qt h) (h4 : 1 ≤ r ∧ r ≤ 2881) (h5 : 1 ≤ q ∧ q ≤ 2881) (h6 : (gc (ql h R) (rwL (ql h R) (r * q))).1 ≤ c.1) (h7 : (gc (ql h R) (rwL (ql h R) (r * q))).2 ≤ c.2) (h8 : 200000 < r * q → ∀ f2 : Nat → Int, (∀ j, j ≠ 0 → j ≠ 1 → j ≠ 5 → f2 j = qi h S j) → f2 0 = 0 → f2 1 = 0 → f2 5 = 0 → K (some (vi 0)) (wi h S f2)) (h9 : r * q ≤ 200000 → ∀ (h' : Hp) (R' : Nat) (f2 g2 : Nat → Int), Gro h h' S → isSp h' S R' → R' < qt h' → (R' = R ∨ qt h ≤ R') → ql h' R' = rwL (ql h R) (r * q) → (∀ j, j ≠ 0 → j ≠ 1 → j ≠ 5 → f2 j = qi h S j) → f2 0 = (r : Int) → f2 1 = (q : Int) → f2 5 = 0 → (∀ k, k < r * q → g2 k = if k = 0 then 1 else 0) → K (some (vi 1)) (ws h' S R' f2 (qi h (S + 2)) (qi h (S + 3)) g2)) : B_X5_clear [vr (some S), vi r, vi q] h c K := ⟨S, R, r, q, rfl, h1, h2, h3, h4, h5, h6, h7, h8, h9⟩
abbrev i_X5_clear : MI := (cX5_clear, 5, RX5, (some .boolean), "clear", 4)
theorem k_X5_clear_0 : Okop i_X5_clear 0 (o_al 0) 1 := k_aln (j := 0) (by decide +kernel)
theorem k_X5_clear_1 : Okop i_X5_clear 1 (o_c 0) 2 := k_iconst (by decide +kernel)
theorem k_X5_clear_2 : Okop i_X5_clear 2 (o_pi 5 0) 5 := k_pi (idx := 65) fo_5 (by decide) (by decide) gw_191 (by decide +kernel) (.inl rfl)
theorem k_X5_clear_5 : Okop i_X5_clear 5 (o_al 0) 6 := k_aln (j := 0) (by decide +kernel)
theorem k_X5_clear_6 : Okop i_X5_clear 6 (o_c 0) 7 := k_iconst (by decide +kernel)
theorem k_X5_clear_7 : Okop i_X5_clear 7 (o_pi 5 1) 10 := k_pi (idx := 59) fo_5 (by decide) (by decide) gw_193 (by decide +kernel) (.inl rfl)
theorem k_X5_clear_10 : Okop i_X5_clear 10 (o_al 0) 11 := k_aln (j := 0) (by decide +kernel)
theorem k_X5_clear_11 : Okop i_X5_clear 11 (o_c 0) 12 := k_iconst (by decide +kernel)
theorem k_X5_clear_12 : Okop i_X5_clear 12 (o_pi 5 5) 15 := k_pi (idx := 75) fo_5 (by decide) (by decide) gw_200 (by decide +kernel) (.inl rfl)
theorem k_X5_clear_15 : Okop i_X5_clear 15 (o_il 1) 16 := k_iln (j := 1) (by decide +kernel)
theorem k_X5_clear_16 : Okop i_X5_clear 16 (o_i2l) 17 := k_i2l (by decide +kernel)
theorem k_X5_clear_17 : Okop i_X5_clear 17 (o_il 2) 18 := k_iln (j := 2) (by decide +kernel)
theorem k_X5_clear_18 : Okop i_X5_clear 18 (o_i2l) 19 := k_i2l (by decide +kernel)
theorem k_X5_clear_19 : Okop i_X5_clear 19 (o_lmul) 20 := k_lmul (by decide +kernel)
theorem k_X5_clear_20 : Okop i_X5_clear 20 (o_ls 3) 21 := k_lsn (j := 3) (by decide +kernel) (by decide)
theorem k_X5_clear_21 : Okop i_X5_clear 21 (o_il 1) 22 := k_iln (j := 1) (by decide +kernel)
theorem k_X5_clear_22 : Okop i_X5_clear 22 (o_c 1) 23 := k_iconst (by decide +kernel)
theorem k_X5_clear_23 : Okop i_X5_clear 23 (o_ilt 39) 26 := k_ilt (off := 16) (by decide +kernel) (by decide)
theorem k_X5_clear_26 : Okop i_X5_clear 26 (o_il 2) 27 := k_iln (j := 2) (by decide +kernel)
theorem k_X5_clear_27 : Okop i_X5_clear 27 (o_c 1) 28 := k_iconst (by decide +kernel)
theorem k_X5_clear_28 : Okop i_X5_clear 28 (o_ilt 39) 31 := k_ilt (off := 11) (by decide +kernel) (by decide)
theorem k_X5_clear_31 : Okop i_X5_clear 31 (o_ll 3) 32 := k_lln (j := 3) (by decide +kernel)
theorem k_X5_clear_32 : Okop i_X5_clear 32 (o_cl 200000) 35 := k_ldc2 (idx := 78) (by decide +kernel) gw_438
theorem k_X5_clear_35 : Okop i_X5_clear 35 (o_lcmp) 36 := k_lcmp (by decide +kernel)
theorem k_X5_clear_36 : Okop i_X5_clear 36 (o_le0 41) 39 := k_le0 (off := 5) (by decide +kernel) (by decide)
theorem k_X5_clear_39 : Okop i_X5_clear 39 (o_c 0) 40 := k_iconst (by decide +kernel)
theorem k_X5_clear_40 : Okop i_X5_clear 40 (o_zret) 41 := k_zret (by decide +kernel) rfl
theorem k_X5_clear_41 : Okop i_X5_clear 41 (o_al 0) 42 := k_aln (j := 0) (by decide +kernel)
theorem k_X5_clear_42 : Okop i_X5_clear 42 (o_gr 5 4) 45 := k_gr (idx := 9) fo_5 (by decide) (by decide) gw_199 (by decide +kernel)
theorem k_X5_clear_45 : Okop i_X5_clear 45 (o_alen) 46 := k_alen (by decide +kernel)
theorem k_X5_clear_46 : Okop i_X5_clear 46 (o_i2l) 47 := k_i2l (by decide +kernel)
theorem k_X5_clear_47 : Okop i_X5_clear 47 (o_ll 3) 48 := k_lln (j := 3) (by decide +kernel)
theorem k_X5_clear_48 : Okop i_X5_clear 48 (o_lcmp) 49 := k_lcmp (by decide +kernel)
theorem k_X5_clear_49 : Okop i_X5_clear 49 (o_ge0 74) 52 := k_ge0 (off := 25) (by decide +kernel) (by decide)
theorem k_X5_clear_52 : Okop i_X5_clear 52 (o_al 0) 53 := k_aln (j := 0) (by decide +kernel)
theorem k_X5_clear_53 : Okop i_X5_clear 53 (o_ll 3) 54 := k_lln (j := 3) (by decide +kernel)
theorem k_X5_clear_54 : Okop i_X5_clear 54 (o_cl 24000) 57 := k_ldc2 (idx := 80) (by decide +kernel) gw_439
theorem k_X5_clear_57 : Okop i_X5_clear 57 (o_lcmp) 58 := k_lcmp (by decide +kernel)
theorem k_X5_clear_58 : Okop i_X5_clear 58 (o_gt0 67) 61 := k_gt0 (off := 9) (by decide +kernel) (by decide)
theorem k_X5_clear_61 : Okop i_X5_clear 61 (o_c 24000) 64 := k_sipush (by decide +kernel) rfl
theorem k_X5_clear_64 : Okop i_X5_clear 64 (o_go 69) 67 := k_go (off := 5) (by decide +kernel) (by decide)
theorem k_X5_clear_67 : Okop i_X5_clear 67 (o_c 200000) 69 := k_ldc (idx := 82) (by decide +kernel) gw_440
theorem k_X5_clear_69 : Okop i_X5_clear 69 (o_newa 2) 71 := k_newa (.inr (.inl ⟨rfl, rfl⟩)) gw_223 (by decide +kernel)
theorem k_X5_clear_71 : Okop i_X5_clear 71 (o_pr 5 4) 74 := k_pr (idx := 9) fo_5 (by decide) (by decide) gw_199 (by decide +kernel) (.inl rfl)
theorem k_X5_clear_74 : Okop i_X5_clear 74 (o_al 0) 75 := k_aln (j := 0) (by decide +kernel)
theorem k_X5_clear_75 : Okop i_X5_clear 75 (o_il 1) 76 := k_iln (j := 1) (by decide +kernel)
theorem k_X5_clear_76 : Okop i_X5_clear 76 (o_pi 5 0) 79 := k_pi (idx := 65) fo_5 (by decide) (by decide) gw_191 (by decide +kernel) (.inl rfl)
theorem k_X5_clear_79 : Okop i_X5_clear 79 (o_al 0) 80 := k_aln (j := 0) (by decide +kernel)
theorem k_X5_clear_80 : Okop i_X5_clear 80 (o_il 2) 81 := k_iln (j := 2) (by decide +kernel)
theorem k_X5_clear_81 : Okop i_X5_clear 81 (o_pi 5 1) 84 := k_pi (idx := 59) fo_5 (by decide) (by decide) gw_193 (by decide +kernel) (.inl rfl)
theorem k_X5_clear_84 : Okop i_X5_clear 84 (o_al 0) 85 := k_aln (j := 0) (by decide +kernel)
theorem k_X5_clear_85 : Okop i_X5_clear 85 (o_gr 5 4) 88 := k_gr (idx := 9) fo_5 (by decide) (by decide) gw_199 (by decide +kernel)
theorem k_X5_clear_88 : Okop i_X5_clear 88 (o_c 0) 89 := k_iconst (by decide +kernel)
theorem k_X5_clear_89 : Okop i_X5_clear 89 (o_ll 3) 90 := k_lln (j := 3) (by decide +kernel)
theorem k_X5_clear_90 : Okop i_X5_clear 90 (o_l2i) 91 := k_l2i (by decide +kernel)
theorem k_X5_clear_91 : Okop i_X5_clear 91 (o_cl 0) 92 := k_lconst (n := 0) (by decide +kernel) rfl
theorem k_X5_clear_92 : Okop i_X5_clear 92 (o_call 4 T_J7_fill_bad5a) 95 := k_call (idx := 83) m_J7_fill_bad5a ⟨gw_443, gw_6, ⟨by decide, by decide, by decide +kernel⟩, by decide, by decide⟩ gw_441 gw_442 (by decide +kernel)
theorem k_X5_clear_95 : Okop i_X5_clear 95 (o_al 0) 96 := k_aln (j := 0) (by decide +kernel)
theorem k_X5_clear_96 : Okop i_X5_clear 96 (o_gr 5 4) 99 := k_gr (idx := 9) fo_5 (by decide) (by decide) gw_199 (by decide +kernel)
theorem k_X5_clear_99 : Okop i_X5_clear 99 (o_c 0) 100 := k_iconst (by decide +kernel)
theorem k_X5_clear_100 : Okop i_X5_clear 100 (o_cl 1) 101 := k_lconst (n := 1) (by decide +kernel) rfl
theorem k_X5_clear_101 : Okop i_X5_clear 101 (o_last) 102 := k_last (by decide +kernel)
theorem k_X5_clear_102 : Okop i_X5_clear 102 (o_c 1) 103 := k_iconst (by decide +kernel)
theorem k_X5_clear_103 : Okop i_X5_clear 103 (o_zret) 104 := k_zret (by decide +kernel) rfl
theorem s_X5_clear_0 : Seg i_X5_clear 0 [o_al 0, o_c 0, o_pi 5 0, o_al 0, o_c 0, o_pi 5 1, o_al 0, o_c 0, o_pi 5 5, o_il 1, o_i2l, o_il 2, o_i2l, o_lmul, o_ls 3, o_il 1, o_c 1, o_ilt 39, o_il 2, o_c 1, o_ilt 39, o_ll 3, o_cl 200000, o_lcmp, o_le0 41, o_c 0, o_zret] 41 := Seg.cons k_X5_clear_0 (Seg.cons k_X5_clear_1 (Seg.cons k_X5_clear_2 (Seg.cons k_X5_clear_5 (Seg.cons k_X5_clear_6 (Seg.cons k_X5_clear_7 (Seg.cons k_X5_clear_10 (Seg.cons k_X5_clear_11 (Seg.cons k_X5_clear_12 (Seg.cons k_X5_clear_15 (Seg.cons k_X5_clear_16 (Seg.cons k_X5_clear_17 (Seg.cons k_X5_clear_18 (Seg.cons k_X5_clear_19 (Seg.cons k_X5_clear_20 (Seg.cons k_X5_clear_21 (Seg.cons k_X5_clear_22 (Seg.cons k_X5_clear_23 (Seg.cons k_X5_clear_26 (Seg.cons k_X5_clear_27 (Seg.cons k_X5_clear_28 (Seg.cons k_X5_clear_31 (Seg.cons k_X5_clear_32 (Seg.cons k_X5_clear_35 (Seg.cons k_X5_clear_36 (Seg.cons k_X5_clear_39 (Seg.cons k_X5_clear_40 (Seg.nil)))))))))))))))))))))))))))
theorem s_X5_clear_39 : Seg i_X5_clear 39 [o_c 0, o_zret] 41 := Seg.cons k_X5_clear_39 (Seg.cons k_X5_clear_40 (Seg.nil))
theorem s_X5_clear_41 : Seg i_X5_clear 41 [o_al 0, o_gr 5 4, o_alen, o_i2l, o_ll 3, o_lcmp, o_ge0 74, o_al 0, o_ll 3, o_cl 24000, o_lcmp, o_gt0 67, o_c 24000, o_go 69] 67 := Seg.cons k_X5_clear_41 (Seg.cons k_X5_clear_42 (Seg.cons k_X5_clear_45 (Seg.cons k_X5_clear_46 (Seg.cons k_X5_clear_47 (Seg.cons k_X5_clear_48 (Seg.cons k_X5_clear_49 (Seg.cons k_X5_clear_52 (Seg.cons k_X5_clear_53 (Seg.cons k_X5_clear_54 (Seg.cons k_X5_clear_57 (Seg.cons k_X5_clear_58 (Seg.cons k_X5_clear_61 (Seg.cons k_X5_clear_64 (Seg.nil))))))))))))))
theorem s_X5_clear_67 : Seg i_X5_clear 67 [o_c 200000, o_newa 2, o_pr 5 4, o_al 0, o_il 1, o_pi 5 0, o_al 0, o_il 2, o_pi 5 1, o_al 0, o_gr 5 4, o_c 0, o_ll 3, o_l2i, o_cl 0, o_call 4 T_J7_fill_bad5a, o_al 0, o_gr 5 4, o_c 0, o_cl 1, o_last, o_c 1, o_zret] 104 := Seg.cons k_X5_clear_67 (Seg.cons k_X5_clear_69 (Seg.cons k_X5_clear_71 (Seg.cons k_X5_clear_74 (Seg.cons k_X5_clear_75 (Seg.cons k_X5_clear_76 (Seg.cons k_X5_clear_79 (Seg.cons k_X5_clear_80 (Seg.cons k_X5_clear_81 (Seg.cons k_X5_clear_84 (Seg.cons k_X5_clear_85 (Seg.cons k_X5_clear_88 (Seg.cons k_X5_clear_89 (Seg.cons k_X5_clear_90 (Seg.cons k_X5_clear_91 (Seg.cons k_X5_clear_92 (Seg.cons k_X5_clear_95 (Seg.cons k_X5_clear_96 (Seg.cons k_X5_clear_99 (Seg.cons k_X5_clear_100 (Seg.cons k_X5_clear_101 (Seg.cons k_X5_clear_102 (Seg.cons k_X5_clear_103 (Seg.nil)))))))))))))))))))))))
theorem s_X5_clear_69 : Seg i_X5_clear 69 [o_newa 2, o_pr 5 4, o_al 0, o_il 1, o_pi 5 0, o_al 0, o_il 2, o_pi 5 1, o_al 0, o_gr 5 4, o_c 0, o_ll 3, o_l2i, o_cl 0, o_call 4 T_J7_fill_bad5a, o_al 0, o_gr 5 4, o_c 0, o_cl 1, o_last, o_c 1, o_zret] 104 := Seg.cons k_X5_clear_69 (Seg.cons k_X5_clear_71 (Seg.cons k_X5_clear_74 (Seg.cons k_X5_clear_75 (Seg.cons k_X5_clear_76 (Seg.cons k_X5_clear_79 (Seg.cons k_X5_clear_80 (Seg.cons k_X5_clear_81 (Seg.cons k_X5_clear_84 (Seg.cons k_X5_clear_85 (Seg.cons k_X5_clear_88 (Seg.cons k_X5_clear_89 (Seg.cons k_X5_clear_90 (Seg.cons k_X5_clear_91 (Seg.cons k_X5_clear_92 (Seg.cons k_X5_clear_95 (Seg.cons k_X5_clear_96 (Seg.cons k_X5_clear_99 (Seg.cons k_X5_clear_100 (Seg.cons k_X5_clear_101 (Seg.cons k_X5_clear_102 (Seg.cons k_X5_clear_103 (Seg.nil))))))))))))))))))))))
theorem s_X5_clear_74 : Seg i_X5_clear 74 [o_al 0, o_il 1, o_pi 5 0, o_al 0, o_il 2, o_pi 5 1, o_al 0, o_gr 5 4, o_c 0, o_ll 3, o_l2i, o_cl 0, o_call 4 T_J7_fill_bad5a, o_al 0, o_gr 5 4, o_c 0, o_cl 1, o_last, o_c 1, o_zret] 104 := Seg.cons k_X5_clear_74 (Seg.cons k_X5_clear_75 (Seg.cons k_X5_clear_76 (Seg.cons k_X5_clear_79 (Seg.cons k_X5_clear_80 (Seg.cons k_X5_clear_81 (Seg.cons k_X5_clear_84 (Seg.cons k_X5_clear_85 (Seg.cons k_X5_clear_88 (Seg.cons k_X5_clear_89 (Seg.cons k_X5_clear_90 (Seg.cons k_X5_clear_91 (Seg.cons k_X5_clear_92 (Seg.cons k_X5_clear_95 (Seg.cons k_X5_clear_96 (Seg.cons k_X5_clear_99 (Seg.cons k_X5_clear_100 (Seg.cons k_X5_clear_101 (Seg.cons k_X5_clear_102 (Seg.cons k_X5_clear_103 (Seg.nil))))))))))))))))))))

theorem s_X5_clear_69' : Seg i_X5_clear 69 [o_newa 2, o_pr 5 4] 74 := Seg.cons k_X5_clear_69 (Seg.cons k_X5_clear_71 Seg.nil)
theorem s_X5_clear_67' : Seg i_X5_clear 67 [o_c 200000] 69 := Seg.cons k_X5_clear_67 Seg.nil
theorem m_X5_clear : Mthx yX5_clear cX5_clear 5 (some .boolean) 4 B_X5_clear := by
  refine Mthx.of (by decide) ?_
  rintro x as h c ok ⟨S, R, r, q, rfl, hSp, hS, hR, hr, hq, c1, c2, hKb, hKg⟩
  refine ⟨Nat.le_of_ble_eq_true rfl, ?_⟩
  have hrq : 1 ≤ r * q ∧ r * q ≤ 2881 * 2881 := ⟨Nat.mul_pos (by omega) (by omega), Nat.mul_le_mul hr.2 hq.2⟩
  have ecl : (r : Int) * (q : Int) = ((r * q : Nat) : Int) := by push_cast; rfl
  generalize hN : r * q = N at *
  obtain ⟨k0, r4, r6, r7, k2, l2, k3, l3, kR, lR⟩ := id hSp
  have nS : S ≠ R := fun e => by rw [e, kR] at k0; omega
  have inN : inL (N : Int) := by unfold inL; omega
  -- the tail
  have tail : ∀ (h1 : Hp) (R1 : Nat) (f1 : Nat → Int) (b : Nat × Nat), Gro h h1 S → isSp h1 S R1 → R1 < qt h1 → (R1 = R ∨ qt h ≤ R1) → ql h1 R1 = rwL (ql h R) N → N ≤ ql h1 R1 → N ≤ 200000 → (∀ j, j ≠ 0 → j ≠ 1 → j ≠ 5 → f1 j = qi h S j) → f1 5 = 0 → V i_X5_clear x 74 [some (vr (some S)), some (vi r), some (vi q), some (vl N), none] [] (wi h1 S f1) b := by
    intro h1 R1 f1 b g1 g2 g3 g4 g5 g6 g7 g8 g9
    obtain ⟨k0, r4, r6, r7, k2, l2, k3, l3, kR, lR⟩ := id g2
    refine s_X5_clear_74 x ok _ _ _ _ ?_
    simp only [wpS, o_c, o_cl, o_il, o_ll, o_al, o_is, o_ls, o_as, o_inc, o_add, o_sub, o_mul, o_and, o_or, o_xor, o_shl, o_shr, o_div, o_neg, o_ladd, o_lsub, o_lmul, o_ldiv, o_lrem, o_lneg, o_lcmp, o_i2l, o_l2i, o_dup, o_dup2, o_pop, o_go, o_nn, o_sw, swc, o_iret, o_zret, o_lret, o_vret, o_ieq, o_eq0, o_ine, o_ne0, o_ilt, o_lt0, o_ige, o_ge0, o_igt, o_gt0, o_ile, o_le0, o_iald, o_zald, o_lald, o_aald, o_iast, o_zast, o_last, o_aast, o_alen, o_gi, o_gr, o_pi, o_pz, o_pr, o_new, o_newa, o_copy, o_oinit, o_call, o_callV, o_callVc, o_callI, popn, cnO, o_BAD, lgt, lst, isL, kil, st1, st2, entL, List.length_nil, List.length_cons, List.replicate, Nat.reduceAdd, Nat.reduceLeDiff, Nat.reduceSub, true_and, and_true, Nat.zero_le, ne_eq, qk_wi, ql_wi, qr_wi, qj_wi, qt_wi, qk_wj, ql_wj, qr_wj, qi_wj, qt_wj, qk_wr, ql_wr, qi_wr, qj_wr, qt_wr, qi_ws, qj_ws, qr_ws, Int.toNat_natCast, Int.toNat_zero, Int.reduceToNat, not_true_eq_false, not_false_eq_true, false_implies, implies_true, Option.some.injEq, reduceCtorEq, Sp0, true_or, or_true, or_self, wi_wi, wj_wj, k0, r4, kR]
    repeat' (first | (with_reducible refine And.intro ?_ ?_) | (with_reducible intro))
    all_goals (try (first | assumption | omega | (unfold inI; omega)))
    refine c_fillL (lo := 0) (hi := N) kR (by omega) (by rw [ql_wi]; exact g6) (by rw [ql_wi]; omega) ?_
    simp only [wpS, o_c, o_cl, o_il, o_ll, o_al, o_is, o_ls, o_as, o_inc, o_add, o_sub, o_mul, o_and, o_or, o_xor, o_shl, o_shr, o_div, o_neg, o_ladd, o_lsub, o_lmul, o_ldiv, o_lrem, o_lneg, o_lcmp, o_i2l, o_l2i, o_dup, o_dup2, o_pop, o_go, o_nn, o_sw, swc, o_iret, o_zret, o_lret, o_vret, o_ieq, o_eq0, o_ine, o_ne0, o_ilt, o_lt0, o_ige, o_ge0, o_igt, o_gt0, o_ile, o_le0, o_iald, o_zald, o_lald, o_aald, o_iast, o_zast, o_last, o_aast, o_alen, o_gi, o_gr, o_pi, o_pz, o_pr, o_new, o_newa, o_copy, o_oinit, o_call, o_callV, o_callVc, o_callI, popn, cnO, o_BAD, lgt, lst, isL, kil, st1, st2, entL, List.length_nil, List.length_cons, List.replicate, Nat.reduceAdd, Nat.reduceLeDiff, Nat.reduceSub, true_and, and_true, Nat.zero_le, ne_eq, qk_wi, ql_wi, qr_wi, qj_wi, qt_wi, qk_wj, ql_wj, qr_wj, qi_wj, qt_wj, qk_wr, ql_wr, qi_wr, qj_wr, qt_wr, qi_ws, qj_ws, qr_ws, Int.toNat_natCast, Int.toNat_zero, Int.reduceToNat, not_true_eq_false, not_false_eq_true, false_implies, implies_true, Option.some.injEq, reduceCtorEq, Sp0, true_or, or_true, or_self, wi_wi, wj_wj, k0, r4, kR]
    repeat' (first | (with_reducible refine And.intro ?_ ?_) | (with_reducible intro))
    all_goals (try (first | assumption | omega | (unfold inI; omega)))
    rw [ws_of]
    have e2 : qi h1 (S + 2) = qi h (S + 2) := (g1.1 _ (by omega)).2.2.1
    have e3 : qi h1 (S + 3) = qi h (S + 3) := (g1.1 _ (by omega)).2.2.1
    rw [e2, e3]
    refine hKg g7 h1 R1 _ _ g1 g2 g3 g4 g5 (fun j a1 a2 a3 => ?_) ?_ ?_ ?_ (fun k hk => ?_)
    · rw [fu_n a2, fu_n a1, g8 j a1 a2 a3]
    · rw [fu_n (by omega), fu_s]
    · rw [fu_s]
    · rw [fu_n (by omega), fu_n (by omega), g9]
    · unfold fu fillF
      grind
  have grow : ∀ (l : Nat) (f1 : Nat → Int) (b : Nat × Nat), 1 ≤ b.1 → l ≤ b.2 → rwL (ql h R) N = l → (l = 24000 ∨ l = 200000) → N ≤ l → (∀ j, j ≠ 0 → j ≠ 1 → j ≠ 5 → f1 j = qi h S j) → f1 5 = 0 → V i_X5_clear x 69 [some (vr (some S)), some (vi r), some (vi q), some (vl N), none] [vi l, vr (some S)] (wi h S f1) b := by
    intro l f1 b b1 b2 g5 g6 g7 g8 g9
    refine s_X5_clear_69' x ok _ _ _ _ ?_
    simp only [wpS, o_c, o_cl, o_il, o_ll, o_al, o_is, o_ls, o_as, o_inc, o_add, o_sub, o_mul, o_and, o_or, o_xor, o_shl, o_shr, o_div, o_neg, o_ladd, o_lsub, o_lmul, o_ldiv, o_lrem, o_lneg, o_lcmp, o_i2l, o_l2i, o_dup, o_dup2, o_pop, o_go, o_nn, o_sw, swc, o_iret, o_zret, o_lret, o_vret, o_ieq, o_eq0, o_ine, o_ne0, o_ilt, o_lt0, o_ige, o_ge0, o_igt, o_gt0, o_ile, o_le0, o_iald, o_zald, o_lald, o_aald, o_iast, o_zast, o_last, o_aast, o_alen, o_gi, o_gr, o_pi, o_pz, o_pr, o_new, o_newa, o_copy, o_oinit, o_call, o_callV, o_callVc, o_callI, popn, cnO, o_BAD, lgt, lst, isL, kil, st1, st2, entL, List.length_nil, List.length_cons, List.replicate, Nat.reduceAdd, Nat.reduceLeDiff, Nat.reduceSub, true_and, and_true, Nat.zero_le, ne_eq, qk_wi, ql_wi, qr_wi, qj_wi, qt_wi, qk_wj, ql_wj, qr_wj, qi_wj, qt_wj, qk_wr, ql_wr, qi_wr, qj_wr, qt_wr, qi_ws, qj_ws, qr_ws, Int.toNat_natCast, Int.toNat_zero, Int.reduceToNat, not_true_eq_false, not_false_eq_true, false_implies, implies_true, Option.some.injEq, reduceCtorEq, Sp0, true_or, or_true, or_self, wi_wi, wj_wj, qk_al, qr_al, k0, show S ≠ qt h by omega, ↓reduceIte]
    repeat' (first | (with_reducible refine And.intro ?_ ?_) | (with_reducible intro))
    all_goals (try (first | assumption | omega | (unfold inI; omega)))
    have g : Gro h (wr (wn h 2 l) S (fu (qr h S) 4 (some (qt h)))) S := by
      refine ⟨fun b hb => ⟨?_, ?_, ?_, fun n => ?_⟩, fun j hj => ?_, ?_, fun b hb => ?_⟩
      · rw [qk_wr, qk_al, if_neg (by omega)]
      · rw [ql_wr, ql_al, if_neg (by omega)]
      · rw [qi_wr, qi_al, if_neg (by omega)]
      · rw [qr_wn n, qr_al, if_neg (by omega)]
      · rw [qr_ws, fu_n hj]
      · rw [qt_wr, qt_al]; omega
      · rw [qj_wr, qj_al, if_neg (by omega)]
    have key := tail (wr (wn h 2 l) S (fu (qr h S) 4 (some (qt h)))) (qt h) f1 (b.1 - 1, b.2 - l) g ?_ (by rw [qt_wr, qt_al]; omega) (.inr (Nat.le_refl _)) (by rw [ql_wr, ql_al, if_pos rfl, g5]) (by rw [ql_wr, ql_al, if_pos rfl]; exact g7) (by omega) g8 g9
    · have e : wi (wr (wn h 2 l) S (fu (qr h S) 4 (some (qt h)))) S f1 = wr (wn (wi h S f1) 2 l) S (fu (qr h S) 4 (some (qt h))) := by
        unfold wi wr wn
        dsimp only
        rw [fu_comm h.2.2.1 (show h.2.2.2.2.2 ≠ S from fun e => by unfold qt at hS; omega)]
      rw [e] at key
      exact key
    · refine ⟨?_, ?_, ?_, ?_, ?_, ?_, ?_, ?_, ?_, ?_⟩
      · rw [(g.1 S (by omega)).1, k0]
      · rw [qr_ws, fu_s]
      · rw [g.2.1 6 (by omega), r6]
      · rw [g.2.1 7 (by omega), r7]
      · rw [(g.1 (S + 2) (by omega)).1, k2]
      · rw [(g.1 (S + 2) (by omega)).2.1, l2]
      · rw [(g.1 (S + 3) (by omega)).1, k3]
      · rw [(g.1 (S + 3) (by omega)).2.1, l3]
      · rw [qk_wr, qk_al, if_pos rfl]
      · rw [ql_wr, ql_al, if_pos rfl]; omega
  have at41 : N ≤ 200000 → ∀ f1 : Nat → Int, (∀ j, j ≠ 0 → j ≠ 1 → j ≠ 5 → f1 j = qi h S j) → f1 5 = 0 → V i_X5_clear x 41 [some (vr (some S)), some (vi r), some (vi q), some (vl N), none] [] (wi h S f1) c := by
    intro hle f1 g8 g9
    refine s_X5_clear_41 x ok _ _ _ _ ?_
    simp only [wpS, o_c, o_cl, o_il, o_ll, o_al, o_is, o_ls, o_as, o_inc, o_add, o_sub, o_mul, o_and, o_or, o_xor, o_shl, o_shr, o_div, o_neg, o_ladd, o_lsub, o_lmul, o_ldiv, o_lrem, o_lneg, o_lcmp, o_i2l, o_l2i, o_dup, o_dup2, o_pop, o_go, o_nn, o_sw, swc, o_iret, o_zret, o_lret, o_vret, o_ieq, o_eq0, o_ine, o_ne0, o_ilt, o_lt0, o_ige, o_ge0, o_igt, o_gt0, o_ile, o_le0, o_iald, o_zald, o_lald, o_aald, o_iast, o_zast, o_last, o_aast, o_alen, o_gi, o_gr, o_pi, o_pz, o_pr, o_new, o_newa, o_copy, o_oinit, o_call, o_callV, o_callVc, o_callI, popn, cnO, o_BAD, lgt, lst, isL, kil, st1, st2, entL, List.length_nil, List.length_cons, List.replicate, Nat.reduceAdd, Nat.reduceLeDiff, Nat.reduceSub, true_and, and_true, Nat.zero_le, ne_eq, qk_wi, ql_wi, qr_wi, qj_wi, qt_wi, qk_wj, ql_wj, qr_wj, qi_wj, qt_wj, qk_wr, ql_wr, qi_wr, qj_wr, qt_wr, qi_ws, qj_ws, qr_ws, Int.toNat_natCast, Int.toNat_zero, Int.reduceToNat, not_true_eq_false, not_false_eq_true, false_implies, implies_true, Option.some.injEq, reduceCtorEq, Sp0, true_or, or_true, or_self, wi_wi, wj_wj, k0, r4, kR, cz_lt, cz_le, cz_gt, cz_ge, cz_eq]
    repeat' (first | (with_reducible refine And.intro ?_ ?_) | (with_reducible intro))
    all_goals (try (first | assumption | omega | (unfold inI; omega) | (unfold inL; omega) | exact cz_in _ _))
    · exact tail h R f1 c (Gro.rfl' h S) hSp hR (.inl rfl) (by unfold rwL; rw [if_pos (.inl (by omega))]) (by omega) hle g8 g9
    · have e : rwL (ql h R) N = 200000 := by unfold rwL; rw [if_neg (by omega), if_neg (by omega)]
      rw [e] at c1 c2
      unfold gc at c1 c2
      rw [if_neg (by omega)] at c1 c2
      refine s_X5_clear_67' x ok _ _ _ _ ?_
      have := grow 200000 f1 c c1 c2 e (.inr rfl) (by omega) g8 g9
      simp only [wpS, o_c, o_cl, o_il, o_ll, o_al, o_is, o_ls, o_as, o_inc, o_add, o_sub, o_mul, o_and, o_or, o_xor, o_shl, o_shr, o_div, o_neg, o_ladd, o_lsub, o_lmul, o_ldiv, o_lrem, o_lneg, o_lcmp, o_i2l, o_l2i, o_dup, o_dup2, o_pop, o_go, o_nn, o_sw, swc, o_iret, o_zret, o_lret, o_vret, o_ieq, o_eq0, o_ine, o_ne0, o_ilt, o_lt0, o_ige, o_ge0, o_igt, o_gt0, o_ile, o_le0, o_iald, o_zald, o_lald, o_aald, o_iast, o_zast, o_last, o_aast, o_alen, o_gi, o_gr, o_pi, o_pz, o_pr, o_new, o_newa, o_copy, o_oinit, o_call, o_callV, o_callVc, o_callI, popn, cnO, o_BAD, lgt, lst, isL, kil, st1, st2, entL, List.length_nil, List.length_cons, List.replicate, Nat.reduceAdd, Nat.reduceLeDiff, Nat.reduceSub, true_and, and_true, Nat.zero_le, ne_eq, qk_wi, ql_wi, qr_wi, qj_wi, qt_wi, qk_wj, ql_wj, qr_wj, qi_wj, qt_wj, qk_wr, ql_wr, qi_wr, qj_wr, qt_wr, qi_ws, qj_ws, qr_ws, Int.toNat_natCast, Int.toNat_zero, Int.reduceToNat, not_true_eq_false, not_false_eq_true, false_implies, implies_true, Option.some.injEq, reduceCtorEq, Sp0, true_or, or_true, or_self, wi_wi, wj_wj]
      exact this
    · have e : rwL (ql h R) N = 24000 := by unfold rwL; rw [if_neg (by omega), if_pos (by omega)]
      rw [e] at c1 c2
      unfold gc at c1 c2
      rw [if_neg (by omega)] at c1 c2
      exact grow 24000 f1 c c1 c2 e (.inl rfl) (by omega) g8 g9
  refine s_X5_clear_0 x ok _ _ _ _ ?_
  simp only [wpS, o_c, o_cl, o_il, o_ll, o_al, o_is, o_ls, o_as, o_inc, o_add, o_sub, o_mul, o_and, o_or, o_xor, o_shl, o_shr, o_div, o_neg, o_ladd, o_lsub, o_lmul, o_ldiv, o_lrem, o_lneg, o_lcmp, o_i2l, o_l2i, o_dup, o_dup2, o_pop, o_go, o_nn, o_sw, swc, o_iret, o_zret, o_lret, o_vret, o_ieq, o_eq0, o_ine, o_ne0, o_ilt, o_lt0, o_ige, o_ge0, o_igt, o_gt0, o_ile, o_le0, o_iald, o_zald, o_lald, o_aald, o_iast, o_zast, o_last, o_aast, o_alen, o_gi, o_gr, o_pi, o_pz, o_pr, o_new, o_newa, o_copy, o_oinit, o_call, o_callV, o_callVc, o_callI, popn, cnO, o_BAD, lgt, lst, isL, kil, st1, st2, entL, List.length_nil, List.length_cons, List.replicate, Nat.reduceAdd, Nat.reduceLeDiff, Nat.reduceSub, true_and, and_true, Nat.zero_le, ne_eq, qk_wi, ql_wi, qr_wi, qj_wi, qt_wi, qk_wj, ql_wj, qr_wj, qi_wj, qt_wj, qk_wr, ql_wr, qi_wr, qj_wr, qt_wr, qi_ws, qj_ws, qr_ws, Int.toNat_natCast, Int.toNat_zero, Int.reduceToNat, not_true_eq_false, not_false_eq_true, false_implies, implies_true, Option.some.injEq, reduceCtorEq, Sp0, true_or, or_true, or_self, wi_wi, wj_wj, k0, ecl, cz_lt, cz_le, cz_gt, cz_ge, cz_eq]
  repeat' (first | (with_reducible refine And.intro ?_ ?_) | (with_reducible intro))
  all_goals (try (first | assumption | omega | (unfold inI; omega) | (unfold inL; omega) | exact cz_in _ _))
  · refine at41 (by omega) _ (fun j a1 a2 a3 => ?_) fu_s
    rw [fu_n a3, fu_n a2, fu_n a1]
  · refine hKb (by omega) _ (fun j a1 a2 a3 => ?_) ?_ ?_ fu_s
    · rw [fu_n a3, fu_n a2, fu_n a1]
    · rw [fu_n (by omega), fu_n (by omega), fu_s]
    · rw [fu_n (by omega), fu_s]

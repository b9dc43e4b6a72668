/-! ===== spreadBy ===== -/
/-- how far a miss moves a gap above its least one -/
def upf (s : Int) (r j : Nat) : Int := if 0 < s then s * j else s * ((j : Int) - r)
def mvf (d : Dd) (m cols : Nat) (s t : Int) (j : Nat) : Int := upf s (rng d m) j * cols + upf t (rng d m) j
/-- the row times the measure -/
def cvl (d : Dd) (m cols : Nat) (s t : Int) (g : Nat → Int) (k : Nat) : Int := sg (fun j => mny d m (db d m + j) * gz g ((k : Int) - mvf d m cols s t j)) (rng d m + 1)
theorem sg_rev (f : Nat → Int) : ∀ n, sg (fun j => f (n - 1 - j)) n = sg f n
  | 0 => rfl
  | n + 1 => by
    have ih := sg_rev f n
    have e : ∀ m, sg (fun j => f (n - j)) (m + 1) = f n + sg (fun j => f (n - 1 - j)) m := by
      intro m
      induction m with
      | zero => rw [sg_s, sg_0, sg_0, Nat.sub_zero]; omega
      | succ m ihm =>
        rw [sg_s, ihm, sg_s, show n - (m + 1) = n - 1 - m by omega]
        omega
    have e2 := e n
    rw [Nat.add_sub_cancel, e2, ih, sg_s]
    omega
theorem upf_eq (s : Int) (r j : Nat) : upf s r j = (r : Int) * (if 0 < -s then -s else 0) + j * s := by
  unfold upf
  by_cases h : 0 < s
  · rw [if_pos h, if_neg (by omega), Int.mul_zero, Int.zero_add, Int.mul_comm]
  · rw [if_neg h]
    by_cases h2 : 0 < -s
    · rw [if_pos h2, Int.mul_sub, Int.mul_neg, Int.mul_comm s j, Int.mul_comm s r]; omega
    · have : s = 0 := by omega
      subst this
      simp
theorem upf_rg {s : Int} {r j : Nat} (h : j ≤ r) : 0 ≤ upf s r j ∧ upf s r j ≤ iab s * r := by
  unfold upf iab
  by_cases h0 : 0 < s
  · rw [if_pos h0, if_neg (by omega)]
    exact ⟨Int.mul_nonneg (by omega) (by omega), Int.mul_le_mul_of_nonneg_left (by omega) (by omega)⟩
  · rw [if_neg h0]
    have e : s * ((j : Int) - r) = (-s) * ((r : Int) - j) := by rw [Int.neg_mul, ← Int.mul_neg]; congr 1; omega
    rw [e]
    by_cases h1 : s < 0
    · rw [if_pos h1]
      exact ⟨Int.mul_nonneg (by omega) (by omega), Int.mul_le_mul_of_nonneg_left (by omega) (by omega)⟩
    · have : s = 0 := by omega
      subst this
      simp
/-- the row's new cells by the changes of the numbers -/
theorem cvl_up {d : Dd} {m cols : Nat} {s t : Int} {g : Nat → Int} {st : Nat} (hI : InvM d m) (hs : 0 < st) (hst : s * cols + t = st) (k : Nat) (fm : Int) (hfm : fm = (rng d m : Int) * ((if 0 < -s then -s else 0) * cols + (if 0 < -t then -t else 0))) : lsm st (pfx g st) ((k : Int) - fm) (chl (sqn d m true) (rng d m + 2)) = cvl d m cols s t g k := by
  have hr := hI.rg
  have e0 : sqn d m true (rng d m + 1) = 0 := by
    unfold sqn nmb
    simp only [↓reduceIte]
    rw [if_pos (by push_cast; omega)]
  rw [show rng d m + 2 = (rng d m + 1) + 1 from rfl, chl_sum hs, e0, Int.zero_mul, Int.add_zero]
  unfold cvl
  refine sg_c (fun j hj => ?_)
  have e1 : sqn d m true j = mny d m (db d m + j) := by
    unfold sqn
    simp only [↓reduceIte]
    exact nmb_in (by omega) (by omega)
  rw [e1]
  congr 2
  unfold mvf
  rw [upf_eq, upf_eq, hfm, ← hst]
  rw [Int.mul_add (rng d m : Int), Int.add_mul, Int.mul_add (j : Int)]
  have e2 : (j : Int) * s * cols = j * (s * cols) := Int.mul_assoc _ _ _
  have e3 : (rng d m : Int) * (if 0 < -s then -s else 0) * cols = rng d m * ((if 0 < -s then -s else 0) * cols) := Int.mul_assoc _ _ _
  omega
theorem cvl_down {d : Dd} {m cols : Nat} {s t : Int} {g : Nat → Int} {st : Nat} (hI : InvM d m) (hs : 0 < st) (hst : s * cols + t = -st) (k : Nat) (fm : Int) (hfm : fm = (rng d m : Int) * ((if 0 < -s then -s else 0) * cols + (if 0 < -t then -t else 0)) + rng d m * (s * cols + t)) : lsm st (pfx g st) ((k : Int) - fm) (chl (sqn d m false) (rng d m + 2)) = cvl d m cols s t g k := by
  have hr := hI.rg
  have e0 : sqn d m false (rng d m + 1) = 0 := by
    unfold sqn nmb
    simp only [Bool.false_eq_true, ↓reduceIte]
    rw [if_pos (by push_cast; omega)]
  rw [show rng d m + 2 = (rng d m + 1) + 1 from rfl, chl_sum hs, e0, Int.zero_mul, Int.add_zero]
  unfold cvl
  rw [← sg_rev _ (rng d m + 1)]
  refine sg_c (fun j hj => ?_)
  have ej : ((rng d m + 1 - 1 - j : Nat) : Int) = rng d m - j := by omega
  have e1 : sqn d m false (rng d m + 1 - 1 - j) = mny d m (db d m + j) := by
    unfold sqn
    simp only [Bool.false_eq_true, ↓reduceIte]
    rw [ej, show da d m - ((rng d m : Int) - j) = db d m + j by omega]
    exact nmb_in (by omega) (by omega)
  rw [e1]
  congr 2
  unfold mvf
  rw [upf_eq, upf_eq, hfm, hst, ej]
  rw [Int.mul_add (rng d m : Int), Int.add_mul, Int.sub_mul]
  have e2 : (j : Int) * s * cols = j * (s * cols) := Int.mul_assoc _ _ _
  have e3 : (rng d m : Int) * (if 0 < -s then -s else 0) * cols = rng d m * ((if 0 < -s then -s else 0) * cols) := Int.mul_assoc _ _ _
  have e4 : (j : Int) * (s * cols) + j * t = -(j * st) := by rw [← Int.mul_add, hst, Int.mul_neg]
  have e5 : (rng d m : Int) * (-(st : Int)) = -(rng d m * st) := Int.mul_neg _ _
  omega
/-- the reach behind a measure -/
def tpf (d : Dd) (m cols : Nat) (s t : Int) (n : Nat) : Nat := n + rng d m * (iab s * cols + iab t).toNat
def T_X5_spreadBy : TT := fun as h0 K => ∃ (h : Hp) (S R p cols n : Nat) (s t : Int) (f ca cb g : Nat → Int) (d : Dd) (m : Nat), as = [vr (some S), vr (some p), vi s, vi t] ∧ h0 = ws h S R f ca cb g ∧ isSp h S R ∧ Me h p d m ∧ p + 5 ≤ S ∧ f 1 = (cols : Int) ∧ f 5 = (n : Int) ∧ (-3 ≤ s ∧ s ≤ 3) ∧ (-3 ≤ t ∧ t ≤ 3) ∧ (0 < cols ∧ cols ≤ 2881) ∧ tpf d m cols s t n < ql h R ∧ (0 < rng d m → s * cols + t ≠ 0) ∧ (∀ k, n < k → k ≤ tpf d m cols s t n → g k = 0) ∧
  ∀ f2 ca2 cb2 g2 : Nat → Int, (∀ j, j ≠ 8 → j ≠ 5 → f2 j = f j) → f2 5 = (tpf d m cols s t n : Int) → (∀ k, g2 k = if k ≤ tpf d m cols s t n then cvl d m cols s t g k else g k) → K none (ws h S R f2 ca2 cb2 g2)
theorem c_spreadBy {h : Hp} {S R p cols n : Nat} {s t : Int} {f ca cb g : Nat → Int} {d : Dd} {m : Nat} {K : RT} (h1 : isSp h S R) (h2 : Me h p d m) (h3 : p + 5 ≤ S) (h4 : f 1 = (cols : Int)) (h5 : f 5 = (n : Int)) (h6 : -3 ≤ s ∧ s ≤ 3) (h7 : -3 ≤ t ∧ t ≤ 3) (h8 : 0 < cols ∧ cols ≤ 2881) (h9 : tpf d m cols s t n < ql h R) (h10 : 0 < rng d m → s * cols + t ≠ 0) (h11 : ∀ k, n < k → k ≤ tpf d m cols s t n → g k = 0) (h12 : ∀ f2 ca2 cb2 g2 : Nat → Int, (∀ j, j ≠ 8 → j ≠ 5 → f2 j = f j) → f2 5 = (tpf d m cols s t n : Int) → (∀ k, g2 k = if k ≤ tpf d m cols s t n then cvl d m cols s t g k else g k) → K none (ws h S R f2 ca2 cb2 g2)) : T_X5_spreadBy [vr (some S), vr (some p), vi s, vi t] (ws h S R f ca cb g) K := ⟨h, S, R, p, cols, n, s, t, f, ca, cb, g, d, m, rfl, rfl, h1, h2, h3, h4, h5, h6, h7, h8, h9, h10, h11, h12⟩
theorem chl_bd {a : Nat → Int} (ha : ∀ k, 0 ≤ a k ∧ a k ≤ 9) : ∀ (k i : Nat), i < (chl a k).length → -9 ≤ ((chl a k).getD i (0, 0)).2 ∧ ((chl a k).getD i (0, 0)).2 ≤ 9 := by
  have key : ∀ k, ∀ q ∈ chl a k, -9 ≤ q.2 ∧ q.2 ≤ 9 := by
    intro k
    induction k with
    | zero => intro q hq; cases hq
    | succ k ih =>
      intro q hq
      have hq : q ∈ (if a k = (if k = 0 then 0 else a (k - 1)) then chl a k else chl a k ++ [(k, a k - (if k = 0 then 0 else a (k - 1)))]) := hq
      have hP : 0 ≤ (if k = 0 then 0 else a (k - 1)) ∧ (if k = 0 then 0 else a (k - 1)) ≤ 9 := by split <;> first | omega | exact ha _
      generalize (if k = 0 then 0 else a (k - 1)) = P at hq hP
      have := ha k
      split at hq
      · exact ih q hq
      · rcases List.mem_append.mp hq with h | h
        · exact ih q h
        · have e := List.mem_singleton.mp h
          subst e
          dsimp only
          omega
  intro k i hi
  rw [List.getD_eq_getElem?_getD, List.getElem?_eq_getElem hi]
  exact key k _ (List.getElem_mem hi)
abbrev i_X5_spreadBy : MI := (cX5_spreadBy, 10, RX5, none, "spreadBy", 4)
theorem k_X5_spreadBy_0 : Okop i_X5_spreadBy 0 (o_al 1) 1 := k_aln (j := 1) (by decide +kernel)
theorem k_X5_spreadBy_1 : Okop i_X5_spreadBy 1 (o_gi 4 3) 4 := k_gi (idx := 89) fo_4 (by decide) (by decide) gw_50 (by decide +kernel)
theorem k_X5_spreadBy_4 : Okop i_X5_spreadBy 4 (o_al 1) 5 := k_aln (j := 1) (by decide +kernel)
theorem k_X5_spreadBy_5 : Okop i_X5_spreadBy 5 (o_gi 4 2) 8 := k_gi (idx := 92) fo_4 (by decide) (by decide) gw_47 (by decide +kernel)
theorem k_X5_spreadBy_8 : Okop i_X5_spreadBy 8 (o_sub) 9 := k_sub (by decide +kernel)
theorem k_X5_spreadBy_9 : Okop i_X5_spreadBy 9 (o_is 4) 11 := k_is (by decide +kernel) (by decide)
theorem k_X5_spreadBy_11 : Okop i_X5_spreadBy 11 (o_il 2) 12 := k_iln (j := 2) (by decide +kernel)
theorem k_X5_spreadBy_12 : Okop i_X5_spreadBy 12 (o_al 0) 13 := k_aln (j := 0) (by decide +kernel)
theorem k_X5_spreadBy_13 : Okop i_X5_spreadBy 13 (o_gi 5 1) 16 := k_gi (idx := 59) fo_5 (by decide) (by decide) gw_193 (by decide +kernel)
theorem k_X5_spreadBy_16 : Okop i_X5_spreadBy 16 (o_mul) 17 := k_mul (by decide +kernel)
theorem k_X5_spreadBy_17 : Okop i_X5_spreadBy 17 (o_il 3) 18 := k_iln (j := 3) (by decide +kernel)
theorem k_X5_spreadBy_18 : Okop i_X5_spreadBy 18 (o_add) 19 := k_add (by decide +kernel)
theorem k_X5_spreadBy_19 : Okop i_X5_spreadBy 19 (o_is 5) 21 := k_is (by decide +kernel) (by decide)
theorem k_X5_spreadBy_21 : Okop i_X5_spreadBy 21 (o_il 4) 23 := k_il (by decide +kernel)
theorem k_X5_spreadBy_23 : Okop i_X5_spreadBy 23 (o_c 0) 24 := k_iconst (by decide +kernel)
theorem k_X5_spreadBy_24 : Okop i_X5_spreadBy 24 (o_il 2) 25 := k_iln (j := 2) (by decide +kernel)
theorem k_X5_spreadBy_25 : Okop i_X5_spreadBy 25 (o_neg) 26 := k_neg (by decide +kernel)
theorem k_X5_spreadBy_26 : Okop i_X5_spreadBy 26 (o_call 2 T_J9_max_7cf53) 29 := k_call (idx := 95) m_J9_max_7cf53 ⟨gw_453, gw_12, ⟨by decide, by decide, by decide +kernel⟩, by decide, by decide⟩ gw_451 gw_452 (by decide +kernel)
theorem k_X5_spreadBy_29 : Okop i_X5_spreadBy 29 (o_al 0) 30 := k_aln (j := 0) (by decide +kernel)
theorem k_X5_spreadBy_30 : Okop i_X5_spreadBy 30 (o_gi 5 1) 33 := k_gi (idx := 59) fo_5 (by decide) (by decide) gw_193 (by decide +kernel)
theorem k_X5_spreadBy_33 : Okop i_X5_spreadBy 33 (o_mul) 34 := k_mul (by decide +kernel)
theorem k_X5_spreadBy_34 : Okop i_X5_spreadBy 34 (o_c 0) 35 := k_iconst (by decide +kernel)
theorem k_X5_spreadBy_35 : Okop i_X5_spreadBy 35 (o_il 3) 36 := k_iln (j := 3) (by decide +kernel)
theorem k_X5_spreadBy_36 : Okop i_X5_spreadBy 36 (o_neg) 37 := k_neg (by decide +kernel)
theorem k_X5_spreadBy_37 : Okop i_X5_spreadBy 37 (o_call 2 T_J9_max_7cf53) 40 := k_call (idx := 95) m_J9_max_7cf53 ⟨gw_453, gw_12, ⟨by decide, by decide, by decide +kernel⟩, by decide, by decide⟩ gw_451 gw_452 (by decide +kernel)
theorem k_X5_spreadBy_40 : Okop i_X5_spreadBy 40 (o_add) 41 := k_add (by decide +kernel)
theorem k_X5_spreadBy_41 : Okop i_X5_spreadBy 41 (o_mul) 42 := k_mul (by decide +kernel)
theorem k_X5_spreadBy_42 : Okop i_X5_spreadBy 42 (o_is 6) 44 := k_is (by decide +kernel) (by decide)
theorem k_X5_spreadBy_44 : Okop i_X5_spreadBy 44 (o_al 0) 45 := k_aln (j := 0) (by decide +kernel)
theorem k_X5_spreadBy_45 : Okop i_X5_spreadBy 45 (o_gi 5 5) 48 := k_gi (idx := 75) fo_5 (by decide) (by decide) gw_200 (by decide +kernel)
theorem k_X5_spreadBy_48 : Okop i_X5_spreadBy 48 (o_il 4) 50 := k_il (by decide +kernel)
theorem k_X5_spreadBy_50 : Okop i_X5_spreadBy 50 (o_il 2) 51 := k_iln (j := 2) (by decide +kernel)
theorem k_X5_spreadBy_51 : Okop i_X5_spreadBy 51 (o_call 1 T_J9_abs_0f7a4) 54 := k_call (idx := 45) m_J9_abs_0f7a4 ⟨gw_359, gw_12, ⟨by decide, by decide, by decide +kernel⟩, by decide, by decide⟩ gw_454 gw_358 (by decide +kernel)
theorem k_X5_spreadBy_54 : Okop i_X5_spreadBy 54 (o_al 0) 55 := k_aln (j := 0) (by decide +kernel)
theorem k_X5_spreadBy_55 : Okop i_X5_spreadBy 55 (o_gi 5 1) 58 := k_gi (idx := 59) fo_5 (by decide) (by decide) gw_193 (by decide +kernel)
theorem k_X5_spreadBy_58 : Okop i_X5_spreadBy 58 (o_mul) 59 := k_mul (by decide +kernel)
theorem k_X5_spreadBy_59 : Okop i_X5_spreadBy 59 (o_il 3) 60 := k_iln (j := 3) (by decide +kernel)
theorem k_X5_spreadBy_60 : Okop i_X5_spreadBy 60 (o_call 1 T_J9_abs_0f7a4) 63 := k_call (idx := 45) m_J9_abs_0f7a4 ⟨gw_359, gw_12, ⟨by decide, by decide, by decide +kernel⟩, by decide, by decide⟩ gw_454 gw_358 (by decide +kernel)
theorem k_X5_spreadBy_63 : Okop i_X5_spreadBy 63 (o_add) 64 := k_add (by decide +kernel)
theorem k_X5_spreadBy_64 : Okop i_X5_spreadBy 64 (o_mul) 65 := k_mul (by decide +kernel)
theorem k_X5_spreadBy_65 : Okop i_X5_spreadBy 65 (o_add) 66 := k_add (by decide +kernel)
theorem k_X5_spreadBy_66 : Okop i_X5_spreadBy 66 (o_is 7) 68 := k_is (by decide +kernel) (by decide)
theorem k_X5_spreadBy_68 : Okop i_X5_spreadBy 68 (o_il 5) 70 := k_il (by decide +kernel)
theorem k_X5_spreadBy_70 : Okop i_X5_spreadBy 70 (o_le0 77) 73 := k_le0 (off := 7) (by decide +kernel) (by decide)
theorem k_X5_spreadBy_73 : Okop i_X5_spreadBy 73 (o_c 1) 74 := k_iconst (by decide +kernel)
theorem k_X5_spreadBy_74 : Okop i_X5_spreadBy 74 (o_go 78) 77 := k_go (off := 4) (by decide +kernel) (by decide)
theorem k_X5_spreadBy_77 : Okop i_X5_spreadBy 77 (o_c 0) 78 := k_iconst (by decide +kernel)
theorem k_X5_spreadBy_78 : Okop i_X5_spreadBy 78 (o_is 8) 80 := k_is (by decide +kernel) (by decide)
theorem k_X5_spreadBy_80 : Okop i_X5_spreadBy 80 (o_il 7) 82 := k_il (by decide +kernel)
theorem k_X5_spreadBy_82 : Okop i_X5_spreadBy 82 (o_al 0) 83 := k_aln (j := 0) (by decide +kernel)
theorem k_X5_spreadBy_83 : Okop i_X5_spreadBy 83 (o_gr 5 4) 86 := k_gr (idx := 9) fo_5 (by decide) (by decide) gw_199 (by decide +kernel)
theorem k_X5_spreadBy_86 : Okop i_X5_spreadBy 86 (o_alen) 87 := k_alen (by decide +kernel)
theorem k_X5_spreadBy_87 : Okop i_X5_spreadBy 87 (o_ilt 91) 90 := k_ilt (off := 4) (by decide +kernel) (by decide)
theorem k_X5_spreadBy_90 : Okop i_X5_spreadBy 90 (o_vret) 91 := k_vret (by decide +kernel) rfl
theorem k_X5_spreadBy_91 : Okop i_X5_spreadBy 91 (o_il 4) 93 := k_il (by decide +kernel)
theorem k_X5_spreadBy_93 : Okop i_X5_spreadBy 93 (o_ne0 109) 96 := k_ne0 (off := 16) (by decide +kernel) (by decide)
theorem k_X5_spreadBy_96 : Okop i_X5_spreadBy 96 (o_al 0) 97 := k_aln (j := 0) (by decide +kernel)
theorem k_X5_spreadBy_97 : Okop i_X5_spreadBy 97 (o_al 1) 98 := k_aln (j := 1) (by decide +kernel)
theorem k_X5_spreadBy_98 : Okop i_X5_spreadBy 98 (o_al 1) 99 := k_aln (j := 1) (by decide +kernel)
theorem k_X5_spreadBy_99 : Okop i_X5_spreadBy 99 (o_gi 4 2) 102 := k_gi (idx := 92) fo_4 (by decide) (by decide) gw_47 (by decide +kernel)
theorem k_X5_spreadBy_102 : Okop i_X5_spreadBy 102 (o_callV 4 1 T_X4_numberAt) 105 := k_callV (idx := 99) (r0 := (RX4, TX4, 13)) m_X4_numberAt ⟨gw_302, gw_3, ⟨by decide, by decide, by decide +kernel⟩, by decide, by decide⟩ rfl gw_455 gw_300 gw_301 (by decide +kernel)
theorem k_X5_spreadBy_105 : Okop i_X5_spreadBy 105 (o_callV 5 1 T_X5_timesAll) 108 := k_callV (idx := 102) (r0 := (RX5, TX5, 9)) m_X5_timesAll ⟨gw_459, gw_8, ⟨by decide, by decide, by decide +kernel⟩, by decide, by decide⟩ rfl gw_456 gw_458 gs_4 (by decide +kernel)
theorem k_X5_spreadBy_108 : Okop i_X5_spreadBy 108 (o_vret) 109 := k_vret (by decide +kernel) rfl
theorem k_X5_spreadBy_109 : Okop i_X5_spreadBy 109 (o_al 0) 110 := k_aln (j := 0) (by decide +kernel)
theorem k_X5_spreadBy_110 : Okop i_X5_spreadBy 110 (o_al 1) 111 := k_aln (j := 1) (by decide +kernel)
theorem k_X5_spreadBy_111 : Okop i_X5_spreadBy 111 (o_il 8) 113 := k_il (by decide +kernel)
theorem k_X5_spreadBy_113 : Okop i_X5_spreadBy 113 (o_callV 5 2 T_X5_noteChanges) 116 := k_callV (idx := 106) (r0 := (RX5, TX5, 9)) m_X5_noteChanges ⟨gw_463, gw_8, ⟨by decide, by decide, by decide +kernel⟩, by decide, by decide⟩ rfl gw_460 gw_462 gs_5 (by decide +kernel)
theorem k_X5_spreadBy_116 : Okop i_X5_spreadBy 116 (o_il 8) 118 := k_il (by decide +kernel)
theorem k_X5_spreadBy_118 : Okop i_X5_spreadBy 118 (o_eq0 126) 121 := k_eq0 (off := 8) (by decide +kernel) (by decide)
theorem k_X5_spreadBy_121 : Okop i_X5_spreadBy 121 (o_il 6) 123 := k_il (by decide +kernel)
theorem k_X5_spreadBy_123 : Okop i_X5_spreadBy 123 (o_go 134) 126 := k_go (off := 11) (by decide +kernel) (by decide)
theorem k_X5_spreadBy_126 : Okop i_X5_spreadBy 126 (o_il 6) 128 := k_il (by decide +kernel)
theorem k_X5_spreadBy_128 : Okop i_X5_spreadBy 128 (o_il 4) 130 := k_il (by decide +kernel)
theorem k_X5_spreadBy_130 : Okop i_X5_spreadBy 130 (o_il 5) 132 := k_il (by decide +kernel)
theorem k_X5_spreadBy_132 : Okop i_X5_spreadBy 132 (o_mul) 133 := k_mul (by decide +kernel)
theorem k_X5_spreadBy_133 : Okop i_X5_spreadBy 133 (o_add) 134 := k_add (by decide +kernel)
theorem k_X5_spreadBy_134 : Okop i_X5_spreadBy 134 (o_is 9) 136 := k_is (by decide +kernel) (by decide)
theorem k_X5_spreadBy_136 : Okop i_X5_spreadBy 136 (o_al 0) 137 := k_aln (j := 0) (by decide +kernel)
theorem k_X5_spreadBy_137 : Okop i_X5_spreadBy 137 (o_il 5) 139 := k_il (by decide +kernel)
theorem k_X5_spreadBy_139 : Okop i_X5_spreadBy 139 (o_call 1 T_J9_abs_0f7a4) 142 := k_call (idx := 45) m_J9_abs_0f7a4 ⟨gw_359, gw_12, ⟨by decide, by decide, by decide +kernel⟩, by decide, by decide⟩ gw_454 gw_358 (by decide +kernel)
theorem k_X5_spreadBy_142 : Okop i_X5_spreadBy 142 (o_il 7) 144 := k_il (by decide +kernel)
theorem k_X5_spreadBy_144 : Okop i_X5_spreadBy 144 (o_callV 5 2 T_X5_sumBy) 147 := k_callV (idx := 110) (r0 := (RX5, TX5, 9)) m_X5_sumBy ⟨gw_467, gw_8, ⟨by decide, by decide, by decide +kernel⟩, by decide, by decide⟩ rfl gw_464 gw_466 gs_6 (by decide +kernel)
theorem k_X5_spreadBy_147 : Okop i_X5_spreadBy 147 (o_al 0) 148 := k_aln (j := 0) (by decide +kernel)
theorem k_X5_spreadBy_148 : Okop i_X5_spreadBy 148 (o_il 9) 150 := k_il (by decide +kernel)
theorem k_X5_spreadBy_150 : Okop i_X5_spreadBy 150 (o_il 5) 152 := k_il (by decide +kernel)
theorem k_X5_spreadBy_152 : Okop i_X5_spreadBy 152 (o_call 1 T_J9_abs_0f7a4) 155 := k_call (idx := 45) m_J9_abs_0f7a4 ⟨gw_359, gw_12, ⟨by decide, by decide, by decide +kernel⟩, by decide, by decide⟩ gw_454 gw_358 (by decide +kernel)
theorem k_X5_spreadBy_155 : Okop i_X5_spreadBy 155 (o_il 7) 157 := k_il (by decide +kernel)
theorem k_X5_spreadBy_157 : Okop i_X5_spreadBy 157 (o_callV 5 3 T_X5_weighChanges) 160 := k_callV (idx := 113) (r0 := (RX5, TX5, 9)) m_X5_weighChanges ⟨gw_471, gw_8, ⟨by decide, by decide, by decide +kernel⟩, by decide, by decide⟩ rfl gw_468 gw_470 gs_7 (by decide +kernel)
theorem k_X5_spreadBy_160 : Okop i_X5_spreadBy 160 (o_al 0) 161 := k_aln (j := 0) (by decide +kernel)
theorem k_X5_spreadBy_161 : Okop i_X5_spreadBy 161 (o_il 7) 163 := k_il (by decide +kernel)
theorem k_X5_spreadBy_163 : Okop i_X5_spreadBy 163 (o_pi 5 5) 166 := k_pi (idx := 75) fo_5 (by decide) (by decide) gw_200 (by decide +kernel) (.inl rfl)
theorem k_X5_spreadBy_166 : Okop i_X5_spreadBy 166 (o_vret) 167 := k_vret (by decide +kernel) rfl
theorem s_X5_spreadBy_0 : Seg i_X5_spreadBy 0 [o_al 1, o_gi 4 3, o_al 1, o_gi 4 2, o_sub, o_is 4, o_il 2, o_al 0, o_gi 5 1, o_mul, o_il 3, o_add, o_is 5, o_il 4, o_c 0, o_il 2, o_neg, o_call 2 T_J9_max_7cf53, o_al 0, o_gi 5 1, o_mul, o_c 0, o_il 3, o_neg, o_call 2 T_J9_max_7cf53, o_add, o_mul, o_is 6, o_al 0, o_gi 5 5, o_il 4, o_il 2, o_call 1 T_J9_abs_0f7a4, o_al 0, o_gi 5 1, o_mul, o_il 3, o_call 1 T_J9_abs_0f7a4, o_add, o_mul, o_add, o_is 7, o_il 5, o_le0 77, o_c 1, o_go 78] 77 := Seg.cons k_X5_spreadBy_0 (Seg.cons k_X5_spreadBy_1 (Seg.cons k_X5_spreadBy_4 (Seg.cons k_X5_spreadBy_5 (Seg.cons k_X5_spreadBy_8 (Seg.cons k_X5_spreadBy_9 (Seg.cons k_X5_spreadBy_11 (Seg.cons k_X5_spreadBy_12 (Seg.cons k_X5_spreadBy_13 (Seg.cons k_X5_spreadBy_16 (Seg.cons k_X5_spreadBy_17 (Seg.cons k_X5_spreadBy_18 (Seg.cons k_X5_spreadBy_19 (Seg.cons k_X5_spreadBy_21 (Seg.cons k_X5_spreadBy_23 (Seg.cons k_X5_spreadBy_24 (Seg.cons k_X5_spreadBy_25 (Seg.cons k_X5_spreadBy_26 (Seg.cons k_X5_spreadBy_29 (Seg.cons k_X5_spreadBy_30 (Seg.cons k_X5_spreadBy_33 (Seg.cons k_X5_spreadBy_34 (Seg.cons k_X5_spreadBy_35 (Seg.cons k_X5_spreadBy_36 (Seg.cons k_X5_spreadBy_37 (Seg.cons k_X5_spreadBy_40 (Seg.cons k_X5_spreadBy_41 (Seg.cons k_X5_spreadBy_42 (Seg.cons k_X5_spreadBy_44 (Seg.cons k_X5_spreadBy_45 (Seg.cons k_X5_spreadBy_48 (Seg.cons k_X5_spreadBy_50 (Seg.cons k_X5_spreadBy_51 (Seg.cons k_X5_spreadBy_54 (Seg.cons k_X5_spreadBy_55 (Seg.cons k_X5_spreadBy_58 (Seg.cons k_X5_spreadBy_59 (Seg.cons k_X5_spreadBy_60 (Seg.cons k_X5_spreadBy_63 (Seg.cons k_X5_spreadBy_64 (Seg.cons k_X5_spreadBy_65 (Seg.cons k_X5_spreadBy_66 (Seg.cons k_X5_spreadBy_68 (Seg.cons k_X5_spreadBy_70 (Seg.cons k_X5_spreadBy_73 (Seg.cons k_X5_spreadBy_74 (Seg.nil))))))))))))))))))))))))))))))))))))))))))))))
theorem s_X5_spreadBy_77 : Seg i_X5_spreadBy 77 [o_c 0, o_is 8, o_il 7, o_al 0, o_gr 5 4, o_alen, o_ilt 91, o_vret] 91 := Seg.cons k_X5_spreadBy_77 (Seg.cons k_X5_spreadBy_78 (Seg.cons k_X5_spreadBy_80 (Seg.cons k_X5_spreadBy_82 (Seg.cons k_X5_spreadBy_83 (Seg.cons k_X5_spreadBy_86 (Seg.cons k_X5_spreadBy_87 (Seg.cons k_X5_spreadBy_90 (Seg.nil))))))))
theorem s_X5_spreadBy_78 : Seg i_X5_spreadBy 78 [o_is 8, o_il 7, o_al 0, o_gr 5 4, o_alen, o_ilt 91, o_vret] 91 := Seg.cons k_X5_spreadBy_78 (Seg.cons k_X5_spreadBy_80 (Seg.cons k_X5_spreadBy_82 (Seg.cons k_X5_spreadBy_83 (Seg.cons k_X5_spreadBy_86 (Seg.cons k_X5_spreadBy_87 (Seg.cons k_X5_spreadBy_90 (Seg.nil)))))))
theorem s_X5_spreadBy_91 : Seg i_X5_spreadBy 91 [o_il 4, o_ne0 109, o_al 0, o_al 1, o_al 1, o_gi 4 2, o_callV 4 1 T_X4_numberAt, o_callV 5 1 T_X5_timesAll, o_vret] 109 := Seg.cons k_X5_spreadBy_91 (Seg.cons k_X5_spreadBy_93 (Seg.cons k_X5_spreadBy_96 (Seg.cons k_X5_spreadBy_97 (Seg.cons k_X5_spreadBy_98 (Seg.cons k_X5_spreadBy_99 (Seg.cons k_X5_spreadBy_102 (Seg.cons k_X5_spreadBy_105 (Seg.cons k_X5_spreadBy_108 (Seg.nil)))))))))
theorem s_X5_spreadBy_109 : Seg i_X5_spreadBy 109 [o_al 0, o_al 1, o_il 8, o_callV 5 2 T_X5_noteChanges, o_il 8, o_eq0 126, o_il 6, o_go 134] 126 := Seg.cons k_X5_spreadBy_109 (Seg.cons k_X5_spreadBy_110 (Seg.cons k_X5_spreadBy_111 (Seg.cons k_X5_spreadBy_113 (Seg.cons k_X5_spreadBy_116 (Seg.cons k_X5_spreadBy_118 (Seg.cons k_X5_spreadBy_121 (Seg.cons k_X5_spreadBy_123 (Seg.nil))))))))
theorem s_X5_spreadBy_126 : Seg i_X5_spreadBy 126 [o_il 6, o_il 4, o_il 5, o_mul, o_add, o_is 9, o_al 0, o_il 5, o_call 1 T_J9_abs_0f7a4, o_il 7, o_callV 5 2 T_X5_sumBy, o_al 0, o_il 9, o_il 5, o_call 1 T_J9_abs_0f7a4, o_il 7, o_callV 5 3 T_X5_weighChanges, o_al 0, o_il 7, o_pi 5 5, o_vret] 167 := Seg.cons k_X5_spreadBy_126 (Seg.cons k_X5_spreadBy_128 (Seg.cons k_X5_spreadBy_130 (Seg.cons k_X5_spreadBy_132 (Seg.cons k_X5_spreadBy_133 (Seg.cons k_X5_spreadBy_134 (Seg.cons k_X5_spreadBy_136 (Seg.cons k_X5_spreadBy_137 (Seg.cons k_X5_spreadBy_139 (Seg.cons k_X5_spreadBy_142 (Seg.cons k_X5_spreadBy_144 (Seg.cons k_X5_spreadBy_147 (Seg.cons k_X5_spreadBy_148 (Seg.cons k_X5_spreadBy_150 (Seg.cons k_X5_spreadBy_152 (Seg.cons k_X5_spreadBy_155 (Seg.cons k_X5_spreadBy_157 (Seg.cons k_X5_spreadBy_160 (Seg.cons k_X5_spreadBy_161 (Seg.cons k_X5_spreadBy_163 (Seg.cons k_X5_spreadBy_166 (Seg.nil)))))))))))))))))))))
theorem s_X5_spreadBy_134 : Seg i_X5_spreadBy 134 [o_is 9, o_al 0, o_il 5, o_call 1 T_J9_abs_0f7a4, o_il 7, o_callV 5 2 T_X5_sumBy, o_al 0, o_il 9, o_il 5, o_call 1 T_J9_abs_0f7a4, o_il 7, o_callV 5 3 T_X5_weighChanges, o_al 0, o_il 7, o_pi 5 5, o_vret] 167 := Seg.cons k_X5_spreadBy_134 (Seg.cons k_X5_spreadBy_136 (Seg.cons k_X5_spreadBy_137 (Seg.cons k_X5_spreadBy_139 (Seg.cons k_X5_spreadBy_142 (Seg.cons k_X5_spreadBy_144 (Seg.cons k_X5_spreadBy_147 (Seg.cons k_X5_spreadBy_148 (Seg.cons k_X5_spreadBy_150 (Seg.cons k_X5_spreadBy_152 (Seg.cons k_X5_spreadBy_155 (Seg.cons k_X5_spreadBy_157 (Seg.cons k_X5_spreadBy_160 (Seg.cons k_X5_spreadBy_161 (Seg.cons k_X5_spreadBy_163 (Seg.cons k_X5_spreadBy_166 (Seg.nil))))))))))))))))

theorem m_X5_spreadBy : Mth yX5_spreadBy cX5_spreadBy 10 none 4 (Sp0 T_X5_spreadBy) := by
  refine Mth.of (by decide) ?_
  rintro x as h0 ok ⟨h, S, R, p, cols, n, s, t, f, ca, cb, g, d, m, rfl, rfl, hSp, hM, hpS, hc1, hc5, hs, ht, hcl, htp, hne, hz, hK⟩
  obtain ⟨k0, r4, r6, r7, k2, l2, k3, l3, kR, lR⟩ := id hSp
  refine ⟨Nat.le_of_ble_eq_true rfl, ?_⟩
  have hI := hM.2.2
  have hr := hI.rg
  have hb := hI.b
  have ha := hI.a
  have hm := fun f ca cb g => hM.ws (S := S) (R := R) (f := f) (ca := ca) (cb := cb) (g := g) (by omega)
  have kp : qk h p = 14 := hM.1.1
  have is := iab_le hs.1 hs.2
  have it := iab_le ht.1 ht.2
  have e0 : da d m - db d m = (rng d m : Int) := by omega
  have bsc : 0 ≤ iab s * cols ∧ iab s * cols ≤ 3 * 2881 := ⟨Int.mul_nonneg is.1 (by omega), Int.mul_le_mul is.2 (by omega) (by omega) (by omega)⟩
  have etp : (tpf d m cols s t n : Int) = n + rng d m * (iab s * cols + iab t) := by
    unfold tpf
    push_cast
    rw [Int.toNat_of_nonneg (by omega)]
  have hscb := mul_rg hs.1 hs.2 (y := (cols : Int)) (b := 2881) (by omega) (by omega) (by omega)
  have mx1 : 0 ≤ (if 0 < -s then -s else 0) * (cols : Int) ∧ (if 0 < -s then -s else 0) * (cols : Int) ≤ 3 * 2881 := ⟨Int.mul_nonneg (by split <;> omega) (by omega), Int.mul_le_mul (by split <;> omega) (by omega) (by omega) (by omega)⟩
  have mx2 : 0 ≤ (if 0 < -t then -t else 0) ∧ (if 0 < -t then -t else 0) ≤ 3 := by split <;> omega
  have hst0 : 0 ≤ (rng d m : Int) * ((if 0 < -s then -s else 0) * cols + (if 0 < -t then -t else 0)) ∧ (rng d m : Int) * ((if 0 < -s then -s else 0) * cols + (if 0 < -t then -t else 0)) ≤ 80 * 8646 := ⟨Int.mul_nonneg (by omega) (by omega), Int.mul_le_mul (by omega) (by omega) (by omega) (by omega)⟩
  have lRb : ql h R ≤ 200000 := by omega
  generalize hTP : tpf d m cols s t n = tp at *
  have Fc : ∀ ca cb g, qi (ws h S R f ca cb g) S 1 = (cols : Int) := fun ca cb g => by rw [qsS]; exact hc1
  have main : ∀ (u : Bool) (st fm : Nat), (if u = true then s * cols + t = (st : Int) else s * cols + t = -(st : Int)) → 0 < st → (fm : Int) = (rng d m : Int) * ((if 0 < -s then -s else 0) * cols + (if 0 < -t then -t else 0)) + (if u = true then 0 else rng d m * (s * cols + t)) → 0 < rng d m → st < 1000000 → fm < 1000000 → ∀ ib : Int, ib = (if u = true then 1 else 0) →
      V i_X5_spreadBy x 109 [some (vr (some S)), some (vr (some p)), some (vi s), some (vi t), some (vi (rng d m)), some (vi (s * cols + t)), some (vi ((rng d m : Int) * ((if 0 < -s then -s else 0) * cols + (if 0 < -t then -t else 0)))), some (vi tp), some (vi ib), none] [] (ws h S R f ca cb g) (0, 0) := by
    intro u st fm hu hst hfm hrp hst2 hfm2 ib hib
    have hab : iab (s * cols + t) = (st : Int) := by
      unfold iab
      cases u with
      | true => simp at hu; rw [hu, if_neg (by omega)]
      | false => simp at hu; rw [hu, if_pos (by omega)]; omega
    have hin : inI (s * cols + t) := by unfold inI; omega
    have hcv : ∀ k : Nat, lsm st (pfx g st) ((k : Int) - fm) (chl (sqn d m u) (rng d m + 2)) = cvl d m cols s t g k := by
      intro k
      cases u with
      | true =>
        simp only [↓reduceIte, Int.add_zero] at hu hfm
        exact cvl_up hI hst hu k _ hfm
      | false =>
        simp only [Bool.false_eq_true, ↓reduceIte] at hu hfm
        exact cvl_down hI hst hu k _ hfm
    have hsq : ∀ k, 0 ≤ sqn d m u k ∧ sqn d m u k ≤ 9 := fun k => hI.nb _
    have tail : ∀ (f2 ca2 cb2 : Nat → Int) v9, (∀ j, j ≠ 8 → f2 j = f j) → f2 8 = ((chl (sqn d m u) (rng d m + 2)).length : Int) → (∀ i, i < (chl (sqn d m u) (rng d m + 2)).length → ca2 i = (((chl (sqn d m u) (rng d m + 2)).getD i (0, 0)).1 : Int) ∧ cb2 i = ((chl (sqn d m u) (rng d m + 2)).getD i (0, 0)).2) → V i_X5_spreadBy x 134 [some (vr (some S)), some (vr (some p)), some (vi s), some (vi t), some (vi (rng d m)), some (vi (s * cols + t)), some (vi ((rng d m : Int) * ((if 0 < -s then -s else 0) * cols + (if 0 < -t then -t else 0)))), some (vi tp), some (vi ib), v9] [vi fm] (ws h S R f2 ca2 cb2 g) (0, 0) := by
      intro f2 ca2 cb2 v9 h1 h2 h3
      refine s_X5_spreadBy_134 x ok _ _ _ _ ?_
      simp only [wpS, o_c, o_cl, o_il, o_ll, o_al, o_is, o_ls, o_as, o_inc, o_add, o_sub, o_mul, o_and, o_or, o_xor, o_shl, o_shr, o_div, o_neg, o_ladd, o_lsub, o_lmul, o_ldiv, o_lrem, o_lneg, o_lcmp, o_i2l, o_l2i, o_dup, o_dup2, o_pop, o_go, o_nn, o_sw, swc, o_iret, o_zret, o_lret, o_vret, o_ieq, o_eq0, o_ine, o_ne0, o_ilt, o_lt0, o_ige, o_ge0, o_igt, o_gt0, o_ile, o_le0, o_iald, o_zald, o_lald, o_aald, o_iast, o_zast, o_last, o_aast, o_alen, o_gi, o_gr, o_pi, o_pz, o_pr, o_new, o_newa, o_copy, o_oinit, o_call, o_callV, o_callVc, o_callI, popn, cnO, o_BAD, lgt, lst, isL, kil, st1, st2, entL, List.length_nil, List.length_cons, List.replicate, Nat.reduceAdd, Nat.reduceLeDiff, Nat.reduceSub, true_and, and_true, Nat.zero_le, ne_eq, qk_wi, ql_wi, qr_wi, qj_wi, qt_wi, qk_wj, ql_wj, qr_wj, qi_wj, qt_wj, qk_wr, ql_wr, qi_wr, qj_wr, qt_wr, qi_ws, qj_ws, qr_ws, Int.toNat_natCast, Int.toNat_zero, Int.reduceToNat, not_true_eq_false, not_false_eq_true, false_implies, implies_true, Option.some.injEq, reduceCtorEq, Sp0, true_or, or_true, or_self, wi_wi, wj_wj]
      repeat' (first | (with_reducible refine And.intro ?_ ?_) | (with_reducible intro))
      all_goals (try (first | assumption | omega | (unfold inI; omega)))
      refine c_abs ⟨hin, ?_⟩
      rw [hab]
      simp only [wpS, o_c, o_cl, o_il, o_ll, o_al, o_is, o_ls, o_as, o_inc, o_add, o_sub, o_mul, o_and, o_or, o_xor, o_shl, o_shr, o_div, o_neg, o_ladd, o_lsub, o_lmul, o_ldiv, o_lrem, o_lneg, o_lcmp, o_i2l, o_l2i, o_dup, o_dup2, o_pop, o_go, o_nn, o_sw, swc, o_iret, o_zret, o_lret, o_vret, o_ieq, o_eq0, o_ine, o_ne0, o_ilt, o_lt0, o_ige, o_ge0, o_igt, o_gt0, o_ile, o_le0, o_iald, o_zald, o_lald, o_aald, o_iast, o_zast, o_last, o_aast, o_alen, o_gi, o_gr, o_pi, o_pz, o_pr, o_new, o_newa, o_copy, o_oinit, o_call, o_callV, o_callVc, o_callI, popn, cnO, o_BAD, lgt, lst, isL, kil, st1, st2, entL, List.length_nil, List.length_cons, List.replicate, Nat.reduceAdd, Nat.reduceLeDiff, Nat.reduceSub, true_and, and_true, Nat.zero_le, ne_eq, qk_wi, ql_wi, qr_wi, qj_wi, qt_wi, qk_wj, ql_wj, qr_wj, qi_wj, qt_wj, qk_wr, ql_wr, qi_wr, qj_wr, qt_wr, qi_ws, qj_ws, qr_ws, Int.toNat_natCast, Int.toNat_zero, Int.reduceToNat, not_true_eq_false, not_false_eq_true, false_implies, implies_true, Option.some.injEq, reduceCtorEq, Sp0, true_or, or_true, or_self, wi_wi, wj_wj, qk_ws, k0]
      repeat' (first | (with_reducible refine And.intro ?_ ?_) | (with_reducible intro))
      all_goals (try (first | assumption | omega | (unfold inI; omega)))
      refine c_sumBy hSp hst hst2 htp (fun g2 hg2 => ?_)
      simp only [wpS, o_c, o_cl, o_il, o_ll, o_al, o_is, o_ls, o_as, o_inc, o_add, o_sub, o_mul, o_and, o_or, o_xor, o_shl, o_shr, o_div, o_neg, o_ladd, o_lsub, o_lmul, o_ldiv, o_lrem, o_lneg, o_lcmp, o_i2l, o_l2i, o_dup, o_dup2, o_pop, o_go, o_nn, o_sw, swc, o_iret, o_zret, o_lret, o_vret, o_ieq, o_eq0, o_ine, o_ne0, o_ilt, o_lt0, o_ige, o_ge0, o_igt, o_gt0, o_ile, o_le0, o_iald, o_zald, o_lald, o_aald, o_iast, o_zast, o_last, o_aast, o_alen, o_gi, o_gr, o_pi, o_pz, o_pr, o_new, o_newa, o_copy, o_oinit, o_call, o_callV, o_callVc, o_callI, popn, cnO, o_BAD, lgt, lst, isL, kil, st1, st2, entL, List.length_nil, List.length_cons, List.replicate, Nat.reduceAdd, Nat.reduceLeDiff, Nat.reduceSub, true_and, and_true, Nat.zero_le, ne_eq, qk_wi, ql_wi, qr_wi, qj_wi, qt_wi, qk_wj, ql_wj, qr_wj, qi_wj, qt_wj, qk_wr, ql_wr, qi_wr, qj_wr, qt_wr, qi_ws, qj_ws, qr_ws, Int.toNat_natCast, Int.toNat_zero, Int.reduceToNat, not_true_eq_false, not_false_eq_true, false_implies, implies_true, Option.some.injEq, reduceCtorEq, Sp0, true_or, or_true, or_self, wi_wi, wj_wj]
      repeat' (first | (with_reducible refine And.intro ?_ ?_) | (with_reducible intro))
      all_goals (try (first | assumption | omega | (unfold inI; omega)))
      refine c_abs ⟨hin, ?_⟩
      rw [hab]
      simp only [wpS, o_c, o_cl, o_il, o_ll, o_al, o_is, o_ls, o_as, o_inc, o_add, o_sub, o_mul, o_and, o_or, o_xor, o_shl, o_shr, o_div, o_neg, o_ladd, o_lsub, o_lmul, o_ldiv, o_lrem, o_lneg, o_lcmp, o_i2l, o_l2i, o_dup, o_dup2, o_pop, o_go, o_nn, o_sw, swc, o_iret, o_zret, o_lret, o_vret, o_ieq, o_eq0, o_ine, o_ne0, o_ilt, o_lt0, o_ige, o_ge0, o_igt, o_gt0, o_ile, o_le0, o_iald, o_zald, o_lald, o_aald, o_iast, o_zast, o_last, o_aast, o_alen, o_gi, o_gr, o_pi, o_pz, o_pr, o_new, o_newa, o_copy, o_oinit, o_call, o_callV, o_callVc, o_callI, popn, cnO, o_BAD, lgt, lst, isL, kil, st1, st2, entL, List.length_nil, List.length_cons, List.replicate, Nat.reduceAdd, Nat.reduceLeDiff, Nat.reduceSub, true_and, and_true, Nat.zero_le, ne_eq, qk_wi, ql_wi, qr_wi, qj_wi, qt_wi, qk_wj, ql_wj, qr_wj, qi_wj, qt_wj, qk_wr, ql_wr, qi_wr, qj_wr, qt_wr, qi_ws, qj_ws, qr_ws, Int.toNat_natCast, Int.toNat_zero, Int.reduceToNat, not_true_eq_false, not_false_eq_true, false_implies, implies_true, Option.some.injEq, reduceCtorEq, Sp0, true_or, or_true, or_self, wi_wi, wj_wj, qk_ws, k0]
      repeat' (first | (with_reducible refine And.intro ?_ ?_) | (with_reducible intro))
      all_goals (try (first | assumption | omega | (unfold inI; omega)))
      refine c_weighChanges hSp hst hst2 htp hfm2 (by omega) h2 (fun i hi => ⟨(h3 i hi).1, (h3 i hi).2, ?_⟩) (fun g3 hg3 => ?_)
      · rw [(h3 i hi).2]; exact chl_bd hsq _ i hi
      · simp only [wpS, o_c, o_cl, o_il, o_ll, o_al, o_is, o_ls, o_as, o_inc, o_add, o_sub, o_mul, o_and, o_or, o_xor, o_shl, o_shr, o_div, o_neg, o_ladd, o_lsub, o_lmul, o_ldiv, o_lrem, o_lneg, o_lcmp, o_i2l, o_l2i, o_dup, o_dup2, o_pop, o_go, o_nn, o_sw, swc, o_iret, o_zret, o_lret, o_vret, o_ieq, o_eq0, o_ine, o_ne0, o_ilt, o_lt0, o_ige, o_ge0, o_igt, o_gt0, o_ile, o_le0, o_iald, o_zald, o_lald, o_aald, o_iast, o_zast, o_last, o_aast, o_alen, o_gi, o_gr, o_pi, o_pz, o_pr, o_new, o_newa, o_copy, o_oinit, o_call, o_callV, o_callVc, o_callI, popn, cnO, o_BAD, lgt, lst, isL, kil, st1, st2, entL, List.length_nil, List.length_cons, List.replicate, Nat.reduceAdd, Nat.reduceLeDiff, Nat.reduceSub, true_and, and_true, Nat.zero_le, ne_eq, qk_wi, ql_wi, qr_wi, qj_wi, qt_wi, qk_wj, ql_wj, qr_wj, qi_wj, qt_wj, qk_wr, ql_wr, qi_wr, qj_wr, qt_wr, qi_ws, qj_ws, qr_ws, Int.toNat_natCast, Int.toNat_zero, Int.reduceToNat, not_true_eq_false, not_false_eq_true, false_implies, implies_true, Option.some.injEq, reduceCtorEq, Sp0, true_or, or_true, or_self, wi_wi, wj_wj, qk_ws, qsS, wtS, k0]
        repeat' (first | (with_reducible refine And.intro ?_ ?_) | (with_reducible intro))
        all_goals (try (first | assumption | omega | (unfold inI; omega)))
        refine hK _ _ _ g3 (fun j q1 q2 => by rw [fu_n q2]; exact h1 j q1) (by rw [fu_s]) (fun k => ?_)
        rw [hg3 k]
        by_cases q : k ≤ tp
        · rw [if_pos q, if_pos q, ← hcv k]
          exact lsm_c (n := tp) (fun k2 hk2 => by rw [hg2 k2, if_pos hk2]) (by omega) (by omega) _
        · rw [if_neg q, if_neg q, hg2 k, if_neg q]
    have tail2 : u = false → ∀ (f2 ca2 cb2 : Nat → Int) v9, (∀ j, j ≠ 8 → f2 j = f j) → f2 8 = ((chl (sqn d m u) (rng d m + 2)).length : Int) → (∀ i, i < (chl (sqn d m u) (rng d m + 2)).length → ca2 i = (((chl (sqn d m u) (rng d m + 2)).getD i (0, 0)).1 : Int) ∧ cb2 i = ((chl (sqn d m u) (rng d m + 2)).getD i (0, 0)).2) → V i_X5_spreadBy x 126 [some (vr (some S)), some (vr (some p)), some (vi s), some (vi t), some (vi (rng d m)), some (vi (s * cols + t)), some (vi ((rng d m : Int) * ((if 0 < -s then -s else 0) * cols + (if 0 < -t then -t else 0)))), some (vi tp), some (vi ib), v9] [] (ws h S R f2 ca2 cb2 g) (0, 0) := by
      intro hu0 f2 ca2 cb2 v9 h1 h2 h3
      have hfm' := hfm
      rw [hu0] at hfm'
      simp only [Bool.false_eq_true, ↓reduceIte] at hfm'
      refine s_X5_spreadBy_126 x ok _ _ _ _ ?_
      simp only [wpS, o_c, o_cl, o_il, o_ll, o_al, o_is, o_ls, o_as, o_inc, o_add, o_sub, o_mul, o_and, o_or, o_xor, o_shl, o_shr, o_div, o_neg, o_ladd, o_lsub, o_lmul, o_ldiv, o_lrem, o_lneg, o_lcmp, o_i2l, o_l2i, o_dup, o_dup2, o_pop, o_go, o_nn, o_sw, swc, o_iret, o_zret, o_lret, o_vret, o_ieq, o_eq0, o_ine, o_ne0, o_ilt, o_lt0, o_ige, o_ge0, o_igt, o_gt0, o_ile, o_le0, o_iald, o_zald, o_lald, o_aald, o_iast, o_zast, o_last, o_aast, o_alen, o_gi, o_gr, o_pi, o_pz, o_pr, o_new, o_newa, o_copy, o_oinit, o_call, o_callV, o_callVc, o_callI, popn, cnO, o_BAD, lgt, lst, isL, kil, st1, st2, entL, List.length_nil, List.length_cons, List.replicate, Nat.reduceAdd, Nat.reduceLeDiff, Nat.reduceSub, true_and, and_true, Nat.zero_le, ne_eq, qk_wi, ql_wi, qr_wi, qj_wi, qt_wi, qk_wj, ql_wj, qr_wj, qi_wj, qt_wj, qk_wr, ql_wr, qi_wr, qj_wr, qt_wr, qi_ws, qj_ws, qr_ws, Int.toNat_natCast, Int.toNat_zero, Int.reduceToNat, not_true_eq_false, not_false_eq_true, false_implies, implies_true, Option.some.injEq, reduceCtorEq, Sp0, true_or, or_true, or_self, wi_wi, wj_wj, ← hfm']
      repeat' (first | (with_reducible refine And.intro ?_ ?_) | (with_reducible intro))
      all_goals (try (first | assumption | omega | (unfold inI; omega)))
      refine c_abs ⟨hin, ?_⟩
      rw [hab]
      simp only [wpS, o_c, o_cl, o_il, o_ll, o_al, o_is, o_ls, o_as, o_inc, o_add, o_sub, o_mul, o_and, o_or, o_xor, o_shl, o_shr, o_div, o_neg, o_ladd, o_lsub, o_lmul, o_ldiv, o_lrem, o_lneg, o_lcmp, o_i2l, o_l2i, o_dup, o_dup2, o_pop, o_go, o_nn, o_sw, swc, o_iret, o_zret, o_lret, o_vret, o_ieq, o_eq0, o_ine, o_ne0, o_ilt, o_lt0, o_ige, o_ge0, o_igt, o_gt0, o_ile, o_le0, o_iald, o_zald, o_lald, o_aald, o_iast, o_zast, o_last, o_aast, o_alen, o_gi, o_gr, o_pi, o_pz, o_pr, o_new, o_newa, o_copy, o_oinit, o_call, o_callV, o_callVc, o_callI, popn, cnO, o_BAD, lgt, lst, isL, kil, st1, st2, entL, List.length_nil, List.length_cons, List.replicate, Nat.reduceAdd, Nat.reduceLeDiff, Nat.reduceSub, true_and, and_true, Nat.zero_le, ne_eq, qk_wi, ql_wi, qr_wi, qj_wi, qt_wi, qk_wj, ql_wj, qr_wj, qi_wj, qt_wj, qk_wr, ql_wr, qi_wr, qj_wr, qt_wr, qi_ws, qj_ws, qr_ws, Int.toNat_natCast, Int.toNat_zero, Int.reduceToNat, not_true_eq_false, not_false_eq_true, false_implies, implies_true, Option.some.injEq, reduceCtorEq, Sp0, true_or, or_true, or_self, wi_wi, wj_wj, qk_ws, k0]
      repeat' (first | (with_reducible refine And.intro ?_ ?_) | (with_reducible intro))
      all_goals (try (first | assumption | omega | (unfold inI; omega)))
      refine c_sumBy hSp hst hst2 htp (fun g2 hg2 => ?_)
      simp only [wpS, o_c, o_cl, o_il, o_ll, o_al, o_is, o_ls, o_as, o_inc, o_add, o_sub, o_mul, o_and, o_or, o_xor, o_shl, o_shr, o_div, o_neg, o_ladd, o_lsub, o_lmul, o_ldiv, o_lrem, o_lneg, o_lcmp, o_i2l, o_l2i, o_dup, o_dup2, o_pop, o_go, o_nn, o_sw, swc, o_iret, o_zret, o_lret, o_vret, o_ieq, o_eq0, o_ine, o_ne0, o_ilt, o_lt0, o_ige, o_ge0, o_igt, o_gt0, o_ile, o_le0, o_iald, o_zald, o_lald, o_aald, o_iast, o_zast, o_last, o_aast, o_alen, o_gi, o_gr, o_pi, o_pz, o_pr, o_new, o_newa, o_copy, o_oinit, o_call, o_callV, o_callVc, o_callI, popn, cnO, o_BAD, lgt, lst, isL, kil, st1, st2, entL, List.length_nil, List.length_cons, List.replicate, Nat.reduceAdd, Nat.reduceLeDiff, Nat.reduceSub, true_and, and_true, Nat.zero_le, ne_eq, qk_wi, ql_wi, qr_wi, qj_wi, qt_wi, qk_wj, ql_wj, qr_wj, qi_wj, qt_wj, qk_wr, ql_wr, qi_wr, qj_wr, qt_wr, qi_ws, qj_ws, qr_ws, Int.toNat_natCast, Int.toNat_zero, Int.reduceToNat, not_true_eq_false, not_false_eq_true, false_implies, implies_true, Option.some.injEq, reduceCtorEq, Sp0, true_or, or_true, or_self, wi_wi, wj_wj]
      repeat' (first | (with_reducible refine And.intro ?_ ?_) | (with_reducible intro))
      all_goals (try (first | assumption | omega | (unfold inI; omega)))
      refine c_abs ⟨hin, ?_⟩
      rw [hab]
      simp only [wpS, o_c, o_cl, o_il, o_ll, o_al, o_is, o_ls, o_as, o_inc, o_add, o_sub, o_mul, o_and, o_or, o_xor, o_shl, o_shr, o_div, o_neg, o_ladd, o_lsub, o_lmul, o_ldiv, o_lrem, o_lneg, o_lcmp, o_i2l, o_l2i, o_dup, o_dup2, o_pop, o_go, o_nn, o_sw, swc, o_iret, o_zret, o_lret, o_vret, o_ieq, o_eq0, o_ine, o_ne0, o_ilt, o_lt0, o_ige, o_ge0, o_igt, o_gt0, o_ile, o_le0, o_iald, o_zald, o_lald, o_aald, o_iast, o_zast, o_last, o_aast, o_alen, o_gi, o_gr, o_pi, o_pz, o_pr, o_new, o_newa, o_copy, o_oinit, o_call, o_callV, o_callVc, o_callI, popn, cnO, o_BAD, lgt, lst, isL, kil, st1, st2, entL, List.length_nil, List.length_cons, List.replicate, Nat.reduceAdd, Nat.reduceLeDiff, Nat.reduceSub, true_and, and_true, Nat.zero_le, ne_eq, qk_wi, ql_wi, qr_wi, qj_wi, qt_wi, qk_wj, ql_wj, qr_wj, qi_wj, qt_wj, qk_wr, ql_wr, qi_wr, qj_wr, qt_wr, qi_ws, qj_ws, qr_ws, Int.toNat_natCast, Int.toNat_zero, Int.reduceToNat, not_true_eq_false, not_false_eq_true, false_implies, implies_true, Option.some.injEq, reduceCtorEq, Sp0, true_or, or_true, or_self, wi_wi, wj_wj, qk_ws, k0]
      repeat' (first | (with_reducible refine And.intro ?_ ?_) | (with_reducible intro))
      all_goals (try (first | assumption | omega | (unfold inI; omega)))
      refine c_weighChanges hSp hst hst2 htp hfm2 (by omega) h2 (fun i hi => ⟨(h3 i hi).1, (h3 i hi).2, ?_⟩) (fun g3 hg3 => ?_)
      · rw [(h3 i hi).2]; exact chl_bd hsq _ i hi
      · simp only [wpS, o_c, o_cl, o_il, o_ll, o_al, o_is, o_ls, o_as, o_inc, o_add, o_sub, o_mul, o_and, o_or, o_xor, o_shl, o_shr, o_div, o_neg, o_ladd, o_lsub, o_lmul, o_ldiv, o_lrem, o_lneg, o_lcmp, o_i2l, o_l2i, o_dup, o_dup2, o_pop, o_go, o_nn, o_sw, swc, o_iret, o_zret, o_lret, o_vret, o_ieq, o_eq0, o_ine, o_ne0, o_ilt, o_lt0, o_ige, o_ge0, o_igt, o_gt0, o_ile, o_le0, o_iald, o_zald, o_lald, o_aald, o_iast, o_zast, o_last, o_aast, o_alen, o_gi, o_gr, o_pi, o_pz, o_pr, o_new, o_newa, o_copy, o_oinit, o_call, o_callV, o_callVc, o_callI, popn, cnO, o_BAD, lgt, lst, isL, kil, st1, st2, entL, List.length_nil, List.length_cons, List.replicate, Nat.reduceAdd, Nat.reduceLeDiff, Nat.reduceSub, true_and, and_true, Nat.zero_le, ne_eq, qk_wi, ql_wi, qr_wi, qj_wi, qt_wi, qk_wj, ql_wj, qr_wj, qi_wj, qt_wj, qk_wr, ql_wr, qi_wr, qj_wr, qt_wr, qi_ws, qj_ws, qr_ws, Int.toNat_natCast, Int.toNat_zero, Int.reduceToNat, not_true_eq_false, not_false_eq_true, false_implies, implies_true, Option.some.injEq, reduceCtorEq, Sp0, true_or, or_true, or_self, wi_wi, wj_wj, qk_ws, qsS, wtS, k0]
        repeat' (first | (with_reducible refine And.intro ?_ ?_) | (with_reducible intro))
        all_goals (try (first | assumption | omega | (unfold inI; omega)))
        refine hK _ _ _ g3 (fun j q1 q2 => by rw [fu_n q2]; exact h1 j q1) (by rw [fu_s]) (fun k => ?_)
        rw [hg3 k]
        by_cases q : k ≤ tp
        · rw [if_pos q, if_pos q, ← hcv k]
          exact lsm_c (n := tp) (fun k2 hk2 => by rw [hg2 k2, if_pos hk2]) (by omega) (by omega) _
        · rw [if_neg q, if_neg q, hg2 k, if_neg q]
    refine s_X5_spreadBy_109 x ok _ _ _ _ ?_
    simp only [wpS, o_c, o_cl, o_il, o_ll, o_al, o_is, o_ls, o_as, o_inc, o_add, o_sub, o_mul, o_and, o_or, o_xor, o_shl, o_shr, o_div, o_neg, o_ladd, o_lsub, o_lmul, o_ldiv, o_lrem, o_lneg, o_lcmp, o_i2l, o_l2i, o_dup, o_dup2, o_pop, o_go, o_nn, o_sw, swc, o_iret, o_zret, o_lret, o_vret, o_ieq, o_eq0, o_ine, o_ne0, o_ilt, o_lt0, o_ige, o_ge0, o_igt, o_gt0, o_ile, o_le0, o_iald, o_zald, o_lald, o_aald, o_iast, o_zast, o_last, o_aast, o_alen, o_gi, o_gr, o_pi, o_pz, o_pr, o_new, o_newa, o_copy, o_oinit, o_call, o_callV, o_callVc, o_callI, popn, cnO, o_BAD, lgt, lst, isL, kil, st1, st2, entL, List.length_nil, List.length_cons, List.replicate, Nat.reduceAdd, Nat.reduceLeDiff, Nat.reduceSub, true_and, and_true, Nat.zero_le, ne_eq, qk_wi, ql_wi, qr_wi, qj_wi, qt_wi, qk_wj, ql_wj, qr_wj, qi_wj, qt_wj, qk_wr, ql_wr, qi_wr, qj_wr, qt_wr, qi_ws, qj_ws, qr_ws, Int.toNat_natCast, Int.toNat_zero, Int.reduceToNat, not_true_eq_false, not_false_eq_true, false_implies, implies_true, Option.some.injEq, reduceCtorEq, Sp0, true_or, or_true, or_self, wi_wi, wj_wj, qk_ws, k0]
    repeat' (first | (with_reducible refine And.intro ?_ ?_) | (with_reducible intro))
    all_goals (try (first | assumption | omega | (unfold inI; omega)))
    refine c_noteChanges (u := u) hSp hM hpS hib (fun f2 ca2 cb2 h1 h2 h3 => ?_)
    cases u with
    | true =>
      simp only [↓reduceIte, Int.add_zero] at hfm hib
      have := tail f2 ca2 cb2 none h1 h2 h3
      subst hib
      rw [hfm] at this
      simp only [wpS, o_c, o_cl, o_il, o_ll, o_al, o_is, o_ls, o_as, o_inc, o_add, o_sub, o_mul, o_and, o_or, o_xor, o_shl, o_shr, o_div, o_neg, o_ladd, o_lsub, o_lmul, o_ldiv, o_lrem, o_lneg, o_lcmp, o_i2l, o_l2i, o_dup, o_dup2, o_pop, o_go, o_nn, o_sw, swc, o_iret, o_zret, o_lret, o_vret, o_ieq, o_eq0, o_ine, o_ne0, o_ilt, o_lt0, o_ige, o_ge0, o_igt, o_gt0, o_ile, o_le0, o_iald, o_zald, o_lald, o_aald, o_iast, o_zast, o_last, o_aast, o_alen, o_gi, o_gr, o_pi, o_pz, o_pr, o_new, o_newa, o_copy, o_oinit, o_call, o_callV, o_callVc, o_callI, popn, cnO, o_BAD, lgt, lst, isL, kil, st1, st2, entL, List.length_nil, List.length_cons, List.replicate, Nat.reduceAdd, Nat.reduceLeDiff, Nat.reduceSub, true_and, and_true, Nat.zero_le, ne_eq, qk_wi, ql_wi, qr_wi, qj_wi, qt_wi, qk_wj, ql_wj, qr_wj, qi_wj, qt_wj, qk_wr, ql_wr, qi_wr, qj_wr, qt_wr, qi_ws, qj_ws, qr_ws, Int.toNat_natCast, Int.toNat_zero, Int.reduceToNat, not_true_eq_false, not_false_eq_true, false_implies, implies_true, Option.some.injEq, reduceCtorEq, Sp0, true_or, or_true, or_self, wi_wi, wj_wj]
      repeat' (first | (with_reducible refine And.intro ?_ ?_) | (with_reducible intro))
      all_goals (try (first | assumption | omega | (unfold inI; omega)))
    | false =>
      simp only [Bool.false_eq_true, ↓reduceIte] at hfm hib
      subst hib
      have := tail2 rfl f2 ca2 cb2 none h1 h2 h3
      simp only [wpS, o_c, o_cl, o_il, o_ll, o_al, o_is, o_ls, o_as, o_inc, o_add, o_sub, o_mul, o_and, o_or, o_xor, o_shl, o_shr, o_div, o_neg, o_ladd, o_lsub, o_lmul, o_ldiv, o_lrem, o_lneg, o_lcmp, o_i2l, o_l2i, o_dup, o_dup2, o_pop, o_go, o_nn, o_sw, swc, o_iret, o_zret, o_lret, o_vret, o_ieq, o_eq0, o_ine, o_ne0, o_ilt, o_lt0, o_ige, o_ge0, o_igt, o_gt0, o_ile, o_le0, o_iald, o_zald, o_lald, o_aald, o_iast, o_zast, o_last, o_aast, o_alen, o_gi, o_gr, o_pi, o_pz, o_pr, o_new, o_newa, o_copy, o_oinit, o_call, o_callV, o_callVc, o_callI, popn, cnO, o_BAD, lgt, lst, isL, kil, st1, st2, entL, List.length_nil, List.length_cons, List.replicate, Nat.reduceAdd, Nat.reduceLeDiff, Nat.reduceSub, true_and, and_true, Nat.zero_le, ne_eq, qk_wi, ql_wi, qr_wi, qj_wi, qt_wi, qk_wj, ql_wj, qr_wj, qi_wj, qt_wj, qk_wr, ql_wr, qi_wr, qj_wr, qt_wr, qi_ws, qj_ws, qr_ws, Int.toNat_natCast, Int.toNat_zero, Int.reduceToNat, not_true_eq_false, not_false_eq_true, false_implies, implies_true, Option.some.injEq, reduceCtorEq, Sp0, true_or, or_true, or_self, wi_wi, wj_wj]
      repeat' (first | (with_reducible refine And.intro ?_ ?_) | (with_reducible intro))
      all_goals (try (first | assumption | omega | (unfold inI; omega)))
  have hMw := hm f ca cb g
  have q2 := hMw.2.1.2.2.1
  have q3 := hMw.2.1.2.2.2.1
  have tpb : (rng d m : Int) * (iab s * cols + iab t) ≤ 80 * 8646 ∧ 0 ≤ (rng d m : Int) * (iab s * cols + iab t) := ⟨Int.mul_le_mul (by omega) (by omega) (by omega) (by omega), Int.mul_nonneg (by omega) (by omega)⟩
  have rsb : -(80 * 8646) ≤ (rng d m : Int) * (s * cols + t) ∧ (rng d m : Int) * (s * cols + t) ≤ 80 * 8646 := by
    have := mul_rg (x := s * cols + t) (a := 8646) (y := (rng d m : Int)) (b := 80) (by omega) (by omega) (by omega) (by omega) (by omega)
    rw [Int.mul_comm (s * cols + t)] at this
    omega
  have fin : ∀ ib : Int, ib = (if 0 < s * cols + t then 1 else 0) → V i_X5_spreadBy x 91 [some (vr (some S)), some (vr (some p)), some (vi s), some (vi t), some (vi (rng d m)), some (vi (s * cols + t)), some (vi ((rng d m : Int) * ((if 0 < -s then -s else 0) * cols + (if 0 < -t then -t else 0)))), some (vi tp), some (vi ib), none] [] (ws h S R f ca cb g) (0, 0) := by
    intro ib hib
    by_cases hr0 : rng d m = 0
    · have etn : tp = n := by
        rw [hr0] at etp
        simp only [Int.natCast_zero, Int.zero_mul, Int.add_zero] at etp
        omega
      refine s_X5_spreadBy_91 x ok _ _ _ _ ?_
      simp only [wpS, o_c, o_cl, o_il, o_ll, o_al, o_is, o_ls, o_as, o_inc, o_add, o_sub, o_mul, o_and, o_or, o_xor, o_shl, o_shr, o_div, o_neg, o_ladd, o_lsub, o_lmul, o_ldiv, o_lrem, o_lneg, o_lcmp, o_i2l, o_l2i, o_dup, o_dup2, o_pop, o_go, o_nn, o_sw, swc, o_iret, o_zret, o_lret, o_vret, o_ieq, o_eq0, o_ine, o_ne0, o_ilt, o_lt0, o_ige, o_ge0, o_igt, o_gt0, o_ile, o_le0, o_iald, o_zald, o_lald, o_aald, o_iast, o_zast, o_last, o_aast, o_alen, o_gi, o_gr, o_pi, o_pz, o_pr, o_new, o_newa, o_copy, o_oinit, o_call, o_callV, o_callVc, o_callI, popn, cnO, o_BAD, lgt, lst, isL, kil, st1, st2, entL, List.length_nil, List.length_cons, List.replicate, Nat.reduceAdd, Nat.reduceLeDiff, Nat.reduceSub, true_and, and_true, Nat.zero_le, ne_eq, qk_wi, ql_wi, qr_wi, qj_wi, qt_wi, qk_wj, ql_wj, qr_wj, qi_wj, qt_wj, qk_wr, ql_wr, qi_wr, qj_wr, qt_wr, qi_ws, qj_ws, qr_ws, Int.toNat_natCast, Int.toNat_zero, Int.reduceToNat, not_true_eq_false, not_false_eq_true, false_implies, implies_true, Option.some.injEq, reduceCtorEq, Sp0, true_or, or_true, or_self, wi_wi, wj_wj, qk_ws, kp, q2, k0]
      repeat' (first | (with_reducible refine And.intro ?_ ?_) | (with_reducible intro))
      all_goals (try (first | assumption | omega | (unfold inI; omega)))
      refine c_numberAt hMw ⟨by unfold inI; omega, ?_⟩
      simp only [wpS, o_c, o_cl, o_il, o_ll, o_al, o_is, o_ls, o_as, o_inc, o_add, o_sub, o_mul, o_and, o_or, o_xor, o_shl, o_shr, o_div, o_neg, o_ladd, o_lsub, o_lmul, o_ldiv, o_lrem, o_lneg, o_lcmp, o_i2l, o_l2i, o_dup, o_dup2, o_pop, o_go, o_nn, o_sw, swc, o_iret, o_zret, o_lret, o_vret, o_ieq, o_eq0, o_ine, o_ne0, o_ilt, o_lt0, o_ige, o_ge0, o_igt, o_gt0, o_ile, o_le0, o_iald, o_zald, o_lald, o_aald, o_iast, o_zast, o_last, o_aast, o_alen, o_gi, o_gr, o_pi, o_pz, o_pr, o_new, o_newa, o_copy, o_oinit, o_call, o_callV, o_callVc, o_callI, popn, cnO, o_BAD, lgt, lst, isL, kil, st1, st2, entL, List.length_nil, List.length_cons, List.replicate, Nat.reduceAdd, Nat.reduceLeDiff, Nat.reduceSub, true_and, and_true, Nat.zero_le, ne_eq, qk_wi, ql_wi, qr_wi, qj_wi, qt_wi, qk_wj, ql_wj, qr_wj, qi_wj, qt_wj, qk_wr, ql_wr, qi_wr, qj_wr, qt_wr, qi_ws, qj_ws, qr_ws, Int.toNat_natCast, Int.toNat_zero, Int.reduceToNat, not_true_eq_false, not_false_eq_true, false_implies, implies_true, Option.some.injEq, reduceCtorEq, Sp0, true_or, or_true, or_self, wi_wi, wj_wj, qk_ws, k0]
      repeat' (first | (with_reducible refine And.intro ?_ ?_) | (with_reducible intro))
      all_goals (try (first | assumption | omega | (unfold inI; omega)))
      have nb := hI.nb (db d m)
      refine c_timesAll hSp hc5 (by omega) (by unfold inI; omega) (fun g2 hg2 => ?_)
      simp only [wpS, o_c, o_cl, o_il, o_ll, o_al, o_is, o_ls, o_as, o_inc, o_add, o_sub, o_mul, o_and, o_or, o_xor, o_shl, o_shr, o_div, o_neg, o_ladd, o_lsub, o_lmul, o_ldiv, o_lrem, o_lneg, o_lcmp, o_i2l, o_l2i, o_dup, o_dup2, o_pop, o_go, o_nn, o_sw, swc, o_iret, o_zret, o_lret, o_vret, o_ieq, o_eq0, o_ine, o_ne0, o_ilt, o_lt0, o_ige, o_ge0, o_igt, o_gt0, o_ile, o_le0, o_iald, o_zald, o_lald, o_aald, o_iast, o_zast, o_last, o_aast, o_alen, o_gi, o_gr, o_pi, o_pz, o_pr, o_new, o_newa, o_copy, o_oinit, o_call, o_callV, o_callVc, o_callI, popn, cnO, o_BAD, lgt, lst, isL, kil, st1, st2, entL, List.length_nil, List.length_cons, List.replicate, Nat.reduceAdd, Nat.reduceLeDiff, Nat.reduceSub, true_and, and_true, Nat.zero_le, ne_eq, qk_wi, ql_wi, qr_wi, qj_wi, qt_wi, qk_wj, ql_wj, qr_wj, qi_wj, qt_wj, qk_wr, ql_wr, qi_wr, qj_wr, qt_wr, qi_ws, qj_ws, qr_ws, Int.toNat_natCast, Int.toNat_zero, Int.reduceToNat, not_true_eq_false, not_false_eq_true, false_implies, implies_true, Option.some.injEq, reduceCtorEq, Sp0, true_or, or_true, or_self, wi_wi, wj_wj]
      repeat' (first | (with_reducible refine And.intro ?_ ?_) | (with_reducible intro))
      all_goals (try (first | assumption | omega | (unfold inI; omega)))
      refine hK f ca cb g2 (fun _ _ _ => rfl) (by omega) (fun k => ?_)
      rw [hg2 k, etn]
      by_cases q : k ≤ n
      · rw [if_pos q, if_pos q]
        unfold cvl
        rw [hr0, sg_s, sg_0]
        unfold mvf upf
        rw [hr0]
        simp only [Int.natCast_zero, Int.sub_self, Int.mul_zero, ite_self, Int.zero_mul, Int.add_zero, Int.zero_add, Int.sub_zero, gz_p]
        rw [nmb_in (by omega) (by omega), Int.mul_comm]
      · rw [if_neg q, if_neg q]
    · have hne2 := hne (by omega)
      have hmn : V i_X5_spreadBy x 109 [some (vr (some S)), some (vr (some p)), some (vi s), some (vi t), some (vi (rng d m)), some (vi (s * cols + t)), some (vi ((rng d m : Int) * ((if 0 < -s then -s else 0) * cols + (if 0 < -t then -t else 0)))), some (vi tp), some (vi ib), none] [] (ws h S R f ca cb g) (0, 0) := by
        by_cases hp : 0 < s * (cols : Int) + t
        · rw [if_pos hp] at hib
          refine main true (s * cols + t).toNat ((rng d m : Int) * ((if 0 < -s then -s else 0) * cols + (if 0 < -t then -t else 0))).toNat ?_ (by omega) ?_ (by omega) (by omega) (by omega) ib (by rw [hib]; rfl)
          · rw [if_pos rfl]; omega
          · rw [if_pos rfl]; omega
        · rw [if_neg hp] at hib
          have hge : 0 ≤ (rng d m : Int) * ((if 0 < -s then -s else 0) * cols + (if 0 < -t then -t else 0)) + rng d m * (s * cols + t) := by
            rw [← Int.mul_add]
            refine Int.mul_nonneg (by omega) ?_
            have e1 : (if 0 < -s then -s else 0) * (cols : Int) + s * cols = (if 0 < s then s else 0) * cols := by
              rw [← Int.add_mul]
              congr 1
              split <;> split <;> omega
            have e2 : 0 ≤ (if 0 < s then s else 0) * (cols : Int) := Int.mul_nonneg (by split <;> omega) (by omega)
            have e3 : 0 ≤ (if 0 < -t then -t else 0) + t := by split <;> omega
            omega
          have hle : (rng d m : Int) * (s * cols + t) ≤ 0 := Int.mul_nonpos_of_nonneg_of_nonpos (by omega) (by omega)
          refine main false (-(s * cols + t)).toNat ((rng d m : Int) * ((if 0 < -s then -s else 0) * cols + (if 0 < -t then -t else 0)) + rng d m * (s * cols + t)).toNat ?_ (by omega) ?_ (by omega) (by omega) (by omega) ib (by rw [hib]; rfl)
          · rw [if_neg Bool.false_ne_true]; omega
          · rw [if_neg Bool.false_ne_true]; omega
      refine s_X5_spreadBy_91 x ok _ _ _ _ ?_
      simp only [wpS, o_c, o_cl, o_il, o_ll, o_al, o_is, o_ls, o_as, o_inc, o_add, o_sub, o_mul, o_and, o_or, o_xor, o_shl, o_shr, o_div, o_neg, o_ladd, o_lsub, o_lmul, o_ldiv, o_lrem, o_lneg, o_lcmp, o_i2l, o_l2i, o_dup, o_dup2, o_pop, o_go, o_nn, o_sw, swc, o_iret, o_zret, o_lret, o_vret, o_ieq, o_eq0, o_ine, o_ne0, o_ilt, o_lt0, o_ige, o_ge0, o_igt, o_gt0, o_ile, o_le0, o_iald, o_zald, o_lald, o_aald, o_iast, o_zast, o_last, o_aast, o_alen, o_gi, o_gr, o_pi, o_pz, o_pr, o_new, o_newa, o_copy, o_oinit, o_call, o_callV, o_callVc, o_callI, popn, cnO, o_BAD, lgt, lst, isL, kil, st1, st2, entL, List.length_nil, List.length_cons, List.replicate, Nat.reduceAdd, Nat.reduceLeDiff, Nat.reduceSub, true_and, and_true, Nat.zero_le, ne_eq, qk_wi, ql_wi, qr_wi, qj_wi, qt_wi, qk_wj, ql_wj, qr_wj, qi_wj, qt_wj, qk_wr, ql_wr, qi_wr, qj_wr, qt_wr, qi_ws, qj_ws, qr_ws, Int.toNat_natCast, Int.toNat_zero, Int.reduceToNat, not_true_eq_false, not_false_eq_true, false_implies, implies_true, Option.some.injEq, reduceCtorEq, Sp0, true_or, or_true, or_self, wi_wi, wj_wj, qk_ws, kp, q2, k0]
      repeat' (first | (with_reducible refine And.intro ?_ ?_) | (with_reducible intro))
      all_goals (try (first | assumption | omega | (unfold inI; omega)))
  have n7 : n ≤ tp := by omega
  refine s_X5_spreadBy_0 x ok _ _ _ _ ?_
  simp only [wpS, o_c, o_cl, o_il, o_ll, o_al, o_is, o_ls, o_as, o_inc, o_add, o_sub, o_mul, o_and, o_or, o_xor, o_shl, o_shr, o_div, o_neg, o_ladd, o_lsub, o_lmul, o_ldiv, o_lrem, o_lneg, o_lcmp, o_i2l, o_l2i, o_dup, o_dup2, o_pop, o_go, o_nn, o_sw, swc, o_iret, o_zret, o_lret, o_vret, o_ieq, o_eq0, o_ine, o_ne0, o_ilt, o_lt0, o_ige, o_ge0, o_igt, o_gt0, o_ile, o_le0, o_iald, o_zald, o_lald, o_aald, o_iast, o_zast, o_last, o_aast, o_alen, o_gi, o_gr, o_pi, o_pz, o_pr, o_new, o_newa, o_copy, o_oinit, o_call, o_callV, o_callVc, o_callI, popn, cnO, o_BAD, lgt, lst, isL, kil, st1, st2, entL, List.length_nil, List.length_cons, List.replicate, Nat.reduceAdd, Nat.reduceLeDiff, Nat.reduceSub, true_and, and_true, Nat.zero_le, ne_eq, qk_wi, ql_wi, qr_wi, qj_wi, qt_wi, qk_wj, ql_wj, qr_wj, qi_wj, qt_wj, qk_wr, ql_wr, qi_wr, qj_wr, qt_wr, qi_ws, qj_ws, qr_ws, Int.toNat_natCast, Int.toNat_zero, Int.reduceToNat, not_true_eq_false, not_false_eq_true, false_implies, implies_true, Option.some.injEq, reduceCtorEq, Sp0, true_or, or_true, or_self, wi_wi, wj_wj, qk_ws, qsS, kp, k0, q2, q3, e0, hc1, hc5]
  repeat' (first | (with_reducible refine And.intro ?_ ?_) | (with_reducible intro))
  all_goals (try (first | assumption | omega | (unfold inI; omega)))
  refine c_max ⟨by unfold inI; omega, by unfold inI; omega, ?_⟩
  simp only [wpS, o_c, o_cl, o_il, o_ll, o_al, o_is, o_ls, o_as, o_inc, o_add, o_sub, o_mul, o_and, o_or, o_xor, o_shl, o_shr, o_div, o_neg, o_ladd, o_lsub, o_lmul, o_ldiv, o_lrem, o_lneg, o_lcmp, o_i2l, o_l2i, o_dup, o_dup2, o_pop, o_go, o_nn, o_sw, swc, o_iret, o_zret, o_lret, o_vret, o_ieq, o_eq0, o_ine, o_ne0, o_ilt, o_lt0, o_ige, o_ge0, o_igt, o_gt0, o_ile, o_le0, o_iald, o_zald, o_lald, o_aald, o_iast, o_zast, o_last, o_aast, o_alen, o_gi, o_gr, o_pi, o_pz, o_pr, o_new, o_newa, o_copy, o_oinit, o_call, o_callV, o_callVc, o_callI, popn, cnO, o_BAD, lgt, lst, isL, kil, st1, st2, entL, List.length_nil, List.length_cons, List.replicate, Nat.reduceAdd, Nat.reduceLeDiff, Nat.reduceSub, true_and, and_true, Nat.zero_le, ne_eq, qk_wi, ql_wi, qr_wi, qj_wi, qt_wi, qk_wj, ql_wj, qr_wj, qi_wj, qt_wj, qk_wr, ql_wr, qi_wr, qj_wr, qt_wr, qi_ws, qj_ws, qr_ws, Int.toNat_natCast, Int.toNat_zero, Int.reduceToNat, not_true_eq_false, not_false_eq_true, false_implies, implies_true, Option.some.injEq, reduceCtorEq, Sp0, true_or, or_true, or_self, wi_wi, wj_wj, qk_ws, qsS, k0, hc1, hc5]
  repeat' (first | (with_reducible refine And.intro ?_ ?_) | (with_reducible intro))
  all_goals (try (first | assumption | omega | (unfold inI; omega)))
  refine c_max ⟨by unfold inI; omega, by unfold inI; omega, ?_⟩
  simp only [wpS, o_c, o_cl, o_il, o_ll, o_al, o_is, o_ls, o_as, o_inc, o_add, o_sub, o_mul, o_and, o_or, o_xor, o_shl, o_shr, o_div, o_neg, o_ladd, o_lsub, o_lmul, o_ldiv, o_lrem, o_lneg, o_lcmp, o_i2l, o_l2i, o_dup, o_dup2, o_pop, o_go, o_nn, o_sw, swc, o_iret, o_zret, o_lret, o_vret, o_ieq, o_eq0, o_ine, o_ne0, o_ilt, o_lt0, o_ige, o_ge0, o_igt, o_gt0, o_ile, o_le0, o_iald, o_zald, o_lald, o_aald, o_iast, o_zast, o_last, o_aast, o_alen, o_gi, o_gr, o_pi, o_pz, o_pr, o_new, o_newa, o_copy, o_oinit, o_call, o_callV, o_callVc, o_callI, popn, cnO, o_BAD, lgt, lst, isL, kil, st1, st2, entL, List.length_nil, List.length_cons, List.replicate, Nat.reduceAdd, Nat.reduceLeDiff, Nat.reduceSub, true_and, and_true, Nat.zero_le, ne_eq, qk_wi, ql_wi, qr_wi, qj_wi, qt_wi, qk_wj, ql_wj, qr_wj, qi_wj, qt_wj, qk_wr, ql_wr, qi_wr, qj_wr, qt_wr, qi_ws, qj_ws, qr_ws, Int.toNat_natCast, Int.toNat_zero, Int.reduceToNat, not_true_eq_false, not_false_eq_true, false_implies, implies_true, Option.some.injEq, reduceCtorEq, Sp0, true_or, or_true, or_self, wi_wi, wj_wj, qk_ws, qsS, k0, hc1, hc5]
  repeat' (first | (with_reducible refine And.intro ?_ ?_) | (with_reducible intro))
  all_goals (try (first | assumption | omega | (unfold inI; omega)))
  refine c_abs ⟨by unfold inI; omega, ?_⟩
  simp only [wpS, o_c, o_cl, o_il, o_ll, o_al, o_is, o_ls, o_as, o_inc, o_add, o_sub, o_mul, o_and, o_or, o_xor, o_shl, o_shr, o_div, o_neg, o_ladd, o_lsub, o_lmul, o_ldiv, o_lrem, o_lneg, o_lcmp, o_i2l, o_l2i, o_dup, o_dup2, o_pop, o_go, o_nn, o_sw, swc, o_iret, o_zret, o_lret, o_vret, o_ieq, o_eq0, o_ine, o_ne0, o_ilt, o_lt0, o_ige, o_ge0, o_igt, o_gt0, o_ile, o_le0, o_iald, o_zald, o_lald, o_aald, o_iast, o_zast, o_last, o_aast, o_alen, o_gi, o_gr, o_pi, o_pz, o_pr, o_new, o_newa, o_copy, o_oinit, o_call, o_callV, o_callVc, o_callI, popn, cnO, o_BAD, lgt, lst, isL, kil, st1, st2, entL, List.length_nil, List.length_cons, List.replicate, Nat.reduceAdd, Nat.reduceLeDiff, Nat.reduceSub, true_and, and_true, Nat.zero_le, ne_eq, qk_wi, ql_wi, qr_wi, qj_wi, qt_wi, qk_wj, ql_wj, qr_wj, qi_wj, qt_wj, qk_wr, ql_wr, qi_wr, qj_wr, qt_wr, qi_ws, qj_ws, qr_ws, Int.toNat_natCast, Int.toNat_zero, Int.reduceToNat, not_true_eq_false, not_false_eq_true, false_implies, implies_true, Option.some.injEq, reduceCtorEq, Sp0, true_or, or_true, or_self, wi_wi, wj_wj, qk_ws, qsS, k0, hc1, hc5]
  repeat' (first | (with_reducible refine And.intro ?_ ?_) | (with_reducible intro))
  all_goals (try (first | assumption | omega | (unfold inI; omega)))
  refine c_abs ⟨by unfold inI; omega, ?_⟩
  simp only [wpS, o_c, o_cl, o_il, o_ll, o_al, o_is, o_ls, o_as, o_inc, o_add, o_sub, o_mul, o_and, o_or, o_xor, o_shl, o_shr, o_div, o_neg, o_ladd, o_lsub, o_lmul, o_ldiv, o_lrem, o_lneg, o_lcmp, o_i2l, o_l2i, o_dup, o_dup2, o_pop, o_go, o_nn, o_sw, swc, o_iret, o_zret, o_lret, o_vret, o_ieq, o_eq0, o_ine, o_ne0, o_ilt, o_lt0, o_ige, o_ge0, o_igt, o_gt0, o_ile, o_le0, o_iald, o_zald, o_lald, o_aald, o_iast, o_zast, o_last, o_aast, o_alen, o_gi, o_gr, o_pi, o_pz, o_pr, o_new, o_newa, o_copy, o_oinit, o_call, o_callV, o_callVc, o_callI, popn, cnO, o_BAD, lgt, lst, isL, kil, st1, st2, entL, List.length_nil, List.length_cons, List.replicate, Nat.reduceAdd, Nat.reduceLeDiff, Nat.reduceSub, true_and, and_true, Nat.zero_le, ne_eq, qk_wi, ql_wi, qr_wi, qj_wi, qt_wi, qk_wj, ql_wj, qr_wj, qi_wj, qt_wj, qk_wr, ql_wr, qi_wr, qj_wr, qt_wr, qi_ws, qj_ws, qr_ws, Int.toNat_natCast, Int.toNat_zero, Int.reduceToNat, not_true_eq_false, not_false_eq_true, false_implies, implies_true, Option.some.injEq, reduceCtorEq, Sp0, true_or, or_true, or_self, wi_wi, wj_wj, qk_ws, qsS, k0, hc1, hc5, ← etp]
  repeat' (first | (with_reducible refine And.intro ?_ ?_) | (with_reducible intro))
  all_goals (try (first | assumption | omega | (unfold inI; omega)))
  · all_goals (try ((first | (refine s_X5_spreadBy_0 x ok _ _ _ _ ?_) | (refine s_X5_spreadBy_77 x ok _ _ _ _ ?_) | (refine s_X5_spreadBy_78 x ok _ _ _ _ ?_) | (refine s_X5_spreadBy_91 x ok _ _ _ _ ?_) | (refine s_X5_spreadBy_109 x ok _ _ _ _ ?_) | (refine s_X5_spreadBy_126 x ok _ _ _ _ ?_) | (refine s_X5_spreadBy_134 x ok _ _ _ _ ?_)); (try simp only [wpS, o_c, o_cl, o_il, o_ll, o_al, o_is, o_ls, o_as, o_inc, o_add, o_sub, o_mul, o_and, o_or, o_xor, o_shl, o_shr, o_div, o_neg, o_ladd, o_lsub, o_lmul, o_ldiv, o_lrem, o_lneg, o_lcmp, o_i2l, o_l2i, o_dup, o_dup2, o_pop, o_go, o_nn, o_sw, swc, o_iret, o_zret, o_lret, o_vret, o_ieq, o_eq0, o_ine, o_ne0, o_ilt, o_lt0, o_ige, o_ge0, o_igt, o_gt0, o_ile, o_le0, o_iald, o_zald, o_lald, o_aald, o_iast, o_zast, o_last, o_aast, o_alen, o_gi, o_gr, o_pi, o_pz, o_pr, o_new, o_newa, o_copy, o_oinit, o_call, o_callV, o_callVc, o_callI, popn, cnO, o_BAD, lgt, lst, isL, kil, st1, st2, entL, List.length_nil, List.length_cons, List.replicate, Nat.reduceAdd, Nat.reduceLeDiff, Nat.reduceSub, true_and, and_true, Nat.zero_le, ne_eq, qk_wi, ql_wi, qr_wi, qj_wi, qt_wi, qk_wj, ql_wj, qr_wj, qi_wj, qt_wj, qk_wr, ql_wr, qi_wr, qj_wr, qt_wr, qi_ws, qj_ws, qr_ws, Int.toNat_natCast, Int.toNat_zero, Int.reduceToNat, not_true_eq_false, not_false_eq_true, false_implies, implies_true, Option.some.injEq, reduceCtorEq, Sp0, true_or, or_true, or_self, wi_wi, wj_wj, qk_ws, ql_ws, qr_ws', qsS, k0, r4, kR]); (repeat' (first | (with_reducible refine And.intro ?_ ?_) | (with_reducible intro))); (all_goals (try (first | assumption | omega | (unfold inI; omega))))))
    exact fin 0 (by rw [if_neg (by omega)])
  · all_goals (try ((first | (refine s_X5_spreadBy_0 x ok _ _ _ _ ?_) | (refine s_X5_spreadBy_77 x ok _ _ _ _ ?_) | (refine s_X5_spreadBy_78 x ok _ _ _ _ ?_) | (refine s_X5_spreadBy_91 x ok _ _ _ _ ?_) | (refine s_X5_spreadBy_109 x ok _ _ _ _ ?_) | (refine s_X5_spreadBy_126 x ok _ _ _ _ ?_) | (refine s_X5_spreadBy_134 x ok _ _ _ _ ?_)); (try simp only [wpS, o_c, o_cl, o_il, o_ll, o_al, o_is, o_ls, o_as, o_inc, o_add, o_sub, o_mul, o_and, o_or, o_xor, o_shl, o_shr, o_div, o_neg, o_ladd, o_lsub, o_lmul, o_ldiv, o_lrem, o_lneg, o_lcmp, o_i2l, o_l2i, o_dup, o_dup2, o_pop, o_go, o_nn, o_sw, swc, o_iret, o_zret, o_lret, o_vret, o_ieq, o_eq0, o_ine, o_ne0, o_ilt, o_lt0, o_ige, o_ge0, o_igt, o_gt0, o_ile, o_le0, o_iald, o_zald, o_lald, o_aald, o_iast, o_zast, o_last, o_aast, o_alen, o_gi, o_gr, o_pi, o_pz, o_pr, o_new, o_newa, o_copy, o_oinit, o_call, o_callV, o_callVc, o_callI, popn, cnO, o_BAD, lgt, lst, isL, kil, st1, st2, entL, List.length_nil, List.length_cons, List.replicate, Nat.reduceAdd, Nat.reduceLeDiff, Nat.reduceSub, true_and, and_true, Nat.zero_le, ne_eq, qk_wi, ql_wi, qr_wi, qj_wi, qt_wi, qk_wj, ql_wj, qr_wj, qi_wj, qt_wj, qk_wr, ql_wr, qi_wr, qj_wr, qt_wr, qi_ws, qj_ws, qr_ws, Int.toNat_natCast, Int.toNat_zero, Int.reduceToNat, not_true_eq_false, not_false_eq_true, false_implies, implies_true, Option.some.injEq, reduceCtorEq, Sp0, true_or, or_true, or_self, wi_wi, wj_wj, qk_ws, ql_ws, qr_ws', qsS, k0, r4, kR]); (repeat' (first | (with_reducible refine And.intro ?_ ?_) | (with_reducible intro))); (all_goals (try (first | assumption | omega | (unfold inI; omega))))))
    exact fin 1 (by rw [if_pos (by omega)])

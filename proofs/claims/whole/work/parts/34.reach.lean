/-! ===== Spread.reachBy, layReached ===== -/
def rch (g : Nat → Int) (s r : Nat) (k : Nat) : Int := if 0 < g k then r + 1 else if h : s ≤ k ∧ 0 < s then (if 1 < rch g s r (k - s) then rch g s r (k - s) - 1 else g k) else g k
termination_by k
decreasing_by all_goals omega
theorem rch_p {g : Nat → Int} {s r k : Nat} (h : 0 < g k) : rch g s r k = r + 1 := by rw [rch, if_pos h]
theorem rch_s {g : Nat → Int} {s r k : Nat} (h : ¬ 0 < g k) (hs : 0 < s) (hk : s ≤ k) : rch g s r k = if 1 < rch g s r (k - s) then rch g s r (k - s) - 1 else g k := by rw [rch, if_neg h, dif_pos ⟨hk, hs⟩]
theorem rch_0 {g : Nat → Int} {s r k : Nat} (h : ¬ 0 < g k) (hk : k < s) : rch g s r k = g k := by rw [rch, if_neg h, dif_neg (by omega)]
theorem rch_rg {g : Nat → Int} {s r : Nat} (hs : 0 < s) (hr : r ≤ 80) {N : Nat} (hg : ∀ k, k ≤ N → 0 ≤ g k ∧ g k ≤ 1000) : ∀ k, k ≤ N → 0 ≤ rch g s r k ∧ rch g s r k ≤ 1000 := by
  intro k
  induction k using Nat.strongRecOn with
  | _ k ih =>
    intro hk
    have h0 := hg k hk
    by_cases q : 0 < g k
    · rw [rch_p q]; omega
    · by_cases q2 : s ≤ k
      · rw [rch_s q hs q2]
        have := ih (k - s) (by omega) (by omega)
        split <;> omega
      · rw [rch_0 q (by omega)]; omega
theorem rch_ge {g : Nat → Int} {s r : Nat} (hs : 0 < s) : ∀ (k v : Nat), 0 < v → ((v : Int) ≤ rch g s r k ↔ ∃ i, i + v ≤ r + 1 ∧ i * s ≤ k ∧ 0 < g (k - i * s)) := by
  intro k
  induction k using Nat.strongRecOn with
  | _ k ih =>
    intro v hv
    by_cases q : 0 < g k
    · rw [rch_p q]
      constructor
      · intro h
        exact ⟨0, by omega, by omega, by rw [Nat.zero_mul, Nat.sub_zero]; exact q⟩
      · rintro ⟨i, h1, -, -⟩
        omega
    · by_cases q2 : s ≤ k
      · have h1 := ih (k - s) (by omega) (v + 1) (by omega)
        have h2 : (v : Int) ≤ rch g s r k ↔ ((v + 1 : Nat) : Int) ≤ rch g s r (k - s) := by
          rw [rch_s q hs q2]
          split <;> omega
        rw [h2, h1]
        constructor
        · rintro ⟨i, a1, a2, a3⟩
          have e : (i + 1) * s = i * s + s := Nat.succ_mul i s
          refine ⟨i + 1, by omega, by omega, ?_⟩
          rw [e, show k - (i * s + s) = k - s - i * s by omega]
          exact a3
        · rintro ⟨i, a1, a2, a3⟩
          cases i with
          | zero => rw [Nat.zero_mul, Nat.sub_zero] at a3; exact absurd a3 q
          | succ i =>
            have e : (i + 1) * s = i * s + s := Nat.succ_mul i s
            rw [e] at a2 a3
            refine ⟨i, by omega, by omega, ?_⟩
            rw [show k - s - i * s = k - (i * s + s) by omega]
            exact a3
      · rw [rch_0 q (by omega)]
        constructor
        · intro h; omega
        · rintro ⟨i, a1, a2, a3⟩
          cases i with
          | zero => rw [Nat.zero_mul, Nat.sub_zero] at a3; exact absurd a3 q
          | succ i =>
            have e : (i + 1) * s = i * s + s := Nat.succ_mul i s
            omega
theorem rch_pos {g : Nat → Int} {s r k : Nat} (hs : 0 < s) : 0 < rch g s r k ↔ ∃ i, i ≤ r ∧ i * s ≤ k ∧ 0 < g (k - i * s) := by
  have := rch_ge (g := g) (s := s) (r := r) hs k 1 (by omega)
  constructor
  · intro h
    obtain ⟨i, a, b⟩ := this.mp (by omega)
    exact ⟨i, by omega, b⟩
  · rintro ⟨i, a, b⟩
    have := this.mpr ⟨i, by omega, b⟩
    omega
def T_X5_reachBy : TT := fun as h0 K => ∃ (h : Hp) (S R n s r : Nat) (f ca cb g : Nat → Int), as = [vr (some S), vi s, vi r] ∧ h0 = ws h S R f ca cb g ∧ isSp h S R ∧ f 5 = (n : Int) ∧ (0 < s ∧ s ≤ 3) ∧ r ≤ 80 ∧ n + s * r < ql h R ∧ (∀ k, k ≤ n + s * r → 0 ≤ g k ∧ g k ≤ 1000) ∧ ∀ f2 g2 : Nat → Int, (∀ j, j ≠ 5 → f2 j = f j) → f2 5 = ((n + s * r : Nat) : Int) → (∀ k, g2 k = if k ≤ n + s * r then rch g s r k else g k) → K none (ws h S R f2 ca cb g2)
theorem c_reachBy {h : Hp} {S R n s r : Nat} {f ca cb g : Nat → Int} {K : RT} (h1 : isSp h S R) (h2 : f 5 = (n : Int)) (h3 : 0 < s ∧ s ≤ 3) (h4 : r ≤ 80) (h5 : n + s * r < ql h R) (h6 : ∀ k, k ≤ n + s * r → 0 ≤ g k ∧ g k ≤ 1000) (h7 : ∀ f2 g2 : Nat → Int, (∀ j, j ≠ 5 → f2 j = f j) → f2 5 = ((n + s * r : Nat) : Int) → (∀ k, g2 k = if k ≤ n + s * r then rch g s r k else g k) → K none (ws h S R f2 ca cb g2)) : T_X5_reachBy [vr (some S), vi s, vi r] (ws h S R f ca cb g) K := ⟨h, S, R, n, s, r, f, ca, cb, g, rfl, rfl, h1, h2, h3, h4, h5, h6, h7⟩
abbrev i_X5_reachBy : MI := (cX5_reachBy, 5, RX5, none, "reachBy", 2)
theorem k_X5_reachBy_0 : Okop i_X5_reachBy 0 (o_al 0) 1 := k_aln (j := 0) (by decide +kernel)
theorem k_X5_reachBy_1 : Okop i_X5_reachBy 1 (o_gi 5 5) 4 := k_gi (idx := 75) fo_5 (by decide) (by decide) gw_200 (by decide +kernel)
theorem k_X5_reachBy_4 : Okop i_X5_reachBy 4 (o_il 1) 5 := k_iln (j := 1) (by decide +kernel)
theorem k_X5_reachBy_5 : Okop i_X5_reachBy 5 (o_il 2) 6 := k_iln (j := 2) (by decide +kernel)
theorem k_X5_reachBy_6 : Okop i_X5_reachBy 6 (o_mul) 7 := k_mul (by decide +kernel)
theorem k_X5_reachBy_7 : Okop i_X5_reachBy 7 (o_add) 8 := k_add (by decide +kernel)
theorem k_X5_reachBy_8 : Okop i_X5_reachBy 8 (o_is 3) 9 := k_isn (j := 3) (by decide +kernel) (by decide)
theorem k_X5_reachBy_9 : Okop i_X5_reachBy 9 (o_il 1) 10 := k_iln (j := 1) (by decide +kernel)
theorem k_X5_reachBy_10 : Okop i_X5_reachBy 10 (o_c 1) 11 := k_iconst (by decide +kernel)
theorem k_X5_reachBy_11 : Okop i_X5_reachBy 11 (o_ilt 23) 14 := k_ilt (off := 12) (by decide +kernel) (by decide)
theorem k_X5_reachBy_14 : Okop i_X5_reachBy 14 (o_il 3) 15 := k_iln (j := 3) (by decide +kernel)
theorem k_X5_reachBy_15 : Okop i_X5_reachBy 15 (o_al 0) 16 := k_aln (j := 0) (by decide +kernel)
theorem k_X5_reachBy_16 : Okop i_X5_reachBy 16 (o_gr 5 4) 19 := k_gr (idx := 9) fo_5 (by decide) (by decide) gw_199 (by decide +kernel)
theorem k_X5_reachBy_19 : Okop i_X5_reachBy 19 (o_alen) 20 := k_alen (by decide +kernel)
theorem k_X5_reachBy_20 : Okop i_X5_reachBy 20 (o_ilt 24) 23 := k_ilt (off := 4) (by decide +kernel) (by decide)
theorem k_X5_reachBy_23 : Okop i_X5_reachBy 23 (o_vret) 24 := k_vret (by decide +kernel) rfl
theorem k_X5_reachBy_24 : Okop i_X5_reachBy 24 (o_c 0) 25 := k_iconst (by decide +kernel)
theorem k_X5_reachBy_25 : Okop i_X5_reachBy 25 (o_is 4) 27 := k_is (by decide +kernel) (by decide)
theorem k_X5_reachBy_27 : Okop i_X5_reachBy 27 (o_il 4) 29 := k_il (by decide +kernel)
theorem k_X5_reachBy_29 : Okop i_X5_reachBy 29 (o_il 3) 30 := k_iln (j := 3) (by decide +kernel)
theorem k_X5_reachBy_30 : Okop i_X5_reachBy 30 (o_igt 103) 33 := k_igt (off := 73) (by decide +kernel) (by decide)
theorem k_X5_reachBy_33 : Okop i_X5_reachBy 33 (o_al 0) 34 := k_aln (j := 0) (by decide +kernel)
theorem k_X5_reachBy_34 : Okop i_X5_reachBy 34 (o_gr 5 4) 37 := k_gr (idx := 9) fo_5 (by decide) (by decide) gw_199 (by decide +kernel)
theorem k_X5_reachBy_37 : Okop i_X5_reachBy 37 (o_il 4) 39 := k_il (by decide +kernel)
theorem k_X5_reachBy_39 : Okop i_X5_reachBy 39 (o_lald) 40 := k_lald (by decide +kernel)
theorem k_X5_reachBy_40 : Okop i_X5_reachBy 40 (o_cl 0) 41 := k_lconst (n := 0) (by decide +kernel) rfl
theorem k_X5_reachBy_41 : Okop i_X5_reachBy 41 (o_lcmp) 42 := k_lcmp (by decide +kernel)
theorem k_X5_reachBy_42 : Okop i_X5_reachBy 42 (o_le0 59) 45 := k_le0 (off := 17) (by decide +kernel) (by decide)
theorem k_X5_reachBy_45 : Okop i_X5_reachBy 45 (o_al 0) 46 := k_aln (j := 0) (by decide +kernel)
theorem k_X5_reachBy_46 : Okop i_X5_reachBy 46 (o_gr 5 4) 49 := k_gr (idx := 9) fo_5 (by decide) (by decide) gw_199 (by decide +kernel)
theorem k_X5_reachBy_49 : Okop i_X5_reachBy 49 (o_il 4) 51 := k_il (by decide +kernel)
theorem k_X5_reachBy_51 : Okop i_X5_reachBy 51 (o_il 2) 52 := k_iln (j := 2) (by decide +kernel)
theorem k_X5_reachBy_52 : Okop i_X5_reachBy 52 (o_c 1) 53 := k_iconst (by decide +kernel)
theorem k_X5_reachBy_53 : Okop i_X5_reachBy 53 (o_add) 54 := k_add (by decide +kernel)
theorem k_X5_reachBy_54 : Okop i_X5_reachBy 54 (o_i2l) 55 := k_i2l (by decide +kernel)
theorem k_X5_reachBy_55 : Okop i_X5_reachBy 55 (o_last) 56 := k_last (by decide +kernel)
theorem k_X5_reachBy_56 : Okop i_X5_reachBy 56 (o_go 97) 59 := k_go (off := 41) (by decide +kernel) (by decide)
theorem k_X5_reachBy_59 : Okop i_X5_reachBy 59 (o_il 4) 61 := k_il (by decide +kernel)
theorem k_X5_reachBy_61 : Okop i_X5_reachBy 61 (o_il 1) 62 := k_iln (j := 1) (by decide +kernel)
theorem k_X5_reachBy_62 : Okop i_X5_reachBy 62 (o_ilt 97) 65 := k_ilt (off := 35) (by decide +kernel) (by decide)
theorem k_X5_reachBy_65 : Okop i_X5_reachBy 65 (o_al 0) 66 := k_aln (j := 0) (by decide +kernel)
theorem k_X5_reachBy_66 : Okop i_X5_reachBy 66 (o_gr 5 4) 69 := k_gr (idx := 9) fo_5 (by decide) (by decide) gw_199 (by decide +kernel)
theorem k_X5_reachBy_69 : Okop i_X5_reachBy 69 (o_il 4) 71 := k_il (by decide +kernel)
theorem k_X5_reachBy_71 : Okop i_X5_reachBy 71 (o_il 1) 72 := k_iln (j := 1) (by decide +kernel)
theorem k_X5_reachBy_72 : Okop i_X5_reachBy 72 (o_sub) 73 := k_sub (by decide +kernel)
theorem k_X5_reachBy_73 : Okop i_X5_reachBy 73 (o_lald) 74 := k_lald (by decide +kernel)
theorem k_X5_reachBy_74 : Okop i_X5_reachBy 74 (o_cl 1) 75 := k_lconst (n := 1) (by decide +kernel) rfl
theorem k_X5_reachBy_75 : Okop i_X5_reachBy 75 (o_lcmp) 76 := k_lcmp (by decide +kernel)
theorem k_X5_reachBy_76 : Okop i_X5_reachBy 76 (o_le0 97) 79 := k_le0 (off := 21) (by decide +kernel) (by decide)
theorem k_X5_reachBy_79 : Okop i_X5_reachBy 79 (o_al 0) 80 := k_aln (j := 0) (by decide +kernel)
theorem k_X5_reachBy_80 : Okop i_X5_reachBy 80 (o_gr 5 4) 83 := k_gr (idx := 9) fo_5 (by decide) (by decide) gw_199 (by decide +kernel)
theorem k_X5_reachBy_83 : Okop i_X5_reachBy 83 (o_il 4) 85 := k_il (by decide +kernel)
theorem k_X5_reachBy_85 : Okop i_X5_reachBy 85 (o_al 0) 86 := k_aln (j := 0) (by decide +kernel)
theorem k_X5_reachBy_86 : Okop i_X5_reachBy 86 (o_gr 5 4) 89 := k_gr (idx := 9) fo_5 (by decide) (by decide) gw_199 (by decide +kernel)
theorem k_X5_reachBy_89 : Okop i_X5_reachBy 89 (o_il 4) 91 := k_il (by decide +kernel)
theorem k_X5_reachBy_91 : Okop i_X5_reachBy 91 (o_il 1) 92 := k_iln (j := 1) (by decide +kernel)
theorem k_X5_reachBy_92 : Okop i_X5_reachBy 92 (o_sub) 93 := k_sub (by decide +kernel)
theorem k_X5_reachBy_93 : Okop i_X5_reachBy 93 (o_lald) 94 := k_lald (by decide +kernel)
theorem k_X5_reachBy_94 : Okop i_X5_reachBy 94 (o_cl 1) 95 := k_lconst (n := 1) (by decide +kernel) rfl
theorem k_X5_reachBy_95 : Okop i_X5_reachBy 95 (o_lsub) 96 := k_lsub (by decide +kernel)
theorem k_X5_reachBy_96 : Okop i_X5_reachBy 96 (o_last) 97 := k_last (by decide +kernel)
theorem k_X5_reachBy_97 : Okop i_X5_reachBy 97 (o_inc 4 1) 100 := k_inc (by decide +kernel) (by decide)
theorem k_X5_reachBy_100 : Okop i_X5_reachBy 100 (o_go 27) 103 := k_go (off := -73) (by decide +kernel) (by decide)
theorem k_X5_reachBy_103 : Okop i_X5_reachBy 103 (o_al 0) 104 := k_aln (j := 0) (by decide +kernel)
theorem k_X5_reachBy_104 : Okop i_X5_reachBy 104 (o_il 3) 105 := k_iln (j := 3) (by decide +kernel)
theorem k_X5_reachBy_105 : Okop i_X5_reachBy 105 (o_pi 5 5) 108 := k_pi (idx := 75) fo_5 (by decide) (by decide) gw_200 (by decide +kernel) (.inl rfl)
theorem k_X5_reachBy_108 : Okop i_X5_reachBy 108 (o_vret) 109 := k_vret (by decide +kernel) rfl
theorem s_X5_reachBy_0 : Seg i_X5_reachBy 0 [o_al 0, o_gi 5 5, o_il 1, o_il 2, o_mul, o_add, o_is 3, o_il 1, o_c 1, o_ilt 23, o_il 3, o_al 0, o_gr 5 4, o_alen, o_ilt 24, o_vret] 24 := Seg.cons k_X5_reachBy_0 (Seg.cons k_X5_reachBy_1 (Seg.cons k_X5_reachBy_4 (Seg.cons k_X5_reachBy_5 (Seg.cons k_X5_reachBy_6 (Seg.cons k_X5_reachBy_7 (Seg.cons k_X5_reachBy_8 (Seg.cons k_X5_reachBy_9 (Seg.cons k_X5_reachBy_10 (Seg.cons k_X5_reachBy_11 (Seg.cons k_X5_reachBy_14 (Seg.cons k_X5_reachBy_15 (Seg.cons k_X5_reachBy_16 (Seg.cons k_X5_reachBy_19 (Seg.cons k_X5_reachBy_20 (Seg.cons k_X5_reachBy_23 (Seg.nil))))))))))))))))
theorem s_X5_reachBy_23 : Seg i_X5_reachBy 23 [o_vret] 24 := Seg.cons k_X5_reachBy_23 (Seg.nil)
theorem s_X5_reachBy_24 : Seg i_X5_reachBy 24 [o_c 0, o_is 4] 27 := Seg.cons k_X5_reachBy_24 (Seg.cons k_X5_reachBy_25 (Seg.nil))
theorem s_X5_reachBy_27 : Seg i_X5_reachBy 27 [o_il 4, o_il 3, o_igt 103, o_al 0, o_gr 5 4, o_il 4, o_lald, o_cl 0, o_lcmp, o_le0 59, o_al 0, o_gr 5 4, o_il 4, o_il 2, o_c 1, o_add, o_i2l, o_last, o_go 97] 59 := Seg.cons k_X5_reachBy_27 (Seg.cons k_X5_reachBy_29 (Seg.cons k_X5_reachBy_30 (Seg.cons k_X5_reachBy_33 (Seg.cons k_X5_reachBy_34 (Seg.cons k_X5_reachBy_37 (Seg.cons k_X5_reachBy_39 (Seg.cons k_X5_reachBy_40 (Seg.cons k_X5_reachBy_41 (Seg.cons k_X5_reachBy_42 (Seg.cons k_X5_reachBy_45 (Seg.cons k_X5_reachBy_46 (Seg.cons k_X5_reachBy_49 (Seg.cons k_X5_reachBy_51 (Seg.cons k_X5_reachBy_52 (Seg.cons k_X5_reachBy_53 (Seg.cons k_X5_reachBy_54 (Seg.cons k_X5_reachBy_55 (Seg.cons k_X5_reachBy_56 (Seg.nil)))))))))))))))))))
theorem s_X5_reachBy_59 : Seg i_X5_reachBy 59 [o_il 4, o_il 1, o_ilt 97, o_al 0, o_gr 5 4, o_il 4, o_il 1, o_sub, o_lald, o_cl 1, o_lcmp, o_le0 97, o_al 0, o_gr 5 4, o_il 4, o_al 0, o_gr 5 4, o_il 4, o_il 1, o_sub, o_lald, o_cl 1, o_lsub, o_last, o_inc 4 1, o_go 27] 103 := Seg.cons k_X5_reachBy_59 (Seg.cons k_X5_reachBy_61 (Seg.cons k_X5_reachBy_62 (Seg.cons k_X5_reachBy_65 (Seg.cons k_X5_reachBy_66 (Seg.cons k_X5_reachBy_69 (Seg.cons k_X5_reachBy_71 (Seg.cons k_X5_reachBy_72 (Seg.cons k_X5_reachBy_73 (Seg.cons k_X5_reachBy_74 (Seg.cons k_X5_reachBy_75 (Seg.cons k_X5_reachBy_76 (Seg.cons k_X5_reachBy_79 (Seg.cons k_X5_reachBy_80 (Seg.cons k_X5_reachBy_83 (Seg.cons k_X5_reachBy_85 (Seg.cons k_X5_reachBy_86 (Seg.cons k_X5_reachBy_89 (Seg.cons k_X5_reachBy_91 (Seg.cons k_X5_reachBy_92 (Seg.cons k_X5_reachBy_93 (Seg.cons k_X5_reachBy_94 (Seg.cons k_X5_reachBy_95 (Seg.cons k_X5_reachBy_96 (Seg.cons k_X5_reachBy_97 (Seg.cons k_X5_reachBy_100 (Seg.nil))))))))))))))))))))))))))
theorem s_X5_reachBy_97 : Seg i_X5_reachBy 97 [o_inc 4 1, o_go 27] 103 := Seg.cons k_X5_reachBy_97 (Seg.cons k_X5_reachBy_100 (Seg.nil))
theorem s_X5_reachBy_103 : Seg i_X5_reachBy 103 [o_al 0, o_il 3, o_pi 5 5, o_vret] 109 := Seg.cons k_X5_reachBy_103 (Seg.cons k_X5_reachBy_104 (Seg.cons k_X5_reachBy_105 (Seg.cons k_X5_reachBy_108 (Seg.nil))))

theorem m_X5_reachBy : Mth yX5_reachBy cX5_reachBy 5 none 2 (Sp0 T_X5_reachBy) := by
  refine Mth.of (by decide) ?_
  rintro x as h0 ok ⟨h, S, R, n, s, r, f, ca, cb, g, rfl, rfl, ⟨k0, r4, r6, r7, k2, l2, k3, l3, kR, lR⟩, hf, hs, hr, hn, hg, hK⟩
  refine ⟨Nat.le_of_ble_eq_true rfl, ?_⟩
  have esr : (s : Int) * (r : Int) = ((s * r : Nat) : Int) := by push_cast; rfl
  have hrg := rch_rg hs.1 hr hg
  generalize hsr : s * r = sr at *
  have loop : ∀ j, j ≤ n + sr + 1 → ∀ g2 : Nat → Int, (∀ k, g2 k = if k < j then rch g s r k else g k) → V i_X5_reachBy x 27 [some (vr (some S)), some (vi s), some (vi r), some (vi ((n + sr : Nat) : Int)), some (vi j)] [] (ws h S R f ca cb g2) (0, 0) := by
    refine bwd _ ?_ ?_
    · intro g2 h2
      refine s_X5_reachBy_27 x ok _ _ _ _ ?_
      simp only [wpS, o_c, o_cl, o_il, o_ll, o_al, o_is, o_ls, o_as, o_inc, o_add, o_sub, o_mul, o_and, o_or, o_xor, o_shl, o_shr, o_div, o_neg, o_ladd, o_lsub, o_lmul, o_ldiv, o_lrem, o_lneg, o_lcmp, o_i2l, o_l2i, o_dup, o_dup2, o_pop, o_go, o_nn, o_sw, swc, o_iret, o_zret, o_lret, o_vret, o_ieq, o_eq0, o_ine, o_ne0, o_ilt, o_lt0, o_ige, o_ge0, o_igt, o_gt0, o_ile, o_le0, o_iald, o_zald, o_lald, o_aald, o_iast, o_zast, o_last, o_aast, o_alen, o_gi, o_gr, o_pi, o_pz, o_pr, o_new, o_newa, o_copy, o_oinit, o_call, o_callV, o_callVc, o_callI, popn, cnO, o_BAD, lgt, lst, isL, kil, st1, st2, entL, List.length_nil, List.length_cons, List.replicate, Nat.reduceAdd, Nat.reduceLeDiff, Nat.reduceSub, true_and, and_true, Nat.zero_le, ne_eq, qk_wi, ql_wi, qr_wi, qj_wi, qt_wi, qk_wj, ql_wj, qr_wj, qi_wj, qt_wj, qk_wr, ql_wr, qi_wr, qj_wr, qt_wr, qi_ws, qj_ws, qr_ws, Int.toNat_natCast, Int.toNat_zero, Int.reduceToNat, not_true_eq_false, not_false_eq_true, false_implies, implies_true, Option.some.injEq, reduceCtorEq, Sp0, true_or, or_true, or_self, wi_wi, wj_wj]
      repeat' (first | (with_reducible refine And.intro ?_ ?_) | (with_reducible intro))
      all_goals (try (first | assumption | omega | (unfold inI; omega)))
      all_goals (try ((first | (refine s_X5_reachBy_0 x ok _ _ _ _ ?_) | (refine s_X5_reachBy_23 x ok _ _ _ _ ?_) | (refine s_X5_reachBy_24 x ok _ _ _ _ ?_) | (refine s_X5_reachBy_59 x ok _ _ _ _ ?_) | (refine s_X5_reachBy_97 x ok _ _ _ _ ?_) | (refine s_X5_reachBy_103 x ok _ _ _ _ ?_)); (try simp only [wpS, o_c, o_cl, o_il, o_ll, o_al, o_is, o_ls, o_as, o_inc, o_add, o_sub, o_mul, o_and, o_or, o_xor, o_shl, o_shr, o_div, o_neg, o_ladd, o_lsub, o_lmul, o_ldiv, o_lrem, o_lneg, o_lcmp, o_i2l, o_l2i, o_dup, o_dup2, o_pop, o_go, o_nn, o_sw, swc, o_iret, o_zret, o_lret, o_vret, o_ieq, o_eq0, o_ine, o_ne0, o_ilt, o_lt0, o_ige, o_ge0, o_igt, o_gt0, o_ile, o_le0, o_iald, o_zald, o_lald, o_aald, o_iast, o_zast, o_last, o_aast, o_alen, o_gi, o_gr, o_pi, o_pz, o_pr, o_new, o_newa, o_copy, o_oinit, o_call, o_callV, o_callVc, o_callI, popn, cnO, o_BAD, lgt, lst, isL, kil, st1, st2, entL, List.length_nil, List.length_cons, List.replicate, Nat.reduceAdd, Nat.reduceLeDiff, Nat.reduceSub, true_and, and_true, Nat.zero_le, ne_eq, qk_wi, ql_wi, qr_wi, qj_wi, qt_wi, qk_wj, ql_wj, qr_wj, qi_wj, qt_wj, qk_wr, ql_wr, qi_wr, qj_wr, qt_wr, qi_ws, qj_ws, qr_ws, Int.toNat_natCast, Int.toNat_zero, Int.reduceToNat, not_true_eq_false, not_false_eq_true, false_implies, implies_true, Option.some.injEq, reduceCtorEq, Sp0, true_or, or_true, or_self, wi_wi, wj_wj, qk_ws, qsS, wtS, k0]); (repeat' (first | (with_reducible refine And.intro ?_ ?_) | (with_reducible intro))); (all_goals (try (first | assumption | omega | (unfold inI; omega))))))
      refine hK _ g2 (fun j hj => fu_n hj) fu_s (fun k => by rw [h2 k]; grind)
    · intro j hj ih g2 h2
      have hgj : g2 j = g j := by rw [h2 j, if_neg (by omega)]
      have hb := hg j (by omega)
      have ihk : ∀ g3 : Nat → Int, (∀ k, g3 k = fu g2 j (rch g s r j) k) → V i_X5_reachBy x 27 [some (vr (some S)), some (vi s), some (vi r), some (vi ((n + sr : Nat) : Int)), some (vi ((j : Int) + 1))] [] (ws h S R f ca cb g3) (0, 0) := fun g3 h3 => ih g3 (fun k => by
        rw [h3 k]
        unfold fu
        have := h2 k
        grind)
      by_cases q : 0 < g j
      · have e := rch_p (g := g) (s := s) (r := r) q
        refine s_X5_reachBy_27 x ok _ _ _ _ ?_
        simp only [wpS, o_c, o_cl, o_il, o_ll, o_al, o_is, o_ls, o_as, o_inc, o_add, o_sub, o_mul, o_and, o_or, o_xor, o_shl, o_shr, o_div, o_neg, o_ladd, o_lsub, o_lmul, o_ldiv, o_lrem, o_lneg, o_lcmp, o_i2l, o_l2i, o_dup, o_dup2, o_pop, o_go, o_nn, o_sw, swc, o_iret, o_zret, o_lret, o_vret, o_ieq, o_eq0, o_ine, o_ne0, o_ilt, o_lt0, o_ige, o_ge0, o_igt, o_gt0, o_ile, o_le0, o_iald, o_zald, o_lald, o_aald, o_iast, o_zast, o_last, o_aast, o_alen, o_gi, o_gr, o_pi, o_pz, o_pr, o_new, o_newa, o_copy, o_oinit, o_call, o_callV, o_callVc, o_callI, popn, cnO, o_BAD, lgt, lst, isL, kil, st1, st2, entL, List.length_nil, List.length_cons, List.replicate, Nat.reduceAdd, Nat.reduceLeDiff, Nat.reduceSub, true_and, and_true, Nat.zero_le, ne_eq, qk_wi, ql_wi, qr_wi, qj_wi, qt_wi, qk_wj, ql_wj, qr_wj, qi_wj, qt_wj, qk_wr, ql_wr, qi_wr, qj_wr, qt_wr, qi_ws, qj_ws, qr_ws, Int.toNat_natCast, Int.toNat_zero, Int.reduceToNat, not_true_eq_false, not_false_eq_true, false_implies, implies_true, Option.some.injEq, reduceCtorEq, Sp0, true_or, or_true, or_self, wi_wi, wj_wj, qk_ws, ql_ws, qr_ws', qsS, qsR, wtR, k0, r4, kR, hgj, cz_le]
        repeat' (first | (with_reducible refine And.intro ?_ ?_) | (with_reducible intro))
        all_goals (try (first | assumption | omega | (unfold inI; omega) | (unfold inL; omega) | exact cz_in _ _))
        all_goals (try ((first | (refine s_X5_reachBy_0 x ok _ _ _ _ ?_) | (refine s_X5_reachBy_23 x ok _ _ _ _ ?_) | (refine s_X5_reachBy_24 x ok _ _ _ _ ?_) | (refine s_X5_reachBy_59 x ok _ _ _ _ ?_) | (refine s_X5_reachBy_97 x ok _ _ _ _ ?_) | (refine s_X5_reachBy_103 x ok _ _ _ _ ?_)); (try simp only [wpS, o_c, o_cl, o_il, o_ll, o_al, o_is, o_ls, o_as, o_inc, o_add, o_sub, o_mul, o_and, o_or, o_xor, o_shl, o_shr, o_div, o_neg, o_ladd, o_lsub, o_lmul, o_ldiv, o_lrem, o_lneg, o_lcmp, o_i2l, o_l2i, o_dup, o_dup2, o_pop, o_go, o_nn, o_sw, swc, o_iret, o_zret, o_lret, o_vret, o_ieq, o_eq0, o_ine, o_ne0, o_ilt, o_lt0, o_ige, o_ge0, o_igt, o_gt0, o_ile, o_le0, o_iald, o_zald, o_lald, o_aald, o_iast, o_zast, o_last, o_aast, o_alen, o_gi, o_gr, o_pi, o_pz, o_pr, o_new, o_newa, o_copy, o_oinit, o_call, o_callV, o_callVc, o_callI, popn, cnO, o_BAD, lgt, lst, isL, kil, st1, st2, entL, List.length_nil, List.length_cons, List.replicate, Nat.reduceAdd, Nat.reduceLeDiff, Nat.reduceSub, true_and, and_true, Nat.zero_le, ne_eq, qk_wi, ql_wi, qr_wi, qj_wi, qt_wi, qk_wj, ql_wj, qr_wj, qi_wj, qt_wj, qk_wr, ql_wr, qi_wr, qj_wr, qt_wr, qi_ws, qj_ws, qr_ws, Int.toNat_natCast, Int.toNat_zero, Int.reduceToNat, not_true_eq_false, not_false_eq_true, false_implies, implies_true, Option.some.injEq, reduceCtorEq, Sp0, true_or, or_true, or_self, wi_wi, wj_wj, qk_ws, qsS, wtS, k0]); (repeat' (first | (with_reducible refine And.intro ?_ ?_) | (with_reducible intro))); (all_goals (try (first | assumption | omega | (unfold inI; omega))))))
        all_goals (first | (exact ihk _ (fun k => by rw [e])) | omega | skip)
      · by_cases q2 : s ≤ j
        · have e := rch_s (g := g) (s := s) (r := r) q hs.1 q2
          have e1 : ((j : Int) - s).toNat = j - s := by omega
          have hgs : g2 (j - s) = rch g s r (j - s) := by rw [h2 (j - s), if_pos (by omega)]
          have hb2 := hrg (j - s) (by omega)
          by_cases q3 : 1 < rch g s r (j - s)
          · rw [if_pos q3] at e
            refine s_X5_reachBy_27 x ok _ _ _ _ ?_
            simp only [wpS, o_c, o_cl, o_il, o_ll, o_al, o_is, o_ls, o_as, o_inc, o_add, o_sub, o_mul, o_and, o_or, o_xor, o_shl, o_shr, o_div, o_neg, o_ladd, o_lsub, o_lmul, o_ldiv, o_lrem, o_lneg, o_lcmp, o_i2l, o_l2i, o_dup, o_dup2, o_pop, o_go, o_nn, o_sw, swc, o_iret, o_zret, o_lret, o_vret, o_ieq, o_eq0, o_ine, o_ne0, o_ilt, o_lt0, o_ige, o_ge0, o_igt, o_gt0, o_ile, o_le0, o_iald, o_zald, o_lald, o_aald, o_iast, o_zast, o_last, o_aast, o_alen, o_gi, o_gr, o_pi, o_pz, o_pr, o_new, o_newa, o_copy, o_oinit, o_call, o_callV, o_callVc, o_callI, popn, cnO, o_BAD, lgt, lst, isL, kil, st1, st2, entL, List.length_nil, List.length_cons, List.replicate, Nat.reduceAdd, Nat.reduceLeDiff, Nat.reduceSub, true_and, and_true, Nat.zero_le, ne_eq, qk_wi, ql_wi, qr_wi, qj_wi, qt_wi, qk_wj, ql_wj, qr_wj, qi_wj, qt_wj, qk_wr, ql_wr, qi_wr, qj_wr, qt_wr, qi_ws, qj_ws, qr_ws, Int.toNat_natCast, Int.toNat_zero, Int.reduceToNat, not_true_eq_false, not_false_eq_true, false_implies, implies_true, Option.some.injEq, reduceCtorEq, Sp0, true_or, or_true, or_self, wi_wi, wj_wj, qk_ws, ql_ws, qr_ws', qsS, qsR, wtR, k0, r4, kR, hgj, cz_le, e1, hgs]
            repeat' (first | (with_reducible refine And.intro ?_ ?_) | (with_reducible intro))
            all_goals (try (first | assumption | omega | (unfold inI; omega) | (unfold inL; omega) | exact cz_in _ _))
            all_goals (try ((first | (refine s_X5_reachBy_0 x ok _ _ _ _ ?_) | (refine s_X5_reachBy_23 x ok _ _ _ _ ?_) | (refine s_X5_reachBy_24 x ok _ _ _ _ ?_) | (refine s_X5_reachBy_59 x ok _ _ _ _ ?_) | (refine s_X5_reachBy_97 x ok _ _ _ _ ?_) | (refine s_X5_reachBy_103 x ok _ _ _ _ ?_)); (try simp only [wpS, o_c, o_cl, o_il, o_ll, o_al, o_is, o_ls, o_as, o_inc, o_add, o_sub, o_mul, o_and, o_or, o_xor, o_shl, o_shr, o_div, o_neg, o_ladd, o_lsub, o_lmul, o_ldiv, o_lrem, o_lneg, o_lcmp, o_i2l, o_l2i, o_dup, o_dup2, o_pop, o_go, o_nn, o_sw, swc, o_iret, o_zret, o_lret, o_vret, o_ieq, o_eq0, o_ine, o_ne0, o_ilt, o_lt0, o_ige, o_ge0, o_igt, o_gt0, o_ile, o_le0, o_iald, o_zald, o_lald, o_aald, o_iast, o_zast, o_last, o_aast, o_alen, o_gi, o_gr, o_pi, o_pz, o_pr, o_new, o_newa, o_copy, o_oinit, o_call, o_callV, o_callVc, o_callI, popn, cnO, o_BAD, lgt, lst, isL, kil, st1, st2, entL, List.length_nil, List.length_cons, List.replicate, Nat.reduceAdd, Nat.reduceLeDiff, Nat.reduceSub, true_and, and_true, Nat.zero_le, ne_eq, qk_wi, ql_wi, qr_wi, qj_wi, qt_wi, qk_wj, ql_wj, qr_wj, qi_wj, qt_wj, qk_wr, ql_wr, qi_wr, qj_wr, qt_wr, qi_ws, qj_ws, qr_ws, Int.toNat_natCast, Int.toNat_zero, Int.reduceToNat, not_true_eq_false, not_false_eq_true, false_implies, implies_true, Option.some.injEq, reduceCtorEq, Sp0, true_or, or_true, or_self, wi_wi, wj_wj, qk_ws, ql_ws, qr_ws', qsS, qsR, wtR, k0, r4, kR, hgj, cz_le, e1, hgs]); (repeat' (first | (with_reducible refine And.intro ?_ ?_) | (with_reducible intro))); (all_goals (try (first | assumption | omega | (unfold inI; omega))))))
            all_goals (try (first | assumption | omega | (unfold inI; omega) | (unfold inL; omega) | exact cz_in _ _))
            all_goals (first | (exact ihk _ (fun k => by rw [e])) | omega | skip)
          · rw [if_neg q3] at e
            have idg : ∀ k, g2 k = fu g2 j (rch g s r j) k := fun k => by unfold fu; grind
            refine s_X5_reachBy_27 x ok _ _ _ _ ?_
            simp only [wpS, o_c, o_cl, o_il, o_ll, o_al, o_is, o_ls, o_as, o_inc, o_add, o_sub, o_mul, o_and, o_or, o_xor, o_shl, o_shr, o_div, o_neg, o_ladd, o_lsub, o_lmul, o_ldiv, o_lrem, o_lneg, o_lcmp, o_i2l, o_l2i, o_dup, o_dup2, o_pop, o_go, o_nn, o_sw, swc, o_iret, o_zret, o_lret, o_vret, o_ieq, o_eq0, o_ine, o_ne0, o_ilt, o_lt0, o_ige, o_ge0, o_igt, o_gt0, o_ile, o_le0, o_iald, o_zald, o_lald, o_aald, o_iast, o_zast, o_last, o_aast, o_alen, o_gi, o_gr, o_pi, o_pz, o_pr, o_new, o_newa, o_copy, o_oinit, o_call, o_callV, o_callVc, o_callI, popn, cnO, o_BAD, lgt, lst, isL, kil, st1, st2, entL, List.length_nil, List.length_cons, List.replicate, Nat.reduceAdd, Nat.reduceLeDiff, Nat.reduceSub, true_and, and_true, Nat.zero_le, ne_eq, qk_wi, ql_wi, qr_wi, qj_wi, qt_wi, qk_wj, ql_wj, qr_wj, qi_wj, qt_wj, qk_wr, ql_wr, qi_wr, qj_wr, qt_wr, qi_ws, qj_ws, qr_ws, Int.toNat_natCast, Int.toNat_zero, Int.reduceToNat, not_true_eq_false, not_false_eq_true, false_implies, implies_true, Option.some.injEq, reduceCtorEq, Sp0, true_or, or_true, or_self, wi_wi, wj_wj, qk_ws, ql_ws, qr_ws', qsS, qsR, wtR, k0, r4, kR, hgj, cz_le, e1, hgs]
            repeat' (first | (with_reducible refine And.intro ?_ ?_) | (with_reducible intro))
            all_goals (try (first | assumption | omega | (unfold inI; omega) | (unfold inL; omega) | exact cz_in _ _))
            all_goals (try ((first | (refine s_X5_reachBy_0 x ok _ _ _ _ ?_) | (refine s_X5_reachBy_23 x ok _ _ _ _ ?_) | (refine s_X5_reachBy_24 x ok _ _ _ _ ?_) | (refine s_X5_reachBy_59 x ok _ _ _ _ ?_) | (refine s_X5_reachBy_97 x ok _ _ _ _ ?_) | (refine s_X5_reachBy_103 x ok _ _ _ _ ?_)); (try simp only [wpS, o_c, o_cl, o_il, o_ll, o_al, o_is, o_ls, o_as, o_inc, o_add, o_sub, o_mul, o_and, o_or, o_xor, o_shl, o_shr, o_div, o_neg, o_ladd, o_lsub, o_lmul, o_ldiv, o_lrem, o_lneg, o_lcmp, o_i2l, o_l2i, o_dup, o_dup2, o_pop, o_go, o_nn, o_sw, swc, o_iret, o_zret, o_lret, o_vret, o_ieq, o_eq0, o_ine, o_ne0, o_ilt, o_lt0, o_ige, o_ge0, o_igt, o_gt0, o_ile, o_le0, o_iald, o_zald, o_lald, o_aald, o_iast, o_zast, o_last, o_aast, o_alen, o_gi, o_gr, o_pi, o_pz, o_pr, o_new, o_newa, o_copy, o_oinit, o_call, o_callV, o_callVc, o_callI, popn, cnO, o_BAD, lgt, lst, isL, kil, st1, st2, entL, List.length_nil, List.length_cons, List.replicate, Nat.reduceAdd, Nat.reduceLeDiff, Nat.reduceSub, true_and, and_true, Nat.zero_le, ne_eq, qk_wi, ql_wi, qr_wi, qj_wi, qt_wi, qk_wj, ql_wj, qr_wj, qi_wj, qt_wj, qk_wr, ql_wr, qi_wr, qj_wr, qt_wr, qi_ws, qj_ws, qr_ws, Int.toNat_natCast, Int.toNat_zero, Int.reduceToNat, not_true_eq_false, not_false_eq_true, false_implies, implies_true, Option.some.injEq, reduceCtorEq, Sp0, true_or, or_true, or_self, wi_wi, wj_wj, qk_ws, ql_ws, qr_ws', qsS, qsR, wtR, k0, r4, kR, hgj, cz_le, e1, hgs]); (repeat' (first | (with_reducible refine And.intro ?_ ?_) | (with_reducible intro))); (all_goals (try (first | assumption | omega | (unfold inI; omega))))))
            all_goals (try (first | assumption | omega | (unfold inI; omega) | (unfold inL; omega) | exact cz_in _ _))
            all_goals (try ((first | (refine s_X5_reachBy_0 x ok _ _ _ _ ?_) | (refine s_X5_reachBy_23 x ok _ _ _ _ ?_) | (refine s_X5_reachBy_24 x ok _ _ _ _ ?_) | (refine s_X5_reachBy_59 x ok _ _ _ _ ?_) | (refine s_X5_reachBy_97 x ok _ _ _ _ ?_) | (refine s_X5_reachBy_103 x ok _ _ _ _ ?_)); (try simp only [wpS, o_c, o_cl, o_il, o_ll, o_al, o_is, o_ls, o_as, o_inc, o_add, o_sub, o_mul, o_and, o_or, o_xor, o_shl, o_shr, o_div, o_neg, o_ladd, o_lsub, o_lmul, o_ldiv, o_lrem, o_lneg, o_lcmp, o_i2l, o_l2i, o_dup, o_dup2, o_pop, o_go, o_nn, o_sw, swc, o_iret, o_zret, o_lret, o_vret, o_ieq, o_eq0, o_ine, o_ne0, o_ilt, o_lt0, o_ige, o_ge0, o_igt, o_gt0, o_ile, o_le0, o_iald, o_zald, o_lald, o_aald, o_iast, o_zast, o_last, o_aast, o_alen, o_gi, o_gr, o_pi, o_pz, o_pr, o_new, o_newa, o_copy, o_oinit, o_call, o_callV, o_callVc, o_callI, popn, cnO, o_BAD, lgt, lst, isL, kil, st1, st2, entL, List.length_nil, List.length_cons, List.replicate, Nat.reduceAdd, Nat.reduceLeDiff, Nat.reduceSub, true_and, and_true, Nat.zero_le, ne_eq, qk_wi, ql_wi, qr_wi, qj_wi, qt_wi, qk_wj, ql_wj, qr_wj, qi_wj, qt_wj, qk_wr, ql_wr, qi_wr, qj_wr, qt_wr, qi_ws, qj_ws, qr_ws, Int.toNat_natCast, Int.toNat_zero, Int.reduceToNat, not_true_eq_false, not_false_eq_true, false_implies, implies_true, Option.some.injEq, reduceCtorEq, Sp0, true_or, or_true, or_self, wi_wi, wj_wj]); (repeat' (first | (with_reducible refine And.intro ?_ ?_) | (with_reducible intro))); (all_goals (try (first | assumption | omega | (unfold inI; omega))))))
            all_goals (first | (exact ihk _ idg) | omega | skip)
        · have e := rch_0 (g := g) (s := s) (r := r) q (by omega)
          have idg : ∀ k, g2 k = fu g2 j (rch g s r j) k := fun k => by unfold fu; grind
          refine s_X5_reachBy_27 x ok _ _ _ _ ?_
          simp only [wpS, o_c, o_cl, o_il, o_ll, o_al, o_is, o_ls, o_as, o_inc, o_add, o_sub, o_mul, o_and, o_or, o_xor, o_shl, o_shr, o_div, o_neg, o_ladd, o_lsub, o_lmul, o_ldiv, o_lrem, o_lneg, o_lcmp, o_i2l, o_l2i, o_dup, o_dup2, o_pop, o_go, o_nn, o_sw, swc, o_iret, o_zret, o_lret, o_vret, o_ieq, o_eq0, o_ine, o_ne0, o_ilt, o_lt0, o_ige, o_ge0, o_igt, o_gt0, o_ile, o_le0, o_iald, o_zald, o_lald, o_aald, o_iast, o_zast, o_last, o_aast, o_alen, o_gi, o_gr, o_pi, o_pz, o_pr, o_new, o_newa, o_copy, o_oinit, o_call, o_callV, o_callVc, o_callI, popn, cnO, o_BAD, lgt, lst, isL, kil, st1, st2, entL, List.length_nil, List.length_cons, List.replicate, Nat.reduceAdd, Nat.reduceLeDiff, Nat.reduceSub, true_and, and_true, Nat.zero_le, ne_eq, qk_wi, ql_wi, qr_wi, qj_wi, qt_wi, qk_wj, ql_wj, qr_wj, qi_wj, qt_wj, qk_wr, ql_wr, qi_wr, qj_wr, qt_wr, qi_ws, qj_ws, qr_ws, Int.toNat_natCast, Int.toNat_zero, Int.reduceToNat, not_true_eq_false, not_false_eq_true, false_implies, implies_true, Option.some.injEq, reduceCtorEq, Sp0, true_or, or_true, or_self, wi_wi, wj_wj, qk_ws, ql_ws, qr_ws', qsS, qsR, wtR, k0, r4, kR, hgj, cz_le]
          repeat' (first | (with_reducible refine And.intro ?_ ?_) | (with_reducible intro))
          all_goals (try (first | assumption | omega | (unfold inI; omega) | (unfold inL; omega) | exact cz_in _ _))
          all_goals (try ((first | (refine s_X5_reachBy_0 x ok _ _ _ _ ?_) | (refine s_X5_reachBy_23 x ok _ _ _ _ ?_) | (refine s_X5_reachBy_24 x ok _ _ _ _ ?_) | (refine s_X5_reachBy_59 x ok _ _ _ _ ?_) | (refine s_X5_reachBy_97 x ok _ _ _ _ ?_) | (refine s_X5_reachBy_103 x ok _ _ _ _ ?_)); (try simp only [wpS, o_c, o_cl, o_il, o_ll, o_al, o_is, o_ls, o_as, o_inc, o_add, o_sub, o_mul, o_and, o_or, o_xor, o_shl, o_shr, o_div, o_neg, o_ladd, o_lsub, o_lmul, o_ldiv, o_lrem, o_lneg, o_lcmp, o_i2l, o_l2i, o_dup, o_dup2, o_pop, o_go, o_nn, o_sw, swc, o_iret, o_zret, o_lret, o_vret, o_ieq, o_eq0, o_ine, o_ne0, o_ilt, o_lt0, o_ige, o_ge0, o_igt, o_gt0, o_ile, o_le0, o_iald, o_zald, o_lald, o_aald, o_iast, o_zast, o_last, o_aast, o_alen, o_gi, o_gr, o_pi, o_pz, o_pr, o_new, o_newa, o_copy, o_oinit, o_call, o_callV, o_callVc, o_callI, popn, cnO, o_BAD, lgt, lst, isL, kil, st1, st2, entL, List.length_nil, List.length_cons, List.replicate, Nat.reduceAdd, Nat.reduceLeDiff, Nat.reduceSub, true_and, and_true, Nat.zero_le, ne_eq, qk_wi, ql_wi, qr_wi, qj_wi, qt_wi, qk_wj, ql_wj, qr_wj, qi_wj, qt_wj, qk_wr, ql_wr, qi_wr, qj_wr, qt_wr, qi_ws, qj_ws, qr_ws, Int.toNat_natCast, Int.toNat_zero, Int.reduceToNat, not_true_eq_false, not_false_eq_true, false_implies, implies_true, Option.some.injEq, reduceCtorEq, Sp0, true_or, or_true, or_self, wi_wi, wj_wj, qk_ws, ql_ws, qr_ws', qsS, qsR, wtR, k0, r4, kR, hgj, cz_le]); (repeat' (first | (with_reducible refine And.intro ?_ ?_) | (with_reducible intro))); (all_goals (try (first | assumption | omega | (unfold inI; omega))))))
          all_goals (try (first | assumption | omega | (unfold inI; omega) | (unfold inL; omega) | exact cz_in _ _))
          all_goals (try ((first | (refine s_X5_reachBy_0 x ok _ _ _ _ ?_) | (refine s_X5_reachBy_23 x ok _ _ _ _ ?_) | (refine s_X5_reachBy_24 x ok _ _ _ _ ?_) | (refine s_X5_reachBy_59 x ok _ _ _ _ ?_) | (refine s_X5_reachBy_97 x ok _ _ _ _ ?_) | (refine s_X5_reachBy_103 x ok _ _ _ _ ?_)); (try simp only [wpS, o_c, o_cl, o_il, o_ll, o_al, o_is, o_ls, o_as, o_inc, o_add, o_sub, o_mul, o_and, o_or, o_xor, o_shl, o_shr, o_div, o_neg, o_ladd, o_lsub, o_lmul, o_ldiv, o_lrem, o_lneg, o_lcmp, o_i2l, o_l2i, o_dup, o_dup2, o_pop, o_go, o_nn, o_sw, swc, o_iret, o_zret, o_lret, o_vret, o_ieq, o_eq0, o_ine, o_ne0, o_ilt, o_lt0, o_ige, o_ge0, o_igt, o_gt0, o_ile, o_le0, o_iald, o_zald, o_lald, o_aald, o_iast, o_zast, o_last, o_aast, o_alen, o_gi, o_gr, o_pi, o_pz, o_pr, o_new, o_newa, o_copy, o_oinit, o_call, o_callV, o_callVc, o_callI, popn, cnO, o_BAD, lgt, lst, isL, kil, st1, st2, entL, List.length_nil, List.length_cons, List.replicate, Nat.reduceAdd, Nat.reduceLeDiff, Nat.reduceSub, true_and, and_true, Nat.zero_le, ne_eq, qk_wi, ql_wi, qr_wi, qj_wi, qt_wi, qk_wj, ql_wj, qr_wj, qi_wj, qt_wj, qk_wr, ql_wr, qi_wr, qj_wr, qt_wr, qi_ws, qj_ws, qr_ws, Int.toNat_natCast, Int.toNat_zero, Int.reduceToNat, not_true_eq_false, not_false_eq_true, false_implies, implies_true, Option.some.injEq, reduceCtorEq, Sp0, true_or, or_true, or_self, wi_wi, wj_wj]); (repeat' (first | (with_reducible refine And.intro ?_ ?_) | (with_reducible intro))); (all_goals (try (first | assumption | omega | (unfold inI; omega))))))
          all_goals (first | (exact ihk _ idg) | omega | skip)
  have e3 : (n : Int) + (sr : Int) = ((n + sr : Nat) : Int) := by push_cast; rfl
  refine s_X5_reachBy_0 x ok _ _ _ _ ?_
  simp only [wpS, o_c, o_cl, o_il, o_ll, o_al, o_is, o_ls, o_as, o_inc, o_add, o_sub, o_mul, o_and, o_or, o_xor, o_shl, o_shr, o_div, o_neg, o_ladd, o_lsub, o_lmul, o_ldiv, o_lrem, o_lneg, o_lcmp, o_i2l, o_l2i, o_dup, o_dup2, o_pop, o_go, o_nn, o_sw, swc, o_iret, o_zret, o_lret, o_vret, o_ieq, o_eq0, o_ine, o_ne0, o_ilt, o_lt0, o_ige, o_ge0, o_igt, o_gt0, o_ile, o_le0, o_iald, o_zald, o_lald, o_aald, o_iast, o_zast, o_last, o_aast, o_alen, o_gi, o_gr, o_pi, o_pz, o_pr, o_new, o_newa, o_copy, o_oinit, o_call, o_callV, o_callVc, o_callI, popn, cnO, o_BAD, lgt, lst, isL, kil, st1, st2, entL, List.length_nil, List.length_cons, List.replicate, Nat.reduceAdd, Nat.reduceLeDiff, Nat.reduceSub, true_and, and_true, Nat.zero_le, ne_eq, qk_wi, ql_wi, qr_wi, qj_wi, qt_wi, qk_wj, ql_wj, qr_wj, qi_wj, qt_wj, qk_wr, ql_wr, qi_wr, qj_wr, qt_wr, qi_ws, qj_ws, qr_ws, Int.toNat_natCast, Int.toNat_zero, Int.reduceToNat, not_true_eq_false, not_false_eq_true, false_implies, implies_true, Option.some.injEq, reduceCtorEq, Sp0, true_or, or_true, or_self, wi_wi, wj_wj, qk_ws, ql_ws, qr_ws', qsS, k0, r4, kR, hf, esr, e3]
  repeat' (first | (with_reducible refine And.intro ?_ ?_) | (with_reducible intro))
  all_goals (try (first | assumption | omega | (unfold inI; omega)))
  all_goals (try ((first | (refine s_X5_reachBy_0 x ok _ _ _ _ ?_) | (refine s_X5_reachBy_23 x ok _ _ _ _ ?_) | (refine s_X5_reachBy_24 x ok _ _ _ _ ?_) | (refine s_X5_reachBy_59 x ok _ _ _ _ ?_) | (refine s_X5_reachBy_97 x ok _ _ _ _ ?_) | (refine s_X5_reachBy_103 x ok _ _ _ _ ?_)); (try simp only [wpS, o_c, o_cl, o_il, o_ll, o_al, o_is, o_ls, o_as, o_inc, o_add, o_sub, o_mul, o_and, o_or, o_xor, o_shl, o_shr, o_div, o_neg, o_ladd, o_lsub, o_lmul, o_ldiv, o_lrem, o_lneg, o_lcmp, o_i2l, o_l2i, o_dup, o_dup2, o_pop, o_go, o_nn, o_sw, swc, o_iret, o_zret, o_lret, o_vret, o_ieq, o_eq0, o_ine, o_ne0, o_ilt, o_lt0, o_ige, o_ge0, o_igt, o_gt0, o_ile, o_le0, o_iald, o_zald, o_lald, o_aald, o_iast, o_zast, o_last, o_aast, o_alen, o_gi, o_gr, o_pi, o_pz, o_pr, o_new, o_newa, o_copy, o_oinit, o_call, o_callV, o_callVc, o_callI, popn, cnO, o_BAD, lgt, lst, isL, kil, st1, st2, entL, List.length_nil, List.length_cons, List.replicate, Nat.reduceAdd, Nat.reduceLeDiff, Nat.reduceSub, true_and, and_true, Nat.zero_le, ne_eq, qk_wi, ql_wi, qr_wi, qj_wi, qt_wi, qk_wj, ql_wj, qr_wj, qi_wj, qt_wj, qk_wr, ql_wr, qi_wr, qj_wr, qt_wr, qi_ws, qj_ws, qr_ws, Int.toNat_natCast, Int.toNat_zero, Int.reduceToNat, not_true_eq_false, not_false_eq_true, false_implies, implies_true, Option.some.injEq, reduceCtorEq, Sp0, true_or, or_true, or_self, wi_wi, wj_wj]); (repeat' (first | (with_reducible refine And.intro ?_ ?_) | (with_reducible intro))); (all_goals (try (first | assumption | omega | (unfold inI; omega))))))
  all_goals (first | (exact loop 0 (by omega) g (fun k => by rw [if_neg (by omega)])) | omega | (unfold inI; omega) | skip)

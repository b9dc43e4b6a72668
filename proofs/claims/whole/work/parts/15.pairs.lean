/-! ===== pairs of two lots ===== -/
/-- what is seen, what is taken, the mates, how many pairs, behind n turns -/
noncomputable def mtS (f0 f1 : Nat → Int) (c0 c1 : Nat) (lo hi : Int) : Nat → (Nat → Bool) × (Nat → Bool) × (Nat → Int) × Int
  | 0 => (fun _ => false, fun _ => false, fun _ => -1, 0)
  | n + 1 =>
    let q := mtS f0 f1 c0 c1 lo hi n
    let a := (lwF f0 q.1 (-10000) 10000 c0).toNat
    let b := lwF f1 q.2.1 (f0 a + lo) (f0 a + hi) c1
    if b = -1 then (fu q.1 a true, q.2.1, q.2.2.1, q.2.2.2) else (fu q.1 a true, fu q.2.1 b.toNat true, fu q.2.2.1 a b, q.2.2.2 + 1)
theorem or_fu (t : Nat → Bool) (A k : Nat) : (t k || decide (A = k)) = fu t A true k := by
  unfold fu
  by_cases e : k = A
  · subst e; simp
  · rw [if_neg e]
    have : ¬ A = k := fun q => e q.symm
    simp [this]
def cnB (t : Nat → Bool) (n : Nat) : Int := sg (fun k => if t k then 1 else 0) n
theorem cnB_up {t : Nat → Bool} {a : Nat} (h : t a = false) : ∀ n, cnB (fu t a true) n = cnB t n + if a < n then 1 else 0
  | 0 => rfl
  | n + 1 => by
    have ih := cnB_up h n
    unfold cnB at ih ⊢
    rw [sg_s, sg_s, ih]
    unfold fu
    by_cases e : n = a
    · subst e
      simp [h]
    · simp [e]
      grind
theorem cnB_full {t : Nat → Bool} : ∀ n, (∀ k, k < n → t k = true) → cnB t n = n
  | 0, _ => rfl
  | n + 1, h => by
    have ih := cnB_full n (fun k hk => h k (by omega))
    unfold cnB at ih ⊢
    rw [sg_s, ih, h n (by omega)]
    simp
theorem mtS_s (f0 f1 : Nat → Int) (c0 c1 : Nat) (lo hi : Int) (n : Nat) : mtS f0 f1 c0 c1 lo hi (n + 1) = if lwF f1 (mtS f0 f1 c0 c1 lo hi n).2.1 (f0 (lwF f0 (mtS f0 f1 c0 c1 lo hi n).1 (-10000) 10000 c0).toNat + lo) (f0 (lwF f0 (mtS f0 f1 c0 c1 lo hi n).1 (-10000) 10000 c0).toNat + hi) c1 = -1 then (fu (mtS f0 f1 c0 c1 lo hi n).1 (lwF f0 (mtS f0 f1 c0 c1 lo hi n).1 (-10000) 10000 c0).toNat true, (mtS f0 f1 c0 c1 lo hi n).2.1, (mtS f0 f1 c0 c1 lo hi n).2.2.1, (mtS f0 f1 c0 c1 lo hi n).2.2.2) else (fu (mtS f0 f1 c0 c1 lo hi n).1 (lwF f0 (mtS f0 f1 c0 c1 lo hi n).1 (-10000) 10000 c0).toNat true, fu (mtS f0 f1 c0 c1 lo hi n).2.1 (lwF f1 (mtS f0 f1 c0 c1 lo hi n).2.1 (f0 (lwF f0 (mtS f0 f1 c0 c1 lo hi n).1 (-10000) 10000 c0).toNat + lo) (f0 (lwF f0 (mtS f0 f1 c0 c1 lo hi n).1 (-10000) 10000 c0).toNat + hi) c1).toNat true, fu (mtS f0 f1 c0 c1 lo hi n).2.2.1 (lwF f0 (mtS f0 f1 c0 c1 lo hi n).1 (-10000) 10000 c0).toNat (lwF f1 (mtS f0 f1 c0 c1 lo hi n).2.1 (f0 (lwF f0 (mtS f0 f1 c0 c1 lo hi n).1 (-10000) 10000 c0).toNat + lo) (f0 (lwF f0 (mtS f0 f1 c0 c1 lo hi n).1 (-10000) 10000 c0).toNat + hi) c1), (mtS f0 f1 c0 c1 lo hi n).2.2.2 + 1) := rfl
/-- at turn n < c0 one of lot 0 is left -/
theorem mtS_left {f0 f1 : Nat → Int} {c0 c1 : Nat} {lo hi : Int} (hf : ∀ k, k < c0 → -10000 ≤ f0 k ∧ f0 k ≤ 10000) : ∀ n, n ≤ c0 → cnB (mtS f0 f1 c0 c1 lo hi n).1 c0 = n ∧ (n < c0 → ∃ a, a < c0 ∧ lwF f0 (mtS f0 f1 c0 c1 lo hi n).1 (-10000) 10000 c0 = (a : Int) ∧ (mtS f0 f1 c0 c1 lo hi n).1 a = false) := by
  have left : ∀ (t : Nat → Bool) (n : Nat), n < c0 → cnB t c0 = n → ∃ a, a < c0 ∧ lwF f0 t (-10000) 10000 c0 = (a : Int) ∧ t a = false := by
    intro t n hn hc
    rcases lwF_rng f0 t (-10000) 10000 c0 with q | ⟨k, q1, q2, q3, -⟩
    · have hfull := cnB_full (t := t) c0 (fun k hk => by
        cases hk2 : t k with
        | true => rfl
        | false => exact absurd ⟨hk2, hf k hk⟩ (lwF_none f0 t _ _ c0 q k hk))
      omega
    · exact ⟨k, q1, q2, q3⟩
  intro n
  induction n with
  | zero =>
    intro _
    have h0 : cnB (mtS f0 f1 c0 c1 lo hi 0).1 c0 = (0 : Nat) := by
      unfold cnB mtS
      exact sg_z (fun _ _ => rfl)
    exact ⟨h0, fun h => left _ 0 h h0⟩
  | succ n ih =>
    intro hn
    obtain ⟨h1, h2⟩ := ih (by omega)
    obtain ⟨a, ha, e, hf2⟩ := h2 (by omega)
    have h3 : cnB (mtS f0 f1 c0 c1 lo hi (n + 1)).1 c0 = ((n + 1 : Nat) : Int) := by
      rw [mtS_s, e, Int.toNat_natCast]
      have := cnB_up hf2 c0
      rw [h1, if_pos ha] at this
      split
      · exact this
      · exact this
    exact ⟨h3, fun h => left _ (n + 1) h h3⟩
def T_X6_pairLots : TT := fun as h K => ∃ (a : Nat) (lo hi : Int) (d : Dd), as = [vr (some a), vi lo, vi hi] ∧ Stt h a d ∧ (-30000 ≤ lo ∧ lo ≤ 30000) ∧ (-30000 ≤ hi ∧ hi ≤ 30000) ∧
  ∀ g : Nat → Int, (∀ k, k < 24 → g k = (mtS (dpt d 0) (dpt d 1) (dct d 0).toNat (dct d 1).toNat lo hi (dct d 0).toNat).2.2.1 k) → K (some (vi (mtS (dpt d 0) (dpt d 1) (dct d 0).toNat (dct d 1).toNat lo hi (dct d 0).toNat).2.2.2)) (wi h (a + 4) g)
theorem Lov.wi {h : Hp} {p c : Nat} {f : Nat → Int} {b : Nat} {g : Nat → Int} (H : Lov h p c f) (n1 : p ≠ b) (n2 : p + 1 ≠ b) : Lov (wi h b g) p c f := by
  obtain ⟨h1, h2, h3, h4, h5⟩ := H
  refine ⟨h1, by rw [qi_wn n1]; exact h2, h3, fun k hk => by rw [qi_wn n2]; exact h4 k hk, h5⟩
abbrev i_X6_pairLots : MI := (cX6_pairLots, 10, RX6, (some .int), "pairLots", 4)
theorem k_X6_pairLots_0 : Okop i_X6_pairLots 0 (o_al 0) 1 := k_aln (j := 0) (by decide +kernel)
theorem k_X6_pairLots_1 : Okop i_X6_pairLots 1 (o_gr 6 3) 4 := k_gr (idx := 29) fo_6 (by decide) (by decide) gw_154 (by decide +kernel)
theorem k_X6_pairLots_4 : Okop i_X6_pairLots 4 (o_c (-1)) 5 := k_iconst (by decide +kernel)
theorem k_X6_pairLots_5 : Okop i_X6_pairLots 5 (o_call 2 T_J7_fill_53178) 8 := k_call (idx := 36) m_J7_fill_53178 ⟨gw_145, gw_6, ⟨by decide, by decide, by decide +kernel⟩, by decide, by decide⟩ gw_143 gw_144 (by decide +kernel)
theorem k_X6_pairLots_8 : Okop i_X6_pairLots 8 (o_c 0) 9 := k_iconst (by decide +kernel)
theorem k_X6_pairLots_9 : Okop i_X6_pairLots 9 (o_is 3) 10 := k_isn (j := 3) (by decide +kernel) (by decide)
theorem k_X6_pairLots_10 : Okop i_X6_pairLots 10 (o_c 0) 11 := k_iconst (by decide +kernel)
theorem k_X6_pairLots_11 : Okop i_X6_pairLots 11 (o_is 4) 13 := k_is (by decide +kernel) (by decide)
theorem k_X6_pairLots_13 : Okop i_X6_pairLots 13 (o_c 0) 14 := k_iconst (by decide +kernel)
theorem k_X6_pairLots_14 : Okop i_X6_pairLots 14 (o_is 5) 16 := k_is (by decide +kernel) (by decide)
theorem k_X6_pairLots_16 : Okop i_X6_pairLots 16 (o_c 0) 17 := k_iconst (by decide +kernel)
theorem k_X6_pairLots_17 : Okop i_X6_pairLots 17 (o_is 6) 19 := k_is (by decide +kernel) (by decide)
theorem k_X6_pairLots_19 : Okop i_X6_pairLots 19 (o_il 6) 21 := k_il (by decide +kernel)
theorem k_X6_pairLots_21 : Okop i_X6_pairLots 21 (o_al 0) 22 := k_aln (j := 0) (by decide +kernel)
theorem k_X6_pairLots_22 : Okop i_X6_pairLots 22 (o_gr 6 2) 25 := k_gr (idx := 25) fo_6 (by decide) (by decide) gw_152 (by decide +kernel)
theorem k_X6_pairLots_25 : Okop i_X6_pairLots 25 (o_c 0) 26 := k_iconst (by decide +kernel)
theorem k_X6_pairLots_26 : Okop i_X6_pairLots 26 (o_aald) 27 := k_aald (by decide +kernel)
theorem k_X6_pairLots_27 : Okop i_X6_pairLots 27 (o_gi 3 1) 30 := k_gi (idx := 58) fo_3 (by decide) (by decide) gw_136 (by decide +kernel)
theorem k_X6_pairLots_30 : Okop i_X6_pairLots 30 (o_ige 138) 33 := k_ige (off := 108) (by decide +kernel) (by decide)
theorem k_X6_pairLots_33 : Okop i_X6_pairLots 33 (o_al 0) 34 := k_aln (j := 0) (by decide +kernel)
theorem k_X6_pairLots_34 : Okop i_X6_pairLots 34 (o_gr 6 2) 37 := k_gr (idx := 25) fo_6 (by decide) (by decide) gw_152 (by decide +kernel)
theorem k_X6_pairLots_37 : Okop i_X6_pairLots 37 (o_c 0) 38 := k_iconst (by decide +kernel)
theorem k_X6_pairLots_38 : Okop i_X6_pairLots 38 (o_aald) 39 := k_aald (by decide +kernel)
theorem k_X6_pairLots_39 : Okop i_X6_pairLots 39 (o_il 4) 41 := k_il (by decide +kernel)
theorem k_X6_pairLots_41 : Okop i_X6_pairLots 41 (o_c (-10000)) 44 := k_sipush (by decide +kernel) rfl
theorem k_X6_pairLots_44 : Okop i_X6_pairLots 44 (o_c 10000) 47 := k_sipush (by decide +kernel) rfl
theorem k_X6_pairLots_47 : Okop i_X6_pairLots 47 (o_callV 3 3 T_X3_leastWithin) 50 := k_callV (idx := 61) (r0 := (RX3, TX3, 2)) m_X3_leastWithin ⟨gw_597, gw_5, ⟨by decide, by decide, by decide +kernel⟩, by decide, by decide⟩ rfl gw_594 gw_595 gw_596 (by decide +kernel)
theorem k_X6_pairLots_50 : Okop i_X6_pairLots 50 (o_is 7) 52 := k_is (by decide +kernel) (by decide)
theorem k_X6_pairLots_52 : Okop i_X6_pairLots 52 (o_il 7) 54 := k_il (by decide +kernel)
theorem k_X6_pairLots_54 : Okop i_X6_pairLots 54 (o_c (-1)) 55 := k_iconst (by decide +kernel)
theorem k_X6_pairLots_55 : Okop i_X6_pairLots 55 (o_ine 61) 58 := k_ine (off := 6) (by decide +kernel) (by decide)
theorem k_X6_pairLots_58 : Okop i_X6_pairLots 58 (o_go 138) 61 := k_go (off := 80) (by decide +kernel) (by decide)
theorem k_X6_pairLots_61 : Okop i_X6_pairLots 61 (o_il 4) 63 := k_il (by decide +kernel)
theorem k_X6_pairLots_63 : Okop i_X6_pairLots 63 (o_c 1) 64 := k_iconst (by decide +kernel)
theorem k_X6_pairLots_64 : Okop i_X6_pairLots 64 (o_il 7) 66 := k_il (by decide +kernel)
theorem k_X6_pairLots_66 : Okop i_X6_pairLots 66 (o_shl) 67 := k_shl (by decide +kernel)
theorem k_X6_pairLots_67 : Okop i_X6_pairLots 67 (o_or) 68 := k_or (by decide +kernel)
theorem k_X6_pairLots_68 : Okop i_X6_pairLots 68 (o_is 4) 70 := k_is (by decide +kernel) (by decide)
theorem k_X6_pairLots_70 : Okop i_X6_pairLots 70 (o_al 0) 71 := k_aln (j := 0) (by decide +kernel)
theorem k_X6_pairLots_71 : Okop i_X6_pairLots 71 (o_gr 6 2) 74 := k_gr (idx := 25) fo_6 (by decide) (by decide) gw_152 (by decide +kernel)
theorem k_X6_pairLots_74 : Okop i_X6_pairLots 74 (o_c 0) 75 := k_iconst (by decide +kernel)
theorem k_X6_pairLots_75 : Okop i_X6_pairLots 75 (o_aald) 76 := k_aald (by decide +kernel)
theorem k_X6_pairLots_76 : Okop i_X6_pairLots 76 (o_gr 3 0) 79 := k_gr (idx := 65) fo_3 (by decide) (by decide) gw_133 (by decide +kernel)
theorem k_X6_pairLots_79 : Okop i_X6_pairLots 79 (o_il 7) 81 := k_il (by decide +kernel)
theorem k_X6_pairLots_81 : Okop i_X6_pairLots 81 (o_iald) 82 := k_iald (by decide +kernel)
theorem k_X6_pairLots_82 : Okop i_X6_pairLots 82 (o_is 8) 84 := k_is (by decide +kernel) (by decide)
theorem k_X6_pairLots_84 : Okop i_X6_pairLots 84 (o_al 0) 85 := k_aln (j := 0) (by decide +kernel)
theorem k_X6_pairLots_85 : Okop i_X6_pairLots 85 (o_gr 6 2) 88 := k_gr (idx := 25) fo_6 (by decide) (by decide) gw_152 (by decide +kernel)
theorem k_X6_pairLots_88 : Okop i_X6_pairLots 88 (o_c 1) 89 := k_iconst (by decide +kernel)
theorem k_X6_pairLots_89 : Okop i_X6_pairLots 89 (o_aald) 90 := k_aald (by decide +kernel)
theorem k_X6_pairLots_90 : Okop i_X6_pairLots 90 (o_il 5) 92 := k_il (by decide +kernel)
theorem k_X6_pairLots_92 : Okop i_X6_pairLots 92 (o_il 8) 94 := k_il (by decide +kernel)
theorem k_X6_pairLots_94 : Okop i_X6_pairLots 94 (o_il 1) 95 := k_iln (j := 1) (by decide +kernel)
theorem k_X6_pairLots_95 : Okop i_X6_pairLots 95 (o_add) 96 := k_add (by decide +kernel)
theorem k_X6_pairLots_96 : Okop i_X6_pairLots 96 (o_il 8) 98 := k_il (by decide +kernel)
theorem k_X6_pairLots_98 : Okop i_X6_pairLots 98 (o_il 2) 99 := k_iln (j := 2) (by decide +kernel)
theorem k_X6_pairLots_99 : Okop i_X6_pairLots 99 (o_add) 100 := k_add (by decide +kernel)
theorem k_X6_pairLots_100 : Okop i_X6_pairLots 100 (o_callV 3 3 T_X3_leastWithin) 103 := k_callV (idx := 61) (r0 := (RX3, TX3, 2)) m_X3_leastWithin ⟨gw_597, gw_5, ⟨by decide, by decide, by decide +kernel⟩, by decide, by decide⟩ rfl gw_594 gw_595 gw_596 (by decide +kernel)
theorem k_X6_pairLots_103 : Okop i_X6_pairLots 103 (o_is 9) 105 := k_is (by decide +kernel) (by decide)
theorem k_X6_pairLots_105 : Okop i_X6_pairLots 105 (o_il 9) 107 := k_il (by decide +kernel)
theorem k_X6_pairLots_107 : Okop i_X6_pairLots 107 (o_c (-1)) 108 := k_iconst (by decide +kernel)
theorem k_X6_pairLots_108 : Okop i_X6_pairLots 108 (o_ieq 132) 111 := k_ieq (off := 24) (by decide +kernel) (by decide)
theorem k_X6_pairLots_111 : Okop i_X6_pairLots 111 (o_il 5) 113 := k_il (by decide +kernel)
theorem k_X6_pairLots_113 : Okop i_X6_pairLots 113 (o_c 1) 114 := k_iconst (by decide +kernel)
theorem k_X6_pairLots_114 : Okop i_X6_pairLots 114 (o_il 9) 116 := k_il (by decide +kernel)
theorem k_X6_pairLots_116 : Okop i_X6_pairLots 116 (o_shl) 117 := k_shl (by decide +kernel)
theorem k_X6_pairLots_117 : Okop i_X6_pairLots 117 (o_or) 118 := k_or (by decide +kernel)
theorem k_X6_pairLots_118 : Okop i_X6_pairLots 118 (o_is 5) 120 := k_is (by decide +kernel) (by decide)
theorem k_X6_pairLots_120 : Okop i_X6_pairLots 120 (o_al 0) 121 := k_aln (j := 0) (by decide +kernel)
theorem k_X6_pairLots_121 : Okop i_X6_pairLots 121 (o_gr 6 3) 124 := k_gr (idx := 29) fo_6 (by decide) (by decide) gw_154 (by decide +kernel)
theorem k_X6_pairLots_124 : Okop i_X6_pairLots 124 (o_il 7) 126 := k_il (by decide +kernel)
theorem k_X6_pairLots_126 : Okop i_X6_pairLots 126 (o_il 9) 128 := k_il (by decide +kernel)
theorem k_X6_pairLots_128 : Okop i_X6_pairLots 128 (o_iast) 129 := k_iast (by decide +kernel)
theorem k_X6_pairLots_129 : Okop i_X6_pairLots 129 (o_inc 3 1) 132 := k_inc (by decide +kernel) (by decide)
theorem k_X6_pairLots_132 : Okop i_X6_pairLots 132 (o_inc 6 1) 135 := k_inc (by decide +kernel) (by decide)
theorem k_X6_pairLots_135 : Okop i_X6_pairLots 135 (o_go 19) 138 := k_go (off := -116) (by decide +kernel) (by decide)
theorem k_X6_pairLots_138 : Okop i_X6_pairLots 138 (o_il 3) 139 := k_iln (j := 3) (by decide +kernel)
theorem k_X6_pairLots_139 : Okop i_X6_pairLots 139 (o_iret) 140 := k_iret (by decide +kernel) rfl
theorem s_X6_pairLots_0 : Seg i_X6_pairLots 0 [o_al 0, o_gr 6 3, o_c (-1), o_call 2 T_J7_fill_53178, o_c 0, o_is 3, o_c 0, o_is 4, o_c 0, o_is 5, o_c 0, o_is 6] 19 := Seg.cons k_X6_pairLots_0 (Seg.cons k_X6_pairLots_1 (Seg.cons k_X6_pairLots_4 (Seg.cons k_X6_pairLots_5 (Seg.cons k_X6_pairLots_8 (Seg.cons k_X6_pairLots_9 (Seg.cons k_X6_pairLots_10 (Seg.cons k_X6_pairLots_11 (Seg.cons k_X6_pairLots_13 (Seg.cons k_X6_pairLots_14 (Seg.cons k_X6_pairLots_16 (Seg.cons k_X6_pairLots_17 (Seg.nil))))))))))))
theorem s_X6_pairLots_19 : Seg i_X6_pairLots 19 [o_il 6, o_al 0, o_gr 6 2, o_c 0, o_aald, o_gi 3 1, o_ige 138, o_al 0, o_gr 6 2, o_c 0, o_aald, o_il 4, o_c (-10000), o_c 10000, o_callV 3 3 T_X3_leastWithin, o_is 7, o_il 7, o_c (-1), o_ine 61, o_go 138] 61 := Seg.cons k_X6_pairLots_19 (Seg.cons k_X6_pairLots_21 (Seg.cons k_X6_pairLots_22 (Seg.cons k_X6_pairLots_25 (Seg.cons k_X6_pairLots_26 (Seg.cons k_X6_pairLots_27 (Seg.cons k_X6_pairLots_30 (Seg.cons k_X6_pairLots_33 (Seg.cons k_X6_pairLots_34 (Seg.cons k_X6_pairLots_37 (Seg.cons k_X6_pairLots_38 (Seg.cons k_X6_pairLots_39 (Seg.cons k_X6_pairLots_41 (Seg.cons k_X6_pairLots_44 (Seg.cons k_X6_pairLots_47 (Seg.cons k_X6_pairLots_50 (Seg.cons k_X6_pairLots_52 (Seg.cons k_X6_pairLots_54 (Seg.cons k_X6_pairLots_55 (Seg.cons k_X6_pairLots_58 (Seg.nil))))))))))))))))))))
theorem s_X6_pairLots_61 : Seg i_X6_pairLots 61 [o_il 4, o_c 1, o_il 7, o_shl, o_or, o_is 4, o_al 0, o_gr 6 2, o_c 0, o_aald, o_gr 3 0, o_il 7, o_iald, o_is 8, o_al 0, o_gr 6 2, o_c 1, o_aald, o_il 5, o_il 8, o_il 1, o_add, o_il 8, o_il 2, o_add, o_callV 3 3 T_X3_leastWithin, o_is 9, o_il 9, o_c (-1), o_ieq 132, o_il 5, o_c 1, o_il 9, o_shl, o_or, o_is 5, o_al 0, o_gr 6 3, o_il 7, o_il 9, o_iast, o_inc 3 1, o_inc 6 1, o_go 19] 138 := Seg.cons k_X6_pairLots_61 (Seg.cons k_X6_pairLots_63 (Seg.cons k_X6_pairLots_64 (Seg.cons k_X6_pairLots_66 (Seg.cons k_X6_pairLots_67 (Seg.cons k_X6_pairLots_68 (Seg.cons k_X6_pairLots_70 (Seg.cons k_X6_pairLots_71 (Seg.cons k_X6_pairLots_74 (Seg.cons k_X6_pairLots_75 (Seg.cons k_X6_pairLots_76 (Seg.cons k_X6_pairLots_79 (Seg.cons k_X6_pairLots_81 (Seg.cons k_X6_pairLots_82 (Seg.cons k_X6_pairLots_84 (Seg.cons k_X6_pairLots_85 (Seg.cons k_X6_pairLots_88 (Seg.cons k_X6_pairLots_89 (Seg.cons k_X6_pairLots_90 (Seg.cons k_X6_pairLots_92 (Seg.cons k_X6_pairLots_94 (Seg.cons k_X6_pairLots_95 (Seg.cons k_X6_pairLots_96 (Seg.cons k_X6_pairLots_98 (Seg.cons k_X6_pairLots_99 (Seg.cons k_X6_pairLots_100 (Seg.cons k_X6_pairLots_103 (Seg.cons k_X6_pairLots_105 (Seg.cons k_X6_pairLots_107 (Seg.cons k_X6_pairLots_108 (Seg.cons k_X6_pairLots_111 (Seg.cons k_X6_pairLots_113 (Seg.cons k_X6_pairLots_114 (Seg.cons k_X6_pairLots_116 (Seg.cons k_X6_pairLots_117 (Seg.cons k_X6_pairLots_118 (Seg.cons k_X6_pairLots_120 (Seg.cons k_X6_pairLots_121 (Seg.cons k_X6_pairLots_124 (Seg.cons k_X6_pairLots_126 (Seg.cons k_X6_pairLots_128 (Seg.cons k_X6_pairLots_129 (Seg.cons k_X6_pairLots_132 (Seg.cons k_X6_pairLots_135 (Seg.nil))))))))))))))))))))))))))))))))))))))))))))
theorem s_X6_pairLots_132 : Seg i_X6_pairLots 132 [o_inc 6 1, o_go 19] 138 := Seg.cons k_X6_pairLots_132 (Seg.cons k_X6_pairLots_135 (Seg.nil))
theorem s_X6_pairLots_138 : Seg i_X6_pairLots 138 [o_il 3, o_iret] 140 := Seg.cons k_X6_pairLots_138 (Seg.cons k_X6_pairLots_139 (Seg.nil))

theorem m_X6_pairLots : Mth yX6_pairLots cX6_pairLots 10 (some .int) 4 (Sp0 T_X6_pairLots) := by
  refine Mth.of (by decide) ?_
  rintro x as h ok ⟨a, lo, hi, d, rfl, hS, hlo, hhi, hK⟩
  refine ⟨Nat.le_of_ble_eq_true rfl, ?_⟩
  have L0 := hS.lv (l := 0) (by omega)
  have L1 := hS.lv (l := 1) (by omega)
  have hc0 := (hS.lo (l := 0) (by omega)).2.2.1
  have hc1 := (hS.lo (l := 1) (by omega)).2.2.1
  have f0b := (hS.lo (l := 0) (by omega)).2.2.2
  generalize hC0 : (dct d 0).toNat = C0 at *
  generalize hC1 : (dct d 1).toNat = C1 at *
  generalize hF0 : dpt d 0 = F0' at *
  generalize hF1 : dpt d 1 = F1' at *
  have c0b : C0 ≤ 24 := by omega
  have c1b : C1 ≤ 24 := by omega
  have left := mtS_left (f0 := F0') (f1 := F1') (c0 := C0) (c1 := C1) (lo := lo) (hi := hi) (fun k hk => f0b k (by omega))
  have loop : ∀ j, j ≤ C0 → ∀ (N M : Nat) (g : Nat → Int) (v7 v8 v9), N < 16777216 → M < 16777216 → (∀ k, k < 24 → N.testBit k = (mtS F0' F1' C0 C1 lo hi j).1 k) → (∀ k, k < 24 → M.testBit k = (mtS F0' F1' C0 C1 lo hi j).2.1 k) → (∀ k, k < 24 → g k = (mtS F0' F1' C0 C1 lo hi j).2.2.1 k) →
      V i_X6_pairLots x 19 [some (vr (some a)), some (vi lo), some (vi hi), some (vi (mtS F0' F1' C0 C1 lo hi j).2.2.2), some (vi N), some (vi M), some (vi j), v7, v8, v9] [] (wi h (a + 4) g) (0, 0) := by
    refine bwd _ ?_ ?_
    · intro N M g v7 v8 v9 hN hM e1 e2 e3
      have L0' := L0.wi (b := a + 4) (g := g) (by omega) (by omega)
      refine s_X6_pairLots_19 x ok _ _ _ _ ?_
      simp only [wpS, o_c, o_cl, o_il, o_ll, o_al, o_is, o_ls, o_as, o_inc, o_add, o_sub, o_mul, o_and, o_or, o_xor, o_shl, o_shr, o_div, o_neg, o_ladd, o_lsub, o_lmul, o_ldiv, o_lrem, o_lneg, o_lcmp, o_i2l, o_l2i, o_dup, o_dup2, o_pop, o_go, o_nn, o_sw, swc, o_iret, o_zret, o_lret, o_vret, o_ieq, o_eq0, o_ine, o_ne0, o_ilt, o_lt0, o_ige, o_ge0, o_igt, o_gt0, o_ile, o_le0, o_iald, o_zald, o_lald, o_aald, o_iast, o_zast, o_last, o_aast, o_alen, o_gi, o_gr, o_pi, o_pz, o_pr, o_new, o_newa, o_copy, o_oinit, o_call, o_callV, o_callVc, o_callI, popn, cnO, o_BAD, lgt, lst, isL, kil, st1, st2, entL, List.length_nil, List.length_cons, List.replicate, Nat.reduceAdd, Nat.reduceLeDiff, Nat.reduceSub, true_and, and_true, Nat.zero_le, ne_eq, qk_wi, ql_wi, qr_wi, qj_wi, qt_wi, qk_wj, ql_wj, qr_wj, qi_wj, qt_wj, qk_wr, ql_wr, qi_wr, qj_wr, qt_wr, qi_ws, qj_ws, qr_ws, Int.toNat_natCast, Int.toNat_zero, Int.reduceToNat, not_true_eq_false, not_false_eq_true, false_implies, implies_true, Option.some.injEq, reduceCtorEq, Sp0, true_or, or_true, or_self, wi_wi, wj_wj, hS.k, hS.r2, hS.k3, hS.l3, hS.rl (l := 0) (by omega), L0.1.1, L0'.2.1]
      repeat' (first | (with_reducible refine And.intro ?_ ?_) | (with_reducible intro))
      all_goals (try (first | assumption | omega | (unfold inI; omega)))
      all_goals (try ((first | (refine s_X6_pairLots_0 x ok _ _ _ _ ?_) | (refine s_X6_pairLots_61 x ok _ _ _ _ ?_) | (refine s_X6_pairLots_132 x ok _ _ _ _ ?_) | (refine s_X6_pairLots_138 x ok _ _ _ _ ?_)); (try simp only [wpS, o_c, o_cl, o_il, o_ll, o_al, o_is, o_ls, o_as, o_inc, o_add, o_sub, o_mul, o_and, o_or, o_xor, o_shl, o_shr, o_div, o_neg, o_ladd, o_lsub, o_lmul, o_ldiv, o_lrem, o_lneg, o_lcmp, o_i2l, o_l2i, o_dup, o_dup2, o_pop, o_go, o_nn, o_sw, swc, o_iret, o_zret, o_lret, o_vret, o_ieq, o_eq0, o_ine, o_ne0, o_ilt, o_lt0, o_ige, o_ge0, o_igt, o_gt0, o_ile, o_le0, o_iald, o_zald, o_lald, o_aald, o_iast, o_zast, o_last, o_aast, o_alen, o_gi, o_gr, o_pi, o_pz, o_pr, o_new, o_newa, o_copy, o_oinit, o_call, o_callV, o_callVc, o_callI, popn, cnO, o_BAD, lgt, lst, isL, kil, st1, st2, entL, List.length_nil, List.length_cons, List.replicate, Nat.reduceAdd, Nat.reduceLeDiff, Nat.reduceSub, true_and, and_true, Nat.zero_le, ne_eq, qk_wi, ql_wi, qr_wi, qj_wi, qt_wi, qk_wj, ql_wj, qr_wj, qi_wj, qt_wj, qk_wr, ql_wr, qi_wr, qj_wr, qt_wr, qi_ws, qj_ws, qr_ws, Int.toNat_natCast, Int.toNat_zero, Int.reduceToNat, not_true_eq_false, not_false_eq_true, false_implies, implies_true, Option.some.injEq, reduceCtorEq, Sp0, true_or, or_true, or_self, wi_wi, wj_wj]); (repeat' (first | (with_reducible refine And.intro ?_ ?_) | (with_reducible intro))); (all_goals (try (first | assumption | omega | (unfold inI; omega))))))
      exact hK g e3
    · intro j hj ih N M g v7 v8 v9 hN hM e1 e2 e3
      obtain ⟨-, lf⟩ := left j (by omega)
      obtain ⟨A, hA, eA, sA⟩ := lf hj
      have L0' := L0.wi (b := a + 4) (g := g) (by omega) (by omega)
      have L1' := L1.wi (b := a + 4) (g := g) (by omega) (by omega)
      rw [mtS_s] at ih
      generalize mtS F0' F1' C0 C1 lo hi j = S at *
      have eA2 : lwF F0' N.testBit (-10000) 10000 C0 = (A : Int) := by rw [← eA]; exact lwF_c (fun _ _ => rfl) (fun k hk => e1 k (by omega))
      rw [eA, Int.toNat_natCast] at ih
      have hfA := f0b A (by omega)
      have eB : lwF F1' M.testBit (F0' A + lo) (F0' A + hi) C1 = lwF F1' S.2.1 (F0' A + lo) (F0' A + hi) C1 := lwF_c (fun _ _ => rfl) (fun k hk => e2 k (by omega))
      have hB := lwF_rng F1' S.2.1 (F0' A + lo) (F0' A + hi) C1
      generalize lwF F1' S.2.1 (F0' A + lo) (F0' A + hi) C1 = B at *
      have hN2 := bt_lt (k := 24) (N := N) (i := A) hN (by omega)
      have sN := bt_set (N := N) (i := A) (by omega) (by omega)
      have hqA : qi h (a + 77 + 2 * 0 + 1) A = F0' A := L0.2.2.2.1 A (by omega)
      refine s_X6_pairLots_19 x ok _ _ _ _ ?_
      simp only [wpS, o_c, o_cl, o_il, o_ll, o_al, o_is, o_ls, o_as, o_inc, o_add, o_sub, o_mul, o_and, o_or, o_xor, o_shl, o_shr, o_div, o_neg, o_ladd, o_lsub, o_lmul, o_ldiv, o_lrem, o_lneg, o_lcmp, o_i2l, o_l2i, o_dup, o_dup2, o_pop, o_go, o_nn, o_sw, swc, o_iret, o_zret, o_lret, o_vret, o_ieq, o_eq0, o_ine, o_ne0, o_ilt, o_lt0, o_ige, o_ge0, o_igt, o_gt0, o_ile, o_le0, o_iald, o_zald, o_lald, o_aald, o_iast, o_zast, o_last, o_aast, o_alen, o_gi, o_gr, o_pi, o_pz, o_pr, o_new, o_newa, o_copy, o_oinit, o_call, o_callV, o_callVc, o_callI, popn, cnO, o_BAD, lgt, lst, isL, kil, st1, st2, entL, List.length_nil, List.length_cons, List.replicate, Nat.reduceAdd, Nat.reduceLeDiff, Nat.reduceSub, true_and, and_true, Nat.zero_le, ne_eq, qk_wi, ql_wi, qr_wi, qj_wi, qt_wi, qk_wj, ql_wj, qr_wj, qi_wj, qt_wj, qk_wr, ql_wr, qi_wr, qj_wr, qt_wr, qi_ws, qj_ws, qr_ws, Int.toNat_natCast, Int.toNat_zero, Int.reduceToNat, not_true_eq_false, not_false_eq_true, false_implies, implies_true, Option.some.injEq, reduceCtorEq, Sp0, true_or, or_true, or_self, wi_wi, wj_wj, hS.k, hS.r2, hS.k3, hS.l3, hS.rl (l := 0) (by omega), hS.rl (l := 1) (by omega), L0.1.1, L0'.2.1]
      repeat' (first | (with_reducible refine And.intro ?_ ?_) | (with_reducible intro))
      all_goals (try (first | assumption | omega | (unfold inI; omega)))
      refine c_leastWithin L0' hN ⟨by unfold inI; omega, by unfold inI; omega, ?_⟩
      rw [eA2]
      simp only [wpS, o_c, o_cl, o_il, o_ll, o_al, o_is, o_ls, o_as, o_inc, o_add, o_sub, o_mul, o_and, o_or, o_xor, o_shl, o_shr, o_div, o_neg, o_ladd, o_lsub, o_lmul, o_ldiv, o_lrem, o_lneg, o_lcmp, o_i2l, o_l2i, o_dup, o_dup2, o_pop, o_go, o_nn, o_sw, swc, o_iret, o_zret, o_lret, o_vret, o_ieq, o_eq0, o_ine, o_ne0, o_ilt, o_lt0, o_ige, o_ge0, o_igt, o_gt0, o_ile, o_le0, o_iald, o_zald, o_lald, o_aald, o_iast, o_zast, o_last, o_aast, o_alen, o_gi, o_gr, o_pi, o_pz, o_pr, o_new, o_newa, o_copy, o_oinit, o_call, o_callV, o_callVc, o_callI, popn, cnO, o_BAD, lgt, lst, isL, kil, st1, st2, entL, List.length_nil, List.length_cons, List.replicate, Nat.reduceAdd, Nat.reduceLeDiff, Nat.reduceSub, true_and, and_true, Nat.zero_le, ne_eq, qk_wi, ql_wi, qr_wi, qj_wi, qt_wi, qk_wj, ql_wj, qr_wj, qi_wj, qt_wj, qk_wr, ql_wr, qi_wr, qj_wr, qt_wr, qi_ws, qj_ws, qr_ws, Int.toNat_natCast, Int.toNat_zero, Int.reduceToNat, not_true_eq_false, not_false_eq_true, false_implies, implies_true, Option.some.injEq, reduceCtorEq, Sp0, true_or, or_true, or_self, wi_wi, wj_wj]
      repeat' (first | (with_reducible refine And.intro ?_ ?_) | (with_reducible intro))
      all_goals (try (first | assumption | omega | (unfold inI; omega)))
      all_goals (try ((first | (refine s_X6_pairLots_0 x ok _ _ _ _ ?_) | (refine s_X6_pairLots_61 x ok _ _ _ _ ?_) | (refine s_X6_pairLots_132 x ok _ _ _ _ ?_) | (refine s_X6_pairLots_138 x ok _ _ _ _ ?_)); (try simp only [wpS, o_c, o_cl, o_il, o_ll, o_al, o_is, o_ls, o_as, o_inc, o_add, o_sub, o_mul, o_and, o_or, o_xor, o_shl, o_shr, o_div, o_neg, o_ladd, o_lsub, o_lmul, o_ldiv, o_lrem, o_lneg, o_lcmp, o_i2l, o_l2i, o_dup, o_dup2, o_pop, o_go, o_nn, o_sw, swc, o_iret, o_zret, o_lret, o_vret, o_ieq, o_eq0, o_ine, o_ne0, o_ilt, o_lt0, o_ige, o_ge0, o_igt, o_gt0, o_ile, o_le0, o_iald, o_zald, o_lald, o_aald, o_iast, o_zast, o_last, o_aast, o_alen, o_gi, o_gr, o_pi, o_pz, o_pr, o_new, o_newa, o_copy, o_oinit, o_call, o_callV, o_callVc, o_callI, popn, cnO, o_BAD, lgt, lst, isL, kil, st1, st2, entL, List.length_nil, List.length_cons, List.replicate, Nat.reduceAdd, Nat.reduceLeDiff, Nat.reduceSub, true_and, and_true, Nat.zero_le, ne_eq, qk_wi, ql_wi, qr_wi, qj_wi, qt_wi, qk_wj, ql_wj, qr_wj, qi_wj, qt_wj, qk_wr, ql_wr, qi_wr, qj_wr, qt_wr, qi_ws, qj_ws, qr_ws, Int.toNat_natCast, Int.toNat_zero, Int.reduceToNat, not_true_eq_false, not_false_eq_true, false_implies, implies_true, Option.some.injEq, reduceCtorEq, Sp0, true_or, or_true, or_self, wi_wi, wj_wj, hS.k, hS.r2, hS.k3, hS.l3, hS.rl (l := 0) (by omega), hS.rl (l := 1) (by omega), L0.1.1, L0.1.2.1, L0.1.2.2.1, L0.1.2.2.2, L1.1.1, sN, L0'.2.2.2.1 A (by omega)]); (repeat' (first | (with_reducible refine And.intro ?_ ?_) | (with_reducible intro))); (all_goals (try (first | assumption | omega | (unfold inI; omega))))))
      refine c_leastWithin L1' hM ⟨by unfold inI; omega, by unfold inI; omega, ?_⟩
      rw [eB]
      simp only [wpS, o_c, o_cl, o_il, o_ll, o_al, o_is, o_ls, o_as, o_inc, o_add, o_sub, o_mul, o_and, o_or, o_xor, o_shl, o_shr, o_div, o_neg, o_ladd, o_lsub, o_lmul, o_ldiv, o_lrem, o_lneg, o_lcmp, o_i2l, o_l2i, o_dup, o_dup2, o_pop, o_go, o_nn, o_sw, swc, o_iret, o_zret, o_lret, o_vret, o_ieq, o_eq0, o_ine, o_ne0, o_ilt, o_lt0, o_ige, o_ge0, o_igt, o_gt0, o_ile, o_le0, o_iald, o_zald, o_lald, o_aald, o_iast, o_zast, o_last, o_aast, o_alen, o_gi, o_gr, o_pi, o_pz, o_pr, o_new, o_newa, o_copy, o_oinit, o_call, o_callV, o_callVc, o_callI, popn, cnO, o_BAD, lgt, lst, isL, kil, st1, st2, entL, List.length_nil, List.length_cons, List.replicate, Nat.reduceAdd, Nat.reduceLeDiff, Nat.reduceSub, true_and, and_true, Nat.zero_le, ne_eq, qk_wi, ql_wi, qr_wi, qj_wi, qt_wi, qk_wj, ql_wj, qr_wj, qi_wj, qt_wj, qk_wr, ql_wr, qi_wr, qj_wr, qt_wr, qi_ws, qj_ws, qr_ws, Int.toNat_natCast, Int.toNat_zero, Int.reduceToNat, not_true_eq_false, not_false_eq_true, false_implies, implies_true, Option.some.injEq, reduceCtorEq, Sp0, true_or, or_true, or_self, wi_wi, wj_wj, hS.k, hS.r3, hS.k4, hS.l4]
      repeat' (first | (with_reducible refine And.intro ?_ ?_) | (with_reducible intro))
      all_goals (try (first | assumption | omega | (unfold inI; omega)))
      · rcases hB with q | ⟨k, q1, q2, -⟩ <;> (unfold inI; omega)
      · rw [if_pos (by assumption)] at ih
        have := ih (N ||| 2 ^ A) M g (some (vi A)) (some (vi (F0' A))) (some (vi B)) (by omega) hM (fun k hk => by
          rw [bt_or, e1 k hk, or_fu]) e2 e3
        all_goals (try ((first | (refine s_X6_pairLots_0 x ok _ _ _ _ ?_) | (refine s_X6_pairLots_61 x ok _ _ _ _ ?_) | (refine s_X6_pairLots_132 x ok _ _ _ _ ?_) | (refine s_X6_pairLots_138 x ok _ _ _ _ ?_)); (try simp only [wpS, o_c, o_cl, o_il, o_ll, o_al, o_is, o_ls, o_as, o_inc, o_add, o_sub, o_mul, o_and, o_or, o_xor, o_shl, o_shr, o_div, o_neg, o_ladd, o_lsub, o_lmul, o_ldiv, o_lrem, o_lneg, o_lcmp, o_i2l, o_l2i, o_dup, o_dup2, o_pop, o_go, o_nn, o_sw, swc, o_iret, o_zret, o_lret, o_vret, o_ieq, o_eq0, o_ine, o_ne0, o_ilt, o_lt0, o_ige, o_ge0, o_igt, o_gt0, o_ile, o_le0, o_iald, o_zald, o_lald, o_aald, o_iast, o_zast, o_last, o_aast, o_alen, o_gi, o_gr, o_pi, o_pz, o_pr, o_new, o_newa, o_copy, o_oinit, o_call, o_callV, o_callVc, o_callI, popn, cnO, o_BAD, lgt, lst, isL, kil, st1, st2, entL, List.length_nil, List.length_cons, List.replicate, Nat.reduceAdd, Nat.reduceLeDiff, Nat.reduceSub, true_and, and_true, Nat.zero_le, ne_eq, qk_wi, ql_wi, qr_wi, qj_wi, qt_wi, qk_wj, ql_wj, qr_wj, qi_wj, qt_wj, qk_wr, ql_wr, qi_wr, qj_wr, qt_wr, qi_ws, qj_ws, qr_ws, Int.toNat_natCast, Int.toNat_zero, Int.reduceToNat, not_true_eq_false, not_false_eq_true, false_implies, implies_true, Option.some.injEq, reduceCtorEq, Sp0, true_or, or_true, or_self, wi_wi, wj_wj]); (repeat' (first | (with_reducible refine And.intro ?_ ?_) | (with_reducible intro))); (all_goals (try (first | assumption | omega | (unfold inI; omega))))))
      · rename_i hb1
        rw [if_neg hb1] at ih
        obtain ⟨k, q1, q2, -⟩ : ∃ k, k < C1 ∧ B = (k : Int) ∧ True := by
          rcases hB with q | ⟨k, q1, q2, -⟩
          · exact absurd q hb1
          · exact ⟨k, q1, q2, trivial⟩
        subst q2
        have hM2 := bt_lt (k := 24) (N := M) (i := k) hM (by omega)
        rw [bt_set (by omega) (by omega)]
        have := ih (N ||| 2 ^ A) (M ||| 2 ^ k) (fu g A k) (some (vi A)) (some (vi (F0' A))) (some (vi k)) (by omega) (by omega) (fun k2 hk => by
          rw [bt_or, e1 k2 hk, or_fu]) (fun k2 hk => by
          rw [bt_or, e2 k2 hk, Int.toNat_natCast, or_fu]) (fun k2 hk => by
          unfold fu
          by_cases e : k2 = A <;> simp [e, e3 k2 hk])
        exact this
  all_goals (try ((first | (refine s_X6_pairLots_0 x ok _ _ _ _ ?_) | (refine s_X6_pairLots_61 x ok _ _ _ _ ?_) | (refine s_X6_pairLots_132 x ok _ _ _ _ ?_) | (refine s_X6_pairLots_138 x ok _ _ _ _ ?_) | (refine c_fillI hS.k4 (by rw [hS.l4]; omega) ?_)); (try simp only [wpS, o_c, o_cl, o_il, o_ll, o_al, o_is, o_ls, o_as, o_inc, o_add, o_sub, o_mul, o_and, o_or, o_xor, o_shl, o_shr, o_div, o_neg, o_ladd, o_lsub, o_lmul, o_ldiv, o_lrem, o_lneg, o_lcmp, o_i2l, o_l2i, o_dup, o_dup2, o_pop, o_go, o_nn, o_sw, swc, o_iret, o_zret, o_lret, o_vret, o_ieq, o_eq0, o_ine, o_ne0, o_ilt, o_lt0, o_ige, o_ge0, o_igt, o_gt0, o_ile, o_le0, o_iald, o_zald, o_lald, o_aald, o_iast, o_zast, o_last, o_aast, o_alen, o_gi, o_gr, o_pi, o_pz, o_pr, o_new, o_newa, o_copy, o_oinit, o_call, o_callV, o_callVc, o_callI, popn, cnO, o_BAD, lgt, lst, isL, kil, st1, st2, entL, List.length_nil, List.length_cons, List.replicate, Nat.reduceAdd, Nat.reduceLeDiff, Nat.reduceSub, true_and, and_true, Nat.zero_le, ne_eq, qk_wi, ql_wi, qr_wi, qj_wi, qt_wi, qk_wj, ql_wj, qr_wj, qi_wj, qt_wj, qk_wr, ql_wr, qi_wr, qj_wr, qt_wr, qi_ws, qj_ws, qr_ws, Int.toNat_natCast, Int.toNat_zero, Int.reduceToNat, not_true_eq_false, not_false_eq_true, false_implies, implies_true, Option.some.injEq, reduceCtorEq, Sp0, true_or, or_true, or_self, wi_wi, wj_wj, hS.k, hS.r3, hS.k4, hS.l4]); (repeat' (first | (with_reducible refine And.intro ?_ ?_) | (with_reducible intro))); (all_goals (try (first | assumption | omega | (unfold inI; omega))))))
  all_goals (try ((first | (refine s_X6_pairLots_0 x ok _ _ _ _ ?_) | (refine s_X6_pairLots_61 x ok _ _ _ _ ?_) | (refine s_X6_pairLots_132 x ok _ _ _ _ ?_) | (refine s_X6_pairLots_138 x ok _ _ _ _ ?_) | (refine c_fillI hS.k4 (by rw [hS.l4]; omega) ?_)); (try simp only [wpS, o_c, o_cl, o_il, o_ll, o_al, o_is, o_ls, o_as, o_inc, o_add, o_sub, o_mul, o_and, o_or, o_xor, o_shl, o_shr, o_div, o_neg, o_ladd, o_lsub, o_lmul, o_ldiv, o_lrem, o_lneg, o_lcmp, o_i2l, o_l2i, o_dup, o_dup2, o_pop, o_go, o_nn, o_sw, swc, o_iret, o_zret, o_lret, o_vret, o_ieq, o_eq0, o_ine, o_ne0, o_ilt, o_lt0, o_ige, o_ge0, o_igt, o_gt0, o_ile, o_le0, o_iald, o_zald, o_lald, o_aald, o_iast, o_zast, o_last, o_aast, o_alen, o_gi, o_gr, o_pi, o_pz, o_pr, o_new, o_newa, o_copy, o_oinit, o_call, o_callV, o_callVc, o_callI, popn, cnO, o_BAD, lgt, lst, isL, kil, st1, st2, entL, List.length_nil, List.length_cons, List.replicate, Nat.reduceAdd, Nat.reduceLeDiff, Nat.reduceSub, true_and, and_true, Nat.zero_le, ne_eq, qk_wi, ql_wi, qr_wi, qj_wi, qt_wi, qk_wj, ql_wj, qr_wj, qi_wj, qt_wj, qk_wr, ql_wr, qi_wr, qj_wr, qt_wr, qi_ws, qj_ws, qr_ws, Int.toNat_natCast, Int.toNat_zero, Int.reduceToNat, not_true_eq_false, not_false_eq_true, false_implies, implies_true, Option.some.injEq, reduceCtorEq, Sp0, true_or, or_true, or_self, wi_wi, wj_wj, hS.k, hS.r3, hS.k4, hS.l4]); (repeat' (first | (with_reducible refine And.intro ?_ ?_) | (with_reducible intro))); (all_goals (try (first | assumption | omega | (unfold inI; omega))))))
  have := loop 0 (by omega) 0 0 (fillF (qi h (a + 4)) 0 24 (-1)) none none none (by omega) (by omega) (fun k _ => by simp [mtS]) (fun k _ => by simp [mtS]) (fun k hk => by
    unfold fillF mtS
    rw [if_pos (by omega)])
  exact this
theorem c_pairLots {h : Hp} {a : Nat} {lo hi : Int} {d : Dd} {K : RT} (hS : Stt h a d) (h1 : -30000 ≤ lo ∧ lo ≤ 30000) (h2 : -30000 ≤ hi ∧ hi ≤ 30000) (h3 : ∀ g : Nat → Int, (∀ k, k < 24 → g k = (mtS (dpt d 0) (dpt d 1) (dct d 0).toNat (dct d 1).toNat lo hi (dct d 0).toNat).2.2.1 k) → K (some (vi (mtS (dpt d 0) (dpt d 1) (dct d 0).toNat (dct d 1).toNat lo hi (dct d 0).toNat).2.2.2)) (wi h (a + 4) g)) : T_X6_pairLots [vr (some a), vi lo, vi hi] h K := ⟨a, lo, hi, d, rfl, hS, h1, h2, h3⟩

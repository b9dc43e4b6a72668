/-! ===== Spread.seekNarrowest ===== -/
/-- the cells from a to before b hold enough -/
def enough (g : Nat → Int) (W need : Int) (a b : Nat) : Prop := need ≤ (sg g b - sg g a) * W
/-- a .. b is the narrowest run, of several the lowest -/
def narP (g : Nat → Int) (N : Nat) (W need : Int) (a b : Nat) : Prop := a ≤ b ∧ b < N ∧ enough g W need a (b + 1) ∧ ∀ a' b', a' ≤ b' → b' < N → enough g W need a' (b' + 1) → b - a < b' - a' ∨ (b - a = b' - a' ∧ a ≤ a')
theorem narP_u {g : Nat → Int} {N : Nat} {W need : Int} {a b a2 b2 : Nat} (h : narP g N W need a b) (h2 : narP g N W need a2 b2) : a = a2 ∧ b = b2 := by
  have e1 := h.2.2.2 a2 b2 h2.1 h2.2.1 h2.2.2.1
  have e2 := h2.2.2.2 a b h.1 h.2.1 h.2.2.1
  have := h.1
  have := h2.1
  omega
theorem sg_mono {g : Nat → Int} {N : Nat} (hg : ∀ k, k < N → 0 ≤ g k) {a b : Nat} (h : a ≤ b) (hb : b ≤ N) : sg g a ≤ sg g b := by
  induction b with
  | zero => rw [show a = 0 by omega]; exact Int.le_refl _
  | succ b ih =>
    by_cases e : a = b + 1
    · rw [e]; exact Int.le_refl _
    · have := ih (by omega) (by omega)
      have := hg b (by omega)
      rw [sg_s]; omega
def T_X5_seekNarrowest : TT := fun as h0 K => ∃ (h : Hp) (S R N : Nat) (need W : Int) (f ca cb g : Nat → Int), as = [vr (some S), vl need, vi W] ∧ h0 = ws h S R f ca cb g ∧ isSp h S R ∧ f 0 = (N : Int) ∧ f 1 = 1 ∧ 0 < N ∧ N ≤ ql h R ∧ (∀ k, k < N → 0 ≤ g k) ∧ sg g N ≤ 1000000000000 ∧ (1 ≤ W ∧ W ≤ 1000) ∧ 0 < need ∧ need ≤ sg g N * W ∧ ∀ (f2 : Nat → Int) (a b : Nat), f2 2 = (a : Int) → f2 3 = (b : Int) → narP g N W need a b → K none (ws h S R f2 ca cb g)
theorem c_seekNarrowest {h : Hp} {S R N : Nat} {need W : Int} {f ca cb g : Nat → Int} {K : RT} (h1 : isSp h S R) (h2 : f 0 = (N : Int)) (h3 : f 1 = 1) (h4 : 0 < N) (h5 : N ≤ ql h R) (h6 : ∀ k, k < N → 0 ≤ g k) (h7 : sg g N ≤ 1000000000000) (h8 : 1 ≤ W ∧ W ≤ 1000) (h9 : 0 < need) (h10 : need ≤ sg g N * W) (h11 : ∀ (f2 : Nat → Int) (a b : Nat), f2 2 = (a : Int) → f2 3 = (b : Int) → narP g N W need a b → K none (ws h S R f2 ca cb g)) : T_X5_seekNarrowest [vr (some S), vl need, vi W] (ws h S R f ca cb g) K := ⟨h, S, R, N, need, W, f, ca, cb, g, rfl, rfl, h1, h2, h3, h4, h5, h6, h7, h8, h9, h10, h11⟩
abbrev i_X5_seekNarrowest : MI := (cX5_seekNarrowest, 8, RX5, none, "seekNarrowest", 3)
theorem k_X5_seekNarrowest_0 : Okop i_X5_seekNarrowest 0 (o_al 0) 1 := k_aln (j := 0) (by decide +kernel)
theorem k_X5_seekNarrowest_1 : Okop i_X5_seekNarrowest 1 (o_c 0) 2 := k_iconst (by decide +kernel)
theorem k_X5_seekNarrowest_2 : Okop i_X5_seekNarrowest 2 (o_pi 5 2) 5 := k_pi (idx := 62) fo_5 (by decide) (by decide) gw_195 (by decide +kernel) (.inl rfl)
theorem k_X5_seekNarrowest_5 : Okop i_X5_seekNarrowest 5 (o_al 0) 6 := k_aln (j := 0) (by decide +kernel)
theorem k_X5_seekNarrowest_6 : Okop i_X5_seekNarrowest 6 (o_al 0) 7 := k_aln (j := 0) (by decide +kernel)
theorem k_X5_seekNarrowest_7 : Okop i_X5_seekNarrowest 7 (o_gi 5 0) 10 := k_gi (idx := 65) fo_5 (by decide) (by decide) gw_191 (by decide +kernel)
theorem k_X5_seekNarrowest_10 : Okop i_X5_seekNarrowest 10 (o_c 1) 11 := k_iconst (by decide +kernel)
theorem k_X5_seekNarrowest_11 : Okop i_X5_seekNarrowest 11 (o_sub) 12 := k_sub (by decide +kernel)
theorem k_X5_seekNarrowest_12 : Okop i_X5_seekNarrowest 12 (o_pi 5 3) 15 := k_pi (idx := 68) fo_5 (by decide) (by decide) gw_197 (by decide +kernel) (.inl rfl)
theorem k_X5_seekNarrowest_15 : Okop i_X5_seekNarrowest 15 (o_cl 0) 16 := k_lconst (n := 0) (by decide +kernel) rfl
theorem k_X5_seekNarrowest_16 : Okop i_X5_seekNarrowest 16 (o_ls 4) 18 := k_ls (by decide +kernel) (by decide)
theorem k_X5_seekNarrowest_18 : Okop i_X5_seekNarrowest 18 (o_c 0) 19 := k_iconst (by decide +kernel)
theorem k_X5_seekNarrowest_19 : Okop i_X5_seekNarrowest 19 (o_is 6) 21 := k_is (by decide +kernel) (by decide)
theorem k_X5_seekNarrowest_21 : Okop i_X5_seekNarrowest 21 (o_c 0) 22 := k_iconst (by decide +kernel)
theorem k_X5_seekNarrowest_22 : Okop i_X5_seekNarrowest 22 (o_is 7) 24 := k_is (by decide +kernel) (by decide)
theorem k_X5_seekNarrowest_24 : Okop i_X5_seekNarrowest 24 (o_il 7) 26 := k_il (by decide +kernel)
theorem k_X5_seekNarrowest_26 : Okop i_X5_seekNarrowest 26 (o_al 0) 27 := k_aln (j := 0) (by decide +kernel)
theorem k_X5_seekNarrowest_27 : Okop i_X5_seekNarrowest 27 (o_gi 5 0) 30 := k_gi (idx := 65) fo_5 (by decide) (by decide) gw_191 (by decide +kernel)
theorem k_X5_seekNarrowest_30 : Okop i_X5_seekNarrowest 30 (o_ige 132) 33 := k_ige (off := 102) (by decide +kernel) (by decide)
theorem k_X5_seekNarrowest_33 : Okop i_X5_seekNarrowest 33 (o_il 6) 35 := k_il (by decide +kernel)
theorem k_X5_seekNarrowest_35 : Okop i_X5_seekNarrowest 35 (o_al 0) 36 := k_aln (j := 0) (by decide +kernel)
theorem k_X5_seekNarrowest_36 : Okop i_X5_seekNarrowest 36 (o_gi 5 0) 39 := k_gi (idx := 65) fo_5 (by decide) (by decide) gw_191 (by decide +kernel)
theorem k_X5_seekNarrowest_39 : Okop i_X5_seekNarrowest 39 (o_ige 70) 42 := k_ige (off := 31) (by decide +kernel) (by decide)
theorem k_X5_seekNarrowest_42 : Okop i_X5_seekNarrowest 42 (o_ll 4) 44 := k_ll (by decide +kernel)
theorem k_X5_seekNarrowest_44 : Okop i_X5_seekNarrowest 44 (o_il 3) 45 := k_iln (j := 3) (by decide +kernel)
theorem k_X5_seekNarrowest_45 : Okop i_X5_seekNarrowest 45 (o_i2l) 46 := k_i2l (by decide +kernel)
theorem k_X5_seekNarrowest_46 : Okop i_X5_seekNarrowest 46 (o_lmul) 47 := k_lmul (by decide +kernel)
theorem k_X5_seekNarrowest_47 : Okop i_X5_seekNarrowest 47 (o_ll 1) 48 := k_lln (j := 1) (by decide +kernel)
theorem k_X5_seekNarrowest_48 : Okop i_X5_seekNarrowest 48 (o_lcmp) 49 := k_lcmp (by decide +kernel)
theorem k_X5_seekNarrowest_49 : Okop i_X5_seekNarrowest 49 (o_ge0 70) 52 := k_ge0 (off := 21) (by decide +kernel) (by decide)
theorem k_X5_seekNarrowest_52 : Okop i_X5_seekNarrowest 52 (o_ll 4) 54 := k_ll (by decide +kernel)
theorem k_X5_seekNarrowest_54 : Okop i_X5_seekNarrowest 54 (o_al 0) 55 := k_aln (j := 0) (by decide +kernel)
theorem k_X5_seekNarrowest_55 : Okop i_X5_seekNarrowest 55 (o_il 6) 57 := k_il (by decide +kernel)
theorem k_X5_seekNarrowest_57 : Okop i_X5_seekNarrowest 57 (o_c 0) 58 := k_iconst (by decide +kernel)
theorem k_X5_seekNarrowest_58 : Okop i_X5_seekNarrowest 58 (o_callV 5 2 T_X5_at) 61 := k_callV (idx := 71) (r0 := (RX5, TX5, 9)) m_X5_at ⟨gw_480, gw_8, ⟨by decide, by decide, by decide +kernel⟩, by decide, by decide⟩ rfl gw_511 gw_478 gw_479 (by decide +kernel)
theorem k_X5_seekNarrowest_61 : Okop i_X5_seekNarrowest 61 (o_ladd) 62 := k_ladd (by decide +kernel)
theorem k_X5_seekNarrowest_62 : Okop i_X5_seekNarrowest 62 (o_ls 4) 64 := k_ls (by decide +kernel) (by decide)
theorem k_X5_seekNarrowest_64 : Okop i_X5_seekNarrowest 64 (o_inc 6 1) 67 := k_inc (by decide +kernel) (by decide)
theorem k_X5_seekNarrowest_67 : Okop i_X5_seekNarrowest 67 (o_go 33) 70 := k_go (off := -34) (by decide +kernel) (by decide)
theorem k_X5_seekNarrowest_70 : Okop i_X5_seekNarrowest 70 (o_ll 4) 72 := k_ll (by decide +kernel)
theorem k_X5_seekNarrowest_72 : Okop i_X5_seekNarrowest 72 (o_il 3) 73 := k_iln (j := 3) (by decide +kernel)
theorem k_X5_seekNarrowest_73 : Okop i_X5_seekNarrowest 73 (o_i2l) 74 := k_i2l (by decide +kernel)
theorem k_X5_seekNarrowest_74 : Okop i_X5_seekNarrowest 74 (o_lmul) 75 := k_lmul (by decide +kernel)
theorem k_X5_seekNarrowest_75 : Okop i_X5_seekNarrowest 75 (o_ll 1) 76 := k_lln (j := 1) (by decide +kernel)
theorem k_X5_seekNarrowest_76 : Okop i_X5_seekNarrowest 76 (o_lcmp) 77 := k_lcmp (by decide +kernel)
theorem k_X5_seekNarrowest_77 : Okop i_X5_seekNarrowest 77 (o_ge0 81) 80 := k_ge0 (off := 4) (by decide +kernel) (by decide)
theorem k_X5_seekNarrowest_80 : Okop i_X5_seekNarrowest 80 (o_vret) 81 := k_vret (by decide +kernel) rfl
theorem k_X5_seekNarrowest_81 : Okop i_X5_seekNarrowest 81 (o_il 6) 83 := k_il (by decide +kernel)
theorem k_X5_seekNarrowest_83 : Okop i_X5_seekNarrowest 83 (o_c 1) 84 := k_iconst (by decide +kernel)
theorem k_X5_seekNarrowest_84 : Okop i_X5_seekNarrowest 84 (o_sub) 85 := k_sub (by decide +kernel)
theorem k_X5_seekNarrowest_85 : Okop i_X5_seekNarrowest 85 (o_il 7) 87 := k_il (by decide +kernel)
theorem k_X5_seekNarrowest_87 : Okop i_X5_seekNarrowest 87 (o_sub) 88 := k_sub (by decide +kernel)
theorem k_X5_seekNarrowest_88 : Okop i_X5_seekNarrowest 88 (o_al 0) 89 := k_aln (j := 0) (by decide +kernel)
theorem k_X5_seekNarrowest_89 : Okop i_X5_seekNarrowest 89 (o_gi 5 3) 92 := k_gi (idx := 68) fo_5 (by decide) (by decide) gw_197 (by decide +kernel)
theorem k_X5_seekNarrowest_92 : Okop i_X5_seekNarrowest 92 (o_al 0) 93 := k_aln (j := 0) (by decide +kernel)
theorem k_X5_seekNarrowest_93 : Okop i_X5_seekNarrowest 93 (o_gi 5 2) 96 := k_gi (idx := 62) fo_5 (by decide) (by decide) gw_195 (by decide +kernel)
theorem k_X5_seekNarrowest_96 : Okop i_X5_seekNarrowest 96 (o_sub) 97 := k_sub (by decide +kernel)
theorem k_X5_seekNarrowest_97 : Okop i_X5_seekNarrowest 97 (o_ige 114) 100 := k_ige (off := 17) (by decide +kernel) (by decide)
theorem k_X5_seekNarrowest_100 : Okop i_X5_seekNarrowest 100 (o_al 0) 101 := k_aln (j := 0) (by decide +kernel)
theorem k_X5_seekNarrowest_101 : Okop i_X5_seekNarrowest 101 (o_il 7) 103 := k_il (by decide +kernel)
theorem k_X5_seekNarrowest_103 : Okop i_X5_seekNarrowest 103 (o_pi 5 2) 106 := k_pi (idx := 62) fo_5 (by decide) (by decide) gw_195 (by decide +kernel) (.inl rfl)
theorem k_X5_seekNarrowest_106 : Okop i_X5_seekNarrowest 106 (o_al 0) 107 := k_aln (j := 0) (by decide +kernel)
theorem k_X5_seekNarrowest_107 : Okop i_X5_seekNarrowest 107 (o_il 6) 109 := k_il (by decide +kernel)
theorem k_X5_seekNarrowest_109 : Okop i_X5_seekNarrowest 109 (o_c 1) 110 := k_iconst (by decide +kernel)
theorem k_X5_seekNarrowest_110 : Okop i_X5_seekNarrowest 110 (o_sub) 111 := k_sub (by decide +kernel)
theorem k_X5_seekNarrowest_111 : Okop i_X5_seekNarrowest 111 (o_pi 5 3) 114 := k_pi (idx := 68) fo_5 (by decide) (by decide) gw_197 (by decide +kernel) (.inl rfl)
theorem k_X5_seekNarrowest_114 : Okop i_X5_seekNarrowest 114 (o_ll 4) 116 := k_ll (by decide +kernel)
theorem k_X5_seekNarrowest_116 : Okop i_X5_seekNarrowest 116 (o_al 0) 117 := k_aln (j := 0) (by decide +kernel)
theorem k_X5_seekNarrowest_117 : Okop i_X5_seekNarrowest 117 (o_il 7) 119 := k_il (by decide +kernel)
theorem k_X5_seekNarrowest_119 : Okop i_X5_seekNarrowest 119 (o_c 0) 120 := k_iconst (by decide +kernel)
theorem k_X5_seekNarrowest_120 : Okop i_X5_seekNarrowest 120 (o_callV 5 2 T_X5_at) 123 := k_callV (idx := 71) (r0 := (RX5, TX5, 9)) m_X5_at ⟨gw_480, gw_8, ⟨by decide, by decide, by decide +kernel⟩, by decide, by decide⟩ rfl gw_511 gw_478 gw_479 (by decide +kernel)
theorem k_X5_seekNarrowest_123 : Okop i_X5_seekNarrowest 123 (o_lsub) 124 := k_lsub (by decide +kernel)
theorem k_X5_seekNarrowest_124 : Okop i_X5_seekNarrowest 124 (o_ls 4) 126 := k_ls (by decide +kernel) (by decide)
theorem k_X5_seekNarrowest_126 : Okop i_X5_seekNarrowest 126 (o_inc 7 1) 129 := k_inc (by decide +kernel) (by decide)
theorem k_X5_seekNarrowest_129 : Okop i_X5_seekNarrowest 129 (o_go 24) 132 := k_go (off := -105) (by decide +kernel) (by decide)
theorem k_X5_seekNarrowest_132 : Okop i_X5_seekNarrowest 132 (o_vret) 133 := k_vret (by decide +kernel) rfl
theorem s_X5_seekNarrowest_0 : Seg i_X5_seekNarrowest 0 [o_al 0, o_c 0, o_pi 5 2, o_al 0, o_al 0, o_gi 5 0, o_c 1, o_sub, o_pi 5 3, o_cl 0, o_ls 4, o_c 0, o_is 6, o_c 0, o_is 7] 24 := Seg.cons k_X5_seekNarrowest_0 (Seg.cons k_X5_seekNarrowest_1 (Seg.cons k_X5_seekNarrowest_2 (Seg.cons k_X5_seekNarrowest_5 (Seg.cons k_X5_seekNarrowest_6 (Seg.cons k_X5_seekNarrowest_7 (Seg.cons k_X5_seekNarrowest_10 (Seg.cons k_X5_seekNarrowest_11 (Seg.cons k_X5_seekNarrowest_12 (Seg.cons k_X5_seekNarrowest_15 (Seg.cons k_X5_seekNarrowest_16 (Seg.cons k_X5_seekNarrowest_18 (Seg.cons k_X5_seekNarrowest_19 (Seg.cons k_X5_seekNarrowest_21 (Seg.cons k_X5_seekNarrowest_22 (Seg.nil)))))))))))))))
theorem s_X5_seekNarrowest_24 : Seg i_X5_seekNarrowest 24 [o_il 7, o_al 0, o_gi 5 0, o_ige 132] 33 := Seg.cons k_X5_seekNarrowest_24 (Seg.cons k_X5_seekNarrowest_26 (Seg.cons k_X5_seekNarrowest_27 (Seg.cons k_X5_seekNarrowest_30 (Seg.nil))))
theorem s_X5_seekNarrowest_33 : Seg i_X5_seekNarrowest 33 [o_il 6, o_al 0, o_gi 5 0, o_ige 70, o_ll 4, o_il 3, o_i2l, o_lmul, o_ll 1, o_lcmp, o_ge0 70, o_ll 4, o_al 0, o_il 6, o_c 0, o_callV 5 2 T_X5_at, o_ladd, o_ls 4, o_inc 6 1, o_go 33] 70 := Seg.cons k_X5_seekNarrowest_33 (Seg.cons k_X5_seekNarrowest_35 (Seg.cons k_X5_seekNarrowest_36 (Seg.cons k_X5_seekNarrowest_39 (Seg.cons k_X5_seekNarrowest_42 (Seg.cons k_X5_seekNarrowest_44 (Seg.cons k_X5_seekNarrowest_45 (Seg.cons k_X5_seekNarrowest_46 (Seg.cons k_X5_seekNarrowest_47 (Seg.cons k_X5_seekNarrowest_48 (Seg.cons k_X5_seekNarrowest_49 (Seg.cons k_X5_seekNarrowest_52 (Seg.cons k_X5_seekNarrowest_54 (Seg.cons k_X5_seekNarrowest_55 (Seg.cons k_X5_seekNarrowest_57 (Seg.cons k_X5_seekNarrowest_58 (Seg.cons k_X5_seekNarrowest_61 (Seg.cons k_X5_seekNarrowest_62 (Seg.cons k_X5_seekNarrowest_64 (Seg.cons k_X5_seekNarrowest_67 (Seg.nil))))))))))))))))))))
theorem s_X5_seekNarrowest_70 : Seg i_X5_seekNarrowest 70 [o_ll 4, o_il 3, o_i2l, o_lmul, o_ll 1, o_lcmp, o_ge0 81, o_vret] 81 := Seg.cons k_X5_seekNarrowest_70 (Seg.cons k_X5_seekNarrowest_72 (Seg.cons k_X5_seekNarrowest_73 (Seg.cons k_X5_seekNarrowest_74 (Seg.cons k_X5_seekNarrowest_75 (Seg.cons k_X5_seekNarrowest_76 (Seg.cons k_X5_seekNarrowest_77 (Seg.cons k_X5_seekNarrowest_80 (Seg.nil))))))))
theorem s_X5_seekNarrowest_81 : Seg i_X5_seekNarrowest 81 [o_il 6, o_c 1, o_sub, o_il 7, o_sub, o_al 0, o_gi 5 3, o_al 0, o_gi 5 2, o_sub, o_ige 114, o_al 0, o_il 7, o_pi 5 2, o_al 0, o_il 6, o_c 1, o_sub, o_pi 5 3, o_ll 4, o_al 0, o_il 7, o_c 0, o_callV 5 2 T_X5_at, o_lsub, o_ls 4, o_inc 7 1, o_go 24] 132 := Seg.cons k_X5_seekNarrowest_81 (Seg.cons k_X5_seekNarrowest_83 (Seg.cons k_X5_seekNarrowest_84 (Seg.cons k_X5_seekNarrowest_85 (Seg.cons k_X5_seekNarrowest_87 (Seg.cons k_X5_seekNarrowest_88 (Seg.cons k_X5_seekNarrowest_89 (Seg.cons k_X5_seekNarrowest_92 (Seg.cons k_X5_seekNarrowest_93 (Seg.cons k_X5_seekNarrowest_96 (Seg.cons k_X5_seekNarrowest_97 (Seg.cons k_X5_seekNarrowest_100 (Seg.cons k_X5_seekNarrowest_101 (Seg.cons k_X5_seekNarrowest_103 (Seg.cons k_X5_seekNarrowest_106 (Seg.cons k_X5_seekNarrowest_107 (Seg.cons k_X5_seekNarrowest_109 (Seg.cons k_X5_seekNarrowest_110 (Seg.cons k_X5_seekNarrowest_111 (Seg.cons k_X5_seekNarrowest_114 (Seg.cons k_X5_seekNarrowest_116 (Seg.cons k_X5_seekNarrowest_117 (Seg.cons k_X5_seekNarrowest_119 (Seg.cons k_X5_seekNarrowest_120 (Seg.cons k_X5_seekNarrowest_123 (Seg.cons k_X5_seekNarrowest_124 (Seg.cons k_X5_seekNarrowest_126 (Seg.cons k_X5_seekNarrowest_129 (Seg.nil))))))))))))))))))))))))))))
theorem s_X5_seekNarrowest_114 : Seg i_X5_seekNarrowest 114 [o_ll 4, o_al 0, o_il 7, o_c 0, o_callV 5 2 T_X5_at, o_lsub, o_ls 4, o_inc 7 1, o_go 24] 132 := Seg.cons k_X5_seekNarrowest_114 (Seg.cons k_X5_seekNarrowest_116 (Seg.cons k_X5_seekNarrowest_117 (Seg.cons k_X5_seekNarrowest_119 (Seg.cons k_X5_seekNarrowest_120 (Seg.cons k_X5_seekNarrowest_123 (Seg.cons k_X5_seekNarrowest_124 (Seg.cons k_X5_seekNarrowest_126 (Seg.cons k_X5_seekNarrowest_129 (Seg.nil)))))))))
theorem s_X5_seekNarrowest_132 : Seg i_X5_seekNarrowest 132 [o_vret] 133 := Seg.cons k_X5_seekNarrowest_132 (Seg.nil)

theorem m_X5_seekNarrowest : Mth yX5_seekNarrowest cX5_seekNarrowest 8 none 3 (Sp0 T_X5_seekNarrowest) := by
  refine Mth.of (by decide) ?_
  rintro x as h0 ok ⟨h, S, R, N, need, W, f, ca, cb, g, rfl, rfl, hSp, hf0, hf1, hN0, hN, hg, hG, hW, hn0, hn, hK⟩
  obtain ⟨k0, r4, r6, r7, k2, l2, k3, l3, kR, lR⟩ := id hSp
  refine ⟨Nat.le_of_ble_eq_true rfl, ?_⟩
  have pm : ∀ {a b : Nat}, a ≤ b → b ≤ N → sg g a ≤ sg g b := fun h1 h2 => sg_mono hg h1 h2
  have p0 : sg g 0 = 0 := rfl
  have inP : ∀ a b, a ≤ b → b ≤ N → 0 ≤ (sg g b - sg g a) * W ∧ (sg g b - sg g a) * W ≤ 1000000000000 * 1000 := fun a b h1 h2 => by
    have m1 := pm h1 h2
    have m2 := pm (Nat.zero_le a) (Nat.le_trans h1 h2)
    have m3 := pm h2 (Nat.le_refl _)
    exact ⟨Int.mul_nonneg (by omega) (by omega), Int.mul_le_mul (by omega) (by omega) (by omega) (by omega)⟩
  have hnL : inL need := by
    have := inP 0 N (Nat.zero_le _) (Nat.le_refl _)
    rw [sg_0, Int.sub_zero] at this
    unfold inL
    omega
  have enm : ∀ {a a' b b' : Nat}, a ≤ a' → b' ≤ b → a' ≤ N → b ≤ N → enough g W need a' b' → enough g W need a b := fun {a a' b b'} h1 h2 h3 h4 he => by
    unfold enough at *
    have m1 := pm h1 h3
    have m2 := pm h2 h4
    have : (sg g b' - sg g a') * W ≤ (sg g b - sg g a) * W := Int.mul_le_mul_of_nonneg_right (by omega) (by omega)
    omega
  have en0 : ∀ a, ¬ enough g W need a a := fun a he => by
    unfold enough at he
    rw [Int.sub_self, Int.zero_mul] at he
    omega
  have atv : ∀ (f2 : Nat → Int) (j : Nat) (K : RT), f2 1 = 1 → j < N → K (some (vl (g j))) (ws h S R f2 ca cb g) → T_X5_at [vr (some S), vi j, vi 0] (ws h S R f2 ca cb g) K := fun f2 j K h1 h2 hk => by
    refine c_at (R := R) hSp ?_
    rw [qsS, h1, Int.mul_one, Int.add_zero]
    refine ⟨by unfold inI; omega, ?_⟩
    rw [if_pos ⟨by omega, by rw [ql_ws]; omega⟩, qsR, Int.toNat_natCast]
    exact hk
  -- what is known before the runs from fr on are looked at
  have outer : ∀ fr, fr ≤ N → ∀ (f2 : Nat → Int) (nx a b : Nat), (∀ j, j ≠ 2 → j ≠ 3 → f2 j = f j) → f2 2 = (a : Int) → f2 3 = (b : Int) → fr ≤ nx → nx ≤ N → (∀ e, e < nx → ¬ enough g W need fr e) → a ≤ b → b < N → a ≤ fr → enough g W need a (b + 1) → (∀ a' b', a' < fr → a' ≤ b' → b' < N → enough g W need a' (b' + 1) → b - a < b' - a' ∨ (b - a = b' - a' ∧ a ≤ a')) → V i_X5_seekNarrowest x 24 [some (vr (some S)), some (vl need), none, some (vi W), some (vl (sg g nx - sg g fr)), none, some (vi nx), some (vi fr)] [] (ws h S R f2 ca cb g) (0, 0) := by
    refine bwd _ ?_ ?_
    · intro f2 nx a b q1 q2 q3 q4 q5 q6 q7 q8 q9 q10 q11
      refine s_X5_seekNarrowest_24 x ok _ _ _ _ ?_
      simp only [wpS, o_c, o_cl, o_il, o_ll, o_al, o_is, o_ls, o_as, o_inc, o_add, o_sub, o_mul, o_and, o_or, o_xor, o_shl, o_shr, o_div, o_neg, o_ladd, o_lsub, o_lmul, o_ldiv, o_lrem, o_lneg, o_lcmp, o_i2l, o_l2i, o_dup, o_dup2, o_pop, o_go, o_nn, o_sw, swc, o_iret, o_zret, o_lret, o_vret, o_ieq, o_eq0, o_ine, o_ne0, o_ilt, o_lt0, o_ige, o_ge0, o_igt, o_gt0, o_ile, o_le0, o_iald, o_zald, o_lald, o_aald, o_iast, o_zast, o_last, o_aast, o_alen, o_gi, o_gr, o_pi, o_pz, o_pr, o_new, o_newa, o_copy, o_oinit, o_call, o_callV, o_callVc, o_callI, popn, cnO, o_BAD, lgt, lst, isL, kil, st1, st2, entL, List.length_nil, List.length_cons, List.replicate, Nat.reduceAdd, Nat.reduceLeDiff, Nat.reduceSub, true_and, and_true, Nat.zero_le, ne_eq, qk_wi, ql_wi, qr_wi, qj_wi, qt_wi, qk_wj, ql_wj, qr_wj, qi_wj, qt_wj, qk_wr, ql_wr, qi_wr, qj_wr, qt_wr, qi_ws, qj_ws, qr_ws, Int.toNat_natCast, Int.toNat_zero, Int.reduceToNat, not_true_eq_false, not_false_eq_true, false_implies, implies_true, Option.some.injEq, reduceCtorEq, Sp0, true_or, or_true, or_self, wi_wi, wj_wj, qk_ws, qsS, k0, q1 0 (by omega) (by omega), hf0]
      repeat' (first | (with_reducible refine And.intro ?_ ?_) | (with_reducible intro))
      all_goals (try (first | assumption | omega | (unfold inI; omega)))
      all_goals (try ((first | (refine s_X5_seekNarrowest_0 x ok _ _ _ _ ?_) | (refine s_X5_seekNarrowest_70 x ok _ _ _ _ ?_) | (refine s_X5_seekNarrowest_81 x ok _ _ _ _ ?_) | (refine s_X5_seekNarrowest_114 x ok _ _ _ _ ?_) | (refine s_X5_seekNarrowest_132 x ok _ _ _ _ ?_)); (try simp only [wpS, o_c, o_cl, o_il, o_ll, o_al, o_is, o_ls, o_as, o_inc, o_add, o_sub, o_mul, o_and, o_or, o_xor, o_shl, o_shr, o_div, o_neg, o_ladd, o_lsub, o_lmul, o_ldiv, o_lrem, o_lneg, o_lcmp, o_i2l, o_l2i, o_dup, o_dup2, o_pop, o_go, o_nn, o_sw, swc, o_iret, o_zret, o_lret, o_vret, o_ieq, o_eq0, o_ine, o_ne0, o_ilt, o_lt0, o_ige, o_ge0, o_igt, o_gt0, o_ile, o_le0, o_iald, o_zald, o_lald, o_aald, o_iast, o_zast, o_last, o_aast, o_alen, o_gi, o_gr, o_pi, o_pz, o_pr, o_new, o_newa, o_copy, o_oinit, o_call, o_callV, o_callVc, o_callI, popn, cnO, o_BAD, lgt, lst, isL, kil, st1, st2, entL, List.length_nil, List.length_cons, List.replicate, Nat.reduceAdd, Nat.reduceLeDiff, Nat.reduceSub, true_and, and_true, Nat.zero_le, ne_eq, qk_wi, ql_wi, qr_wi, qj_wi, qt_wi, qk_wj, ql_wj, qr_wj, qi_wj, qt_wj, qk_wr, ql_wr, qi_wr, qj_wr, qt_wr, qi_ws, qj_ws, qr_ws, Int.toNat_natCast, Int.toNat_zero, Int.reduceToNat, not_true_eq_false, not_false_eq_true, false_implies, implies_true, Option.some.injEq, reduceCtorEq, Sp0, true_or, or_true, or_self, wi_wi, wj_wj]); (repeat' (first | (with_reducible refine And.intro ?_ ?_) | (with_reducible intro))); (all_goals (try (first | assumption | omega | (unfold inI; omega))))))
      exact hK f2 a b q2 q3 ⟨q7, q8, q10, fun a' b' h1 h2 h3 => q11 a' b' (by omega) h1 h2 h3⟩
    · intro fr hfr ih f2 nx a b q1 q2 q3 q4 q5 q6 q7 q8 q9 q10 q11
      have f0 : f2 0 = (N : Int) := by rw [q1 0 (by omega) (by omega)]; exact hf0
      have f1 : f2 1 = 1 := by rw [q1 1 (by omega) (by omega)]; exact hf1
      have inner : ∀ nx, nx ≤ N → fr ≤ nx → (∀ e, e < nx → ¬ enough g W need fr e) → V i_X5_seekNarrowest x 33 [some (vr (some S)), some (vl need), none, some (vi W), some (vl (sg g nx - sg g fr)), none, some (vi nx), some (vi fr)] [] (ws h S R f2 ca cb g) (0, 0) := by
        have out : ∀ nx, nx ≤ N → fr ≤ nx → (∀ e, e < nx → ¬ enough g W need fr e) → (enough g W need fr nx ∨ nx = N) → V i_X5_seekNarrowest x 70 [some (vr (some S)), some (vl need), none, some (vi W), some (vl (sg g nx - sg g fr)), none, some (vi nx), some (vi fr)] [] (ws h S R f2 ca cb g) (0, 0) := by
          intro nx h1 h2 h3 h4
          have hin := inP fr nx h2 h1
          by_cases he : enough g W need fr nx
          · have hlt : fr < nx := by
              rcases Nat.lt_or_ge fr nx with z | z
              · exact z
              · rw [show nx = fr by omega] at he; exact absurd he (en0 fr)
            have he' := he
            unfold enough at he'
            have key : ∀ b', fr ≤ b' → b' < N → enough g W need fr (b' + 1) → nx - 1 ≤ b' := fun b' _ _ h => by
              rcases Nat.lt_or_ge (b' + 1) nx with z | z
              · exact absurd h (h3 _ z)
              · omega
            have nxt : ∀ e, e < nx → ¬ enough g W need (fr + 1) e := fun e z h => h3 e z (enm (Nat.le_succ fr) (Nat.le_refl e) (by omega) (by omega) h)
            have eS : sg g nx - sg g fr - g fr = sg g nx - sg g (fr + 1) := by rw [sg_s]; omega
            refine s_X5_seekNarrowest_70 x ok _ _ _ _ ?_
            simp only [wpS, o_c, o_cl, o_il, o_ll, o_al, o_is, o_ls, o_as, o_inc, o_add, o_sub, o_mul, o_and, o_or, o_xor, o_shl, o_shr, o_div, o_neg, o_ladd, o_lsub, o_lmul, o_ldiv, o_lrem, o_lneg, o_lcmp, o_i2l, o_l2i, o_dup, o_dup2, o_pop, o_go, o_nn, o_sw, swc, o_iret, o_zret, o_lret, o_vret, o_ieq, o_eq0, o_ine, o_ne0, o_ilt, o_lt0, o_ige, o_ge0, o_igt, o_gt0, o_ile, o_le0, o_iald, o_zald, o_lald, o_aald, o_iast, o_zast, o_last, o_aast, o_alen, o_gi, o_gr, o_pi, o_pz, o_pr, o_new, o_newa, o_copy, o_oinit, o_call, o_callV, o_callVc, o_callI, popn, cnO, o_BAD, lgt, lst, isL, kil, st1, st2, entL, List.length_nil, List.length_cons, List.replicate, Nat.reduceAdd, Nat.reduceLeDiff, Nat.reduceSub, true_and, and_true, Nat.zero_le, ne_eq, qk_wi, ql_wi, qr_wi, qj_wi, qt_wi, qk_wj, ql_wj, qr_wj, qi_wj, qt_wj, qk_wr, ql_wr, qi_wr, qj_wr, qt_wr, qi_ws, qj_ws, qr_ws, Int.toNat_natCast, Int.toNat_zero, Int.reduceToNat, not_true_eq_false, not_false_eq_true, false_implies, implies_true, Option.some.injEq, reduceCtorEq, Sp0, true_or, or_true, or_self, wi_wi, wj_wj, cz_lt, cz_ge]
            repeat' (first | (with_reducible refine And.intro ?_ ?_) | (with_reducible intro))
            all_goals (try (first | assumption | omega | (unfold inI; omega) | (unfold inL; omega) | exact cz_in _ _))
            all_goals (try (exfalso; omega))
            by_cases hw : nx - 1 - fr < b - a
            · refine s_X5_seekNarrowest_81 x ok _ _ _ _ ?_
              simp only [wpS, o_c, o_cl, o_il, o_ll, o_al, o_is, o_ls, o_as, o_inc, o_add, o_sub, o_mul, o_and, o_or, o_xor, o_shl, o_shr, o_div, o_neg, o_ladd, o_lsub, o_lmul, o_ldiv, o_lrem, o_lneg, o_lcmp, o_i2l, o_l2i, o_dup, o_dup2, o_pop, o_go, o_nn, o_sw, swc, o_iret, o_zret, o_lret, o_vret, o_ieq, o_eq0, o_ine, o_ne0, o_ilt, o_lt0, o_ige, o_ge0, o_igt, o_gt0, o_ile, o_le0, o_iald, o_zald, o_lald, o_aald, o_iast, o_zast, o_last, o_aast, o_alen, o_gi, o_gr, o_pi, o_pz, o_pr, o_new, o_newa, o_copy, o_oinit, o_call, o_callV, o_callVc, o_callI, popn, cnO, o_BAD, lgt, lst, isL, kil, st1, st2, entL, List.length_nil, List.length_cons, List.replicate, Nat.reduceAdd, Nat.reduceLeDiff, Nat.reduceSub, true_and, and_true, Nat.zero_le, ne_eq, qk_wi, ql_wi, qr_wi, qj_wi, qt_wi, qk_wj, ql_wj, qr_wj, qi_wj, qt_wj, qk_wr, ql_wr, qi_wr, qj_wr, qt_wr, qi_ws, qj_ws, qr_ws, Int.toNat_natCast, Int.toNat_zero, Int.reduceToNat, not_true_eq_false, not_false_eq_true, false_implies, implies_true, Option.some.injEq, reduceCtorEq, Sp0, true_or, or_true, or_self, wi_wi, wj_wj, qk_ws, qsS, wtS, k0, q2, q3, fu_s]
              repeat' (first | (with_reducible refine And.intro ?_ ?_) | (with_reducible intro))
              all_goals (try (first | assumption | omega | (unfold inI; omega) | (unfold inL; omega) | exact cz_in _ _))
              all_goals (try (exfalso; omega))
              refine atv _ fr _ ?_ (by omega) ?_
              · rw [fu_n (by omega), fu_n (by omega)]; exact f1
              · simp only [wpS, o_c, o_cl, o_il, o_ll, o_al, o_is, o_ls, o_as, o_inc, o_add, o_sub, o_mul, o_and, o_or, o_xor, o_shl, o_shr, o_div, o_neg, o_ladd, o_lsub, o_lmul, o_ldiv, o_lrem, o_lneg, o_lcmp, o_i2l, o_l2i, o_dup, o_dup2, o_pop, o_go, o_nn, o_sw, swc, o_iret, o_zret, o_lret, o_vret, o_ieq, o_eq0, o_ine, o_ne0, o_ilt, o_lt0, o_ige, o_ge0, o_igt, o_gt0, o_ile, o_le0, o_iald, o_zald, o_lald, o_aald, o_iast, o_zast, o_last, o_aast, o_alen, o_gi, o_gr, o_pi, o_pz, o_pr, o_new, o_newa, o_copy, o_oinit, o_call, o_callV, o_callVc, o_callI, popn, cnO, o_BAD, lgt, lst, isL, kil, st1, st2, entL, List.length_nil, List.length_cons, List.replicate, Nat.reduceAdd, Nat.reduceLeDiff, Nat.reduceSub, true_and, and_true, Nat.zero_le, ne_eq, qk_wi, ql_wi, qr_wi, qj_wi, qt_wi, qk_wj, ql_wj, qr_wj, qi_wj, qt_wj, qk_wr, ql_wr, qi_wr, qj_wr, qt_wr, qi_ws, qj_ws, qr_ws, Int.toNat_natCast, Int.toNat_zero, Int.reduceToNat, not_true_eq_false, not_false_eq_true, false_implies, implies_true, Option.some.injEq, reduceCtorEq, Sp0, true_or, or_true, or_self, wi_wi, wj_wj, eS]
                repeat' (first | (with_reducible refine And.intro ?_ ?_) | (with_reducible intro))
                all_goals (try (first | assumption | omega | (unfold inI; omega) | (unfold inL; omega) | exact cz_in _ _))
                have e1 : (nx : Int) - 1 = ((nx - 1 : Nat) : Int) := by omega
                rw [e1]
                refine ih _ nx fr (nx - 1) (fun j z1 z2 => ?_) ?_ fu_s (by omega) h1 nxt (by omega) (by omega) (by omega) ?_ (fun a' b' z1 z2 z3 z4 => ?_)
                · rw [fu_n z2, fu_n z1]; exact q1 j z1 z2
                · rw [fu_n (by omega), fu_s]
                · rw [Nat.sub_add_cancel (by omega)]; exact he
                · by_cases z : a' = fr
                  · subst z
                    have := key b' z2 z3 z4
                    omega
                  · have := q11 a' b' (by omega) z2 z3 z4
                    omega
            · refine s_X5_seekNarrowest_81 x ok _ _ _ _ ?_
              simp only [wpS, o_c, o_cl, o_il, o_ll, o_al, o_is, o_ls, o_as, o_inc, o_add, o_sub, o_mul, o_and, o_or, o_xor, o_shl, o_shr, o_div, o_neg, o_ladd, o_lsub, o_lmul, o_ldiv, o_lrem, o_lneg, o_lcmp, o_i2l, o_l2i, o_dup, o_dup2, o_pop, o_go, o_nn, o_sw, swc, o_iret, o_zret, o_lret, o_vret, o_ieq, o_eq0, o_ine, o_ne0, o_ilt, o_lt0, o_ige, o_ge0, o_igt, o_gt0, o_ile, o_le0, o_iald, o_zald, o_lald, o_aald, o_iast, o_zast, o_last, o_aast, o_alen, o_gi, o_gr, o_pi, o_pz, o_pr, o_new, o_newa, o_copy, o_oinit, o_call, o_callV, o_callVc, o_callI, popn, cnO, o_BAD, lgt, lst, isL, kil, st1, st2, entL, List.length_nil, List.length_cons, List.replicate, Nat.reduceAdd, Nat.reduceLeDiff, Nat.reduceSub, true_and, and_true, Nat.zero_le, ne_eq, qk_wi, ql_wi, qr_wi, qj_wi, qt_wi, qk_wj, ql_wj, qr_wj, qi_wj, qt_wj, qk_wr, ql_wr, qi_wr, qj_wr, qt_wr, qi_ws, qj_ws, qr_ws, Int.toNat_natCast, Int.toNat_zero, Int.reduceToNat, not_true_eq_false, not_false_eq_true, false_implies, implies_true, Option.some.injEq, reduceCtorEq, Sp0, true_or, or_true, or_self, wi_wi, wj_wj, qk_ws, qsS, k0, q2, q3]
              repeat' (first | (with_reducible refine And.intro ?_ ?_) | (with_reducible intro))
              all_goals (try (first | assumption | omega | (unfold inI; omega) | (unfold inL; omega) | exact cz_in _ _))
              all_goals (try (exfalso; omega))
              refine s_X5_seekNarrowest_114 x ok _ _ _ _ ?_
              simp only [wpS, o_c, o_cl, o_il, o_ll, o_al, o_is, o_ls, o_as, o_inc, o_add, o_sub, o_mul, o_and, o_or, o_xor, o_shl, o_shr, o_div, o_neg, o_ladd, o_lsub, o_lmul, o_ldiv, o_lrem, o_lneg, o_lcmp, o_i2l, o_l2i, o_dup, o_dup2, o_pop, o_go, o_nn, o_sw, swc, o_iret, o_zret, o_lret, o_vret, o_ieq, o_eq0, o_ine, o_ne0, o_ilt, o_lt0, o_ige, o_ge0, o_igt, o_gt0, o_ile, o_le0, o_iald, o_zald, o_lald, o_aald, o_iast, o_zast, o_last, o_aast, o_alen, o_gi, o_gr, o_pi, o_pz, o_pr, o_new, o_newa, o_copy, o_oinit, o_call, o_callV, o_callVc, o_callI, popn, cnO, o_BAD, lgt, lst, isL, kil, st1, st2, entL, List.length_nil, List.length_cons, List.replicate, Nat.reduceAdd, Nat.reduceLeDiff, Nat.reduceSub, true_and, and_true, Nat.zero_le, ne_eq, qk_wi, ql_wi, qr_wi, qj_wi, qt_wi, qk_wj, ql_wj, qr_wj, qi_wj, qt_wj, qk_wr, ql_wr, qi_wr, qj_wr, qt_wr, qi_ws, qj_ws, qr_ws, Int.toNat_natCast, Int.toNat_zero, Int.reduceToNat, not_true_eq_false, not_false_eq_true, false_implies, implies_true, Option.some.injEq, reduceCtorEq, Sp0, true_or, or_true, or_self, wi_wi, wj_wj, qk_ws, k0]
              repeat' (first | (with_reducible refine And.intro ?_ ?_) | (with_reducible intro))
              all_goals (try (first | assumption | omega | (unfold inI; omega) | (unfold inL; omega) | exact cz_in _ _))
              refine atv _ fr _ f1 (by omega) ?_
              simp only [wpS, o_c, o_cl, o_il, o_ll, o_al, o_is, o_ls, o_as, o_inc, o_add, o_sub, o_mul, o_and, o_or, o_xor, o_shl, o_shr, o_div, o_neg, o_ladd, o_lsub, o_lmul, o_ldiv, o_lrem, o_lneg, o_lcmp, o_i2l, o_l2i, o_dup, o_dup2, o_pop, o_go, o_nn, o_sw, swc, o_iret, o_zret, o_lret, o_vret, o_ieq, o_eq0, o_ine, o_ne0, o_ilt, o_lt0, o_ige, o_ge0, o_igt, o_gt0, o_ile, o_le0, o_iald, o_zald, o_lald, o_aald, o_iast, o_zast, o_last, o_aast, o_alen, o_gi, o_gr, o_pi, o_pz, o_pr, o_new, o_newa, o_copy, o_oinit, o_call, o_callV, o_callVc, o_callI, popn, cnO, o_BAD, lgt, lst, isL, kil, st1, st2, entL, List.length_nil, List.length_cons, List.replicate, Nat.reduceAdd, Nat.reduceLeDiff, Nat.reduceSub, true_and, and_true, Nat.zero_le, ne_eq, qk_wi, ql_wi, qr_wi, qj_wi, qt_wi, qk_wj, ql_wj, qr_wj, qi_wj, qt_wj, qk_wr, ql_wr, qi_wr, qj_wr, qt_wr, qi_ws, qj_ws, qr_ws, Int.toNat_natCast, Int.toNat_zero, Int.reduceToNat, not_true_eq_false, not_false_eq_true, false_implies, implies_true, Option.some.injEq, reduceCtorEq, Sp0, true_or, or_true, or_self, wi_wi, wj_wj, eS]
              repeat' (first | (with_reducible refine And.intro ?_ ?_) | (with_reducible intro))
              all_goals (try (first | assumption | omega | (unfold inI; omega) | (unfold inL; omega) | exact cz_in _ _))
              refine ih _ nx a b q1 q2 q3 (by omega) h1 nxt q7 q8 (by omega) q10 (fun a' b' z1 z2 z3 z4 => ?_)
              by_cases z : a' = fr
              · subst z
                have := key b' z2 z3 z4
                omega
              · exact q11 a' b' (by omega) z2 z3 z4
          · have hNx : nx = N := h4.resolve_left he
            have he' := he
            unfold enough at he'
            refine s_X5_seekNarrowest_70 x ok _ _ _ _ ?_
            simp only [wpS, o_c, o_cl, o_il, o_ll, o_al, o_is, o_ls, o_as, o_inc, o_add, o_sub, o_mul, o_and, o_or, o_xor, o_shl, o_shr, o_div, o_neg, o_ladd, o_lsub, o_lmul, o_ldiv, o_lrem, o_lneg, o_lcmp, o_i2l, o_l2i, o_dup, o_dup2, o_pop, o_go, o_nn, o_sw, swc, o_iret, o_zret, o_lret, o_vret, o_ieq, o_eq0, o_ine, o_ne0, o_ilt, o_lt0, o_ige, o_ge0, o_igt, o_gt0, o_ile, o_le0, o_iald, o_zald, o_lald, o_aald, o_iast, o_zast, o_last, o_aast, o_alen, o_gi, o_gr, o_pi, o_pz, o_pr, o_new, o_newa, o_copy, o_oinit, o_call, o_callV, o_callVc, o_callI, popn, cnO, o_BAD, lgt, lst, isL, kil, st1, st2, entL, List.length_nil, List.length_cons, List.replicate, Nat.reduceAdd, Nat.reduceLeDiff, Nat.reduceSub, true_and, and_true, Nat.zero_le, ne_eq, qk_wi, ql_wi, qr_wi, qj_wi, qt_wi, qk_wj, ql_wj, qr_wj, qi_wj, qt_wj, qk_wr, ql_wr, qi_wr, qj_wr, qt_wr, qi_ws, qj_ws, qr_ws, Int.toNat_natCast, Int.toNat_zero, Int.reduceToNat, not_true_eq_false, not_false_eq_true, false_implies, implies_true, Option.some.injEq, reduceCtorEq, Sp0, true_or, or_true, or_self, wi_wi, wj_wj, cz_lt, cz_ge]
            repeat' (first | (with_reducible refine And.intro ?_ ?_) | (with_reducible intro))
            all_goals (try (first | assumption | omega | (unfold inI; omega) | (unfold inL; omega) | exact cz_in _ _))
            all_goals (try (exfalso; omega))
            refine hK f2 a b q2 q3 ⟨q7, q8, q10, fun a' b' z1 z2 z3 => ?_⟩
            by_cases z : a' < fr
            · exact q11 a' b' z z1 z2 z3
            · exact absurd (enm (a := fr) (b := nx) (by omega) (by omega) (by omega) h1 z3) he
        refine bwd _ ?_ ?_
        · intro h2 h3
          refine s_X5_seekNarrowest_33 x ok _ _ _ _ ?_
          simp only [wpS, o_c, o_cl, o_il, o_ll, o_al, o_is, o_ls, o_as, o_inc, o_add, o_sub, o_mul, o_and, o_or, o_xor, o_shl, o_shr, o_div, o_neg, o_ladd, o_lsub, o_lmul, o_ldiv, o_lrem, o_lneg, o_lcmp, o_i2l, o_l2i, o_dup, o_dup2, o_pop, o_go, o_nn, o_sw, swc, o_iret, o_zret, o_lret, o_vret, o_ieq, o_eq0, o_ine, o_ne0, o_ilt, o_lt0, o_ige, o_ge0, o_igt, o_gt0, o_ile, o_le0, o_iald, o_zald, o_lald, o_aald, o_iast, o_zast, o_last, o_aast, o_alen, o_gi, o_gr, o_pi, o_pz, o_pr, o_new, o_newa, o_copy, o_oinit, o_call, o_callV, o_callVc, o_callI, popn, cnO, o_BAD, lgt, lst, isL, kil, st1, st2, entL, List.length_nil, List.length_cons, List.replicate, Nat.reduceAdd, Nat.reduceLeDiff, Nat.reduceSub, true_and, and_true, Nat.zero_le, ne_eq, qk_wi, ql_wi, qr_wi, qj_wi, qt_wi, qk_wj, ql_wj, qr_wj, qi_wj, qt_wj, qk_wr, ql_wr, qi_wr, qj_wr, qt_wr, qi_ws, qj_ws, qr_ws, Int.toNat_natCast, Int.toNat_zero, Int.reduceToNat, not_true_eq_false, not_false_eq_true, false_implies, implies_true, Option.some.injEq, reduceCtorEq, Sp0, true_or, or_true, or_self, wi_wi, wj_wj, qk_ws, qsS, k0, f0]
          repeat' (first | (with_reducible refine And.intro ?_ ?_) | (with_reducible intro))
          all_goals (try (first | assumption | omega | (unfold inI; omega) | (unfold inL; omega) | exact cz_in _ _))
          all_goals (try (exfalso; omega))
          exact out N (Nat.le_refl _) h2 h3 (.inr rfl)
        · intro nx hnx ih2 h2 h3
          have hin := inP fr nx h2 (by omega)
          have eS : sg g nx - sg g fr + g nx = sg g (nx + 1) - sg g fr := by rw [sg_s]; omega
          refine s_X5_seekNarrowest_33 x ok _ _ _ _ ?_
          simp only [wpS, o_c, o_cl, o_il, o_ll, o_al, o_is, o_ls, o_as, o_inc, o_add, o_sub, o_mul, o_and, o_or, o_xor, o_shl, o_shr, o_div, o_neg, o_ladd, o_lsub, o_lmul, o_ldiv, o_lrem, o_lneg, o_lcmp, o_i2l, o_l2i, o_dup, o_dup2, o_pop, o_go, o_nn, o_sw, swc, o_iret, o_zret, o_lret, o_vret, o_ieq, o_eq0, o_ine, o_ne0, o_ilt, o_lt0, o_ige, o_ge0, o_igt, o_gt0, o_ile, o_le0, o_iald, o_zald, o_lald, o_aald, o_iast, o_zast, o_last, o_aast, o_alen, o_gi, o_gr, o_pi, o_pz, o_pr, o_new, o_newa, o_copy, o_oinit, o_call, o_callV, o_callVc, o_callI, popn, cnO, o_BAD, lgt, lst, isL, kil, st1, st2, entL, List.length_nil, List.length_cons, List.replicate, Nat.reduceAdd, Nat.reduceLeDiff, Nat.reduceSub, true_and, and_true, Nat.zero_le, ne_eq, qk_wi, ql_wi, qr_wi, qj_wi, qt_wi, qk_wj, ql_wj, qr_wj, qi_wj, qt_wj, qk_wr, ql_wr, qi_wr, qj_wr, qt_wr, qi_ws, qj_ws, qr_ws, Int.toNat_natCast, Int.toNat_zero, Int.reduceToNat, not_true_eq_false, not_false_eq_true, false_implies, implies_true, Option.some.injEq, reduceCtorEq, Sp0, true_or, or_true, or_self, wi_wi, wj_wj, qk_ws, qsS, k0, f0, cz_lt, cz_ge]
          repeat' (first | (with_reducible refine And.intro ?_ ?_) | (with_reducible intro))
          all_goals (try (first | assumption | omega | (unfold inI; omega) | (unfold inL; omega) | exact cz_in _ _))
          all_goals (try (exfalso; omega))
          · exact out nx (by omega) h2 h3 (.inl (by unfold enough; assumption))
          · refine atv _ nx _ f1 hnx ?_
            simp only [wpS, o_c, o_cl, o_il, o_ll, o_al, o_is, o_ls, o_as, o_inc, o_add, o_sub, o_mul, o_and, o_or, o_xor, o_shl, o_shr, o_div, o_neg, o_ladd, o_lsub, o_lmul, o_ldiv, o_lrem, o_lneg, o_lcmp, o_i2l, o_l2i, o_dup, o_dup2, o_pop, o_go, o_nn, o_sw, swc, o_iret, o_zret, o_lret, o_vret, o_ieq, o_eq0, o_ine, o_ne0, o_ilt, o_lt0, o_ige, o_ge0, o_igt, o_gt0, o_ile, o_le0, o_iald, o_zald, o_lald, o_aald, o_iast, o_zast, o_last, o_aast, o_alen, o_gi, o_gr, o_pi, o_pz, o_pr, o_new, o_newa, o_copy, o_oinit, o_call, o_callV, o_callVc, o_callI, popn, cnO, o_BAD, lgt, lst, isL, kil, st1, st2, entL, List.length_nil, List.length_cons, List.replicate, Nat.reduceAdd, Nat.reduceLeDiff, Nat.reduceSub, true_and, and_true, Nat.zero_le, ne_eq, qk_wi, ql_wi, qr_wi, qj_wi, qt_wi, qk_wj, ql_wj, qr_wj, qi_wj, qt_wj, qk_wr, ql_wr, qi_wr, qj_wr, qt_wr, qi_ws, qj_ws, qr_ws, Int.toNat_natCast, Int.toNat_zero, Int.reduceToNat, not_true_eq_false, not_false_eq_true, false_implies, implies_true, Option.some.injEq, reduceCtorEq, Sp0, true_or, or_true, or_self, wi_wi, wj_wj, eS]
            repeat' (first | (with_reducible refine And.intro ?_ ?_) | (with_reducible intro))
            all_goals (try (first | assumption | omega | (unfold inI; omega) | (unfold inL; omega) | exact cz_in _ _))
            refine ih2 (by omega) (fun e he hh => ?_)
            by_cases z : e = nx
            · subst z
              unfold enough at hh
              omega
            · exact h3 e (by omega) hh
      refine s_X5_seekNarrowest_24 x ok _ _ _ _ ?_
      simp only [wpS, o_c, o_cl, o_il, o_ll, o_al, o_is, o_ls, o_as, o_inc, o_add, o_sub, o_mul, o_and, o_or, o_xor, o_shl, o_shr, o_div, o_neg, o_ladd, o_lsub, o_lmul, o_ldiv, o_lrem, o_lneg, o_lcmp, o_i2l, o_l2i, o_dup, o_dup2, o_pop, o_go, o_nn, o_sw, swc, o_iret, o_zret, o_lret, o_vret, o_ieq, o_eq0, o_ine, o_ne0, o_ilt, o_lt0, o_ige, o_ge0, o_igt, o_gt0, o_ile, o_le0, o_iald, o_zald, o_lald, o_aald, o_iast, o_zast, o_last, o_aast, o_alen, o_gi, o_gr, o_pi, o_pz, o_pr, o_new, o_newa, o_copy, o_oinit, o_call, o_callV, o_callVc, o_callI, popn, cnO, o_BAD, lgt, lst, isL, kil, st1, st2, entL, List.length_nil, List.length_cons, List.replicate, Nat.reduceAdd, Nat.reduceLeDiff, Nat.reduceSub, true_and, and_true, Nat.zero_le, ne_eq, qk_wi, ql_wi, qr_wi, qj_wi, qt_wi, qk_wj, ql_wj, qr_wj, qi_wj, qt_wj, qk_wr, ql_wr, qi_wr, qj_wr, qt_wr, qi_ws, qj_ws, qr_ws, Int.toNat_natCast, Int.toNat_zero, Int.reduceToNat, not_true_eq_false, not_false_eq_true, false_implies, implies_true, Option.some.injEq, reduceCtorEq, Sp0, true_or, or_true, or_self, wi_wi, wj_wj, qk_ws, qsS, k0, f0]
      repeat' (first | (with_reducible refine And.intro ?_ ?_) | (with_reducible intro))
      all_goals (try (first | assumption | omega | (unfold inI; omega) | (unfold inL; omega) | exact cz_in _ _))
      all_goals (try (exfalso; omega))
      exact inner nx q5 q4 q6
  have eN : (N : Int) - 1 = ((N - 1 : Nat) : Int) := by omega
  refine s_X5_seekNarrowest_0 x ok _ _ _ _ ?_
  simp only [wpS, o_c, o_cl, o_il, o_ll, o_al, o_is, o_ls, o_as, o_inc, o_add, o_sub, o_mul, o_and, o_or, o_xor, o_shl, o_shr, o_div, o_neg, o_ladd, o_lsub, o_lmul, o_ldiv, o_lrem, o_lneg, o_lcmp, o_i2l, o_l2i, o_dup, o_dup2, o_pop, o_go, o_nn, o_sw, swc, o_iret, o_zret, o_lret, o_vret, o_ieq, o_eq0, o_ine, o_ne0, o_ilt, o_lt0, o_ige, o_ge0, o_igt, o_gt0, o_ile, o_le0, o_iald, o_zald, o_lald, o_aald, o_iast, o_zast, o_last, o_aast, o_alen, o_gi, o_gr, o_pi, o_pz, o_pr, o_new, o_newa, o_copy, o_oinit, o_call, o_callV, o_callVc, o_callI, popn, cnO, o_BAD, lgt, lst, isL, kil, st1, st2, entL, List.length_nil, List.length_cons, List.replicate, Nat.reduceAdd, Nat.reduceLeDiff, Nat.reduceSub, true_and, and_true, Nat.zero_le, ne_eq, qk_wi, ql_wi, qr_wi, qj_wi, qt_wi, qk_wj, ql_wj, qr_wj, qi_wj, qt_wj, qk_wr, ql_wr, qi_wr, qj_wr, qt_wr, qi_ws, qj_ws, qr_ws, Int.toNat_natCast, Int.toNat_zero, Int.reduceToNat, not_true_eq_false, not_false_eq_true, false_implies, implies_true, Option.some.injEq, reduceCtorEq, Sp0, true_or, or_true, or_self, wi_wi, wj_wj, qk_ws, qsS, wtS, k0, hf0, fu_n (show (0 : Nat) ≠ 2 by omega), eN]
  repeat' (first | (with_reducible refine And.intro ?_ ?_) | (with_reducible intro))
  all_goals (try (first | assumption | omega | (unfold inI; omega) | (unfold inL; omega) | exact cz_in _ _))
  refine outer 0 (by omega) _ 0 0 (N - 1) (fun j z1 z2 => ?_) ?_ fu_s (Nat.le_refl _) (by omega) (fun e he => by omega) (by omega) (by omega) (by omega) ?_ (fun a' b' z => by omega)
  · rw [fu_n z2, fu_n z1]
  · rw [fu_n (by omega), fu_s]; rfl
  · unfold enough
    rw [Nat.sub_add_cancel hN0, sg_0, Int.sub_zero]
    exact hn

/-! ===== new FitBenchModel() ===== -/
def aR : Nat → Nat × Nat
  | 0 => (1, 5528)
  | 1 => (3, 3)
  | 2 => (1, 13)
  | 3 => (1, 13)
  | 4 => (1, 12)
  | 5 => (1, 12)
  | 6 => (2, 200000)
  | 7 => (2, 200000)
  | 8 => (1, 12)
  | 9 => (1, 12)
  | 10 => (3, 24)
  | 11 => (3, 24)
  | 12 => (3, 3000)
  | 13 => (3, 3000)
  | _ => (0, 0)
def Mk (h0 h : Hp) (y i : Nat) : Prop := qk h y = 18 ∧ qt h = y + 1 + i ∧ Eqj h0 h y ∧ ∀ j, j < i → qr h y j = some (y + 1 + j) ∧ qk h (y + 1 + j) = (aR j).1 ∧ ql h (y + 1 + j) = (aR j).2 ∧ qi h (y + 1 + j) = fun _ => 0
theorem Mk.step {h0 h : Hp} {y i : Nat} (H : Mk h0 h y i) : Mk h0 (wr (wn h (aR i).1 (aR i).2) y (fu (qr h y) i (some (y + 1 + i)))) y (i + 1) := by
  obtain ⟨h1, h2, h3, h4⟩ := H
  have n0 : ¬ y = qt h := by omega
  refine ⟨?_, ?_, ?_, fun j hj => ?_⟩
  · rw [qk_wr, qk_al, if_neg n0]; exact h1
  · rw [qt_wr, qt_al, h2]; rfl
  · exact (h3.tr (Eqj.wn h _ _ (a := y) (by omega)) (Nat.le_refl y)).tr (Eqj.wr _ y _ (Nat.le_refl y)) (Nat.le_refl y)
  · rw [qk_wr, ql_wr, qi_wr, qr_ws, qk_al, ql_al, qi_al]
    by_cases e : j = i
    · subst e
      rw [fu_s, if_pos h2.symm, if_pos h2.symm, if_pos h2.symm]
      exact ⟨rfl, rfl, rfl, rfl⟩
    · have := h4 j (by omega)
      rw [fu_n e, if_neg (by omega), if_neg (by omega), if_neg (by omega)]
      exact this
def S_X8_init : Sp := (fun _ _ => (14, 411653), fun as h K => ∃ y, as = [vr (some y)] ∧ qk h y = 18 ∧ qt h = y + 1 ∧ ∀ h', Eqj h h' y → qt h' = y + 15 → Mo h' y → qi h' (y + 1) = dI → qi h' (y + 2) = (fun _ => 0) → K none h')
abbrev i_X8_init : MI := (cX8_init, 2, RX8, none, "<init>", 2)
theorem k_X8_init_0 : Okop i_X8_init 0 (o_al 0) 1 := k_aln (j := 0) (by decide +kernel)
theorem k_X8_init_1 : Okop i_X8_init 1 (o_oinit) 4 := k_oinit (idx := 1) (by decide +kernel) gw_658 gw_19 gw_20 (by decide)
theorem k_X8_init_4 : Okop i_X8_init 4 (o_al 0) 5 := k_aln (j := 0) (by decide +kernel)
theorem k_X8_init_5 : Okop i_X8_init 5 (o_c 5528) 8 := k_sipush (by decide +kernel) rfl
theorem k_X8_init_8 : Okop i_X8_init 8 (o_newa 1) 10 := k_newa (.inl ⟨rfl, rfl⟩) gw_103 (by decide +kernel)
theorem k_X8_init_10 : Okop i_X8_init 10 (o_pr 8 0) 13 := k_pr (idx := 7) fo_8 (by decide) (by decide) gw_660 (by decide +kernel) (.inr ⟨rfl, rfl, rfl⟩)
theorem k_X8_init_13 : Okop i_X8_init 13 (o_al 0) 14 := k_aln (j := 0) (by decide +kernel)
theorem k_X8_init_14 : Okop i_X8_init 14 (o_c 3) 15 := k_iconst (by decide +kernel)
theorem k_X8_init_15 : Okop i_X8_init 15 (o_newa 3) 17 := k_newa (.inr (.inr ⟨rfl, rfl⟩)) gw_703 (by decide +kernel)
theorem k_X8_init_17 : Okop i_X8_init 17 (o_pr 8 1) 20 := k_pr (idx := 13) fo_8 (by decide) (by decide) gw_661 (by decide +kernel) (.inr ⟨rfl, rfl, rfl⟩)
theorem k_X8_init_20 : Okop i_X8_init 20 (o_al 0) 21 := k_aln (j := 0) (by decide +kernel)
theorem k_X8_init_21 : Okop i_X8_init 21 (o_c 13) 23 := k_bipush (by decide +kernel) rfl
theorem k_X8_init_23 : Okop i_X8_init 23 (o_newa 1) 25 := k_newa (.inl ⟨rfl, rfl⟩) gw_103 (by decide +kernel)
theorem k_X8_init_25 : Okop i_X8_init 25 (o_pr 8 2) 28 := k_pr (idx := 17) fo_8 (by decide) (by decide) gw_662 (by decide +kernel) (.inr ⟨rfl, rfl, rfl⟩)
theorem k_X8_init_28 : Okop i_X8_init 28 (o_al 0) 29 := k_aln (j := 0) (by decide +kernel)
theorem k_X8_init_29 : Okop i_X8_init 29 (o_c 13) 31 := k_bipush (by decide +kernel) rfl
theorem k_X8_init_31 : Okop i_X8_init 31 (o_newa 1) 33 := k_newa (.inl ⟨rfl, rfl⟩) gw_103 (by decide +kernel)
theorem k_X8_init_33 : Okop i_X8_init 33 (o_pr 8 3) 36 := k_pr (idx := 20) fo_8 (by decide) (by decide) gw_663 (by decide +kernel) (.inr ⟨rfl, rfl, rfl⟩)
theorem k_X8_init_36 : Okop i_X8_init 36 (o_al 0) 37 := k_aln (j := 0) (by decide +kernel)
theorem k_X8_init_37 : Okop i_X8_init 37 (o_c 12) 39 := k_bipush (by decide +kernel) rfl
theorem k_X8_init_39 : Okop i_X8_init 39 (o_newa 1) 41 := k_newa (.inl ⟨rfl, rfl⟩) gw_103 (by decide +kernel)
theorem k_X8_init_41 : Okop i_X8_init 41 (o_pr 8 4) 44 := k_pr (idx := 23) fo_8 (by decide) (by decide) gw_664 (by decide +kernel) (.inr ⟨rfl, rfl, rfl⟩)
theorem k_X8_init_44 : Okop i_X8_init 44 (o_al 0) 45 := k_aln (j := 0) (by decide +kernel)
theorem k_X8_init_45 : Okop i_X8_init 45 (o_c 12) 47 := k_bipush (by decide +kernel) rfl
theorem k_X8_init_47 : Okop i_X8_init 47 (o_newa 1) 49 := k_newa (.inl ⟨rfl, rfl⟩) gw_103 (by decide +kernel)
theorem k_X8_init_49 : Okop i_X8_init 49 (o_pr 8 5) 52 := k_pr (idx := 26) fo_8 (by decide) (by decide) gw_665 (by decide +kernel) (.inr ⟨rfl, rfl, rfl⟩)
theorem k_X8_init_52 : Okop i_X8_init 52 (o_al 0) 53 := k_aln (j := 0) (by decide +kernel)
theorem k_X8_init_53 : Okop i_X8_init 53 (o_c 200000) 55 := k_ldc (idx := 29) (by decide +kernel) gw_659
theorem k_X8_init_55 : Okop i_X8_init 55 (o_newa 2) 57 := k_newa (.inr (.inl ⟨rfl, rfl⟩)) gw_223 (by decide +kernel)
theorem k_X8_init_57 : Okop i_X8_init 57 (o_pr 8 6) 60 := k_pr (idx := 30) fo_8 (by decide) (by decide) gw_666 (by decide +kernel) (.inr ⟨rfl, rfl, rfl⟩)
theorem k_X8_init_60 : Okop i_X8_init 60 (o_al 0) 61 := k_aln (j := 0) (by decide +kernel)
theorem k_X8_init_61 : Okop i_X8_init 61 (o_c 200000) 63 := k_ldc (idx := 29) (by decide +kernel) gw_659
theorem k_X8_init_63 : Okop i_X8_init 63 (o_newa 2) 65 := k_newa (.inr (.inl ⟨rfl, rfl⟩)) gw_223 (by decide +kernel)
theorem k_X8_init_65 : Okop i_X8_init 65 (o_pr 8 7) 68 := k_pr (idx := 34) fo_8 (by decide) (by decide) gw_667 (by decide +kernel) (.inr ⟨rfl, rfl, rfl⟩)
theorem k_X8_init_68 : Okop i_X8_init 68 (o_al 0) 69 := k_aln (j := 0) (by decide +kernel)
theorem k_X8_init_69 : Okop i_X8_init 69 (o_c 12) 71 := k_bipush (by decide +kernel) rfl
theorem k_X8_init_71 : Okop i_X8_init 71 (o_newa 1) 73 := k_newa (.inl ⟨rfl, rfl⟩) gw_103 (by decide +kernel)
theorem k_X8_init_73 : Okop i_X8_init 73 (o_pr 8 8) 76 := k_pr (idx := 37) fo_8 (by decide) (by decide) gw_668 (by decide +kernel) (.inr ⟨rfl, rfl, rfl⟩)
theorem k_X8_init_76 : Okop i_X8_init 76 (o_al 0) 77 := k_aln (j := 0) (by decide +kernel)
theorem k_X8_init_77 : Okop i_X8_init 77 (o_c 12) 79 := k_bipush (by decide +kernel) rfl
theorem k_X8_init_79 : Okop i_X8_init 79 (o_newa 1) 81 := k_newa (.inl ⟨rfl, rfl⟩) gw_103 (by decide +kernel)
theorem k_X8_init_81 : Okop i_X8_init 81 (o_pr 8 9) 84 := k_pr (idx := 40) fo_8 (by decide) (by decide) gw_669 (by decide +kernel) (.inr ⟨rfl, rfl, rfl⟩)
theorem k_X8_init_84 : Okop i_X8_init 84 (o_al 0) 85 := k_aln (j := 0) (by decide +kernel)
theorem k_X8_init_85 : Okop i_X8_init 85 (o_c 24) 87 := k_bipush (by decide +kernel) rfl
theorem k_X8_init_87 : Okop i_X8_init 87 (o_newa 3) 89 := k_newa (.inr (.inr ⟨rfl, rfl⟩)) gw_703 (by decide +kernel)
theorem k_X8_init_89 : Okop i_X8_init 89 (o_pr 8 10) 92 := k_pr (idx := 43) fo_8 (by decide) (by decide) gw_670 (by decide +kernel) (.inr ⟨rfl, rfl, rfl⟩)
theorem k_X8_init_92 : Okop i_X8_init 92 (o_al 0) 93 := k_aln (j := 0) (by decide +kernel)
theorem k_X8_init_93 : Okop i_X8_init 93 (o_c 24) 95 := k_bipush (by decide +kernel) rfl
theorem k_X8_init_95 : Okop i_X8_init 95 (o_newa 3) 97 := k_newa (.inr (.inr ⟨rfl, rfl⟩)) gw_703 (by decide +kernel)
theorem k_X8_init_97 : Okop i_X8_init 97 (o_pr 8 11) 100 := k_pr (idx := 46) fo_8 (by decide) (by decide) gw_671 (by decide +kernel) (.inr ⟨rfl, rfl, rfl⟩)
theorem k_X8_init_100 : Okop i_X8_init 100 (o_al 0) 101 := k_aln (j := 0) (by decide +kernel)
theorem k_X8_init_101 : Okop i_X8_init 101 (o_c 3000) 104 := k_sipush (by decide +kernel) rfl
theorem k_X8_init_104 : Okop i_X8_init 104 (o_newa 3) 106 := k_newa (.inr (.inr ⟨rfl, rfl⟩)) gw_703 (by decide +kernel)
theorem k_X8_init_106 : Okop i_X8_init 106 (o_pr 8 12) 109 := k_pr (idx := 49) fo_8 (by decide) (by decide) gw_672 (by decide +kernel) (.inr ⟨rfl, rfl, rfl⟩)
theorem k_X8_init_109 : Okop i_X8_init 109 (o_al 0) 110 := k_aln (j := 0) (by decide +kernel)
theorem k_X8_init_110 : Okop i_X8_init 110 (o_c 3000) 113 := k_sipush (by decide +kernel) rfl
theorem k_X8_init_113 : Okop i_X8_init 113 (o_newa 3) 115 := k_newa (.inr (.inr ⟨rfl, rfl⟩)) gw_703 (by decide +kernel)
theorem k_X8_init_115 : Okop i_X8_init 115 (o_pr 8 13) 118 := k_pr (idx := 52) fo_8 (by decide) (by decide) gw_673 (by decide +kernel) (.inr ⟨rfl, rfl, rfl⟩)
theorem k_X8_init_118 : Okop i_X8_init 118 (o_c 0) 119 := k_iconst (by decide +kernel)
theorem k_X8_init_119 : Okop i_X8_init 119 (o_is 1) 120 := k_isn (j := 1) (by decide +kernel) (by decide)
theorem k_X8_init_120 : Okop i_X8_init 120 (o_il 1) 121 := k_iln (j := 1) (by decide +kernel)
theorem k_X8_init_121 : Okop i_X8_init 121 (o_c 12) 123 := k_bipush (by decide +kernel) rfl
theorem k_X8_init_123 : Okop i_X8_init 123 (o_ige 165) 126 := k_ige (off := 42) (by decide +kernel) (by decide)
theorem k_X8_init_126 : Okop i_X8_init 126 (o_al 0) 127 := k_aln (j := 0) (by decide +kernel)
theorem k_X8_init_127 : Okop i_X8_init 127 (o_gr 8 0) 130 := k_gr (idx := 7) fo_8 (by decide) (by decide) gw_660 (by decide +kernel)
theorem k_X8_init_130 : Okop i_X8_init 130 (o_c 1188) 133 := k_sipush (by decide +kernel) rfl
theorem k_X8_init_133 : Okop i_X8_init 133 (o_il 1) 134 := k_iln (j := 1) (by decide +kernel)
theorem k_X8_init_134 : Okop i_X8_init 134 (o_add) 135 := k_add (by decide +kernel)
theorem k_X8_init_135 : Okop i_X8_init 135 (o_c (-1)) 136 := k_iconst (by decide +kernel)
theorem k_X8_init_136 : Okop i_X8_init 136 (o_iast) 137 := k_iast (by decide +kernel)
theorem k_X8_init_137 : Okop i_X8_init 137 (o_al 0) 138 := k_aln (j := 0) (by decide +kernel)
theorem k_X8_init_138 : Okop i_X8_init 138 (o_gr 8 0) 141 := k_gr (idx := 7) fo_8 (by decide) (by decide) gw_660 (by decide +kernel)
theorem k_X8_init_141 : Okop i_X8_init 141 (o_c 1200) 144 := k_sipush (by decide +kernel) rfl
theorem k_X8_init_144 : Okop i_X8_init 144 (o_il 1) 145 := k_iln (j := 1) (by decide +kernel)
theorem k_X8_init_145 : Okop i_X8_init 145 (o_add) 146 := k_add (by decide +kernel)
theorem k_X8_init_146 : Okop i_X8_init 146 (o_c (-1)) 147 := k_iconst (by decide +kernel)
theorem k_X8_init_147 : Okop i_X8_init 147 (o_iast) 148 := k_iast (by decide +kernel)
theorem k_X8_init_148 : Okop i_X8_init 148 (o_al 0) 149 := k_aln (j := 0) (by decide +kernel)
theorem k_X8_init_149 : Okop i_X8_init 149 (o_gr 8 0) 152 := k_gr (idx := 7) fo_8 (by decide) (by decide) gw_660 (by decide +kernel)
theorem k_X8_init_152 : Okop i_X8_init 152 (o_c 1346) 155 := k_sipush (by decide +kernel) rfl
theorem k_X8_init_155 : Okop i_X8_init 155 (o_il 1) 156 := k_iln (j := 1) (by decide +kernel)
theorem k_X8_init_156 : Okop i_X8_init 156 (o_add) 157 := k_add (by decide +kernel)
theorem k_X8_init_157 : Okop i_X8_init 157 (o_c (-1)) 158 := k_iconst (by decide +kernel)
theorem k_X8_init_158 : Okop i_X8_init 158 (o_iast) 159 := k_iast (by decide +kernel)
theorem k_X8_init_159 : Okop i_X8_init 159 (o_inc 1 1) 162 := k_inc (by decide +kernel) (by decide)
theorem k_X8_init_162 : Okop i_X8_init 162 (o_go 120) 165 := k_go (off := -42) (by decide +kernel) (by decide)
theorem k_X8_init_165 : Okop i_X8_init 165 (o_c 0) 166 := k_iconst (by decide +kernel)
theorem k_X8_init_166 : Okop i_X8_init 166 (o_is 1) 167 := k_isn (j := 1) (by decide +kernel) (by decide)
theorem k_X8_init_167 : Okop i_X8_init 167 (o_il 1) 168 := k_iln (j := 1) (by decide +kernel)
theorem k_X8_init_168 : Okop i_X8_init 168 (o_c 24) 170 := k_bipush (by decide +kernel) rfl
theorem k_X8_init_170 : Okop i_X8_init 170 (o_ige 190) 173 := k_ige (off := 20) (by decide +kernel) (by decide)
theorem k_X8_init_173 : Okop i_X8_init 173 (o_al 0) 174 := k_aln (j := 0) (by decide +kernel)
theorem k_X8_init_174 : Okop i_X8_init 174 (o_gr 8 0) 177 := k_gr (idx := 7) fo_8 (by decide) (by decide) gw_660 (by decide +kernel)
theorem k_X8_init_177 : Okop i_X8_init 177 (o_c 1358) 180 := k_sipush (by decide +kernel) rfl
theorem k_X8_init_180 : Okop i_X8_init 180 (o_il 1) 181 := k_iln (j := 1) (by decide +kernel)
theorem k_X8_init_181 : Okop i_X8_init 181 (o_add) 182 := k_add (by decide +kernel)
theorem k_X8_init_182 : Okop i_X8_init 182 (o_c (-1)) 183 := k_iconst (by decide +kernel)
theorem k_X8_init_183 : Okop i_X8_init 183 (o_iast) 184 := k_iast (by decide +kernel)
theorem k_X8_init_184 : Okop i_X8_init 184 (o_inc 1 1) 187 := k_inc (by decide +kernel) (by decide)
theorem k_X8_init_187 : Okop i_X8_init 187 (o_go 167) 190 := k_go (off := -20) (by decide +kernel) (by decide)
theorem k_X8_init_190 : Okop i_X8_init 190 (o_vret) 191 := k_vret (by decide +kernel) rfl
theorem s_X8_init_0 : Seg i_X8_init 0 [o_al 0, o_oinit, o_al 0, o_c 5528, o_newa 1, o_pr 8 0, o_al 0, o_c 3, o_newa 3, o_pr 8 1, o_al 0, o_c 13, o_newa 1, o_pr 8 2, o_al 0, o_c 13, o_newa 1, o_pr 8 3, o_al 0, o_c 12, o_newa 1, o_pr 8 4, o_al 0, o_c 12, o_newa 1, o_pr 8 5, o_al 0, o_c 200000, o_newa 2, o_pr 8 6, o_al 0, o_c 200000, o_newa 2, o_pr 8 7, o_al 0, o_c 12, o_newa 1, o_pr 8 8, o_al 0, o_c 12, o_newa 1, o_pr 8 9, o_al 0, o_c 24, o_newa 3, o_pr 8 10, o_al 0, o_c 24, o_newa 3, o_pr 8 11, o_al 0, o_c 3000, o_newa 3, o_pr 8 12, o_al 0, o_c 3000, o_newa 3, o_pr 8 13, o_c 0, o_is 1] 120 := Seg.cons k_X8_init_0 (Seg.cons k_X8_init_1 (Seg.cons k_X8_init_4 (Seg.cons k_X8_init_5 (Seg.cons k_X8_init_8 (Seg.cons k_X8_init_10 (Seg.cons k_X8_init_13 (Seg.cons k_X8_init_14 (Seg.cons k_X8_init_15 (Seg.cons k_X8_init_17 (Seg.cons k_X8_init_20 (Seg.cons k_X8_init_21 (Seg.cons k_X8_init_23 (Seg.cons k_X8_init_25 (Seg.cons k_X8_init_28 (Seg.cons k_X8_init_29 (Seg.cons k_X8_init_31 (Seg.cons k_X8_init_33 (Seg.cons k_X8_init_36 (Seg.cons k_X8_init_37 (Seg.cons k_X8_init_39 (Seg.cons k_X8_init_41 (Seg.cons k_X8_init_44 (Seg.cons k_X8_init_45 (Seg.cons k_X8_init_47 (Seg.cons k_X8_init_49 (Seg.cons k_X8_init_52 (Seg.cons k_X8_init_53 (Seg.cons k_X8_init_55 (Seg.cons k_X8_init_57 (Seg.cons k_X8_init_60 (Seg.cons k_X8_init_61 (Seg.cons k_X8_init_63 (Seg.cons k_X8_init_65 (Seg.cons k_X8_init_68 (Seg.cons k_X8_init_69 (Seg.cons k_X8_init_71 (Seg.cons k_X8_init_73 (Seg.cons k_X8_init_76 (Seg.cons k_X8_init_77 (Seg.cons k_X8_init_79 (Seg.cons k_X8_init_81 (Seg.cons k_X8_init_84 (Seg.cons k_X8_init_85 (Seg.cons k_X8_init_87 (Seg.cons k_X8_init_89 (Seg.cons k_X8_init_92 (Seg.cons k_X8_init_93 (Seg.cons k_X8_init_95 (Seg.cons k_X8_init_97 (Seg.cons k_X8_init_100 (Seg.cons k_X8_init_101 (Seg.cons k_X8_init_104 (Seg.cons k_X8_init_106 (Seg.cons k_X8_init_109 (Seg.cons k_X8_init_110 (Seg.cons k_X8_init_113 (Seg.cons k_X8_init_115 (Seg.cons k_X8_init_118 (Seg.cons k_X8_init_119 (Seg.nil))))))))))))))))))))))))))))))))))))))))))))))))))))))))))))
theorem s_X8_init_120 : Seg i_X8_init 120 [o_il 1, o_c 12, o_ige 165, o_al 0, o_gr 8 0, o_c 1188, o_il 1, o_add, o_c (-1), o_iast, o_al 0, o_gr 8 0, o_c 1200, o_il 1, o_add, o_c (-1), o_iast, o_al 0, o_gr 8 0, o_c 1346, o_il 1, o_add, o_c (-1), o_iast, o_inc 1 1, o_go 120] 165 := Seg.cons k_X8_init_120 (Seg.cons k_X8_init_121 (Seg.cons k_X8_init_123 (Seg.cons k_X8_init_126 (Seg.cons k_X8_init_127 (Seg.cons k_X8_init_130 (Seg.cons k_X8_init_133 (Seg.cons k_X8_init_134 (Seg.cons k_X8_init_135 (Seg.cons k_X8_init_136 (Seg.cons k_X8_init_137 (Seg.cons k_X8_init_138 (Seg.cons k_X8_init_141 (Seg.cons k_X8_init_144 (Seg.cons k_X8_init_145 (Seg.cons k_X8_init_146 (Seg.cons k_X8_init_147 (Seg.cons k_X8_init_148 (Seg.cons k_X8_init_149 (Seg.cons k_X8_init_152 (Seg.cons k_X8_init_155 (Seg.cons k_X8_init_156 (Seg.cons k_X8_init_157 (Seg.cons k_X8_init_158 (Seg.cons k_X8_init_159 (Seg.cons k_X8_init_162 (Seg.nil))))))))))))))))))))))))))
theorem s_X8_init_165 : Seg i_X8_init 165 [o_c 0, o_is 1] 167 := Seg.cons k_X8_init_165 (Seg.cons k_X8_init_166 (Seg.nil))
theorem s_X8_init_167 : Seg i_X8_init 167 [o_il 1, o_c 24, o_ige 190, o_al 0, o_gr 8 0, o_c 1358, o_il 1, o_add, o_c (-1), o_iast, o_inc 1 1, o_go 167] 190 := Seg.cons k_X8_init_167 (Seg.cons k_X8_init_168 (Seg.cons k_X8_init_170 (Seg.cons k_X8_init_173 (Seg.cons k_X8_init_174 (Seg.cons k_X8_init_177 (Seg.cons k_X8_init_180 (Seg.cons k_X8_init_181 (Seg.cons k_X8_init_182 (Seg.cons k_X8_init_183 (Seg.cons k_X8_init_184 (Seg.cons k_X8_init_187 (Seg.nil))))))))))))
theorem s_X8_init_190 : Seg i_X8_init 190 [o_vret] 191 := Seg.cons k_X8_init_190 (Seg.nil)

theorem s_X8_init_a : Seg i_X8_init 0 [o_al 0, o_oinit] 4 := Seg.cons k_X8_init_0 (Seg.cons k_X8_init_1 (Seg.nil))
theorem s_X8_init_p0 : Seg i_X8_init 4 [o_al 0, o_c 5528, o_newa 1, o_pr 8 0] 13 := Seg.cons k_X8_init_4 (Seg.cons k_X8_init_5 (Seg.cons k_X8_init_8 (Seg.cons k_X8_init_10 (Seg.nil))))
theorem s_X8_init_p1 : Seg i_X8_init 13 [o_al 0, o_c 3, o_newa 3, o_pr 8 1] 20 := Seg.cons k_X8_init_13 (Seg.cons k_X8_init_14 (Seg.cons k_X8_init_15 (Seg.cons k_X8_init_17 (Seg.nil))))
theorem s_X8_init_p2 : Seg i_X8_init 20 [o_al 0, o_c 13, o_newa 1, o_pr 8 2] 28 := Seg.cons k_X8_init_20 (Seg.cons k_X8_init_21 (Seg.cons k_X8_init_23 (Seg.cons k_X8_init_25 (Seg.nil))))
theorem s_X8_init_p3 : Seg i_X8_init 28 [o_al 0, o_c 13, o_newa 1, o_pr 8 3] 36 := Seg.cons k_X8_init_28 (Seg.cons k_X8_init_29 (Seg.cons k_X8_init_31 (Seg.cons k_X8_init_33 (Seg.nil))))
theorem s_X8_init_p4 : Seg i_X8_init 36 [o_al 0, o_c 12, o_newa 1, o_pr 8 4] 44 := Seg.cons k_X8_init_36 (Seg.cons k_X8_init_37 (Seg.cons k_X8_init_39 (Seg.cons k_X8_init_41 (Seg.nil))))
theorem s_X8_init_p5 : Seg i_X8_init 44 [o_al 0, o_c 12, o_newa 1, o_pr 8 5] 52 := Seg.cons k_X8_init_44 (Seg.cons k_X8_init_45 (Seg.cons k_X8_init_47 (Seg.cons k_X8_init_49 (Seg.nil))))
theorem s_X8_init_p6 : Seg i_X8_init 52 [o_al 0, o_c 200000, o_newa 2, o_pr 8 6] 60 := Seg.cons k_X8_init_52 (Seg.cons k_X8_init_53 (Seg.cons k_X8_init_55 (Seg.cons k_X8_init_57 (Seg.nil))))
theorem s_X8_init_p7 : Seg i_X8_init 60 [o_al 0, o_c 200000, o_newa 2, o_pr 8 7] 68 := Seg.cons k_X8_init_60 (Seg.cons k_X8_init_61 (Seg.cons k_X8_init_63 (Seg.cons k_X8_init_65 (Seg.nil))))
theorem s_X8_init_p8 : Seg i_X8_init 68 [o_al 0, o_c 12, o_newa 1, o_pr 8 8] 76 := Seg.cons k_X8_init_68 (Seg.cons k_X8_init_69 (Seg.cons k_X8_init_71 (Seg.cons k_X8_init_73 (Seg.nil))))
theorem s_X8_init_p9 : Seg i_X8_init 76 [o_al 0, o_c 12, o_newa 1, o_pr 8 9] 84 := Seg.cons k_X8_init_76 (Seg.cons k_X8_init_77 (Seg.cons k_X8_init_79 (Seg.cons k_X8_init_81 (Seg.nil))))
theorem s_X8_init_p10 : Seg i_X8_init 84 [o_al 0, o_c 24, o_newa 3, o_pr 8 10] 92 := Seg.cons k_X8_init_84 (Seg.cons k_X8_init_85 (Seg.cons k_X8_init_87 (Seg.cons k_X8_init_89 (Seg.nil))))
theorem s_X8_init_p11 : Seg i_X8_init 92 [o_al 0, o_c 24, o_newa 3, o_pr 8 11] 100 := Seg.cons k_X8_init_92 (Seg.cons k_X8_init_93 (Seg.cons k_X8_init_95 (Seg.cons k_X8_init_97 (Seg.nil))))
theorem s_X8_init_p12 : Seg i_X8_init 100 [o_al 0, o_c 3000, o_newa 3, o_pr 8 12] 109 := Seg.cons k_X8_init_100 (Seg.cons k_X8_init_101 (Seg.cons k_X8_init_104 (Seg.cons k_X8_init_106 (Seg.nil))))
theorem s_X8_init_p13 : Seg i_X8_init 109 [o_al 0, o_c 3000, o_newa 3, o_pr 8 13] 118 := Seg.cons k_X8_init_109 (Seg.cons k_X8_init_110 (Seg.cons k_X8_init_113 (Seg.cons k_X8_init_115 (Seg.nil))))
theorem s_X8_init_z : Seg i_X8_init 118 [o_c 0, o_is 1] 120 := Seg.cons k_X8_init_118 (Seg.cons k_X8_init_119 (Seg.nil))
theorem m_X8_init : Mth yX8_init cX8_init 2 none 2 S_X8_init := by
  refine Mth.of (by decide) ?_
  rintro x as h ok ⟨y, rfl, k0, ht, hK⟩
  refine ⟨Nat.le_of_ble_eq_true rfl, ?_⟩
  show V i_X8_init x 0 _ [] h (14, 411653)
  have g0 : Mk h h y 0 := ⟨k0, by omega, Eqj.rf h y, fun j hj => by omega⟩
  have fin : ∀ h', Mk h h' y 14 → ∀ v1, V i_X8_init x 118 [some (vr (some y)), v1] [] h' (0, 0) := by
    intro h' hk v1
    obtain ⟨m1, m2, m3, m4⟩ := hk
    have hM : Mo h' y := ⟨m1, (m4 0 (by omega)).1, (m4 1 (by omega)).1, (m4 2 (by omega)).1, (m4 3 (by omega)).1, (m4 4 (by omega)).1, (m4 5 (by omega)).1, (m4 6 (by omega)).1, (m4 7 (by omega)).1, (m4 8 (by omega)).1, (m4 9 (by omega)).1, (m4 10 (by omega)).1, (m4 11 (by omega)).1, (m4 12 (by omega)).1, (m4 13 (by omega)).1, (m4 0 (by omega)).2.1, (m4 1 (by omega)).2.1, (m4 2 (by omega)).2.1, (m4 3 (by omega)).2.1, (m4 4 (by omega)).2.1, (m4 5 (by omega)).2.1, (m4 6 (by omega)).2.1, (m4 7 (by omega)).2.1, (m4 8 (by omega)).2.1, (m4 9 (by omega)).2.1, (m4 10 (by omega)).2.1, (m4 11 (by omega)).2.1, (m4 12 (by omega)).2.1, (m4 13 (by omega)).2.1, (m4 0 (by omega)).2.2.1, (m4 1 (by omega)).2.2.1, (m4 2 (by omega)).2.2.1, (m4 3 (by omega)).2.2.1, (m4 4 (by omega)).2.2.1, (m4 5 (by omega)).2.2.1, (m4 6 (by omega)).2.2.1, (m4 7 (by omega)).2.2.1, (m4 8 (by omega)).2.2.1, (m4 9 (by omega)).2.2.1, (m4 10 (by omega)).2.2.1, (m4 11 (by omega)).2.2.1, (m4 12 (by omega)).2.2.1, (m4 13 (by omega)).2.2.1⟩
    have hz1 : qi h' (y + 1) = fun _ => 0 := (m4 0 (by omega)).2.2.2
    have hz2 : qi h' (y + 2) = fun _ => 0 := (m4 1 (by omega)).2.2.2
    have lp2 : ∀ j, j ≤ 24 → ∀ g : Nat → Int, (∀ k, g k = if (1188 ≤ k ∧ k < 1212) ∨ (1346 ≤ k ∧ k < 1358 + j) then -1 else 0) → V i_X8_init x 167 [some (vr (some y)), some (vi j)] [] (wi h' (y + 1) g) (0, 0) := by
      refine bwd _ ?_ ?_
      · intro g hg
        have eg : g = dI := by
          funext k
          rw [hg k]
          rfl
        have hfin := hK (wi h' (y + 1) g) (m3.tr (Eqj.wi h' (y + 1) g (a := y) (by omega)) (Nat.le_refl y)) (by rw [qt_wi, m2]) hM (by rw [qi_ws, eg]) (by rw [qi_wn (by omega)]; exact hz2)
        refine s_X8_init_167 x ok _ _ _ _ ?_
        simp only [wpS, o_c, o_cl, o_il, o_ll, o_al, o_is, o_ls, o_as, o_inc, o_add, o_sub, o_mul, o_and, o_or, o_xor, o_shl, o_shr, o_div, o_neg, o_ladd, o_lsub, o_lmul, o_ldiv, o_lrem, o_lneg, o_lcmp, o_i2l, o_l2i, o_dup, o_dup2, o_pop, o_go, o_nn, o_sw, swc, o_iret, o_zret, o_lret, o_vret, o_ieq, o_eq0, o_ine, o_ne0, o_ilt, o_lt0, o_ige, o_ge0, o_igt, o_gt0, o_ile, o_le0, o_iald, o_zald, o_lald, o_aald, o_iast, o_zast, o_last, o_aast, o_alen, o_gi, o_gr, o_pi, o_pz, o_pr, o_new, o_newa, o_copy, o_oinit, o_call, o_callV, o_callVc, o_callI, popn, cnO, o_BAD, lgt, lst, isL, kil, st1, st2, entL, List.length_nil, List.length_cons, List.replicate, Nat.reduceAdd, Nat.reduceLeDiff, Nat.reduceSub, true_and, and_true, Nat.zero_le, ne_eq, qk_wi, ql_wi, qr_wi, qj_wi, qt_wi, qk_wj, ql_wj, qr_wj, qi_wj, qt_wj, qk_wr, ql_wr, qi_wr, qj_wr, qt_wr, qi_ws, qj_ws, qr_ws, Int.toNat_natCast, Int.toNat_zero, Int.reduceToNat, not_true_eq_false, not_false_eq_true, false_implies, implies_true, Option.some.injEq, reduceCtorEq, Sp0, true_or, or_true, or_self, wi_wi, wj_wj, hM.k]
        repeat' (first | (with_reducible refine And.intro ?_ ?_) | (with_reducible intro))
        all_goals (try (first | with_reducible assumption | omega | (unfold inI; omega) | (unfold inL; omega) | exact cz_in _ _))
        all_goals (try (exfalso; omega))
        refine s_X8_init_190 x ok _ _ _ _ ?_
        simp only [wpS, o_c, o_cl, o_il, o_ll, o_al, o_is, o_ls, o_as, o_inc, o_add, o_sub, o_mul, o_and, o_or, o_xor, o_shl, o_shr, o_div, o_neg, o_ladd, o_lsub, o_lmul, o_ldiv, o_lrem, o_lneg, o_lcmp, o_i2l, o_l2i, o_dup, o_dup2, o_pop, o_go, o_nn, o_sw, swc, o_iret, o_zret, o_lret, o_vret, o_ieq, o_eq0, o_ine, o_ne0, o_ilt, o_lt0, o_ige, o_ge0, o_igt, o_gt0, o_ile, o_le0, o_iald, o_zald, o_lald, o_aald, o_iast, o_zast, o_last, o_aast, o_alen, o_gi, o_gr, o_pi, o_pz, o_pr, o_new, o_newa, o_copy, o_oinit, o_call, o_callV, o_callVc, o_callI, popn, cnO, o_BAD, lgt, lst, isL, kil, st1, st2, entL, List.length_nil, List.length_cons, List.replicate, Nat.reduceAdd, Nat.reduceLeDiff, Nat.reduceSub, true_and, and_true, Nat.zero_le, ne_eq, qk_wi, ql_wi, qr_wi, qj_wi, qt_wi, qk_wj, ql_wj, qr_wj, qi_wj, qt_wj, qk_wr, ql_wr, qi_wr, qj_wr, qt_wr, qi_ws, qj_ws, qr_ws, Int.toNat_natCast, Int.toNat_zero, Int.reduceToNat, not_true_eq_false, not_false_eq_true, false_implies, implies_true, Option.some.injEq, reduceCtorEq, Sp0, true_or, or_true, or_self, wi_wi, wj_wj, hM.k]
        repeat' (first | (with_reducible refine And.intro ?_ ?_) | (with_reducible intro))
        all_goals (try (first | with_reducible assumption | omega | (unfold inI; omega) | (unfold inL; omega) | exact cz_in _ _))
        all_goals (first | exact hfin | skip)
      · intro j hj ih g hg
        refine s_X8_init_167 x ok _ _ _ _ ?_
        simp only [wpS, o_c, o_cl, o_il, o_ll, o_al, o_is, o_ls, o_as, o_inc, o_add, o_sub, o_mul, o_and, o_or, o_xor, o_shl, o_shr, o_div, o_neg, o_ladd, o_lsub, o_lmul, o_ldiv, o_lrem, o_lneg, o_lcmp, o_i2l, o_l2i, o_dup, o_dup2, o_pop, o_go, o_nn, o_sw, swc, o_iret, o_zret, o_lret, o_vret, o_ieq, o_eq0, o_ine, o_ne0, o_ilt, o_lt0, o_ige, o_ge0, o_igt, o_gt0, o_ile, o_le0, o_iald, o_zald, o_lald, o_aald, o_iast, o_zast, o_last, o_aast, o_alen, o_gi, o_gr, o_pi, o_pz, o_pr, o_new, o_newa, o_copy, o_oinit, o_call, o_callV, o_callVc, o_callI, popn, cnO, o_BAD, lgt, lst, isL, kil, st1, st2, entL, List.length_nil, List.length_cons, List.replicate, Nat.reduceAdd, Nat.reduceLeDiff, Nat.reduceSub, true_and, and_true, Nat.zero_le, ne_eq, qk_wi, ql_wi, qr_wi, qj_wi, qt_wi, qk_wj, ql_wj, qr_wj, qi_wj, qt_wj, qk_wr, ql_wr, qi_wr, qj_wr, qt_wr, qi_ws, qj_ws, qr_ws, Int.toNat_natCast, Int.toNat_zero, Int.reduceToNat, not_true_eq_false, not_false_eq_true, false_implies, implies_true, Option.some.injEq, reduceCtorEq, Sp0, true_or, or_true, or_self, wi_wi, wj_wj, hM.k, hM.r0, hM.k1, hM.l1, ix0, ix12, ix24, ix36, ix48, ix60, ix1032, ix1044, ix1092, ix1140, ix1188, ix1200, ix1212, ix1284, ix1290, ix1296, ix1298, ix1322, ix1346, ix1358, ixm4, ixm12, ixm24, ixm81, ixm1382, ixadd, Nat.zero_add]
        repeat' (first | (with_reducible refine And.intro ?_ ?_) | (with_reducible intro))
        all_goals (try (first | with_reducible assumption | omega | (unfold inI; omega) | (unfold inL; omega) | exact cz_in _ _))
        all_goals (try (exfalso; omega))
        refine ih _ (fun k => ?_)
        unfold fu
        by_cases u : k = 1358 + j
        · rw [if_pos u, if_pos (by omega)]
        · rw [if_neg u, hg k]
          by_cases z : (1188 ≤ k ∧ k < 1212) ∨ (1346 ≤ k ∧ k < 1358 + j)
          · rw [if_pos z, if_pos (by omega)]
          · rw [if_neg z, if_neg (by omega)]
    have lp1 : ∀ j, j ≤ 12 → ∀ g : Nat → Int, (∀ k, g k = if (1188 ≤ k ∧ k < 1188 + j) ∨ (1200 ≤ k ∧ k < 1200 + j) ∨ (1346 ≤ k ∧ k < 1346 + j) then -1 else 0) → V i_X8_init x 120 [some (vr (some y)), some (vi j)] [] (wi h' (y + 1) g) (0, 0) := by
      refine bwd _ ?_ ?_
      · intro g hg
        have := lp2 0 (by omega) g (fun k => by
          rw [hg k]
          by_cases z : (1188 ≤ k ∧ k < 1188 + 12) ∨ (1200 ≤ k ∧ k < 1200 + 12) ∨ (1346 ≤ k ∧ k < 1346 + 12)
          · rw [if_pos z, if_pos (by omega)]
          · rw [if_neg z, if_neg (by omega)])
        refine s_X8_init_120 x ok _ _ _ _ ?_
        simp only [wpS, o_c, o_cl, o_il, o_ll, o_al, o_is, o_ls, o_as, o_inc, o_add, o_sub, o_mul, o_and, o_or, o_xor, o_shl, o_shr, o_div, o_neg, o_ladd, o_lsub, o_lmul, o_ldiv, o_lrem, o_lneg, o_lcmp, o_i2l, o_l2i, o_dup, o_dup2, o_pop, o_go, o_nn, o_sw, swc, o_iret, o_zret, o_lret, o_vret, o_ieq, o_eq0, o_ine, o_ne0, o_ilt, o_lt0, o_ige, o_ge0, o_igt, o_gt0, o_ile, o_le0, o_iald, o_zald, o_lald, o_aald, o_iast, o_zast, o_last, o_aast, o_alen, o_gi, o_gr, o_pi, o_pz, o_pr, o_new, o_newa, o_copy, o_oinit, o_call, o_callV, o_callVc, o_callI, popn, cnO, o_BAD, lgt, lst, isL, kil, st1, st2, entL, List.length_nil, List.length_cons, List.replicate, Nat.reduceAdd, Nat.reduceLeDiff, Nat.reduceSub, true_and, and_true, Nat.zero_le, ne_eq, qk_wi, ql_wi, qr_wi, qj_wi, qt_wi, qk_wj, ql_wj, qr_wj, qi_wj, qt_wj, qk_wr, ql_wr, qi_wr, qj_wr, qt_wr, qi_ws, qj_ws, qr_ws, Int.toNat_natCast, Int.toNat_zero, Int.reduceToNat, not_true_eq_false, not_false_eq_true, false_implies, implies_true, Option.some.injEq, reduceCtorEq, Sp0, true_or, or_true, or_self, wi_wi, wj_wj, hM.k]
        repeat' (first | (with_reducible refine And.intro ?_ ?_) | (with_reducible intro))
        all_goals (try (first | with_reducible assumption | omega | (unfold inI; omega) | (unfold inL; omega) | exact cz_in _ _))
        all_goals (try (exfalso; omega))
        refine s_X8_init_165 x ok _ _ _ _ ?_
        simp only [wpS, o_c, o_cl, o_il, o_ll, o_al, o_is, o_ls, o_as, o_inc, o_add, o_sub, o_mul, o_and, o_or, o_xor, o_shl, o_shr, o_div, o_neg, o_ladd, o_lsub, o_lmul, o_ldiv, o_lrem, o_lneg, o_lcmp, o_i2l, o_l2i, o_dup, o_dup2, o_pop, o_go, o_nn, o_sw, swc, o_iret, o_zret, o_lret, o_vret, o_ieq, o_eq0, o_ine, o_ne0, o_ilt, o_lt0, o_ige, o_ge0, o_igt, o_gt0, o_ile, o_le0, o_iald, o_zald, o_lald, o_aald, o_iast, o_zast, o_last, o_aast, o_alen, o_gi, o_gr, o_pi, o_pz, o_pr, o_new, o_newa, o_copy, o_oinit, o_call, o_callV, o_callVc, o_callI, popn, cnO, o_BAD, lgt, lst, isL, kil, st1, st2, entL, List.length_nil, List.length_cons, List.replicate, Nat.reduceAdd, Nat.reduceLeDiff, Nat.reduceSub, true_and, and_true, Nat.zero_le, ne_eq, qk_wi, ql_wi, qr_wi, qj_wi, qt_wi, qk_wj, ql_wj, qr_wj, qi_wj, qt_wj, qk_wr, ql_wr, qi_wr, qj_wr, qt_wr, qi_ws, qj_ws, qr_ws, Int.toNat_natCast, Int.toNat_zero, Int.reduceToNat, not_true_eq_false, not_false_eq_true, false_implies, implies_true, Option.some.injEq, reduceCtorEq, Sp0, true_or, or_true, or_self, wi_wi, wj_wj, hM.k]
        exact this
      · intro j hj ih g hg
        refine s_X8_init_120 x ok _ _ _ _ ?_
        simp only [wpS, o_c, o_cl, o_il, o_ll, o_al, o_is, o_ls, o_as, o_inc, o_add, o_sub, o_mul, o_and, o_or, o_xor, o_shl, o_shr, o_div, o_neg, o_ladd, o_lsub, o_lmul, o_ldiv, o_lrem, o_lneg, o_lcmp, o_i2l, o_l2i, o_dup, o_dup2, o_pop, o_go, o_nn, o_sw, swc, o_iret, o_zret, o_lret, o_vret, o_ieq, o_eq0, o_ine, o_ne0, o_ilt, o_lt0, o_ige, o_ge0, o_igt, o_gt0, o_ile, o_le0, o_iald, o_zald, o_lald, o_aald, o_iast, o_zast, o_last, o_aast, o_alen, o_gi, o_gr, o_pi, o_pz, o_pr, o_new, o_newa, o_copy, o_oinit, o_call, o_callV, o_callVc, o_callI, popn, cnO, o_BAD, lgt, lst, isL, kil, st1, st2, entL, List.length_nil, List.length_cons, List.replicate, Nat.reduceAdd, Nat.reduceLeDiff, Nat.reduceSub, true_and, and_true, Nat.zero_le, ne_eq, qk_wi, ql_wi, qr_wi, qj_wi, qt_wi, qk_wj, ql_wj, qr_wj, qi_wj, qt_wj, qk_wr, ql_wr, qi_wr, qj_wr, qt_wr, qi_ws, qj_ws, qr_ws, Int.toNat_natCast, Int.toNat_zero, Int.reduceToNat, not_true_eq_false, not_false_eq_true, false_implies, implies_true, Option.some.injEq, reduceCtorEq, Sp0, true_or, or_true, or_self, wi_wi, wj_wj, hM.k, hM.r0, hM.k1, hM.l1, ix0, ix12, ix24, ix36, ix48, ix60, ix1032, ix1044, ix1092, ix1140, ix1188, ix1200, ix1212, ix1284, ix1290, ix1296, ix1298, ix1322, ix1346, ix1358, ixm4, ixm12, ixm24, ixm81, ixm1382, ixadd, Nat.zero_add]
        repeat' (first | (with_reducible refine And.intro ?_ ?_) | (with_reducible intro))
        all_goals (try (first | with_reducible assumption | omega | (unfold inI; omega) | (unfold inL; omega) | exact cz_in _ _))
        all_goals (try (exfalso; omega))
        refine ih _ (fun k => ?_)
        unfold fu
        by_cases u : k = 1346 + j
        · rw [if_pos u, if_pos (by omega)]
        · by_cases u2 : k = 1200 + j
          · rw [if_neg u, if_pos u2, if_pos (by omega)]
          · by_cases u3 : k = 1188 + j
            · rw [if_neg u, if_neg u2, if_pos u3, if_pos (by omega)]
            · rw [if_neg u, if_neg u2, if_neg u3, hg k]
              by_cases z : (1188 ≤ k ∧ k < 1188 + j) ∨ (1200 ≤ k ∧ k < 1200 + j) ∨ (1346 ≤ k ∧ k < 1346 + j)
              · rw [if_pos z, if_pos (by omega)]
              · rw [if_neg z, if_neg (by omega)]
    have h0 := lp1 0 (by omega) (qi h' (y + 1)) (fun k => by
      rw [hz1, if_neg (by omega)])
    rw [wi_self] at h0
    refine s_X8_init_z x ok _ _ _ _ ?_
    simp only [wpS, o_c, o_cl, o_il, o_ll, o_al, o_is, o_ls, o_as, o_inc, o_add, o_sub, o_mul, o_and, o_or, o_xor, o_shl, o_shr, o_div, o_neg, o_ladd, o_lsub, o_lmul, o_ldiv, o_lrem, o_lneg, o_lcmp, o_i2l, o_l2i, o_dup, o_dup2, o_pop, o_go, o_nn, o_sw, swc, o_iret, o_zret, o_lret, o_vret, o_ieq, o_eq0, o_ine, o_ne0, o_ilt, o_lt0, o_ige, o_ge0, o_igt, o_gt0, o_ile, o_le0, o_iald, o_zald, o_lald, o_aald, o_iast, o_zast, o_last, o_aast, o_alen, o_gi, o_gr, o_pi, o_pz, o_pr, o_new, o_newa, o_copy, o_oinit, o_call, o_callV, o_callVc, o_callI, popn, cnO, o_BAD, lgt, lst, isL, kil, st1, st2, entL, List.length_nil, List.length_cons, List.replicate, Nat.reduceAdd, Nat.reduceLeDiff, Nat.reduceSub, true_and, and_true, Nat.zero_le, ne_eq, qk_wi, ql_wi, qr_wi, qj_wi, qt_wi, qk_wj, ql_wj, qr_wj, qi_wj, qt_wj, qk_wr, ql_wr, qi_wr, qj_wr, qt_wr, qi_ws, qj_ws, qr_ws, Int.toNat_natCast, Int.toNat_zero, Int.reduceToNat, not_true_eq_false, not_false_eq_true, false_implies, implies_true, Option.some.injEq, reduceCtorEq, Sp0, true_or, or_true, or_self, wi_wi, wj_wj, hM.k]
    exact h0
  have p14 := fin
  have p13 : ∀ h', Mk h h' y 13 → ∀ v1, V i_X8_init x 109 [some (vr (some y)), v1] [] h' (1, 3000) := by
    intro h' hk v1
    have hn := p14 _ hk.step
    have e1 : qt h' = y + 14 := hk.2.1
    have e2 : ¬ y = qt h' := by omega
    refine s_X8_init_p13 x ok _ _ _ _ ?_
    simp only [wpS, o_c, o_cl, o_il, o_ll, o_al, o_is, o_ls, o_as, o_inc, o_add, o_sub, o_mul, o_and, o_or, o_xor, o_shl, o_shr, o_div, o_neg, o_ladd, o_lsub, o_lmul, o_ldiv, o_lrem, o_lneg, o_lcmp, o_i2l, o_l2i, o_dup, o_dup2, o_pop, o_go, o_nn, o_sw, swc, o_iret, o_zret, o_lret, o_vret, o_ieq, o_eq0, o_ine, o_ne0, o_ilt, o_lt0, o_ige, o_ge0, o_igt, o_gt0, o_ile, o_le0, o_iald, o_zald, o_lald, o_aald, o_iast, o_zast, o_last, o_aast, o_alen, o_gi, o_gr, o_pi, o_pz, o_pr, o_new, o_newa, o_copy, o_oinit, o_call, o_callV, o_callVc, o_callI, popn, cnO, o_BAD, lgt, lst, isL, kil, st1, st2, entL, List.length_nil, List.length_cons, List.replicate, Nat.reduceAdd, Nat.reduceLeDiff, Nat.reduceSub, true_and, and_true, Nat.zero_le, ne_eq, qk_wi, ql_wi, qr_wi, qj_wi, qt_wi, qk_wj, ql_wj, qr_wj, qi_wj, qt_wj, qk_wr, ql_wr, qi_wr, qj_wr, qt_wr, qi_ws, qj_ws, qr_ws, Int.toNat_natCast, Int.toNat_zero, Int.reduceToNat, not_true_eq_false, not_false_eq_true, false_implies, implies_true, Option.some.injEq, reduceCtorEq, Sp0, true_or, or_true, or_self, wi_wi, wj_wj, hk.1, qk_al, qr_al, e2, ↓reduceIte]
    repeat' (first | (with_reducible refine And.intro ?_ ?_) | (with_reducible intro))
    all_goals (try (first | with_reducible assumption | omega | (unfold inI; omega) | (unfold inL; omega) | exact cz_in _ _))
    all_goals (first | (rw [e1]; exact hn _) | skip)
  have p12 : ∀ h', Mk h h' y 12 → ∀ v1, V i_X8_init x 100 [some (vr (some y)), v1] [] h' (2, 6000) := by
    intro h' hk v1
    have hn := p13 _ hk.step
    have e1 : qt h' = y + 13 := hk.2.1
    have e2 : ¬ y = qt h' := by omega
    refine s_X8_init_p12 x ok _ _ _ _ ?_
    simp only [wpS, o_c, o_cl, o_il, o_ll, o_al, o_is, o_ls, o_as, o_inc, o_add, o_sub, o_mul, o_and, o_or, o_xor, o_shl, o_shr, o_div, o_neg, o_ladd, o_lsub, o_lmul, o_ldiv, o_lrem, o_lneg, o_lcmp, o_i2l, o_l2i, o_dup, o_dup2, o_pop, o_go, o_nn, o_sw, swc, o_iret, o_zret, o_lret, o_vret, o_ieq, o_eq0, o_ine, o_ne0, o_ilt, o_lt0, o_ige, o_ge0, o_igt, o_gt0, o_ile, o_le0, o_iald, o_zald, o_lald, o_aald, o_iast, o_zast, o_last, o_aast, o_alen, o_gi, o_gr, o_pi, o_pz, o_pr, o_new, o_newa, o_copy, o_oinit, o_call, o_callV, o_callVc, o_callI, popn, cnO, o_BAD, lgt, lst, isL, kil, st1, st2, entL, List.length_nil, List.length_cons, List.replicate, Nat.reduceAdd, Nat.reduceLeDiff, Nat.reduceSub, true_and, and_true, Nat.zero_le, ne_eq, qk_wi, ql_wi, qr_wi, qj_wi, qt_wi, qk_wj, ql_wj, qr_wj, qi_wj, qt_wj, qk_wr, ql_wr, qi_wr, qj_wr, qt_wr, qi_ws, qj_ws, qr_ws, Int.toNat_natCast, Int.toNat_zero, Int.reduceToNat, not_true_eq_false, not_false_eq_true, false_implies, implies_true, Option.some.injEq, reduceCtorEq, Sp0, true_or, or_true, or_self, wi_wi, wj_wj, hk.1, qk_al, qr_al, e2, ↓reduceIte]
    repeat' (first | (with_reducible refine And.intro ?_ ?_) | (with_reducible intro))
    all_goals (try (first | with_reducible assumption | omega | (unfold inI; omega) | (unfold inL; omega) | exact cz_in _ _))
    all_goals (first | (rw [e1]; exact hn _) | skip)
  have p11 : ∀ h', Mk h h' y 11 → ∀ v1, V i_X8_init x 92 [some (vr (some y)), v1] [] h' (3, 6024) := by
    intro h' hk v1
    have hn := p12 _ hk.step
    have e1 : qt h' = y + 12 := hk.2.1
    have e2 : ¬ y = qt h' := by omega
    refine s_X8_init_p11 x ok _ _ _ _ ?_
    simp only [wpS, o_c, o_cl, o_il, o_ll, o_al, o_is, o_ls, o_as, o_inc, o_add, o_sub, o_mul, o_and, o_or, o_xor, o_shl, o_shr, o_div, o_neg, o_ladd, o_lsub, o_lmul, o_ldiv, o_lrem, o_lneg, o_lcmp, o_i2l, o_l2i, o_dup, o_dup2, o_pop, o_go, o_nn, o_sw, swc, o_iret, o_zret, o_lret, o_vret, o_ieq, o_eq0, o_ine, o_ne0, o_ilt, o_lt0, o_ige, o_ge0, o_igt, o_gt0, o_ile, o_le0, o_iald, o_zald, o_lald, o_aald, o_iast, o_zast, o_last, o_aast, o_alen, o_gi, o_gr, o_pi, o_pz, o_pr, o_new, o_newa, o_copy, o_oinit, o_call, o_callV, o_callVc, o_callI, popn, cnO, o_BAD, lgt, lst, isL, kil, st1, st2, entL, List.length_nil, List.length_cons, List.replicate, Nat.reduceAdd, Nat.reduceLeDiff, Nat.reduceSub, true_and, and_true, Nat.zero_le, ne_eq, qk_wi, ql_wi, qr_wi, qj_wi, qt_wi, qk_wj, ql_wj, qr_wj, qi_wj, qt_wj, qk_wr, ql_wr, qi_wr, qj_wr, qt_wr, qi_ws, qj_ws, qr_ws, Int.toNat_natCast, Int.toNat_zero, Int.reduceToNat, not_true_eq_false, not_false_eq_true, false_implies, implies_true, Option.some.injEq, reduceCtorEq, Sp0, true_or, or_true, or_self, wi_wi, wj_wj, hk.1, qk_al, qr_al, e2, ↓reduceIte]
    repeat' (first | (with_reducible refine And.intro ?_ ?_) | (with_reducible intro))
    all_goals (try (first | with_reducible assumption | omega | (unfold inI; omega) | (unfold inL; omega) | exact cz_in _ _))
    all_goals (first | (rw [e1]; exact hn _) | skip)
  have p10 : ∀ h', Mk h h' y 10 → ∀ v1, V i_X8_init x 84 [some (vr (some y)), v1] [] h' (4, 6048) := by
    intro h' hk v1
    have hn := p11 _ hk.step
    have e1 : qt h' = y + 11 := hk.2.1
    have e2 : ¬ y = qt h' := by omega
    refine s_X8_init_p10 x ok _ _ _ _ ?_
    simp only [wpS, o_c, o_cl, o_il, o_ll, o_al, o_is, o_ls, o_as, o_inc, o_add, o_sub, o_mul, o_and, o_or, o_xor, o_shl, o_shr, o_div, o_neg, o_ladd, o_lsub, o_lmul, o_ldiv, o_lrem, o_lneg, o_lcmp, o_i2l, o_l2i, o_dup, o_dup2, o_pop, o_go, o_nn, o_sw, swc, o_iret, o_zret, o_lret, o_vret, o_ieq, o_eq0, o_ine, o_ne0, o_ilt, o_lt0, o_ige, o_ge0, o_igt, o_gt0, o_ile, o_le0, o_iald, o_zald, o_lald, o_aald, o_iast, o_zast, o_last, o_aast, o_alen, o_gi, o_gr, o_pi, o_pz, o_pr, o_new, o_newa, o_copy, o_oinit, o_call, o_callV, o_callVc, o_callI, popn, cnO, o_BAD, lgt, lst, isL, kil, st1, st2, entL, List.length_nil, List.length_cons, List.replicate, Nat.reduceAdd, Nat.reduceLeDiff, Nat.reduceSub, true_and, and_true, Nat.zero_le, ne_eq, qk_wi, ql_wi, qr_wi, qj_wi, qt_wi, qk_wj, ql_wj, qr_wj, qi_wj, qt_wj, qk_wr, ql_wr, qi_wr, qj_wr, qt_wr, qi_ws, qj_ws, qr_ws, Int.toNat_natCast, Int.toNat_zero, Int.reduceToNat, not_true_eq_false, not_false_eq_true, false_implies, implies_true, Option.some.injEq, reduceCtorEq, Sp0, true_or, or_true, or_self, wi_wi, wj_wj, hk.1, qk_al, qr_al, e2, ↓reduceIte]
    repeat' (first | (with_reducible refine And.intro ?_ ?_) | (with_reducible intro))
    all_goals (try (first | with_reducible assumption | omega | (unfold inI; omega) | (unfold inL; omega) | exact cz_in _ _))
    all_goals (first | (rw [e1]; exact hn _) | skip)
  have p9 : ∀ h', Mk h h' y 9 → ∀ v1, V i_X8_init x 76 [some (vr (some y)), v1] [] h' (5, 6060) := by
    intro h' hk v1
    have hn := p10 _ hk.step
    have e1 : qt h' = y + 10 := hk.2.1
    have e2 : ¬ y = qt h' := by omega
    refine s_X8_init_p9 x ok _ _ _ _ ?_
    simp only [wpS, o_c, o_cl, o_il, o_ll, o_al, o_is, o_ls, o_as, o_inc, o_add, o_sub, o_mul, o_and, o_or, o_xor, o_shl, o_shr, o_div, o_neg, o_ladd, o_lsub, o_lmul, o_ldiv, o_lrem, o_lneg, o_lcmp, o_i2l, o_l2i, o_dup, o_dup2, o_pop, o_go, o_nn, o_sw, swc, o_iret, o_zret, o_lret, o_vret, o_ieq, o_eq0, o_ine, o_ne0, o_ilt, o_lt0, o_ige, o_ge0, o_igt, o_gt0, o_ile, o_le0, o_iald, o_zald, o_lald, o_aald, o_iast, o_zast, o_last, o_aast, o_alen, o_gi, o_gr, o_pi, o_pz, o_pr, o_new, o_newa, o_copy, o_oinit, o_call, o_callV, o_callVc, o_callI, popn, cnO, o_BAD, lgt, lst, isL, kil, st1, st2, entL, List.length_nil, List.length_cons, List.replicate, Nat.reduceAdd, Nat.reduceLeDiff, Nat.reduceSub, true_and, and_true, Nat.zero_le, ne_eq, qk_wi, ql_wi, qr_wi, qj_wi, qt_wi, qk_wj, ql_wj, qr_wj, qi_wj, qt_wj, qk_wr, ql_wr, qi_wr, qj_wr, qt_wr, qi_ws, qj_ws, qr_ws, Int.toNat_natCast, Int.toNat_zero, Int.reduceToNat, not_true_eq_false, not_false_eq_true, false_implies, implies_true, Option.some.injEq, reduceCtorEq, Sp0, true_or, or_true, or_self, wi_wi, wj_wj, hk.1, qk_al, qr_al, e2, ↓reduceIte]
    repeat' (first | (with_reducible refine And.intro ?_ ?_) | (with_reducible intro))
    all_goals (try (first | with_reducible assumption | omega | (unfold inI; omega) | (unfold inL; omega) | exact cz_in _ _))
    all_goals (first | (rw [e1]; exact hn _) | skip)
  have p8 : ∀ h', Mk h h' y 8 → ∀ v1, V i_X8_init x 68 [some (vr (some y)), v1] [] h' (6, 6072) := by
    intro h' hk v1
    have hn := p9 _ hk.step
    have e1 : qt h' = y + 9 := hk.2.1
    have e2 : ¬ y = qt h' := by omega
    refine s_X8_init_p8 x ok _ _ _ _ ?_
    simp only [wpS, o_c, o_cl, o_il, o_ll, o_al, o_is, o_ls, o_as, o_inc, o_add, o_sub, o_mul, o_and, o_or, o_xor, o_shl, o_shr, o_div, o_neg, o_ladd, o_lsub, o_lmul, o_ldiv, o_lrem, o_lneg, o_lcmp, o_i2l, o_l2i, o_dup, o_dup2, o_pop, o_go, o_nn, o_sw, swc, o_iret, o_zret, o_lret, o_vret, o_ieq, o_eq0, o_ine, o_ne0, o_ilt, o_lt0, o_ige, o_ge0, o_igt, o_gt0, o_ile, o_le0, o_iald, o_zald, o_lald, o_aald, o_iast, o_zast, o_last, o_aast, o_alen, o_gi, o_gr, o_pi, o_pz, o_pr, o_new, o_newa, o_copy, o_oinit, o_call, o_callV, o_callVc, o_callI, popn, cnO, o_BAD, lgt, lst, isL, kil, st1, st2, entL, List.length_nil, List.length_cons, List.replicate, Nat.reduceAdd, Nat.reduceLeDiff, Nat.reduceSub, true_and, and_true, Nat.zero_le, ne_eq, qk_wi, ql_wi, qr_wi, qj_wi, qt_wi, qk_wj, ql_wj, qr_wj, qi_wj, qt_wj, qk_wr, ql_wr, qi_wr, qj_wr, qt_wr, qi_ws, qj_ws, qr_ws, Int.toNat_natCast, Int.toNat_zero, Int.reduceToNat, not_true_eq_false, not_false_eq_true, false_implies, implies_true, Option.some.injEq, reduceCtorEq, Sp0, true_or, or_true, or_self, wi_wi, wj_wj, hk.1, qk_al, qr_al, e2, ↓reduceIte]
    repeat' (first | (with_reducible refine And.intro ?_ ?_) | (with_reducible intro))
    all_goals (try (first | with_reducible assumption | omega | (unfold inI; omega) | (unfold inL; omega) | exact cz_in _ _))
    all_goals (first | (rw [e1]; exact hn _) | skip)
  have p7 : ∀ h', Mk h h' y 7 → ∀ v1, V i_X8_init x 60 [some (vr (some y)), v1] [] h' (7, 206072) := by
    intro h' hk v1
    have hn := p8 _ hk.step
    have e1 : qt h' = y + 8 := hk.2.1
    have e2 : ¬ y = qt h' := by omega
    refine s_X8_init_p7 x ok _ _ _ _ ?_
    simp only [wpS, o_c, o_cl, o_il, o_ll, o_al, o_is, o_ls, o_as, o_inc, o_add, o_sub, o_mul, o_and, o_or, o_xor, o_shl, o_shr, o_div, o_neg, o_ladd, o_lsub, o_lmul, o_ldiv, o_lrem, o_lneg, o_lcmp, o_i2l, o_l2i, o_dup, o_dup2, o_pop, o_go, o_nn, o_sw, swc, o_iret, o_zret, o_lret, o_vret, o_ieq, o_eq0, o_ine, o_ne0, o_ilt, o_lt0, o_ige, o_ge0, o_igt, o_gt0, o_ile, o_le0, o_iald, o_zald, o_lald, o_aald, o_iast, o_zast, o_last, o_aast, o_alen, o_gi, o_gr, o_pi, o_pz, o_pr, o_new, o_newa, o_copy, o_oinit, o_call, o_callV, o_callVc, o_callI, popn, cnO, o_BAD, lgt, lst, isL, kil, st1, st2, entL, List.length_nil, List.length_cons, List.replicate, Nat.reduceAdd, Nat.reduceLeDiff, Nat.reduceSub, true_and, and_true, Nat.zero_le, ne_eq, qk_wi, ql_wi, qr_wi, qj_wi, qt_wi, qk_wj, ql_wj, qr_wj, qi_wj, qt_wj, qk_wr, ql_wr, qi_wr, qj_wr, qt_wr, qi_ws, qj_ws, qr_ws, Int.toNat_natCast, Int.toNat_zero, Int.reduceToNat, not_true_eq_false, not_false_eq_true, false_implies, implies_true, Option.some.injEq, reduceCtorEq, Sp0, true_or, or_true, or_self, wi_wi, wj_wj, hk.1, qk_al, qr_al, e2, ↓reduceIte]
    repeat' (first | (with_reducible refine And.intro ?_ ?_) | (with_reducible intro))
    all_goals (try (first | with_reducible assumption | omega | (unfold inI; omega) | (unfold inL; omega) | exact cz_in _ _))
    all_goals (first | (rw [e1]; exact hn _) | skip)
  have p6 : ∀ h', Mk h h' y 6 → ∀ v1, V i_X8_init x 52 [some (vr (some y)), v1] [] h' (8, 406072) := by
    intro h' hk v1
    have hn := p7 _ hk.step
    have e1 : qt h' = y + 7 := hk.2.1
    have e2 : ¬ y = qt h' := by omega
    refine s_X8_init_p6 x ok _ _ _ _ ?_
    simp only [wpS, o_c, o_cl, o_il, o_ll, o_al, o_is, o_ls, o_as, o_inc, o_add, o_sub, o_mul, o_and, o_or, o_xor, o_shl, o_shr, o_div, o_neg, o_ladd, o_lsub, o_lmul, o_ldiv, o_lrem, o_lneg, o_lcmp, o_i2l, o_l2i, o_dup, o_dup2, o_pop, o_go, o_nn, o_sw, swc, o_iret, o_zret, o_lret, o_vret, o_ieq, o_eq0, o_ine, o_ne0, o_ilt, o_lt0, o_ige, o_ge0, o_igt, o_gt0, o_ile, o_le0, o_iald, o_zald, o_lald, o_aald, o_iast, o_zast, o_last, o_aast, o_alen, o_gi, o_gr, o_pi, o_pz, o_pr, o_new, o_newa, o_copy, o_oinit, o_call, o_callV, o_callVc, o_callI, popn, cnO, o_BAD, lgt, lst, isL, kil, st1, st2, entL, List.length_nil, List.length_cons, List.replicate, Nat.reduceAdd, Nat.reduceLeDiff, Nat.reduceSub, true_and, and_true, Nat.zero_le, ne_eq, qk_wi, ql_wi, qr_wi, qj_wi, qt_wi, qk_wj, ql_wj, qr_wj, qi_wj, qt_wj, qk_wr, ql_wr, qi_wr, qj_wr, qt_wr, qi_ws, qj_ws, qr_ws, Int.toNat_natCast, Int.toNat_zero, Int.reduceToNat, not_true_eq_false, not_false_eq_true, false_implies, implies_true, Option.some.injEq, reduceCtorEq, Sp0, true_or, or_true, or_self, wi_wi, wj_wj, hk.1, qk_al, qr_al, e2, ↓reduceIte]
    repeat' (first | (with_reducible refine And.intro ?_ ?_) | (with_reducible intro))
    all_goals (try (first | with_reducible assumption | omega | (unfold inI; omega) | (unfold inL; omega) | exact cz_in _ _))
    all_goals (first | (rw [e1]; exact hn _) | skip)
  have p5 : ∀ h', Mk h h' y 5 → ∀ v1, V i_X8_init x 44 [some (vr (some y)), v1] [] h' (9, 406084) := by
    intro h' hk v1
    have hn := p6 _ hk.step
    have e1 : qt h' = y + 6 := hk.2.1
    have e2 : ¬ y = qt h' := by omega
    refine s_X8_init_p5 x ok _ _ _ _ ?_
    simp only [wpS, o_c, o_cl, o_il, o_ll, o_al, o_is, o_ls, o_as, o_inc, o_add, o_sub, o_mul, o_and, o_or, o_xor, o_shl, o_shr, o_div, o_neg, o_ladd, o_lsub, o_lmul, o_ldiv, o_lrem, o_lneg, o_lcmp, o_i2l, o_l2i, o_dup, o_dup2, o_pop, o_go, o_nn, o_sw, swc, o_iret, o_zret, o_lret, o_vret, o_ieq, o_eq0, o_ine, o_ne0, o_ilt, o_lt0, o_ige, o_ge0, o_igt, o_gt0, o_ile, o_le0, o_iald, o_zald, o_lald, o_aald, o_iast, o_zast, o_last, o_aast, o_alen, o_gi, o_gr, o_pi, o_pz, o_pr, o_new, o_newa, o_copy, o_oinit, o_call, o_callV, o_callVc, o_callI, popn, cnO, o_BAD, lgt, lst, isL, kil, st1, st2, entL, List.length_nil, List.length_cons, List.replicate, Nat.reduceAdd, Nat.reduceLeDiff, Nat.reduceSub, true_and, and_true, Nat.zero_le, ne_eq, qk_wi, ql_wi, qr_wi, qj_wi, qt_wi, qk_wj, ql_wj, qr_wj, qi_wj, qt_wj, qk_wr, ql_wr, qi_wr, qj_wr, qt_wr, qi_ws, qj_ws, qr_ws, Int.toNat_natCast, Int.toNat_zero, Int.reduceToNat, not_true_eq_false, not_false_eq_true, false_implies, implies_true, Option.some.injEq, reduceCtorEq, Sp0, true_or, or_true, or_self, wi_wi, wj_wj, hk.1, qk_al, qr_al, e2, ↓reduceIte]
    repeat' (first | (with_reducible refine And.intro ?_ ?_) | (with_reducible intro))
    all_goals (try (first | with_reducible assumption | omega | (unfold inI; omega) | (unfold inL; omega) | exact cz_in _ _))
    all_goals (first | (rw [e1]; exact hn _) | skip)
  have p4 : ∀ h', Mk h h' y 4 → ∀ v1, V i_X8_init x 36 [some (vr (some y)), v1] [] h' (10, 406096) := by
    intro h' hk v1
    have hn := p5 _ hk.step
    have e1 : qt h' = y + 5 := hk.2.1
    have e2 : ¬ y = qt h' := by omega
    refine s_X8_init_p4 x ok _ _ _ _ ?_
    simp only [wpS, o_c, o_cl, o_il, o_ll, o_al, o_is, o_ls, o_as, o_inc, o_add, o_sub, o_mul, o_and, o_or, o_xor, o_shl, o_shr, o_div, o_neg, o_ladd, o_lsub, o_lmul, o_ldiv, o_lrem, o_lneg, o_lcmp, o_i2l, o_l2i, o_dup, o_dup2, o_pop, o_go, o_nn, o_sw, swc, o_iret, o_zret, o_lret, o_vret, o_ieq, o_eq0, o_ine, o_ne0, o_ilt, o_lt0, o_ige, o_ge0, o_igt, o_gt0, o_ile, o_le0, o_iald, o_zald, o_lald, o_aald, o_iast, o_zast, o_last, o_aast, o_alen, o_gi, o_gr, o_pi, o_pz, o_pr, o_new, o_newa, o_copy, o_oinit, o_call, o_callV, o_callVc, o_callI, popn, cnO, o_BAD, lgt, lst, isL, kil, st1, st2, entL, List.length_nil, List.length_cons, List.replicate, Nat.reduceAdd, Nat.reduceLeDiff, Nat.reduceSub, true_and, and_true, Nat.zero_le, ne_eq, qk_wi, ql_wi, qr_wi, qj_wi, qt_wi, qk_wj, ql_wj, qr_wj, qi_wj, qt_wj, qk_wr, ql_wr, qi_wr, qj_wr, qt_wr, qi_ws, qj_ws, qr_ws, Int.toNat_natCast, Int.toNat_zero, Int.reduceToNat, not_true_eq_false, not_false_eq_true, false_implies, implies_true, Option.some.injEq, reduceCtorEq, Sp0, true_or, or_true, or_self, wi_wi, wj_wj, hk.1, qk_al, qr_al, e2, ↓reduceIte]
    repeat' (first | (with_reducible refine And.intro ?_ ?_) | (with_reducible intro))
    all_goals (try (first | with_reducible assumption | omega | (unfold inI; omega) | (unfold inL; omega) | exact cz_in _ _))
    all_goals (first | (rw [e1]; exact hn _) | skip)
  have p3 : ∀ h', Mk h h' y 3 → ∀ v1, V i_X8_init x 28 [some (vr (some y)), v1] [] h' (11, 406109) := by
    intro h' hk v1
    have hn := p4 _ hk.step
    have e1 : qt h' = y + 4 := hk.2.1
    have e2 : ¬ y = qt h' := by omega
    refine s_X8_init_p3 x ok _ _ _ _ ?_
    simp only [wpS, o_c, o_cl, o_il, o_ll, o_al, o_is, o_ls, o_as, o_inc, o_add, o_sub, o_mul, o_and, o_or, o_xor, o_shl, o_shr, o_div, o_neg, o_ladd, o_lsub, o_lmul, o_ldiv, o_lrem, o_lneg, o_lcmp, o_i2l, o_l2i, o_dup, o_dup2, o_pop, o_go, o_nn, o_sw, swc, o_iret, o_zret, o_lret, o_vret, o_ieq, o_eq0, o_ine, o_ne0, o_ilt, o_lt0, o_ige, o_ge0, o_igt, o_gt0, o_ile, o_le0, o_iald, o_zald, o_lald, o_aald, o_iast, o_zast, o_last, o_aast, o_alen, o_gi, o_gr, o_pi, o_pz, o_pr, o_new, o_newa, o_copy, o_oinit, o_call, o_callV, o_callVc, o_callI, popn, cnO, o_BAD, lgt, lst, isL, kil, st1, st2, entL, List.length_nil, List.length_cons, List.replicate, Nat.reduceAdd, Nat.reduceLeDiff, Nat.reduceSub, true_and, and_true, Nat.zero_le, ne_eq, qk_wi, ql_wi, qr_wi, qj_wi, qt_wi, qk_wj, ql_wj, qr_wj, qi_wj, qt_wj, qk_wr, ql_wr, qi_wr, qj_wr, qt_wr, qi_ws, qj_ws, qr_ws, Int.toNat_natCast, Int.toNat_zero, Int.reduceToNat, not_true_eq_false, not_false_eq_true, false_implies, implies_true, Option.some.injEq, reduceCtorEq, Sp0, true_or, or_true, or_self, wi_wi, wj_wj, hk.1, qk_al, qr_al, e2, ↓reduceIte]
    repeat' (first | (with_reducible refine And.intro ?_ ?_) | (with_reducible intro))
    all_goals (try (first | with_reducible assumption | omega | (unfold inI; omega) | (unfold inL; omega) | exact cz_in _ _))
    all_goals (first | (rw [e1]; exact hn _) | skip)
  have p2 : ∀ h', Mk h h' y 2 → ∀ v1, V i_X8_init x 20 [some (vr (some y)), v1] [] h' (12, 406122) := by
    intro h' hk v1
    have hn := p3 _ hk.step
    have e1 : qt h' = y + 3 := hk.2.1
    have e2 : ¬ y = qt h' := by omega
    refine s_X8_init_p2 x ok _ _ _ _ ?_
    simp only [wpS, o_c, o_cl, o_il, o_ll, o_al, o_is, o_ls, o_as, o_inc, o_add, o_sub, o_mul, o_and, o_or, o_xor, o_shl, o_shr, o_div, o_neg, o_ladd, o_lsub, o_lmul, o_ldiv, o_lrem, o_lneg, o_lcmp, o_i2l, o_l2i, o_dup, o_dup2, o_pop, o_go, o_nn, o_sw, swc, o_iret, o_zret, o_lret, o_vret, o_ieq, o_eq0, o_ine, o_ne0, o_ilt, o_lt0, o_ige, o_ge0, o_igt, o_gt0, o_ile, o_le0, o_iald, o_zald, o_lald, o_aald, o_iast, o_zast, o_last, o_aast, o_alen, o_gi, o_gr, o_pi, o_pz, o_pr, o_new, o_newa, o_copy, o_oinit, o_call, o_callV, o_callVc, o_callI, popn, cnO, o_BAD, lgt, lst, isL, kil, st1, st2, entL, List.length_nil, List.length_cons, List.replicate, Nat.reduceAdd, Nat.reduceLeDiff, Nat.reduceSub, true_and, and_true, Nat.zero_le, ne_eq, qk_wi, ql_wi, qr_wi, qj_wi, qt_wi, qk_wj, ql_wj, qr_wj, qi_wj, qt_wj, qk_wr, ql_wr, qi_wr, qj_wr, qt_wr, qi_ws, qj_ws, qr_ws, Int.toNat_natCast, Int.toNat_zero, Int.reduceToNat, not_true_eq_false, not_false_eq_true, false_implies, implies_true, Option.some.injEq, reduceCtorEq, Sp0, true_or, or_true, or_self, wi_wi, wj_wj, hk.1, qk_al, qr_al, e2, ↓reduceIte]
    repeat' (first | (with_reducible refine And.intro ?_ ?_) | (with_reducible intro))
    all_goals (try (first | with_reducible assumption | omega | (unfold inI; omega) | (unfold inL; omega) | exact cz_in _ _))
    all_goals (first | (rw [e1]; exact hn _) | skip)
  have p1 : ∀ h', Mk h h' y 1 → ∀ v1, V i_X8_init x 13 [some (vr (some y)), v1] [] h' (13, 406125) := by
    intro h' hk v1
    have hn := p2 _ hk.step
    have e1 : qt h' = y + 2 := hk.2.1
    have e2 : ¬ y = qt h' := by omega
    refine s_X8_init_p1 x ok _ _ _ _ ?_
    simp only [wpS, o_c, o_cl, o_il, o_ll, o_al, o_is, o_ls, o_as, o_inc, o_add, o_sub, o_mul, o_and, o_or, o_xor, o_shl, o_shr, o_div, o_neg, o_ladd, o_lsub, o_lmul, o_ldiv, o_lrem, o_lneg, o_lcmp, o_i2l, o_l2i, o_dup, o_dup2, o_pop, o_go, o_nn, o_sw, swc, o_iret, o_zret, o_lret, o_vret, o_ieq, o_eq0, o_ine, o_ne0, o_ilt, o_lt0, o_ige, o_ge0, o_igt, o_gt0, o_ile, o_le0, o_iald, o_zald, o_lald, o_aald, o_iast, o_zast, o_last, o_aast, o_alen, o_gi, o_gr, o_pi, o_pz, o_pr, o_new, o_newa, o_copy, o_oinit, o_call, o_callV, o_callVc, o_callI, popn, cnO, o_BAD, lgt, lst, isL, kil, st1, st2, entL, List.length_nil, List.length_cons, List.replicate, Nat.reduceAdd, Nat.reduceLeDiff, Nat.reduceSub, true_and, and_true, Nat.zero_le, ne_eq, qk_wi, ql_wi, qr_wi, qj_wi, qt_wi, qk_wj, ql_wj, qr_wj, qi_wj, qt_wj, qk_wr, ql_wr, qi_wr, qj_wr, qt_wr, qi_ws, qj_ws, qr_ws, Int.toNat_natCast, Int.toNat_zero, Int.reduceToNat, not_true_eq_false, not_false_eq_true, false_implies, implies_true, Option.some.injEq, reduceCtorEq, Sp0, true_or, or_true, or_self, wi_wi, wj_wj, hk.1, qk_al, qr_al, e2, ↓reduceIte]
    repeat' (first | (with_reducible refine And.intro ?_ ?_) | (with_reducible intro))
    all_goals (try (first | with_reducible assumption | omega | (unfold inI; omega) | (unfold inL; omega) | exact cz_in _ _))
    all_goals (first | (rw [e1]; exact hn _) | skip)
  have p0 : ∀ h', Mk h h' y 0 → ∀ v1, V i_X8_init x 4 [some (vr (some y)), v1] [] h' (14, 411653) := by
    intro h' hk v1
    have hn := p1 _ hk.step
    have e1 : qt h' = y + 1 := hk.2.1
    have e2 : ¬ y = qt h' := by omega
    refine s_X8_init_p0 x ok _ _ _ _ ?_
    simp only [wpS, o_c, o_cl, o_il, o_ll, o_al, o_is, o_ls, o_as, o_inc, o_add, o_sub, o_mul, o_and, o_or, o_xor, o_shl, o_shr, o_div, o_neg, o_ladd, o_lsub, o_lmul, o_ldiv, o_lrem, o_lneg, o_lcmp, o_i2l, o_l2i, o_dup, o_dup2, o_pop, o_go, o_nn, o_sw, swc, o_iret, o_zret, o_lret, o_vret, o_ieq, o_eq0, o_ine, o_ne0, o_ilt, o_lt0, o_ige, o_ge0, o_igt, o_gt0, o_ile, o_le0, o_iald, o_zald, o_lald, o_aald, o_iast, o_zast, o_last, o_aast, o_alen, o_gi, o_gr, o_pi, o_pz, o_pr, o_new, o_newa, o_copy, o_oinit, o_call, o_callV, o_callVc, o_callI, popn, cnO, o_BAD, lgt, lst, isL, kil, st1, st2, entL, List.length_nil, List.length_cons, List.replicate, Nat.reduceAdd, Nat.reduceLeDiff, Nat.reduceSub, true_and, and_true, Nat.zero_le, ne_eq, qk_wi, ql_wi, qr_wi, qj_wi, qt_wi, qk_wj, ql_wj, qr_wj, qi_wj, qt_wj, qk_wr, ql_wr, qi_wr, qj_wr, qt_wr, qi_ws, qj_ws, qr_ws, Int.toNat_natCast, Int.toNat_zero, Int.reduceToNat, not_true_eq_false, not_false_eq_true, false_implies, implies_true, Option.some.injEq, reduceCtorEq, Sp0, true_or, or_true, or_self, wi_wi, wj_wj, hk.1, qk_al, qr_al, e2, ↓reduceIte]
    repeat' (first | (with_reducible refine And.intro ?_ ?_) | (with_reducible intro))
    all_goals (try (first | with_reducible assumption | omega | (unfold inI; omega) | (unfold inL; omega) | exact cz_in _ _))
    all_goals (first | (rw [e1]; exact hn _) | skip)
  refine s_X8_init_a x ok _ _ _ _ ?_
  simp only [wpS, o_c, o_cl, o_il, o_ll, o_al, o_is, o_ls, o_as, o_inc, o_add, o_sub, o_mul, o_and, o_or, o_xor, o_shl, o_shr, o_div, o_neg, o_ladd, o_lsub, o_lmul, o_ldiv, o_lrem, o_lneg, o_lcmp, o_i2l, o_l2i, o_dup, o_dup2, o_pop, o_go, o_nn, o_sw, swc, o_iret, o_zret, o_lret, o_vret, o_ieq, o_eq0, o_ine, o_ne0, o_ilt, o_lt0, o_ige, o_ge0, o_igt, o_gt0, o_ile, o_le0, o_iald, o_zald, o_lald, o_aald, o_iast, o_zast, o_last, o_aast, o_alen, o_gi, o_gr, o_pi, o_pz, o_pr, o_new, o_newa, o_copy, o_oinit, o_call, o_callV, o_callVc, o_callI, popn, cnO, o_BAD, lgt, lst, isL, kil, st1, st2, entL, List.length_nil, List.length_cons, List.replicate, Nat.reduceAdd, Nat.reduceLeDiff, Nat.reduceSub, true_and, and_true, Nat.zero_le, ne_eq, qk_wi, ql_wi, qr_wi, qj_wi, qt_wi, qk_wj, ql_wj, qr_wj, qi_wj, qt_wj, qk_wr, ql_wr, qi_wr, qj_wr, qt_wr, qi_ws, qj_ws, qr_ws, Int.toNat_natCast, Int.toNat_zero, Int.reduceToNat, not_true_eq_false, not_false_eq_true, false_implies, implies_true, Option.some.injEq, reduceCtorEq, Sp0, true_or, or_true, or_self, wi_wi, wj_wj, k0]
  repeat' (first | (with_reducible refine And.intro ?_ ?_) | (with_reducible intro))
  all_goals (try (first | with_reducible assumption | omega | (unfold inI; omega) | (unfold inL; omega) | exact cz_in _ _))
  all_goals (first | exact p0 h g0 _ | skip)

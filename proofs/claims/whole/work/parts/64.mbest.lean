/-! ===== FitBenchModel.best ===== -/
def T_X8_best : TT := fun as h K => ∃ y : Nat, as = [vr (some y)] ∧ Mo h y ∧ Inv (qi h (y + 1)) ∧ ∀ a f : Nat → Int, ((bst (qi h (y + 1))).1 = -1 → K (some (vl (-1))) (wi (wi (wi h (y + 1) (qi h (y + 1))) (y + 9) a) (y + 10) f)) ∧ ((bst (qi h (y + 1))).1 ≠ -1 → K (some (vl (bst (qi h (y + 1))).1)) (wi (wi (wi h (y + 1) (bsD (qi h (y + 1)))) (y + 9) a) (y + 10) f))
abbrev i_X8_best : MI := (cX8_best, 7, RX8, (some .long), "best", 4)
theorem k_X8_best_0 : Okop i_X8_best 0 (o_cl (-1)) 3 := k_ldc2 (idx := 105) (by decide +kernel) gw_813
theorem k_X8_best_3 : Okop i_X8_best 3 (o_ls 1) 4 := k_lsn (j := 1) (by decide +kernel) (by decide)
theorem k_X8_best_4 : Okop i_X8_best 4 (o_c 0) 5 := k_iconst (by decide +kernel)
theorem k_X8_best_5 : Okop i_X8_best 5 (o_is 3) 6 := k_isn (j := 3) (by decide +kernel) (by decide)
theorem k_X8_best_6 : Okop i_X8_best 6 (o_il 3) 7 := k_iln (j := 3) (by decide +kernel)
theorem k_X8_best_7 : Okop i_X8_best 7 (o_c 12) 9 := k_bipush (by decide +kernel) rfl
theorem k_X8_best_9 : Okop i_X8_best 9 (o_ige 25) 12 := k_ige (off := 16) (by decide +kernel) (by decide)
theorem k_X8_best_12 : Okop i_X8_best 12 (o_al 0) 13 := k_aln (j := 0) (by decide +kernel)
theorem k_X8_best_13 : Okop i_X8_best 13 (o_gr 8 8) 16 := k_gr (idx := 37) fo_8 (by decide) (by decide) gw_668 (by decide +kernel)
theorem k_X8_best_16 : Okop i_X8_best 16 (o_il 3) 17 := k_iln (j := 3) (by decide +kernel)
theorem k_X8_best_17 : Okop i_X8_best 17 (o_c 0) 18 := k_iconst (by decide +kernel)
theorem k_X8_best_18 : Okop i_X8_best 18 (o_iast) 19 := k_iast (by decide +kernel)
theorem k_X8_best_19 : Okop i_X8_best 19 (o_inc 3 1) 22 := k_inc (by decide +kernel) (by decide)
theorem k_X8_best_22 : Okop i_X8_best 22 (o_go 6) 25 := k_go (off := -16) (by decide +kernel) (by decide)
theorem k_X8_best_25 : Okop i_X8_best 25 (o_c 1) 26 := k_iconst (by decide +kernel)
theorem k_X8_best_26 : Okop i_X8_best 26 (o_is 3) 27 := k_isn (j := 3) (by decide +kernel) (by decide)
theorem k_X8_best_27 : Okop i_X8_best 27 (o_il 3) 28 := k_iln (j := 3) (by decide +kernel)
theorem k_X8_best_28 : Okop i_X8_best 28 (o_eq0 162) 31 := k_eq0 (off := 134) (by decide +kernel) (by decide)
theorem k_X8_best_31 : Okop i_X8_best 31 (o_cl 0) 32 := k_lconst (n := 0) (by decide +kernel) rfl
theorem k_X8_best_32 : Okop i_X8_best 32 (o_ls 4) 34 := k_ls (by decide +kernel) (by decide)
theorem k_X8_best_34 : Okop i_X8_best 34 (o_c 0) 35 := k_iconst (by decide +kernel)
theorem k_X8_best_35 : Okop i_X8_best 35 (o_is 6) 37 := k_is (by decide +kernel) (by decide)
theorem k_X8_best_37 : Okop i_X8_best 37 (o_il 6) 39 := k_il (by decide +kernel)
theorem k_X8_best_39 : Okop i_X8_best 39 (o_c 12) 41 := k_bipush (by decide +kernel) rfl
theorem k_X8_best_41 : Okop i_X8_best 41 (o_ige 86) 44 := k_ige (off := 45) (by decide +kernel) (by decide)
theorem k_X8_best_44 : Okop i_X8_best 44 (o_al 0) 45 := k_aln (j := 0) (by decide +kernel)
theorem k_X8_best_45 : Okop i_X8_best 45 (o_il 6) 47 := k_il (by decide +kernel)
theorem k_X8_best_47 : Okop i_X8_best 47 (o_callV 8 1 T_X8_isChosen) 50 := k_callV (idx := 131) (r0 := (RX8, TX8, 14)) m_X8_isChosen ⟨gw_867, gw_10, ⟨by decide, by decide, by decide +kernel⟩, by decide, by decide⟩ rfl gw_864 gw_866 gs_22 (by decide +kernel)
theorem k_X8_best_50 : Okop i_X8_best 50 (o_eq0 80) 53 := k_eq0 (off := 30) (by decide +kernel) (by decide)
theorem k_X8_best_53 : Okop i_X8_best 53 (o_ll 4) 55 := k_ll (by decide +kernel)
theorem k_X8_best_55 : Okop i_X8_best 55 (o_al 0) 56 := k_aln (j := 0) (by decide +kernel)
theorem k_X8_best_56 : Okop i_X8_best 56 (o_gr 8 0) 59 := k_gr (idx := 7) fo_8 (by decide) (by decide) gw_660 (by decide +kernel)
theorem k_X8_best_59 : Okop i_X8_best 59 (o_c 1140) 62 := k_sipush (by decide +kernel) rfl
theorem k_X8_best_62 : Okop i_X8_best 62 (o_c 4) 63 := k_iconst (by decide +kernel)
theorem k_X8_best_63 : Okop i_X8_best 63 (o_il 6) 65 := k_il (by decide +kernel)
theorem k_X8_best_65 : Okop i_X8_best 65 (o_mul) 66 := k_mul (by decide +kernel)
theorem k_X8_best_66 : Okop i_X8_best 66 (o_add) 67 := k_add (by decide +kernel)
theorem k_X8_best_67 : Okop i_X8_best 67 (o_al 0) 68 := k_aln (j := 0) (by decide +kernel)
theorem k_X8_best_68 : Okop i_X8_best 68 (o_gr 8 8) 71 := k_gr (idx := 37) fo_8 (by decide) (by decide) gw_668 (by decide +kernel)
theorem k_X8_best_71 : Okop i_X8_best 71 (o_il 6) 73 := k_il (by decide +kernel)
theorem k_X8_best_73 : Okop i_X8_best 73 (o_iald) 74 := k_iald (by decide +kernel)
theorem k_X8_best_74 : Okop i_X8_best 74 (o_add) 75 := k_add (by decide +kernel)
theorem k_X8_best_75 : Okop i_X8_best 75 (o_iald) 76 := k_iald (by decide +kernel)
theorem k_X8_best_76 : Okop i_X8_best 76 (o_i2l) 77 := k_i2l (by decide +kernel)
theorem k_X8_best_77 : Okop i_X8_best 77 (o_ladd) 78 := k_ladd (by decide +kernel)
theorem k_X8_best_78 : Okop i_X8_best 78 (o_ls 4) 80 := k_ls (by decide +kernel) (by decide)
theorem k_X8_best_80 : Okop i_X8_best 80 (o_inc 6 1) 83 := k_inc (by decide +kernel) (by decide)
theorem k_X8_best_83 : Okop i_X8_best 83 (o_go 37) 86 := k_go (off := -46) (by decide +kernel) (by decide)
theorem k_X8_best_86 : Okop i_X8_best 86 (o_ll 1) 87 := k_lln (j := 1) (by decide +kernel)
theorem k_X8_best_87 : Okop i_X8_best 87 (o_cl (-1)) 90 := k_ldc2 (idx := 105) (by decide +kernel) gw_813
theorem k_X8_best_90 : Okop i_X8_best 90 (o_lcmp) 91 := k_lcmp (by decide +kernel)
theorem k_X8_best_91 : Okop i_X8_best 91 (o_eq0 101) 94 := k_eq0 (off := 10) (by decide +kernel) (by decide)
theorem k_X8_best_94 : Okop i_X8_best 94 (o_ll 4) 96 := k_ll (by decide +kernel)
theorem k_X8_best_96 : Okop i_X8_best 96 (o_ll 1) 97 := k_lln (j := 1) (by decide +kernel)
theorem k_X8_best_97 : Okop i_X8_best 97 (o_lcmp) 98 := k_lcmp (by decide +kernel)
theorem k_X8_best_98 : Okop i_X8_best 98 (o_ge0 154) 101 := k_ge0 (off := 56) (by decide +kernel) (by decide)
theorem k_X8_best_101 : Okop i_X8_best 101 (o_al 0) 102 := k_aln (j := 0) (by decide +kernel)
theorem k_X8_best_102 : Okop i_X8_best 102 (o_callV 8 0 T_X8_isGood) 105 := k_callV (idx := 134) (r0 := (RX8, TX8, 14)) m_X8_isGood ⟨gw_871, gw_10, ⟨by decide, by decide, by decide +kernel⟩, by decide, by decide⟩ rfl gw_868 gw_870 gs_23 (by decide +kernel)
theorem k_X8_best_105 : Okop i_X8_best 105 (o_eq0 154) 108 := k_eq0 (off := 49) (by decide +kernel) (by decide)
theorem k_X8_best_108 : Okop i_X8_best 108 (o_ll 4) 110 := k_ll (by decide +kernel)
theorem k_X8_best_110 : Okop i_X8_best 110 (o_ls 1) 111 := k_lsn (j := 1) (by decide +kernel) (by decide)
theorem k_X8_best_111 : Okop i_X8_best 111 (o_c 0) 112 := k_iconst (by decide +kernel)
theorem k_X8_best_112 : Okop i_X8_best 112 (o_is 6) 114 := k_is (by decide +kernel) (by decide)
theorem k_X8_best_114 : Okop i_X8_best 114 (o_il 6) 116 := k_il (by decide +kernel)
theorem k_X8_best_116 : Okop i_X8_best 116 (o_c 12) 118 := k_bipush (by decide +kernel) rfl
theorem k_X8_best_118 : Okop i_X8_best 118 (o_ige 154) 121 := k_ige (off := 36) (by decide +kernel) (by decide)
theorem k_X8_best_121 : Okop i_X8_best 121 (o_al 0) 122 := k_aln (j := 0) (by decide +kernel)
theorem k_X8_best_122 : Okop i_X8_best 122 (o_gr 8 9) 125 := k_gr (idx := 40) fo_8 (by decide) (by decide) gw_669 (by decide +kernel)
theorem k_X8_best_125 : Okop i_X8_best 125 (o_il 6) 127 := k_il (by decide +kernel)
theorem k_X8_best_127 : Okop i_X8_best 127 (o_al 0) 128 := k_aln (j := 0) (by decide +kernel)
theorem k_X8_best_128 : Okop i_X8_best 128 (o_il 6) 130 := k_il (by decide +kernel)
theorem k_X8_best_130 : Okop i_X8_best 130 (o_callV 8 1 T_X8_isChosen) 133 := k_callV (idx := 131) (r0 := (RX8, TX8, 14)) m_X8_isChosen ⟨gw_867, gw_10, ⟨by decide, by decide, by decide +kernel⟩, by decide, by decide⟩ rfl gw_864 gw_866 gs_22 (by decide +kernel)
theorem k_X8_best_133 : Okop i_X8_best 133 (o_eq0 146) 136 := k_eq0 (off := 13) (by decide +kernel) (by decide)
theorem k_X8_best_136 : Okop i_X8_best 136 (o_al 0) 137 := k_aln (j := 0) (by decide +kernel)
theorem k_X8_best_137 : Okop i_X8_best 137 (o_gr 8 8) 140 := k_gr (idx := 37) fo_8 (by decide) (by decide) gw_668 (by decide +kernel)
theorem k_X8_best_140 : Okop i_X8_best 140 (o_il 6) 142 := k_il (by decide +kernel)
theorem k_X8_best_142 : Okop i_X8_best 142 (o_iald) 143 := k_iald (by decide +kernel)
theorem k_X8_best_143 : Okop i_X8_best 143 (o_go 147) 146 := k_go (off := 4) (by decide +kernel) (by decide)
theorem k_X8_best_146 : Okop i_X8_best 146 (o_c (-1)) 147 := k_iconst (by decide +kernel)
theorem k_X8_best_147 : Okop i_X8_best 147 (o_iast) 148 := k_iast (by decide +kernel)
theorem k_X8_best_148 : Okop i_X8_best 148 (o_inc 6 1) 151 := k_inc (by decide +kernel) (by decide)
theorem k_X8_best_151 : Okop i_X8_best 151 (o_go 114) 154 := k_go (off := -37) (by decide +kernel) (by decide)
theorem k_X8_best_154 : Okop i_X8_best 154 (o_al 0) 155 := k_aln (j := 0) (by decide +kernel)
theorem k_X8_best_155 : Okop i_X8_best 155 (o_callV 8 0 T_X8_goesOn) 158 := k_callV (idx := 138) (r0 := (RX8, TX8, 14)) m_X8_goesOn ⟨gw_875, gw_10, ⟨by decide, by decide, by decide +kernel⟩, by decide, by decide⟩ rfl gw_872 gw_874 gs_24 (by decide +kernel)
theorem k_X8_best_158 : Okop i_X8_best 158 (o_is 3) 159 := k_isn (j := 3) (by decide +kernel) (by decide)
theorem k_X8_best_159 : Okop i_X8_best 159 (o_go 27) 162 := k_go (off := -132) (by decide +kernel) (by decide)
theorem k_X8_best_162 : Okop i_X8_best 162 (o_ll 1) 163 := k_lln (j := 1) (by decide +kernel)
theorem k_X8_best_163 : Okop i_X8_best 163 (o_cl (-1)) 166 := k_ldc2 (idx := 105) (by decide +kernel) gw_813
theorem k_X8_best_166 : Okop i_X8_best 166 (o_lcmp) 167 := k_lcmp (by decide +kernel)
theorem k_X8_best_167 : Okop i_X8_best 167 (o_eq0 204) 170 := k_eq0 (off := 37) (by decide +kernel) (by decide)
theorem k_X8_best_170 : Okop i_X8_best 170 (o_c 0) 171 := k_iconst (by decide +kernel)
theorem k_X8_best_171 : Okop i_X8_best 171 (o_is 4) 173 := k_is (by decide +kernel) (by decide)
theorem k_X8_best_173 : Okop i_X8_best 173 (o_il 4) 175 := k_il (by decide +kernel)
theorem k_X8_best_175 : Okop i_X8_best 175 (o_c 12) 177 := k_bipush (by decide +kernel) rfl
theorem k_X8_best_177 : Okop i_X8_best 177 (o_ige 204) 180 := k_ige (off := 27) (by decide +kernel) (by decide)
theorem k_X8_best_180 : Okop i_X8_best 180 (o_al 0) 181 := k_aln (j := 0) (by decide +kernel)
theorem k_X8_best_181 : Okop i_X8_best 181 (o_gr 8 0) 184 := k_gr (idx := 7) fo_8 (by decide) (by decide) gw_660 (by decide +kernel)
theorem k_X8_best_184 : Okop i_X8_best 184 (o_c 1346) 187 := k_sipush (by decide +kernel) rfl
theorem k_X8_best_187 : Okop i_X8_best 187 (o_il 4) 189 := k_il (by decide +kernel)
theorem k_X8_best_189 : Okop i_X8_best 189 (o_add) 190 := k_add (by decide +kernel)
theorem k_X8_best_190 : Okop i_X8_best 190 (o_al 0) 191 := k_aln (j := 0) (by decide +kernel)
theorem k_X8_best_191 : Okop i_X8_best 191 (o_gr 8 9) 194 := k_gr (idx := 40) fo_8 (by decide) (by decide) gw_669 (by decide +kernel)
theorem k_X8_best_194 : Okop i_X8_best 194 (o_il 4) 196 := k_il (by decide +kernel)
theorem k_X8_best_196 : Okop i_X8_best 196 (o_iald) 197 := k_iald (by decide +kernel)
theorem k_X8_best_197 : Okop i_X8_best 197 (o_iast) 198 := k_iast (by decide +kernel)
theorem k_X8_best_198 : Okop i_X8_best 198 (o_inc 4 1) 201 := k_inc (by decide +kernel) (by decide)
theorem k_X8_best_201 : Okop i_X8_best 201 (o_go 173) 204 := k_go (off := -28) (by decide +kernel) (by decide)
theorem k_X8_best_204 : Okop i_X8_best 204 (o_ll 1) 205 := k_lln (j := 1) (by decide +kernel)
theorem k_X8_best_205 : Okop i_X8_best 205 (o_lret) 206 := k_lret (by decide +kernel) rfl
theorem s_X8_best_0 : Seg i_X8_best 0 [o_cl (-1), o_ls 1, o_c 0, o_is 3] 6 := Seg.cons k_X8_best_0 (Seg.cons k_X8_best_3 (Seg.cons k_X8_best_4 (Seg.cons k_X8_best_5 (Seg.nil))))
theorem s_X8_best_6 : Seg i_X8_best 6 [o_il 3, o_c 12, o_ige 25, o_al 0, o_gr 8 8, o_il 3, o_c 0, o_iast, o_inc 3 1, o_go 6] 25 := Seg.cons k_X8_best_6 (Seg.cons k_X8_best_7 (Seg.cons k_X8_best_9 (Seg.cons k_X8_best_12 (Seg.cons k_X8_best_13 (Seg.cons k_X8_best_16 (Seg.cons k_X8_best_17 (Seg.cons k_X8_best_18 (Seg.cons k_X8_best_19 (Seg.cons k_X8_best_22 (Seg.nil))))))))))
theorem s_X8_best_25 : Seg i_X8_best 25 [o_c 1, o_is 3] 27 := Seg.cons k_X8_best_25 (Seg.cons k_X8_best_26 (Seg.nil))
theorem s_X8_best_27 : Seg i_X8_best 27 [o_il 3, o_eq0 162, o_cl 0, o_ls 4, o_c 0, o_is 6] 37 := Seg.cons k_X8_best_27 (Seg.cons k_X8_best_28 (Seg.cons k_X8_best_31 (Seg.cons k_X8_best_32 (Seg.cons k_X8_best_34 (Seg.cons k_X8_best_35 (Seg.nil))))))
theorem s_X8_best_37 : Seg i_X8_best 37 [o_il 6, o_c 12, o_ige 86, o_al 0, o_il 6, o_callV 8 1 T_X8_isChosen, o_eq0 80, o_ll 4, o_al 0, o_gr 8 0, o_c 1140, o_c 4, o_il 6, o_mul, o_add, o_al 0, o_gr 8 8, o_il 6, o_iald, o_add, o_iald, o_i2l, o_ladd, o_ls 4, o_inc 6 1, o_go 37] 86 := Seg.cons k_X8_best_37 (Seg.cons k_X8_best_39 (Seg.cons k_X8_best_41 (Seg.cons k_X8_best_44 (Seg.cons k_X8_best_45 (Seg.cons k_X8_best_47 (Seg.cons k_X8_best_50 (Seg.cons k_X8_best_53 (Seg.cons k_X8_best_55 (Seg.cons k_X8_best_56 (Seg.cons k_X8_best_59 (Seg.cons k_X8_best_62 (Seg.cons k_X8_best_63 (Seg.cons k_X8_best_65 (Seg.cons k_X8_best_66 (Seg.cons k_X8_best_67 (Seg.cons k_X8_best_68 (Seg.cons k_X8_best_71 (Seg.cons k_X8_best_73 (Seg.cons k_X8_best_74 (Seg.cons k_X8_best_75 (Seg.cons k_X8_best_76 (Seg.cons k_X8_best_77 (Seg.cons k_X8_best_78 (Seg.cons k_X8_best_80 (Seg.cons k_X8_best_83 (Seg.nil))))))))))))))))))))))))))
theorem s_X8_best_80 : Seg i_X8_best 80 [o_inc 6 1, o_go 37] 86 := Seg.cons k_X8_best_80 (Seg.cons k_X8_best_83 (Seg.nil))
theorem s_X8_best_86 : Seg i_X8_best 86 [o_ll 1, o_cl (-1), o_lcmp, o_eq0 101, o_ll 4, o_ll 1, o_lcmp, o_ge0 154, o_al 0, o_callV 8 0 T_X8_isGood, o_eq0 154, o_ll 4, o_ls 1, o_c 0, o_is 6] 114 := Seg.cons k_X8_best_86 (Seg.cons k_X8_best_87 (Seg.cons k_X8_best_90 (Seg.cons k_X8_best_91 (Seg.cons k_X8_best_94 (Seg.cons k_X8_best_96 (Seg.cons k_X8_best_97 (Seg.cons k_X8_best_98 (Seg.cons k_X8_best_101 (Seg.cons k_X8_best_102 (Seg.cons k_X8_best_105 (Seg.cons k_X8_best_108 (Seg.cons k_X8_best_110 (Seg.cons k_X8_best_111 (Seg.cons k_X8_best_112 (Seg.nil)))))))))))))))
theorem s_X8_best_101 : Seg i_X8_best 101 [o_al 0, o_callV 8 0 T_X8_isGood, o_eq0 154, o_ll 4, o_ls 1, o_c 0, o_is 6] 114 := Seg.cons k_X8_best_101 (Seg.cons k_X8_best_102 (Seg.cons k_X8_best_105 (Seg.cons k_X8_best_108 (Seg.cons k_X8_best_110 (Seg.cons k_X8_best_111 (Seg.cons k_X8_best_112 (Seg.nil)))))))
theorem s_X8_best_114 : Seg i_X8_best 114 [o_il 6, o_c 12, o_ige 154, o_al 0, o_gr 8 9, o_il 6, o_al 0, o_il 6, o_callV 8 1 T_X8_isChosen, o_eq0 146, o_al 0, o_gr 8 8, o_il 6, o_iald, o_go 147] 146 := Seg.cons k_X8_best_114 (Seg.cons k_X8_best_116 (Seg.cons k_X8_best_118 (Seg.cons k_X8_best_121 (Seg.cons k_X8_best_122 (Seg.cons k_X8_best_125 (Seg.cons k_X8_best_127 (Seg.cons k_X8_best_128 (Seg.cons k_X8_best_130 (Seg.cons k_X8_best_133 (Seg.cons k_X8_best_136 (Seg.cons k_X8_best_137 (Seg.cons k_X8_best_140 (Seg.cons k_X8_best_142 (Seg.cons k_X8_best_143 (Seg.nil)))))))))))))))
theorem s_X8_best_146 : Seg i_X8_best 146 [o_c (-1), o_iast, o_inc 6 1, o_go 114] 154 := Seg.cons k_X8_best_146 (Seg.cons k_X8_best_147 (Seg.cons k_X8_best_148 (Seg.cons k_X8_best_151 (Seg.nil))))
theorem s_X8_best_147 : Seg i_X8_best 147 [o_iast, o_inc 6 1, o_go 114] 154 := Seg.cons k_X8_best_147 (Seg.cons k_X8_best_148 (Seg.cons k_X8_best_151 (Seg.nil)))
theorem s_X8_best_154 : Seg i_X8_best 154 [o_al 0, o_callV 8 0 T_X8_goesOn, o_is 3, o_go 27] 162 := Seg.cons k_X8_best_154 (Seg.cons k_X8_best_155 (Seg.cons k_X8_best_158 (Seg.cons k_X8_best_159 (Seg.nil))))
theorem s_X8_best_162 : Seg i_X8_best 162 [o_ll 1, o_cl (-1), o_lcmp, o_eq0 204, o_c 0, o_is 4] 173 := Seg.cons k_X8_best_162 (Seg.cons k_X8_best_163 (Seg.cons k_X8_best_166 (Seg.cons k_X8_best_167 (Seg.cons k_X8_best_170 (Seg.cons k_X8_best_171 (Seg.nil))))))
theorem s_X8_best_173 : Seg i_X8_best 173 [o_il 4, o_c 12, o_ige 204, o_al 0, o_gr 8 0, o_c 1346, o_il 4, o_add, o_al 0, o_gr 8 9, o_il 4, o_iald, o_iast, o_inc 4 1, o_go 173] 204 := Seg.cons k_X8_best_173 (Seg.cons k_X8_best_175 (Seg.cons k_X8_best_177 (Seg.cons k_X8_best_180 (Seg.cons k_X8_best_181 (Seg.cons k_X8_best_184 (Seg.cons k_X8_best_187 (Seg.cons k_X8_best_189 (Seg.cons k_X8_best_190 (Seg.cons k_X8_best_191 (Seg.cons k_X8_best_194 (Seg.cons k_X8_best_196 (Seg.cons k_X8_best_197 (Seg.cons k_X8_best_198 (Seg.cons k_X8_best_201 (Seg.nil)))))))))))))))
theorem s_X8_best_204 : Seg i_X8_best 204 [o_ll 1, o_lret] 206 := Seg.cons k_X8_best_204 (Seg.cons k_X8_best_205 (Seg.nil))

theorem m_X8_best : Mth yX8_best cX8_best 7 (some .long) 4 (Sp0 T_X8_best) := by
  refine Mth.of (by decide) ?_
  rintro x as h ok ⟨y, rfl, hM, hI, hK⟩
  refine ⟨Nat.le_of_ble_eq_true rfl, ?_⟩
  have q1 : ∀ g a b : Nat → Int, qi (wi (wi (wi h (y + 1) g) (y + 9) a) (y + 10) b) (y + 1) = g := fun g a b => by rw [qi_wn (by omega), qi_wn (by omega), qi_ws]
  have q9 : ∀ g a b : Nat → Int, qi (wi (wi (wi h (y + 1) g) (y + 9) a) (y + 10) b) (y + 9) = a := fun g a b => by rw [qi_wn (by omega), qi_ws]
  have w1 : ∀ g a b g2 : Nat → Int, wi (wi (wi (wi h (y + 1) g) (y + 9) a) (y + 10) b) (y + 1) g2 = wi (wi (wi h (y + 1) g2) (y + 9) a) (y + 10) b := fun g a b g2 => by
    rw [wi_comm _ (show y + 10 ≠ y + 1 by omega), wi_comm _ (show y + 9 ≠ y + 1 by omega), wi_wi]
  have w9 : ∀ g a b g2 : Nat → Int, wi (wi (wi (wi h (y + 1) g) (y + 9) a) (y + 10) b) (y + 9) g2 = wi (wi (wi h (y + 1) g) (y + 9) g2) (y + 10) b := fun g a b g2 => by
    rw [wi_comm _ (show y + 10 ≠ y + 9 by omega), wi_wi]
  have hself : wi (wi (wi h (y + 1) (qi h (y + 1))) (y + 9) (qi h (y + 9))) (y + 10) (qi h (y + 10)) = h := by rw [wi_self, wi_self, wi_self]
  have hM2 : ∀ g a b : Nat → Int, Mo (wi (wi (wi h (y + 1) g) (y + 9) a) (y + 10) b) y := fun _ _ _ => hM
  generalize hD : qi h (y + 1) = D at *
  have hI2 : ∀ a b : Nat → Int, Inv (qi (wi (wi (wi h (y + 1) D) (y + 9) a) (y + 10) b) (y + 1)) := fun a b => by rw [q1]; exact hI
  have hbo := bst_ok hI
  have hg8 := hI.2.2.2.2
  -- one leaf
  have leaf : ∀ (a f : Nat → Int) (b : Bst), dgOk D a → bOk b → fsOk D f b → (∀ f' (b' : Bst), b' = lfS D a b → bOk b' → fsOk D f' b' → ∀ v3 p v6, V i_X8_best x 154 [some (vr (some y)), some (vl b'.1), none, v3, some (vl p), none, v6] [] (wi (wi (wi h (y + 1) D) (y + 9) a) (y + 10) f') (0, 0)) → ∀ v4 v5 v6, V i_X8_best x 27 [some (vr (some y)), some (vl b.1), none, some (vi 1), v4, v5, v6] [] (wi (wi (wi h (y + 1) D) (y + 9) a) (y + 10) f) (0, 0) := by
    intro a f b hdg hb hf hk v4 v5 v6
    have hp := prT_rg hI hdg 12 (Nat.le_refl _)
    -- the choice is written
    have wr : ∀ j, j ≤ 12 → ∀ f' : Nat → Int, good D a → (b.1 = -1 ∨ sg (prT D a) 12 < b.1) → (∀ m, m < j → f' m = if gdB D m = true then a m else -1) → V i_X8_best x 114 [some (vr (some y)), some (vl (sg (prT D a) 12)), none, some (vi 1), some (vl (sg (prT D a) 12)), none, some (vi j)] [] (wi (wi (wi h (y + 1) D) (y + 9) a) (y + 10) f') (0, 0) := by
      refine bwd _ ?_ ?_
      · intro f' hg hlt hf'
        refine s_X8_best_114 x ok _ _ _ _ ?_
        simp only [wpS, o_c, o_cl, o_il, o_ll, o_al, o_is, o_ls, o_as, o_inc, o_add, o_sub, o_mul, o_and, o_or, o_xor, o_shl, o_shr, o_div, o_neg, o_ladd, o_lsub, o_lmul, o_ldiv, o_lrem, o_lneg, o_lcmp, o_i2l, o_l2i, o_dup, o_dup2, o_pop, o_go, o_nn, o_sw, swc, o_iret, o_zret, o_lret, o_vret, o_ieq, o_eq0, o_ine, o_ne0, o_ilt, o_lt0, o_ige, o_ge0, o_igt, o_gt0, o_ile, o_le0, o_iald, o_zald, o_lald, o_aald, o_iast, o_zast, o_last, o_aast, o_alen, o_gi, o_gr, o_pi, o_pz, o_pr, o_new, o_newa, o_copy, o_oinit, o_call, o_callV, o_callVc, o_callI, popn, cnO, o_BAD, lgt, lst, isL, kil, st1, st2, entL, List.length_nil, List.length_cons, List.replicate, Nat.reduceAdd, Nat.reduceLeDiff, Nat.reduceSub, true_and, and_true, Nat.zero_le, ne_eq, qk_wi, ql_wi, qr_wi, qj_wi, qt_wi, qk_wj, ql_wj, qr_wj, qi_wj, qt_wj, qk_wr, ql_wr, qi_wr, qj_wr, qt_wr, qi_ws, qj_ws, qr_ws, Int.toNat_natCast, Int.toNat_zero, Int.reduceToNat, not_true_eq_false, not_false_eq_true, false_implies, implies_true, Option.some.injEq, reduceCtorEq, Sp0, true_or, or_true, or_self, wi_wi, wj_wj, hM.k]
        repeat' (first | (with_reducible refine And.intro ?_ ?_) | (with_reducible intro))
        all_goals (try (first | with_reducible assumption | omega | (unfold inI; omega) | (unfold inL; omega) | exact cz_in _ _))
        all_goals (try (exfalso; omega))
        have e : lfS D a b = (sg (prT D a) 12, a) := if_pos ⟨hg, hlt⟩
        exact hk f' (sg (prT D a) 12, a) e.symm (.inr ⟨hp.1, by dsimp only; omega⟩) (fun _ => hf') _ _ _
      · intro j hj ih f' hg hlt hf'
        have nx : ∀ v : Int, v = (if gdB D j = true then a j else -1) → V i_X8_best x 114 [some (vr (some y)), some (vl (sg (prT D a) 12)), none, some (vi 1), some (vl (sg (prT D a) 12)), none, some (vi (j + 1))] [] (wi (wi (wi h (y + 1) D) (y + 9) a) (y + 10) (fu f' j v)) (0, 0) := by
          intro v hv
          refine ih _ hg hlt (fun m hm => ?_)
          unfold fu
          by_cases u : m = j
          · rw [if_pos u, hv, u]
          · rw [if_neg u]; exact hf' m (by omega)
        refine s_X8_best_114 x ok _ _ _ _ ?_
        simp only [wpS, o_c, o_cl, o_il, o_ll, o_al, o_is, o_ls, o_as, o_inc, o_add, o_sub, o_mul, o_and, o_or, o_xor, o_shl, o_shr, o_div, o_neg, o_ladd, o_lsub, o_lmul, o_ldiv, o_lrem, o_lneg, o_lcmp, o_i2l, o_l2i, o_dup, o_dup2, o_pop, o_go, o_nn, o_sw, swc, o_iret, o_zret, o_lret, o_vret, o_ieq, o_eq0, o_ine, o_ne0, o_ilt, o_lt0, o_ige, o_ge0, o_igt, o_gt0, o_ile, o_le0, o_iald, o_zald, o_lald, o_aald, o_iast, o_zast, o_last, o_aast, o_alen, o_gi, o_gr, o_pi, o_pz, o_pr, o_new, o_newa, o_copy, o_oinit, o_call, o_callV, o_callVc, o_callI, popn, cnO, o_BAD, lgt, lst, isL, kil, st1, st2, entL, List.length_nil, List.length_cons, List.replicate, Nat.reduceAdd, Nat.reduceLeDiff, Nat.reduceSub, true_and, and_true, Nat.zero_le, ne_eq, qk_wi, ql_wi, qr_wi, qj_wi, qt_wi, qk_wj, ql_wj, qr_wj, qi_wj, qt_wj, qk_wr, ql_wr, qi_wr, qj_wr, qt_wr, qi_ws, qj_ws, qr_ws, Int.toNat_natCast, Int.toNat_zero, Int.reduceToNat, not_true_eq_false, not_false_eq_true, false_implies, implies_true, Option.some.injEq, reduceCtorEq, Sp0, true_or, or_true, or_self, wi_wi, wj_wj, hM.k, hM.r9]
        repeat' (first | (with_reducible refine And.intro ?_ ?_) | (with_reducible intro))
        all_goals (try (first | with_reducible assumption | omega | (unfold inI; omega) | (unfold inL; omega) | exact cz_in _ _))
        all_goals (try (exfalso; omega))
        refine c8_isChosen (hM2 _ _ _) (hI2 _ _) hj ⟨fun q => ?_, fun q => ?_⟩
        · rw [q1] at q
          have z := chs_iff.mp q
          have hz := hdg j hj z
          have hv := (hI.1 j hj).v
          simp only [wpS, o_c, o_cl, o_il, o_ll, o_al, o_is, o_ls, o_as, o_inc, o_add, o_sub, o_mul, o_and, o_or, o_xor, o_shl, o_shr, o_div, o_neg, o_ladd, o_lsub, o_lmul, o_ldiv, o_lrem, o_lneg, o_lcmp, o_i2l, o_l2i, o_dup, o_dup2, o_pop, o_go, o_nn, o_sw, swc, o_iret, o_zret, o_lret, o_vret, o_ieq, o_eq0, o_ine, o_ne0, o_ilt, o_lt0, o_ige, o_ge0, o_igt, o_gt0, o_ile, o_le0, o_iald, o_zald, o_lald, o_aald, o_iast, o_zast, o_last, o_aast, o_alen, o_gi, o_gr, o_pi, o_pz, o_pr, o_new, o_newa, o_copy, o_oinit, o_call, o_callV, o_callVc, o_callI, popn, cnO, o_BAD, lgt, lst, isL, kil, st1, st2, entL, List.length_nil, List.length_cons, List.replicate, Nat.reduceAdd, Nat.reduceLeDiff, Nat.reduceSub, true_and, and_true, Nat.zero_le, ne_eq, qk_wi, ql_wi, qr_wi, qj_wi, qt_wi, qk_wj, ql_wj, qr_wj, qi_wj, qt_wj, qk_wr, ql_wr, qi_wr, qj_wr, qt_wr, qi_ws, qj_ws, qr_ws, Int.toNat_natCast, Int.toNat_zero, Int.reduceToNat, not_true_eq_false, not_false_eq_true, false_implies, implies_true, Option.some.injEq, reduceCtorEq, Sp0, true_or, or_true, or_self, wi_wi, wj_wj, hM.k, hM.r8, hM.k9, hM.l9, q9]
          repeat' (first | (with_reducible refine And.intro ?_ ?_) | (with_reducible intro))
          all_goals (try (first | with_reducible assumption | omega | (unfold inI; omega) | (unfold inL; omega) | exact cz_in _ _))
          all_goals (try (exfalso; omega))
          refine s_X8_best_147 x ok _ _ _ _ ?_
          simp only [wpS, o_c, o_cl, o_il, o_ll, o_al, o_is, o_ls, o_as, o_inc, o_add, o_sub, o_mul, o_and, o_or, o_xor, o_shl, o_shr, o_div, o_neg, o_ladd, o_lsub, o_lmul, o_ldiv, o_lrem, o_lneg, o_lcmp, o_i2l, o_l2i, o_dup, o_dup2, o_pop, o_go, o_nn, o_sw, swc, o_iret, o_zret, o_lret, o_vret, o_ieq, o_eq0, o_ine, o_ne0, o_ilt, o_lt0, o_ige, o_ge0, o_igt, o_gt0, o_ile, o_le0, o_iald, o_zald, o_lald, o_aald, o_iast, o_zast, o_last, o_aast, o_alen, o_gi, o_gr, o_pi, o_pz, o_pr, o_new, o_newa, o_copy, o_oinit, o_call, o_callV, o_callVc, o_callI, popn, cnO, o_BAD, lgt, lst, isL, kil, st1, st2, entL, List.length_nil, List.length_cons, List.replicate, Nat.reduceAdd, Nat.reduceLeDiff, Nat.reduceSub, true_and, and_true, Nat.zero_le, ne_eq, qk_wi, ql_wi, qr_wi, qj_wi, qt_wi, qk_wj, ql_wj, qr_wj, qi_wj, qt_wj, qk_wr, ql_wr, qi_wr, qj_wr, qt_wr, qi_ws, qj_ws, qr_ws, Int.toNat_natCast, Int.toNat_zero, Int.reduceToNat, not_true_eq_false, not_false_eq_true, false_implies, implies_true, Option.some.injEq, reduceCtorEq, Sp0, true_or, or_true, or_self, wi_wi, wj_wj, hM.k, hM.r9, hM.k10, hM.l10]
          repeat' (first | (with_reducible refine And.intro ?_ ?_) | (with_reducible intro))
          all_goals (try (first | with_reducible assumption | omega | (unfold inI; omega) | (unfold inL; omega) | exact cz_in _ _))
          exact nx _ (by rw [if_pos z])
        · rw [q1] at q
          have z : ¬ gdB D j = true := fun w => q (chs_iff.mpr w)
          simp only [wpS, o_c, o_cl, o_il, o_ll, o_al, o_is, o_ls, o_as, o_inc, o_add, o_sub, o_mul, o_and, o_or, o_xor, o_shl, o_shr, o_div, o_neg, o_ladd, o_lsub, o_lmul, o_ldiv, o_lrem, o_lneg, o_lcmp, o_i2l, o_l2i, o_dup, o_dup2, o_pop, o_go, o_nn, o_sw, swc, o_iret, o_zret, o_lret, o_vret, o_ieq, o_eq0, o_ine, o_ne0, o_ilt, o_lt0, o_ige, o_ge0, o_igt, o_gt0, o_ile, o_le0, o_iald, o_zald, o_lald, o_aald, o_iast, o_zast, o_last, o_aast, o_alen, o_gi, o_gr, o_pi, o_pz, o_pr, o_new, o_newa, o_copy, o_oinit, o_call, o_callV, o_callVc, o_callI, popn, cnO, o_BAD, lgt, lst, isL, kil, st1, st2, entL, List.length_nil, List.length_cons, List.replicate, Nat.reduceAdd, Nat.reduceLeDiff, Nat.reduceSub, true_and, and_true, Nat.zero_le, ne_eq, qk_wi, ql_wi, qr_wi, qj_wi, qt_wi, qk_wj, ql_wj, qr_wj, qi_wj, qt_wj, qk_wr, ql_wr, qi_wr, qj_wr, qt_wr, qi_ws, qj_ws, qr_ws, Int.toNat_natCast, Int.toNat_zero, Int.reduceToNat, not_true_eq_false, not_false_eq_true, false_implies, implies_true, Option.some.injEq, reduceCtorEq, Sp0, true_or, or_true, or_self, wi_wi, wj_wj, hM.k]
          repeat' (first | (with_reducible refine And.intro ?_ ?_) | (with_reducible intro))
          all_goals (try (first | with_reducible assumption | omega | (unfold inI; omega) | (unfold inL; omega) | exact cz_in _ _))
          all_goals (try (exfalso; omega))
          refine s_X8_best_146 x ok _ _ _ _ ?_
          simp only [wpS, o_c, o_cl, o_il, o_ll, o_al, o_is, o_ls, o_as, o_inc, o_add, o_sub, o_mul, o_and, o_or, o_xor, o_shl, o_shr, o_div, o_neg, o_ladd, o_lsub, o_lmul, o_ldiv, o_lrem, o_lneg, o_lcmp, o_i2l, o_l2i, o_dup, o_dup2, o_pop, o_go, o_nn, o_sw, swc, o_iret, o_zret, o_lret, o_vret, o_ieq, o_eq0, o_ine, o_ne0, o_ilt, o_lt0, o_ige, o_ge0, o_igt, o_gt0, o_ile, o_le0, o_iald, o_zald, o_lald, o_aald, o_iast, o_zast, o_last, o_aast, o_alen, o_gi, o_gr, o_pi, o_pz, o_pr, o_new, o_newa, o_copy, o_oinit, o_call, o_callV, o_callVc, o_callI, popn, cnO, o_BAD, lgt, lst, isL, kil, st1, st2, entL, List.length_nil, List.length_cons, List.replicate, Nat.reduceAdd, Nat.reduceLeDiff, Nat.reduceSub, true_and, and_true, Nat.zero_le, ne_eq, qk_wi, ql_wi, qr_wi, qj_wi, qt_wi, qk_wj, ql_wj, qr_wj, qi_wj, qt_wj, qk_wr, ql_wr, qi_wr, qj_wr, qt_wr, qi_ws, qj_ws, qr_ws, Int.toNat_natCast, Int.toNat_zero, Int.reduceToNat, not_true_eq_false, not_false_eq_true, false_implies, implies_true, Option.some.injEq, reduceCtorEq, Sp0, true_or, or_true, or_self, wi_wi, wj_wj, hM.k, hM.r9, hM.k10, hM.l10]
          repeat' (first | (with_reducible refine And.intro ?_ ?_) | (with_reducible intro))
          all_goals (try (first | with_reducible assumption | omega | (unfold inI; omega) | (unfold inL; omega) | exact cz_in _ _))
          exact nx _ (by rw [if_neg z])
    have no : ¬ (good D a ∧ (b.1 = -1 ∨ sg (prT D a) 12 < b.1)) → ∀ p v6, V i_X8_best x 154 [some (vr (some y)), some (vl b.1), none, some (vi 1), some (vl p), none, v6] [] (wi (wi (wi h (y + 1) D) (y + 9) a) (y + 10) f) (0, 0) := by
      intro hno p v6
      have e : lfS D a b = b := if_neg hno
      exact hk f b e.symm hb hf _ _ _
    have sums : ∀ j, j ≤ 12 → V i_X8_best x 37 [some (vr (some y)), some (vl b.1), none, some (vi 1), some (vl (sg (prT D a) j)), none, some (vi j)] [] (wi (wi (wi h (y + 1) D) (y + 9) a) (y + 10) f) (0, 0) := by
      refine bwd _ ?_ ?_
      · unfold bOk at hb
        have h101 : (b.1 = -1 ∨ sg (prT D a) 12 < b.1) → V i_X8_best x 101 [some (vr (some y)), some (vl b.1), none, some (vi 1), some (vl (sg (prT D a) 12)), none, some (vi 12)] [] (wi (wi (wi h (y + 1) D) (y + 9) a) (y + 10) f) (0, 0) := by
          intro hlt
          refine s_X8_best_101 x ok _ _ _ _ ?_
          simp only [wpS, o_c, o_cl, o_il, o_ll, o_al, o_is, o_ls, o_as, o_inc, o_add, o_sub, o_mul, o_and, o_or, o_xor, o_shl, o_shr, o_div, o_neg, o_ladd, o_lsub, o_lmul, o_ldiv, o_lrem, o_lneg, o_lcmp, o_i2l, o_l2i, o_dup, o_dup2, o_pop, o_go, o_nn, o_sw, swc, o_iret, o_zret, o_lret, o_vret, o_ieq, o_eq0, o_ine, o_ne0, o_ilt, o_lt0, o_ige, o_ge0, o_igt, o_gt0, o_ile, o_le0, o_iald, o_zald, o_lald, o_aald, o_iast, o_zast, o_last, o_aast, o_alen, o_gi, o_gr, o_pi, o_pz, o_pr, o_new, o_newa, o_copy, o_oinit, o_call, o_callV, o_callVc, o_callI, popn, cnO, o_BAD, lgt, lst, isL, kil, st1, st2, entL, List.length_nil, List.length_cons, List.replicate, Nat.reduceAdd, Nat.reduceLeDiff, Nat.reduceSub, true_and, and_true, Nat.zero_le, ne_eq, qk_wi, ql_wi, qr_wi, qj_wi, qt_wi, qk_wj, ql_wj, qr_wj, qi_wj, qt_wj, qk_wr, ql_wr, qi_wr, qj_wr, qt_wr, qi_ws, qj_ws, qr_ws, Int.toNat_natCast, Int.toNat_zero, Int.reduceToNat, not_true_eq_false, not_false_eq_true, false_implies, implies_true, Option.some.injEq, reduceCtorEq, Sp0, true_or, or_true, or_self, wi_wi, wj_wj, hM.k]
          repeat' (first | (with_reducible refine And.intro ?_ ?_) | (with_reducible intro))
          all_goals (try (first | with_reducible assumption | omega | (unfold inI; omega) | (unfold inL; omega) | exact cz_in _ _))
          refine c8_isGood (hM2 _ _ _) (hI2 _ _) (by rw [q1, q9]; exact hdg) ⟨fun q => ?_, fun q => ?_⟩
          · rw [q1, q9] at q
            have := wr 0 (by omega) f q hlt (fun m hm => by omega)
            simp only [wpS, o_c, o_cl, o_il, o_ll, o_al, o_is, o_ls, o_as, o_inc, o_add, o_sub, o_mul, o_and, o_or, o_xor, o_shl, o_shr, o_div, o_neg, o_ladd, o_lsub, o_lmul, o_ldiv, o_lrem, o_lneg, o_lcmp, o_i2l, o_l2i, o_dup, o_dup2, o_pop, o_go, o_nn, o_sw, swc, o_iret, o_zret, o_lret, o_vret, o_ieq, o_eq0, o_ine, o_ne0, o_ilt, o_lt0, o_ige, o_ge0, o_igt, o_gt0, o_ile, o_le0, o_iald, o_zald, o_lald, o_aald, o_iast, o_zast, o_last, o_aast, o_alen, o_gi, o_gr, o_pi, o_pz, o_pr, o_new, o_newa, o_copy, o_oinit, o_call, o_callV, o_callVc, o_callI, popn, cnO, o_BAD, lgt, lst, isL, kil, st1, st2, entL, List.length_nil, List.length_cons, List.replicate, Nat.reduceAdd, Nat.reduceLeDiff, Nat.reduceSub, true_and, and_true, Nat.zero_le, ne_eq, qk_wi, ql_wi, qr_wi, qj_wi, qt_wi, qk_wj, ql_wj, qr_wj, qi_wj, qt_wj, qk_wr, ql_wr, qi_wr, qj_wr, qt_wr, qi_ws, qj_ws, qr_ws, Int.toNat_natCast, Int.toNat_zero, Int.reduceToNat, not_true_eq_false, not_false_eq_true, false_implies, implies_true, Option.some.injEq, reduceCtorEq, Sp0, true_or, or_true, or_self, wi_wi, wj_wj, hM.k]
            repeat' (first | (with_reducible refine And.intro ?_ ?_) | (with_reducible intro))
            all_goals (try (first | with_reducible assumption | omega | (unfold inI; omega) | (unfold inL; omega) | exact cz_in _ _))
            all_goals (first | exact this | (exfalso; omega) | skip)
          · rw [q1, q9] at q
            have := no (fun w => q w.1)
            simp only [wpS, o_c, o_cl, o_il, o_ll, o_al, o_is, o_ls, o_as, o_inc, o_add, o_sub, o_mul, o_and, o_or, o_xor, o_shl, o_shr, o_div, o_neg, o_ladd, o_lsub, o_lmul, o_ldiv, o_lrem, o_lneg, o_lcmp, o_i2l, o_l2i, o_dup, o_dup2, o_pop, o_go, o_nn, o_sw, swc, o_iret, o_zret, o_lret, o_vret, o_ieq, o_eq0, o_ine, o_ne0, o_ilt, o_lt0, o_ige, o_ge0, o_igt, o_gt0, o_ile, o_le0, o_iald, o_zald, o_lald, o_aald, o_iast, o_zast, o_last, o_aast, o_alen, o_gi, o_gr, o_pi, o_pz, o_pr, o_new, o_newa, o_copy, o_oinit, o_call, o_callV, o_callVc, o_callI, popn, cnO, o_BAD, lgt, lst, isL, kil, st1, st2, entL, List.length_nil, List.length_cons, List.replicate, Nat.reduceAdd, Nat.reduceLeDiff, Nat.reduceSub, true_and, and_true, Nat.zero_le, ne_eq, qk_wi, ql_wi, qr_wi, qj_wi, qt_wi, qk_wj, ql_wj, qr_wj, qi_wj, qt_wj, qk_wr, ql_wr, qi_wr, qj_wr, qt_wr, qi_ws, qj_ws, qr_ws, Int.toNat_natCast, Int.toNat_zero, Int.reduceToNat, not_true_eq_false, not_false_eq_true, false_implies, implies_true, Option.some.injEq, reduceCtorEq, Sp0, true_or, or_true, or_self, wi_wi, wj_wj, hM.k]
            repeat' (first | (with_reducible refine And.intro ?_ ?_) | (with_reducible intro))
            all_goals (try (first | with_reducible assumption | omega | (unfold inI; omega) | (unfold inL; omega) | exact cz_in _ _))
            all_goals (first | exact this _ _ | (exfalso; omega) | skip)
        refine s_X8_best_37 x ok _ _ _ _ ?_
        simp only [wpS, o_c, o_cl, o_il, o_ll, o_al, o_is, o_ls, o_as, o_inc, o_add, o_sub, o_mul, o_and, o_or, o_xor, o_shl, o_shr, o_div, o_neg, o_ladd, o_lsub, o_lmul, o_ldiv, o_lrem, o_lneg, o_lcmp, o_i2l, o_l2i, o_dup, o_dup2, o_pop, o_go, o_nn, o_sw, swc, o_iret, o_zret, o_lret, o_vret, o_ieq, o_eq0, o_ine, o_ne0, o_ilt, o_lt0, o_ige, o_ge0, o_igt, o_gt0, o_ile, o_le0, o_iald, o_zald, o_lald, o_aald, o_iast, o_zast, o_last, o_aast, o_alen, o_gi, o_gr, o_pi, o_pz, o_pr, o_new, o_newa, o_copy, o_oinit, o_call, o_callV, o_callVc, o_callI, popn, cnO, o_BAD, lgt, lst, isL, kil, st1, st2, entL, List.length_nil, List.length_cons, List.replicate, Nat.reduceAdd, Nat.reduceLeDiff, Nat.reduceSub, true_and, and_true, Nat.zero_le, ne_eq, qk_wi, ql_wi, qr_wi, qj_wi, qt_wi, qk_wj, ql_wj, qr_wj, qi_wj, qt_wj, qk_wr, ql_wr, qi_wr, qj_wr, qt_wr, qi_ws, qj_ws, qr_ws, Int.toNat_natCast, Int.toNat_zero, Int.reduceToNat, not_true_eq_false, not_false_eq_true, false_implies, implies_true, Option.some.injEq, reduceCtorEq, Sp0, true_or, or_true, or_self, wi_wi, wj_wj, hM.k]
        repeat' (first | (with_reducible refine And.intro ?_ ?_) | (with_reducible intro))
        all_goals (try (first | with_reducible assumption | omega | (unfold inI; omega) | (unfold inL; omega) | exact cz_in _ _))
        all_goals (try (exfalso; omega))
        by_cases hlt : b.1 = -1 ∨ sg (prT D a) 12 < b.1
        · have h1 := h101 hlt
          refine s_X8_best_86 x ok _ _ _ _ ?_
          simp only [wpS, o_c, o_cl, o_il, o_ll, o_al, o_is, o_ls, o_as, o_inc, o_add, o_sub, o_mul, o_and, o_or, o_xor, o_shl, o_shr, o_div, o_neg, o_ladd, o_lsub, o_lmul, o_ldiv, o_lrem, o_lneg, o_lcmp, o_i2l, o_l2i, o_dup, o_dup2, o_pop, o_go, o_nn, o_sw, swc, o_iret, o_zret, o_lret, o_vret, o_ieq, o_eq0, o_ine, o_ne0, o_ilt, o_lt0, o_ige, o_ge0, o_igt, o_gt0, o_ile, o_le0, o_iald, o_zald, o_lald, o_aald, o_iast, o_zast, o_last, o_aast, o_alen, o_gi, o_gr, o_pi, o_pz, o_pr, o_new, o_newa, o_copy, o_oinit, o_call, o_callV, o_callVc, o_callI, popn, cnO, o_BAD, lgt, lst, isL, kil, st1, st2, entL, List.length_nil, List.length_cons, List.replicate, Nat.reduceAdd, Nat.reduceLeDiff, Nat.reduceSub, true_and, and_true, Nat.zero_le, ne_eq, qk_wi, ql_wi, qr_wi, qj_wi, qt_wi, qk_wj, ql_wj, qr_wj, qi_wj, qt_wj, qk_wr, ql_wr, qi_wr, qj_wr, qt_wr, qi_ws, qj_ws, qr_ws, Int.toNat_natCast, Int.toNat_zero, Int.reduceToNat, not_true_eq_false, not_false_eq_true, false_implies, implies_true, Option.some.injEq, reduceCtorEq, Sp0, true_or, or_true, or_self, wi_wi, wj_wj, hM.k, cz_in, cz_lt, cz_le, cz_gt, cz_ge, cz_eq]
          repeat' (first | (with_reducible refine And.intro ?_ ?_) | (with_reducible intro))
          all_goals (try (first | with_reducible assumption | omega | (unfold inI; omega) | (unfold inL; omega) | exact cz_in _ _))
          all_goals (first | exact h1 | (exfalso; omega) | skip)
          all_goals (
            refine c8_isGood (hM2 _ _ _) (hI2 _ _) (by rw [q1, q9]; exact hdg) ⟨fun q => ?_, fun q => ?_⟩
            · rw [q1, q9] at q
              have := wr 0 (by omega) f q hlt (fun m hm => by omega)
              simp only [wpS, o_c, o_cl, o_il, o_ll, o_al, o_is, o_ls, o_as, o_inc, o_add, o_sub, o_mul, o_and, o_or, o_xor, o_shl, o_shr, o_div, o_neg, o_ladd, o_lsub, o_lmul, o_ldiv, o_lrem, o_lneg, o_lcmp, o_i2l, o_l2i, o_dup, o_dup2, o_pop, o_go, o_nn, o_sw, swc, o_iret, o_zret, o_lret, o_vret, o_ieq, o_eq0, o_ine, o_ne0, o_ilt, o_lt0, o_ige, o_ge0, o_igt, o_gt0, o_ile, o_le0, o_iald, o_zald, o_lald, o_aald, o_iast, o_zast, o_last, o_aast, o_alen, o_gi, o_gr, o_pi, o_pz, o_pr, o_new, o_newa, o_copy, o_oinit, o_call, o_callV, o_callVc, o_callI, popn, cnO, o_BAD, lgt, lst, isL, kil, st1, st2, entL, List.length_nil, List.length_cons, List.replicate, Nat.reduceAdd, Nat.reduceLeDiff, Nat.reduceSub, true_and, and_true, Nat.zero_le, ne_eq, qk_wi, ql_wi, qr_wi, qj_wi, qt_wi, qk_wj, ql_wj, qr_wj, qi_wj, qt_wj, qk_wr, ql_wr, qi_wr, qj_wr, qt_wr, qi_ws, qj_ws, qr_ws, Int.toNat_natCast, Int.toNat_zero, Int.reduceToNat, not_true_eq_false, not_false_eq_true, false_implies, implies_true, Option.some.injEq, reduceCtorEq, Sp0, true_or, or_true, or_self, wi_wi, wj_wj, hM.k]
              repeat' (first | (with_reducible refine And.intro ?_ ?_) | (with_reducible intro))
              all_goals (try (first | with_reducible assumption | omega | (unfold inI; omega) | (unfold inL; omega) | exact cz_in _ _))
              all_goals (first | exact this | (exfalso; omega) | skip)
            · rw [q1, q9] at q
              have := no (fun w => q w.1)
              simp only [wpS, o_c, o_cl, o_il, o_ll, o_al, o_is, o_ls, o_as, o_inc, o_add, o_sub, o_mul, o_and, o_or, o_xor, o_shl, o_shr, o_div, o_neg, o_ladd, o_lsub, o_lmul, o_ldiv, o_lrem, o_lneg, o_lcmp, o_i2l, o_l2i, o_dup, o_dup2, o_pop, o_go, o_nn, o_sw, swc, o_iret, o_zret, o_lret, o_vret, o_ieq, o_eq0, o_ine, o_ne0, o_ilt, o_lt0, o_ige, o_ge0, o_igt, o_gt0, o_ile, o_le0, o_iald, o_zald, o_lald, o_aald, o_iast, o_zast, o_last, o_aast, o_alen, o_gi, o_gr, o_pi, o_pz, o_pr, o_new, o_newa, o_copy, o_oinit, o_call, o_callV, o_callVc, o_callI, popn, cnO, o_BAD, lgt, lst, isL, kil, st1, st2, entL, List.length_nil, List.length_cons, List.replicate, Nat.reduceAdd, Nat.reduceLeDiff, Nat.reduceSub, true_and, and_true, Nat.zero_le, ne_eq, qk_wi, ql_wi, qr_wi, qj_wi, qt_wi, qk_wj, ql_wj, qr_wj, qi_wj, qt_wj, qk_wr, ql_wr, qi_wr, qj_wr, qt_wr, qi_ws, qj_ws, qr_ws, Int.toNat_natCast, Int.toNat_zero, Int.reduceToNat, not_true_eq_false, not_false_eq_true, false_implies, implies_true, Option.some.injEq, reduceCtorEq, Sp0, true_or, or_true, or_self, wi_wi, wj_wj, hM.k]
              repeat' (first | (with_reducible refine And.intro ?_ ?_) | (with_reducible intro))
              all_goals (try (first | with_reducible assumption | omega | (unfold inI; omega) | (unfold inL; omega) | exact cz_in _ _))
              all_goals (first | exact this _ _ | (exfalso; omega) | skip))
        · have h1 := no (fun w => hlt w.2)
          refine s_X8_best_86 x ok _ _ _ _ ?_
          simp only [wpS, o_c, o_cl, o_il, o_ll, o_al, o_is, o_ls, o_as, o_inc, o_add, o_sub, o_mul, o_and, o_or, o_xor, o_shl, o_shr, o_div, o_neg, o_ladd, o_lsub, o_lmul, o_ldiv, o_lrem, o_lneg, o_lcmp, o_i2l, o_l2i, o_dup, o_dup2, o_pop, o_go, o_nn, o_sw, swc, o_iret, o_zret, o_lret, o_vret, o_ieq, o_eq0, o_ine, o_ne0, o_ilt, o_lt0, o_ige, o_ge0, o_igt, o_gt0, o_ile, o_le0, o_iald, o_zald, o_lald, o_aald, o_iast, o_zast, o_last, o_aast, o_alen, o_gi, o_gr, o_pi, o_pz, o_pr, o_new, o_newa, o_copy, o_oinit, o_call, o_callV, o_callVc, o_callI, popn, cnO, o_BAD, lgt, lst, isL, kil, st1, st2, entL, List.length_nil, List.length_cons, List.replicate, Nat.reduceAdd, Nat.reduceLeDiff, Nat.reduceSub, true_and, and_true, Nat.zero_le, ne_eq, qk_wi, ql_wi, qr_wi, qj_wi, qt_wi, qk_wj, ql_wj, qr_wj, qi_wj, qt_wj, qk_wr, ql_wr, qi_wr, qj_wr, qt_wr, qi_ws, qj_ws, qr_ws, Int.toNat_natCast, Int.toNat_zero, Int.reduceToNat, not_true_eq_false, not_false_eq_true, false_implies, implies_true, Option.some.injEq, reduceCtorEq, Sp0, true_or, or_true, or_self, wi_wi, wj_wj, hM.k, cz_in, cz_lt, cz_le, cz_gt, cz_ge, cz_eq]
          repeat' (first | (with_reducible refine And.intro ?_ ?_) | (with_reducible intro))
          all_goals (try (first | with_reducible assumption | omega | (unfold inI; omega) | (unfold inL; omega) | exact cz_in _ _))
          all_goals (first | exact h1 _ _ | (exfalso; omega) | skip)
      · intro j hj ih
        have hpj := prT_rg hI hdg j (by omega)
        have hpj1 := prT_rg hI hdg (j + 1) (by omega)
        have hgr : grd D j ≤ 12 := by
          have := sg_le (f := fun m => if 0 < dv D m then (1 : Int) else 0) (c := 1) (n := j) (fun k _ => by split <;> omega)
          unfold grd
          omega
        rw [sg_s] at ih
        refine s_X8_best_37 x ok _ _ _ _ ?_
        simp only [wpS, o_c, o_cl, o_il, o_ll, o_al, o_is, o_ls, o_as, o_inc, o_add, o_sub, o_mul, o_and, o_or, o_xor, o_shl, o_shr, o_div, o_neg, o_ladd, o_lsub, o_lmul, o_ldiv, o_lrem, o_lneg, o_lcmp, o_i2l, o_l2i, o_dup, o_dup2, o_pop, o_go, o_nn, o_sw, swc, o_iret, o_zret, o_lret, o_vret, o_ieq, o_eq0, o_ine, o_ne0, o_ilt, o_lt0, o_ige, o_ge0, o_igt, o_gt0, o_ile, o_le0, o_iald, o_zald, o_lald, o_aald, o_iast, o_zast, o_last, o_aast, o_alen, o_gi, o_gr, o_pi, o_pz, o_pr, o_new, o_newa, o_copy, o_oinit, o_call, o_callV, o_callVc, o_callI, popn, cnO, o_BAD, lgt, lst, isL, kil, st1, st2, entL, List.length_nil, List.length_cons, List.replicate, Nat.reduceAdd, Nat.reduceLeDiff, Nat.reduceSub, true_and, and_true, Nat.zero_le, ne_eq, qk_wi, ql_wi, qr_wi, qj_wi, qt_wi, qk_wj, ql_wj, qr_wj, qi_wj, qt_wj, qk_wr, ql_wr, qi_wr, qj_wr, qt_wr, qi_ws, qj_ws, qr_ws, Int.toNat_natCast, Int.toNat_zero, Int.reduceToNat, not_true_eq_false, not_false_eq_true, false_implies, implies_true, Option.some.injEq, reduceCtorEq, Sp0, true_or, or_true, or_self, wi_wi, wj_wj, hM.k]
        repeat' (first | (with_reducible refine And.intro ?_ ?_) | (with_reducible intro))
        all_goals (try (first | with_reducible assumption | omega | (unfold inI; omega) | (unfold inL; omega) | exact cz_in _ _))
        all_goals (try (exfalso; omega))
        refine c8_isChosen (hM2 _ _ _) (hI2 _ _) hj ⟨fun q => ?_, fun q => ?_⟩
        · rw [q1] at q
          have z := chs_iff.mp q
          have hz := hdg j hj z
          have hv := (hI.1 j hj).v
          obtain ⟨A, hA⟩ : ∃ A : Nat, a j = (A : Int) := ⟨(a j).toNat, by omega⟩
          have hw := ((hI.1 j hj).w A (by omega)).2.2
          have e40 : D (1140 + 4 * j + A) = dpr D j A := rfl
          have ep : prT D a j = dpr D j A := by
            unfold prT
            rw [if_pos z, hA, Int.toNat_natCast]
          rw [ep] at ih
          simp only [wpS, o_c, o_cl, o_il, o_ll, o_al, o_is, o_ls, o_as, o_inc, o_add, o_sub, o_mul, o_and, o_or, o_xor, o_shl, o_shr, o_div, o_neg, o_ladd, o_lsub, o_lmul, o_ldiv, o_lrem, o_lneg, o_lcmp, o_i2l, o_l2i, o_dup, o_dup2, o_pop, o_go, o_nn, o_sw, swc, o_iret, o_zret, o_lret, o_vret, o_ieq, o_eq0, o_ine, o_ne0, o_ilt, o_lt0, o_ige, o_ge0, o_igt, o_gt0, o_ile, o_le0, o_iald, o_zald, o_lald, o_aald, o_iast, o_zast, o_last, o_aast, o_alen, o_gi, o_gr, o_pi, o_pz, o_pr, o_new, o_newa, o_copy, o_oinit, o_call, o_callV, o_callVc, o_callI, popn, cnO, o_BAD, lgt, lst, isL, kil, st1, st2, entL, List.length_nil, List.length_cons, List.replicate, Nat.reduceAdd, Nat.reduceLeDiff, Nat.reduceSub, true_and, and_true, Nat.zero_le, ne_eq, qk_wi, ql_wi, qr_wi, qj_wi, qt_wi, qk_wj, ql_wj, qr_wj, qi_wj, qt_wj, qk_wr, ql_wr, qi_wr, qj_wr, qt_wr, qi_ws, qj_ws, qr_ws, Int.toNat_natCast, Int.toNat_zero, Int.reduceToNat, not_true_eq_false, not_false_eq_true, false_implies, implies_true, Option.some.injEq, reduceCtorEq, Sp0, true_or, or_true, or_self, wi_wi, wj_wj, hM.k, hM.r0, hM.k1, hM.l1, ix0, ix12, ix24, ix36, ix48, ix60, ix1032, ix1044, ix1092, ix1140, ix1188, ix1200, ix1212, ix1284, ix1290, ix1296, ix1298, ix1322, ix1346, ix1358, ixm4, ixm12, ixm24, ixm81, ixm1382, ixadd, Nat.zero_add, hM.r8, hM.k9, hM.l9, q1, q9, hA, e40]
          repeat' (first | (with_reducible refine And.intro ?_ ?_) | (with_reducible intro))
          all_goals (try (first | with_reducible assumption | omega | (unfold inI; omega) | (unfold inL; omega) | exact cz_in _ _))
          all_goals (first | exact ih | (exfalso; omega) | skip)
        · rw [q1] at q
          have z : ¬ gdB D j = true := fun w => q (chs_iff.mpr w)
          have ep : prT D a j = 0 := by
            unfold prT
            rw [if_neg z]
          rw [ep, Int.add_zero] at ih
          simp only [wpS, o_c, o_cl, o_il, o_ll, o_al, o_is, o_ls, o_as, o_inc, o_add, o_sub, o_mul, o_and, o_or, o_xor, o_shl, o_shr, o_div, o_neg, o_ladd, o_lsub, o_lmul, o_ldiv, o_lrem, o_lneg, o_lcmp, o_i2l, o_l2i, o_dup, o_dup2, o_pop, o_go, o_nn, o_sw, swc, o_iret, o_zret, o_lret, o_vret, o_ieq, o_eq0, o_ine, o_ne0, o_ilt, o_lt0, o_ige, o_ge0, o_igt, o_gt0, o_ile, o_le0, o_iald, o_zald, o_lald, o_aald, o_iast, o_zast, o_last, o_aast, o_alen, o_gi, o_gr, o_pi, o_pz, o_pr, o_new, o_newa, o_copy, o_oinit, o_call, o_callV, o_callVc, o_callI, popn, cnO, o_BAD, lgt, lst, isL, kil, st1, st2, entL, List.length_nil, List.length_cons, List.replicate, Nat.reduceAdd, Nat.reduceLeDiff, Nat.reduceSub, true_and, and_true, Nat.zero_le, ne_eq, qk_wi, ql_wi, qr_wi, qj_wi, qt_wi, qk_wj, ql_wj, qr_wj, qi_wj, qt_wj, qk_wr, ql_wr, qi_wr, qj_wr, qt_wr, qi_ws, qj_ws, qr_ws, Int.toNat_natCast, Int.toNat_zero, Int.reduceToNat, not_true_eq_false, not_false_eq_true, false_implies, implies_true, Option.some.injEq, reduceCtorEq, Sp0, true_or, or_true, or_self, wi_wi, wj_wj, hM.k]
          repeat' (first | (with_reducible refine And.intro ?_ ?_) | (with_reducible intro))
          all_goals (try (first | with_reducible assumption | omega | (unfold inI; omega) | (unfold inL; omega) | exact cz_in _ _))
          all_goals (try (exfalso; omega))
          refine s_X8_best_80 x ok _ _ _ _ ?_
          simp only [wpS, o_c, o_cl, o_il, o_ll, o_al, o_is, o_ls, o_as, o_inc, o_add, o_sub, o_mul, o_and, o_or, o_xor, o_shl, o_shr, o_div, o_neg, o_ladd, o_lsub, o_lmul, o_ldiv, o_lrem, o_lneg, o_lcmp, o_i2l, o_l2i, o_dup, o_dup2, o_pop, o_go, o_nn, o_sw, swc, o_iret, o_zret, o_lret, o_vret, o_ieq, o_eq0, o_ine, o_ne0, o_ilt, o_lt0, o_ige, o_ge0, o_igt, o_gt0, o_ile, o_le0, o_iald, o_zald, o_lald, o_aald, o_iast, o_zast, o_last, o_aast, o_alen, o_gi, o_gr, o_pi, o_pz, o_pr, o_new, o_newa, o_copy, o_oinit, o_call, o_callV, o_callVc, o_callI, popn, cnO, o_BAD, lgt, lst, isL, kil, st1, st2, entL, List.length_nil, List.length_cons, List.replicate, Nat.reduceAdd, Nat.reduceLeDiff, Nat.reduceSub, true_and, and_true, Nat.zero_le, ne_eq, qk_wi, ql_wi, qr_wi, qj_wi, qt_wi, qk_wj, ql_wj, qr_wj, qi_wj, qt_wj, qk_wr, ql_wr, qi_wr, qj_wr, qt_wr, qi_ws, qj_ws, qr_ws, Int.toNat_natCast, Int.toNat_zero, Int.reduceToNat, not_true_eq_false, not_false_eq_true, false_implies, implies_true, Option.some.injEq, reduceCtorEq, Sp0, true_or, or_true, or_self, wi_wi, wj_wj, hM.k]
          repeat' (first | (with_reducible refine And.intro ?_ ?_) | (with_reducible intro))
          all_goals (try (first | with_reducible assumption | omega | (unfold inI; omega) | (unfold inL; omega) | exact cz_in _ _))
          exact ih
    refine s_X8_best_27 x ok _ _ _ _ ?_
    simp only [wpS, o_c, o_cl, o_il, o_ll, o_al, o_is, o_ls, o_as, o_inc, o_add, o_sub, o_mul, o_and, o_or, o_xor, o_shl, o_shr, o_div, o_neg, o_ladd, o_lsub, o_lmul, o_ldiv, o_lrem, o_lneg, o_lcmp, o_i2l, o_l2i, o_dup, o_dup2, o_pop, o_go, o_nn, o_sw, swc, o_iret, o_zret, o_lret, o_vret, o_ieq, o_eq0, o_ine, o_ne0, o_ilt, o_lt0, o_ige, o_ge0, o_igt, o_gt0, o_ile, o_le0, o_iald, o_zald, o_lald, o_aald, o_iast, o_zast, o_last, o_aast, o_alen, o_gi, o_gr, o_pi, o_pz, o_pr, o_new, o_newa, o_copy, o_oinit, o_call, o_callV, o_callVc, o_callI, popn, cnO, o_BAD, lgt, lst, isL, kil, st1, st2, entL, List.length_nil, List.length_cons, List.replicate, Nat.reduceAdd, Nat.reduceLeDiff, Nat.reduceSub, true_and, and_true, Nat.zero_le, ne_eq, qk_wi, ql_wi, qr_wi, qj_wi, qt_wi, qk_wj, ql_wj, qr_wj, qi_wj, qt_wj, qk_wr, ql_wr, qi_wr, qj_wr, qt_wr, qi_ws, qj_ws, qr_ws, Int.toNat_natCast, Int.toNat_zero, Int.reduceToNat, not_true_eq_false, not_false_eq_true, false_implies, implies_true, Option.some.injEq, reduceCtorEq, Sp0, true_or, or_true, or_self, wi_wi, wj_wj, hM.k]
    repeat' (first | (with_reducible refine And.intro ?_ ?_) | (with_reducible intro))
    all_goals (try (first | with_reducible assumption | omega | (unfold inI; omega) | (unfold inL; omega) | exact cz_in _ _))
    all_goals (first | exact sums 0 (by omega) | (exfalso; omega) | skip)
  -- on to the next choice
  have nxt : ∀ (a a2 f : Nat → Int) (b : Bst) (u : Bool) v3 p v6, dgOk D a → bOk b → goN D 12 a = (a2, u) → V i_X8_best x 27 [some (vr (some y)), some (vl b.1), none, some (vi (if u = true then 1 else 0)), some (vl p), none, v6] [] (wi (wi (wi h (y + 1) D) (y + 9) a2) (y + 10) f) (0, 0) → V i_X8_best x 154 [some (vr (some y)), some (vl b.1), none, v3, some (vl p), none, v6] [] (wi (wi (wi h (y + 1) D) (y + 9) a) (y + 10) f) (0, 0) := by
    intro a a2 f b u v3 p v6 hdg hb hgo hk
    refine s_X8_best_154 x ok _ _ _ _ ?_
    simp only [wpS, o_c, o_cl, o_il, o_ll, o_al, o_is, o_ls, o_as, o_inc, o_add, o_sub, o_mul, o_and, o_or, o_xor, o_shl, o_shr, o_div, o_neg, o_ladd, o_lsub, o_lmul, o_ldiv, o_lrem, o_lneg, o_lcmp, o_i2l, o_l2i, o_dup, o_dup2, o_pop, o_go, o_nn, o_sw, swc, o_iret, o_zret, o_lret, o_vret, o_ieq, o_eq0, o_ine, o_ne0, o_ilt, o_lt0, o_ige, o_ge0, o_igt, o_gt0, o_ile, o_le0, o_iald, o_zald, o_lald, o_aald, o_iast, o_zast, o_last, o_aast, o_alen, o_gi, o_gr, o_pi, o_pz, o_pr, o_new, o_newa, o_copy, o_oinit, o_call, o_callV, o_callVc, o_callI, popn, cnO, o_BAD, lgt, lst, isL, kil, st1, st2, entL, List.length_nil, List.length_cons, List.replicate, Nat.reduceAdd, Nat.reduceLeDiff, Nat.reduceSub, true_and, and_true, Nat.zero_le, ne_eq, qk_wi, ql_wi, qr_wi, qj_wi, qt_wi, qk_wj, ql_wj, qr_wj, qi_wj, qt_wj, qk_wr, ql_wr, qi_wr, qj_wr, qt_wr, qi_ws, qj_ws, qr_ws, Int.toNat_natCast, Int.toNat_zero, Int.reduceToNat, not_true_eq_false, not_false_eq_true, false_implies, implies_true, Option.some.injEq, reduceCtorEq, Sp0, true_or, or_true, or_self, wi_wi, wj_wj, hM.k]
    repeat' (first | (with_reducible refine And.intro ?_ ?_) | (with_reducible intro))
    all_goals (try (first | with_reducible assumption | omega | (unfold inI; omega) | (unfold inL; omega) | exact cz_in _ _))
    refine c8_goesOn (hM2 _ _ _) (hI2 _ _) (by rw [q1, q9]; exact hdg) ?_
    rw [q1, q9, hgo, w9]
    cases u with
    | true =>
      simp only [wpS, o_c, o_cl, o_il, o_ll, o_al, o_is, o_ls, o_as, o_inc, o_add, o_sub, o_mul, o_and, o_or, o_xor, o_shl, o_shr, o_div, o_neg, o_ladd, o_lsub, o_lmul, o_ldiv, o_lrem, o_lneg, o_lcmp, o_i2l, o_l2i, o_dup, o_dup2, o_pop, o_go, o_nn, o_sw, swc, o_iret, o_zret, o_lret, o_vret, o_ieq, o_eq0, o_ine, o_ne0, o_ilt, o_lt0, o_ige, o_ge0, o_igt, o_gt0, o_ile, o_le0, o_iald, o_zald, o_lald, o_aald, o_iast, o_zast, o_last, o_aast, o_alen, o_gi, o_gr, o_pi, o_pz, o_pr, o_new, o_newa, o_copy, o_oinit, o_call, o_callV, o_callVc, o_callI, popn, cnO, o_BAD, lgt, lst, isL, kil, st1, st2, entL, List.length_nil, List.length_cons, List.replicate, Nat.reduceAdd, Nat.reduceLeDiff, Nat.reduceSub, true_and, and_true, Nat.zero_le, ne_eq, qk_wi, ql_wi, qr_wi, qj_wi, qt_wi, qk_wj, ql_wj, qr_wj, qi_wj, qt_wj, qk_wr, ql_wr, qi_wr, qj_wr, qt_wr, qi_ws, qj_ws, qr_ws, Int.toNat_natCast, Int.toNat_zero, Int.reduceToNat, not_true_eq_false, not_false_eq_true, false_implies, implies_true, Option.some.injEq, reduceCtorEq, Sp0, true_or, or_true, or_self, wi_wi, wj_wj, hM.k]
      repeat' (first | (with_reducible refine And.intro ?_ ?_) | (with_reducible intro))
      all_goals (try (first | with_reducible assumption | omega | (unfold inI; omega) | (unfold inL; omega) | exact cz_in _ _))
      exact hk
    | false =>
      simp only [wpS, o_c, o_cl, o_il, o_ll, o_al, o_is, o_ls, o_as, o_inc, o_add, o_sub, o_mul, o_and, o_or, o_xor, o_shl, o_shr, o_div, o_neg, o_ladd, o_lsub, o_lmul, o_ldiv, o_lrem, o_lneg, o_lcmp, o_i2l, o_l2i, o_dup, o_dup2, o_pop, o_go, o_nn, o_sw, swc, o_iret, o_zret, o_lret, o_vret, o_ieq, o_eq0, o_ine, o_ne0, o_ilt, o_lt0, o_ige, o_ge0, o_igt, o_gt0, o_ile, o_le0, o_iald, o_zald, o_lald, o_aald, o_iast, o_zast, o_last, o_aast, o_alen, o_gi, o_gr, o_pi, o_pz, o_pr, o_new, o_newa, o_copy, o_oinit, o_call, o_callV, o_callVc, o_callI, popn, cnO, o_BAD, lgt, lst, isL, kil, st1, st2, entL, List.length_nil, List.length_cons, List.replicate, Nat.reduceAdd, Nat.reduceLeDiff, Nat.reduceSub, true_and, and_true, Nat.zero_le, ne_eq, qk_wi, ql_wi, qr_wi, qj_wi, qt_wi, qk_wj, ql_wj, qr_wj, qi_wj, qt_wj, qk_wr, ql_wr, qi_wr, qj_wr, qt_wr, qi_ws, qj_ws, qr_ws, Int.toNat_natCast, Int.toNat_zero, Int.reduceToNat, not_true_eq_false, not_false_eq_true, false_implies, implies_true, Option.some.injEq, reduceCtorEq, Sp0, true_or, or_true, or_self, wi_wi, wj_wj, hM.k]
      repeat' (first | (with_reducible refine And.intro ?_ ?_) | (with_reducible intro))
      all_goals (try (first | with_reducible assumption | omega | (unfold inI; omega) | (unfold inL; omega) | exact cz_in _ _))
      exact hk
  have main : ∀ n, n ≤ 12 → ∀ (a f : Nat → Int) (b : Bst), dgOk D a → (∀ m, 12 - n ≤ m → m < 12 → a m = 0) → bOk b → fsOk D f b → (∀ a' f' (b' : Bst), b' = sF D n a b → dgOk D a' → bOk b' → fsOk D f' b' → goN D 12 a' = goN D (12 - n) a → ∀ v3 p v6, V i_X8_best x 154 [some (vr (some y)), some (vl b'.1), none, v3, some (vl p), none, v6] [] (wi (wi (wi h (y + 1) D) (y + 9) a') (y + 10) f') (0, 0)) → ∀ v4 v5 v6, V i_X8_best x 27 [some (vr (some y)), some (vl b.1), none, some (vi 1), v4, v5, v6] [] (wi (wi (wi h (y + 1) D) (y + 9) a) (y + 10) f) (0, 0) := by
    intro n
    induction n with
    | zero =>
      intro _ a f b hdg hz hb hf hk v4 v5 v6
      exact leaf a f b hdg hb hf (fun f' b' e hb' hf' v3 p v6 => hk a f' b' e hdg hb' hf' rfl v3 p v6) _ _ _
    | succ n ih =>
      intro hn a f b hdg hz hb hf hk v4 v5 v6
      have em : 12 - n = 12 - (n + 1) + 1 := by omega
      rw [em] at ih
      unfold sF at hk
      generalize hm : 12 - (n + 1) = m at *
      have hm12 : m < 12 := by omega
      have ham := hz m (Nat.le_refl _) hm12
      by_cases z : gdB D m = true
      · rw [if_pos z] at hk
        have hv := (hI.1 m hm12).v
        have hv0 := (gdB_iff.mp z).2
        obtain ⟨N, hN⟩ : ∃ N : Nat, dv D m = ((N + 1 : Nat) : Int) := ⟨(dv D m - 1).toNat, by omega⟩
        rw [hN, Int.toNat_natCast] at hk
        have hd2 : ∀ j : Nat, j ≤ N → dgOk D (fu a m j) := fun j hj k hk2 hg => by
          unfold fu
          by_cases u : k = m
          · rw [if_pos u, u]; omega
          · rw [if_neg u]; exact hdg k hk2 hg
        have hz2 : ∀ (j : Nat) k, m + 1 ≤ k → k < 12 → fu a m j k = 0 := fun j k h1 h2 => by
          rw [fu_n (by omega)]; exact hz k (by omega) h2
        have Q : ∀ j, j ≤ N → ∀ (f1 : Nat → Int) (b1 : Bst), b1 = lpF (fun l b => sF D n (fu a m l) b) j b → bOk b1 → fsOk D f1 b1 → ∀ v4 v5 v6, V i_X8_best x 27 [some (vr (some y)), some (vl b1.1), none, some (vi 1), v4, v5, v6] [] (wi (wi (wi h (y + 1) D) (y + 9) (fu a m j)) (y + 10) f1) (0, 0) := by
          refine bwd _ ?_ ?_
          · intro f1 b1 e1 hb1 hf1 v4 v5 v6
            refine ih (by omega) (fu a m N) f1 b1 (hd2 N (Nat.le_refl _)) (hz2 N) hb1 hf1 (fun a' f' b' e' hd' hb' hf' hgo v3 p v6 => ?_) _ _ _
            refine hk a' f' b' ?_ hd' hb' hf' ?_ v3 p v6
            · rw [e', e1]; rfl
            · rw [hgo]
              conv => lhs; unfold goN
              rw [if_pos z, fu_s, if_neg (by omega), fu_uu, ← ham, fu_self]
          · intro j hj ihj f1 b1 e1 hb1 hf1 v4 v5 v6
            refine ih (by omega) (fu a m j) f1 b1 (hd2 j (by omega)) (hz2 j) hb1 hf1 (fun a' f' b' e' hd' hb' hf' hgo v3 p v6 => ?_) _ _ _
            refine nxt a' (fu a m ((j + 1 : Nat) : Int)) f' b' true v3 p v6 hd' hb' ?_ ?_
            · rw [hgo]
              conv => lhs; unfold goN
              rw [if_pos z, fu_s, if_pos (by omega), fu_uu]
              rfl
            · exact ihj f' b' (by rw [e', e1]; rfl) hb' hf' _ _ _
        have := Q 0 (by omega) f b rfl hb hf v4 v5 v6
        have e0 : fu a m ((0 : Nat) : Int) = a := by
          show fu a m 0 = a
          rw [← ham, fu_self]
        rw [e0] at this
        exact this
      · rw [if_neg z] at hk
        refine ih (by omega) a f b hdg (fun k h1 h2 => hz k (by omega) h2) hb hf (fun a' f' b' e' hd' hb' hf' hgo v3 p v6 => ?_) _ _ _
        refine hk a' f' b' e' hd' hb' hf' ?_ v3 p v6
        rw [hgo]
        conv => lhs; unfold goN
        rw [if_neg z]
  -- the end
  have fin : ∀ (a f : Nat → Int) (b : Bst), (∀ m, m < 12 → a m = 0) → Rb D b (bst D) → bOk b → fsOk D f b → ∀ p v6, V i_X8_best x 27 [some (vr (some y)), some (vl b.1), none, some (vi 0), some (vl p), none, v6] [] (wi (wi (wi h (y + 1) D) (y + 9) a) (y + 10) f) (0, 0) := by
    intro a f b ha hR hb hf p v6
    have hk := hK a f
    unfold bOk at hb
    rw [← hR.1] at hk
    by_cases e : b.1 = -1
    · have h1 := hk.1 e
      rw [e]
      refine s_X8_best_27 x ok _ _ _ _ ?_
      simp only [wpS, o_c, o_cl, o_il, o_ll, o_al, o_is, o_ls, o_as, o_inc, o_add, o_sub, o_mul, o_and, o_or, o_xor, o_shl, o_shr, o_div, o_neg, o_ladd, o_lsub, o_lmul, o_ldiv, o_lrem, o_lneg, o_lcmp, o_i2l, o_l2i, o_dup, o_dup2, o_pop, o_go, o_nn, o_sw, swc, o_iret, o_zret, o_lret, o_vret, o_ieq, o_eq0, o_ine, o_ne0, o_ilt, o_lt0, o_ige, o_ge0, o_igt, o_gt0, o_ile, o_le0, o_iald, o_zald, o_lald, o_aald, o_iast, o_zast, o_last, o_aast, o_alen, o_gi, o_gr, o_pi, o_pz, o_pr, o_new, o_newa, o_copy, o_oinit, o_call, o_callV, o_callVc, o_callI, popn, cnO, o_BAD, lgt, lst, isL, kil, st1, st2, entL, List.length_nil, List.length_cons, List.replicate, Nat.reduceAdd, Nat.reduceLeDiff, Nat.reduceSub, true_and, and_true, Nat.zero_le, ne_eq, qk_wi, ql_wi, qr_wi, qj_wi, qt_wi, qk_wj, ql_wj, qr_wj, qi_wj, qt_wj, qk_wr, ql_wr, qi_wr, qj_wr, qt_wr, qi_ws, qj_ws, qr_ws, Int.toNat_natCast, Int.toNat_zero, Int.reduceToNat, not_true_eq_false, not_false_eq_true, false_implies, implies_true, Option.some.injEq, reduceCtorEq, Sp0, true_or, or_true, or_self, wi_wi, wj_wj, hM.k]
      repeat' (first | (with_reducible refine And.intro ?_ ?_) | (with_reducible intro))
      all_goals (try (first | with_reducible assumption | omega | (unfold inI; omega) | (unfold inL; omega) | exact cz_in _ _))
      all_goals (try (exfalso; omega))
      refine s_X8_best_162 x ok _ _ _ _ ?_
      simp only [wpS, o_c, o_cl, o_il, o_ll, o_al, o_is, o_ls, o_as, o_inc, o_add, o_sub, o_mul, o_and, o_or, o_xor, o_shl, o_shr, o_div, o_neg, o_ladd, o_lsub, o_lmul, o_ldiv, o_lrem, o_lneg, o_lcmp, o_i2l, o_l2i, o_dup, o_dup2, o_pop, o_go, o_nn, o_sw, swc, o_iret, o_zret, o_lret, o_vret, o_ieq, o_eq0, o_ine, o_ne0, o_ilt, o_lt0, o_ige, o_ge0, o_igt, o_gt0, o_ile, o_le0, o_iald, o_zald, o_lald, o_aald, o_iast, o_zast, o_last, o_aast, o_alen, o_gi, o_gr, o_pi, o_pz, o_pr, o_new, o_newa, o_copy, o_oinit, o_call, o_callV, o_callVc, o_callI, popn, cnO, o_BAD, lgt, lst, isL, kil, st1, st2, entL, List.length_nil, List.length_cons, List.replicate, Nat.reduceAdd, Nat.reduceLeDiff, Nat.reduceSub, true_and, and_true, Nat.zero_le, ne_eq, qk_wi, ql_wi, qr_wi, qj_wi, qt_wi, qk_wj, ql_wj, qr_wj, qi_wj, qt_wj, qk_wr, ql_wr, qi_wr, qj_wr, qt_wr, qi_ws, qj_ws, qr_ws, Int.toNat_natCast, Int.toNat_zero, Int.reduceToNat, not_true_eq_false, not_false_eq_true, false_implies, implies_true, Option.some.injEq, reduceCtorEq, Sp0, true_or, or_true, or_self, wi_wi, wj_wj, hM.k, cz_in, cz_lt, cz_le, cz_gt, cz_ge, cz_eq]
      repeat' (first | (with_reducible refine And.intro ?_ ?_) | (with_reducible intro))
      all_goals (try (first | with_reducible assumption | omega | (unfold inI; omega) | (unfold inL; omega) | exact cz_in _ _))
      all_goals (try (exfalso; omega))
      refine s_X8_best_204 x ok _ _ _ _ ?_
      simp only [wpS, o_c, o_cl, o_il, o_ll, o_al, o_is, o_ls, o_as, o_inc, o_add, o_sub, o_mul, o_and, o_or, o_xor, o_shl, o_shr, o_div, o_neg, o_ladd, o_lsub, o_lmul, o_ldiv, o_lrem, o_lneg, o_lcmp, o_i2l, o_l2i, o_dup, o_dup2, o_pop, o_go, o_nn, o_sw, swc, o_iret, o_zret, o_lret, o_vret, o_ieq, o_eq0, o_ine, o_ne0, o_ilt, o_lt0, o_ige, o_ge0, o_igt, o_gt0, o_ile, o_le0, o_iald, o_zald, o_lald, o_aald, o_iast, o_zast, o_last, o_aast, o_alen, o_gi, o_gr, o_pi, o_pz, o_pr, o_new, o_newa, o_copy, o_oinit, o_call, o_callV, o_callVc, o_callI, popn, cnO, o_BAD, lgt, lst, isL, kil, st1, st2, entL, List.length_nil, List.length_cons, List.replicate, Nat.reduceAdd, Nat.reduceLeDiff, Nat.reduceSub, true_and, and_true, Nat.zero_le, ne_eq, qk_wi, ql_wi, qr_wi, qj_wi, qt_wi, qk_wj, ql_wj, qr_wj, qi_wj, qt_wj, qk_wr, ql_wr, qi_wr, qj_wr, qt_wr, qi_ws, qj_ws, qr_ws, Int.toNat_natCast, Int.toNat_zero, Int.reduceToNat, not_true_eq_false, not_false_eq_true, false_implies, implies_true, Option.some.injEq, reduceCtorEq, Sp0, true_or, or_true, or_self, wi_wi, wj_wj, hM.k]
      repeat' (first | (with_reducible refine And.intro ?_ ?_) | (with_reducible intro))
      all_goals (try (first | with_reducible assumption | omega | (unfold inI; omega) | (unfold inL; omega) | exact cz_in _ _))
    · have h1 := hk.2 e
      have hc := chG_eq (d := D) (p := (bst D).2) (a := b.2) (hR.2 e) 12 (Nat.le_refl _)
      have wr : ∀ j, j ≤ 12 → ∀ g : Nat → Int, (∀ k, g k = if 1346 ≤ k ∧ k < 1346 + j then chG D (bst D).2 (gk D) (k - 1346) else D k) → ∀ v5 v6, V i_X8_best x 173 [some (vr (some y)), some (vl b.1), none, some (vi 0), some (vi j), v5, v6] [] (wi (wi (wi h (y + 1) g) (y + 9) a) (y + 10) f) (0, 0) := by
        refine bwd _ ?_ ?_
        · intro g hg v5 v6
          have eg : g = bsD D := by funext k; rw [hg k]; rfl
          rw [eg]
          refine s_X8_best_173 x ok _ _ _ _ ?_
          simp only [wpS, o_c, o_cl, o_il, o_ll, o_al, o_is, o_ls, o_as, o_inc, o_add, o_sub, o_mul, o_and, o_or, o_xor, o_shl, o_shr, o_div, o_neg, o_ladd, o_lsub, o_lmul, o_ldiv, o_lrem, o_lneg, o_lcmp, o_i2l, o_l2i, o_dup, o_dup2, o_pop, o_go, o_nn, o_sw, swc, o_iret, o_zret, o_lret, o_vret, o_ieq, o_eq0, o_ine, o_ne0, o_ilt, o_lt0, o_ige, o_ge0, o_igt, o_gt0, o_ile, o_le0, o_iald, o_zald, o_lald, o_aald, o_iast, o_zast, o_last, o_aast, o_alen, o_gi, o_gr, o_pi, o_pz, o_pr, o_new, o_newa, o_copy, o_oinit, o_call, o_callV, o_callVc, o_callI, popn, cnO, o_BAD, lgt, lst, isL, kil, st1, st2, entL, List.length_nil, List.length_cons, List.replicate, Nat.reduceAdd, Nat.reduceLeDiff, Nat.reduceSub, true_and, and_true, Nat.zero_le, ne_eq, qk_wi, ql_wi, qr_wi, qj_wi, qt_wi, qk_wj, ql_wj, qr_wj, qi_wj, qt_wj, qk_wr, ql_wr, qi_wr, qj_wr, qt_wr, qi_ws, qj_ws, qr_ws, Int.toNat_natCast, Int.toNat_zero, Int.reduceToNat, not_true_eq_false, not_false_eq_true, false_implies, implies_true, Option.some.injEq, reduceCtorEq, Sp0, true_or, or_true, or_self, wi_wi, wj_wj, hM.k]
          repeat' (first | (with_reducible refine And.intro ?_ ?_) | (with_reducible intro))
          all_goals (try (first | with_reducible assumption | omega | (unfold inI; omega) | (unfold inL; omega) | exact cz_in _ _))
          all_goals (try (exfalso; omega))
          refine s_X8_best_204 x ok _ _ _ _ ?_
          simp only [wpS, o_c, o_cl, o_il, o_ll, o_al, o_is, o_ls, o_as, o_inc, o_add, o_sub, o_mul, o_and, o_or, o_xor, o_shl, o_shr, o_div, o_neg, o_ladd, o_lsub, o_lmul, o_ldiv, o_lrem, o_lneg, o_lcmp, o_i2l, o_l2i, o_dup, o_dup2, o_pop, o_go, o_nn, o_sw, swc, o_iret, o_zret, o_lret, o_vret, o_ieq, o_eq0, o_ine, o_ne0, o_ilt, o_lt0, o_ige, o_ge0, o_igt, o_gt0, o_ile, o_le0, o_iald, o_zald, o_lald, o_aald, o_iast, o_zast, o_last, o_aast, o_alen, o_gi, o_gr, o_pi, o_pz, o_pr, o_new, o_newa, o_copy, o_oinit, o_call, o_callV, o_callVc, o_callI, popn, cnO, o_BAD, lgt, lst, isL, kil, st1, st2, entL, List.length_nil, List.length_cons, List.replicate, Nat.reduceAdd, Nat.reduceLeDiff, Nat.reduceSub, true_and, and_true, Nat.zero_le, ne_eq, qk_wi, ql_wi, qr_wi, qj_wi, qt_wi, qk_wj, ql_wj, qr_wj, qi_wj, qt_wj, qk_wr, ql_wr, qi_wr, qj_wr, qt_wr, qi_ws, qj_ws, qr_ws, Int.toNat_natCast, Int.toNat_zero, Int.reduceToNat, not_true_eq_false, not_false_eq_true, false_implies, implies_true, Option.some.injEq, reduceCtorEq, Sp0, true_or, or_true, or_self, wi_wi, wj_wj, hM.k]
          repeat' (first | (with_reducible refine And.intro ?_ ?_) | (with_reducible intro))
          all_goals (try (first | with_reducible assumption | omega | (unfold inI; omega) | (unfold inL; omega) | exact cz_in _ _))
        · intro j hj ih g hg v5 v6
          have hcj : f j = chG D (bst D).2 (gk D) j := by
            have := hc j hj
            rw [hf e j hj]
            show _ = chG D (bst D).2 (gls D 12).length j
            rw [this]
            by_cases u : gdB D j = true
            · rw [if_pos u, if_pos ⟨hj, u⟩]
            · rw [if_neg u, if_neg (fun w => u w.2)]
          refine s_X8_best_173 x ok _ _ _ _ ?_
          simp only [wpS, o_c, o_cl, o_il, o_ll, o_al, o_is, o_ls, o_as, o_inc, o_add, o_sub, o_mul, o_and, o_or, o_xor, o_shl, o_shr, o_div, o_neg, o_ladd, o_lsub, o_lmul, o_ldiv, o_lrem, o_lneg, o_lcmp, o_i2l, o_l2i, o_dup, o_dup2, o_pop, o_go, o_nn, o_sw, swc, o_iret, o_zret, o_lret, o_vret, o_ieq, o_eq0, o_ine, o_ne0, o_ilt, o_lt0, o_ige, o_ge0, o_igt, o_gt0, o_ile, o_le0, o_iald, o_zald, o_lald, o_aald, o_iast, o_zast, o_last, o_aast, o_alen, o_gi, o_gr, o_pi, o_pz, o_pr, o_new, o_newa, o_copy, o_oinit, o_call, o_callV, o_callVc, o_callI, popn, cnO, o_BAD, lgt, lst, isL, kil, st1, st2, entL, List.length_nil, List.length_cons, List.replicate, Nat.reduceAdd, Nat.reduceLeDiff, Nat.reduceSub, true_and, and_true, Nat.zero_le, ne_eq, qk_wi, ql_wi, qr_wi, qj_wi, qt_wi, qk_wj, ql_wj, qr_wj, qi_wj, qt_wj, qk_wr, ql_wr, qi_wr, qj_wr, qt_wr, qi_ws, qj_ws, qr_ws, Int.toNat_natCast, Int.toNat_zero, Int.reduceToNat, not_true_eq_false, not_false_eq_true, false_implies, implies_true, Option.some.injEq, reduceCtorEq, Sp0, true_or, or_true, or_self, wi_wi, wj_wj, hM.k, hM.r0, hM.k1, hM.l1, ix0, ix12, ix24, ix36, ix48, ix60, ix1032, ix1044, ix1092, ix1140, ix1188, ix1200, ix1212, ix1284, ix1290, ix1296, ix1298, ix1322, ix1346, ix1358, ixm4, ixm12, ixm24, ixm81, ixm1382, ixadd, Nat.zero_add, hM.r9, hM.k10, hM.l10, q1, w1]
          repeat' (first | (with_reducible refine And.intro ?_ ?_) | (with_reducible intro))
          all_goals (try (first | with_reducible assumption | omega | (unfold inI; omega) | (unfold inL; omega) | exact cz_in _ _))
          all_goals (try (exfalso; omega))
          refine ih _ (fun k => ?_) _ _
          unfold fu
          by_cases u : k = 1346 + j
          · rw [if_pos u, if_pos (by omega), hcj, u, Nat.add_sub_cancel_left]
          · rw [if_neg u, hg k]
            by_cases w : 1346 ≤ k ∧ k < 1346 + j
            · rw [if_pos w, if_pos (by omega)]
            · rw [if_neg w, if_neg (by omega)]
      have h2 := wr 0 (by omega) D (fun k => by rw [if_neg (by omega)])
      refine s_X8_best_27 x ok _ _ _ _ ?_
      simp only [wpS, o_c, o_cl, o_il, o_ll, o_al, o_is, o_ls, o_as, o_inc, o_add, o_sub, o_mul, o_and, o_or, o_xor, o_shl, o_shr, o_div, o_neg, o_ladd, o_lsub, o_lmul, o_ldiv, o_lrem, o_lneg, o_lcmp, o_i2l, o_l2i, o_dup, o_dup2, o_pop, o_go, o_nn, o_sw, swc, o_iret, o_zret, o_lret, o_vret, o_ieq, o_eq0, o_ine, o_ne0, o_ilt, o_lt0, o_ige, o_ge0, o_igt, o_gt0, o_ile, o_le0, o_iald, o_zald, o_lald, o_aald, o_iast, o_zast, o_last, o_aast, o_alen, o_gi, o_gr, o_pi, o_pz, o_pr, o_new, o_newa, o_copy, o_oinit, o_call, o_callV, o_callVc, o_callI, popn, cnO, o_BAD, lgt, lst, isL, kil, st1, st2, entL, List.length_nil, List.length_cons, List.replicate, Nat.reduceAdd, Nat.reduceLeDiff, Nat.reduceSub, true_and, and_true, Nat.zero_le, ne_eq, qk_wi, ql_wi, qr_wi, qj_wi, qt_wi, qk_wj, ql_wj, qr_wj, qi_wj, qt_wj, qk_wr, ql_wr, qi_wr, qj_wr, qt_wr, qi_ws, qj_ws, qr_ws, Int.toNat_natCast, Int.toNat_zero, Int.reduceToNat, not_true_eq_false, not_false_eq_true, false_implies, implies_true, Option.some.injEq, reduceCtorEq, Sp0, true_or, or_true, or_self, wi_wi, wj_wj, hM.k]
      repeat' (first | (with_reducible refine And.intro ?_ ?_) | (with_reducible intro))
      all_goals (try (first | with_reducible assumption | omega | (unfold inI; omega) | (unfold inL; omega) | exact cz_in _ _))
      all_goals (try (exfalso; omega))
      refine s_X8_best_162 x ok _ _ _ _ ?_
      simp only [wpS, o_c, o_cl, o_il, o_ll, o_al, o_is, o_ls, o_as, o_inc, o_add, o_sub, o_mul, o_and, o_or, o_xor, o_shl, o_shr, o_div, o_neg, o_ladd, o_lsub, o_lmul, o_ldiv, o_lrem, o_lneg, o_lcmp, o_i2l, o_l2i, o_dup, o_dup2, o_pop, o_go, o_nn, o_sw, swc, o_iret, o_zret, o_lret, o_vret, o_ieq, o_eq0, o_ine, o_ne0, o_ilt, o_lt0, o_ige, o_ge0, o_igt, o_gt0, o_ile, o_le0, o_iald, o_zald, o_lald, o_aald, o_iast, o_zast, o_last, o_aast, o_alen, o_gi, o_gr, o_pi, o_pz, o_pr, o_new, o_newa, o_copy, o_oinit, o_call, o_callV, o_callVc, o_callI, popn, cnO, o_BAD, lgt, lst, isL, kil, st1, st2, entL, List.length_nil, List.length_cons, List.replicate, Nat.reduceAdd, Nat.reduceLeDiff, Nat.reduceSub, true_and, and_true, Nat.zero_le, ne_eq, qk_wi, ql_wi, qr_wi, qj_wi, qt_wi, qk_wj, ql_wj, qr_wj, qi_wj, qt_wj, qk_wr, ql_wr, qi_wr, qj_wr, qt_wr, qi_ws, qj_ws, qr_ws, Int.toNat_natCast, Int.toNat_zero, Int.reduceToNat, not_true_eq_false, not_false_eq_true, false_implies, implies_true, Option.some.injEq, reduceCtorEq, Sp0, true_or, or_true, or_self, wi_wi, wj_wj, hM.k, cz_in, cz_lt, cz_le, cz_gt, cz_ge, cz_eq]
      repeat' (first | (with_reducible refine And.intro ?_ ?_) | (with_reducible intro))
      all_goals (try (first | with_reducible assumption | omega | (unfold inI; omega) | (unfold inL; omega) | exact cz_in _ _))
      all_goals (first | exact h2 _ _ | (exfalso; omega) | skip)
  have start : ∀ j, j ≤ 12 → ∀ a : Nat → Int, (∀ m, m < j → a m = 0) → ∀ v4 v5 v6, V i_X8_best x 6 [some (vr (some y)), some (vl (-1)), none, some (vi j), v4, v5, v6] [] (wi (wi (wi h (y + 1) D) (y + 9) a) (y + 10) (qi h (y + 10))) (0, 0) := by
    refine bwd _ ?_ ?_
    · intro a ha v4 v5 v6
      refine s_X8_best_6 x ok _ _ _ _ ?_
      simp only [wpS, o_c, o_cl, o_il, o_ll, o_al, o_is, o_ls, o_as, o_inc, o_add, o_sub, o_mul, o_and, o_or, o_xor, o_shl, o_shr, o_div, o_neg, o_ladd, o_lsub, o_lmul, o_ldiv, o_lrem, o_lneg, o_lcmp, o_i2l, o_l2i, o_dup, o_dup2, o_pop, o_go, o_nn, o_sw, swc, o_iret, o_zret, o_lret, o_vret, o_ieq, o_eq0, o_ine, o_ne0, o_ilt, o_lt0, o_ige, o_ge0, o_igt, o_gt0, o_ile, o_le0, o_iald, o_zald, o_lald, o_aald, o_iast, o_zast, o_last, o_aast, o_alen, o_gi, o_gr, o_pi, o_pz, o_pr, o_new, o_newa, o_copy, o_oinit, o_call, o_callV, o_callVc, o_callI, popn, cnO, o_BAD, lgt, lst, isL, kil, st1, st2, entL, List.length_nil, List.length_cons, List.replicate, Nat.reduceAdd, Nat.reduceLeDiff, Nat.reduceSub, true_and, and_true, Nat.zero_le, ne_eq, qk_wi, ql_wi, qr_wi, qj_wi, qt_wi, qk_wj, ql_wj, qr_wj, qi_wj, qt_wj, qk_wr, ql_wr, qi_wr, qj_wr, qt_wr, qi_ws, qj_ws, qr_ws, Int.toNat_natCast, Int.toNat_zero, Int.reduceToNat, not_true_eq_false, not_false_eq_true, false_implies, implies_true, Option.some.injEq, reduceCtorEq, Sp0, true_or, or_true, or_self, wi_wi, wj_wj, hM.k]
      repeat' (first | (with_reducible refine And.intro ?_ ?_) | (with_reducible intro))
      all_goals (try (first | with_reducible assumption | omega | (unfold inI; omega) | (unfold inL; omega) | exact cz_in _ _))
      all_goals (try (exfalso; omega))
      refine s_X8_best_25 x ok _ _ _ _ ?_
      simp only [wpS, o_c, o_cl, o_il, o_ll, o_al, o_is, o_ls, o_as, o_inc, o_add, o_sub, o_mul, o_and, o_or, o_xor, o_shl, o_shr, o_div, o_neg, o_ladd, o_lsub, o_lmul, o_ldiv, o_lrem, o_lneg, o_lcmp, o_i2l, o_l2i, o_dup, o_dup2, o_pop, o_go, o_nn, o_sw, swc, o_iret, o_zret, o_lret, o_vret, o_ieq, o_eq0, o_ine, o_ne0, o_ilt, o_lt0, o_ige, o_ge0, o_igt, o_gt0, o_ile, o_le0, o_iald, o_zald, o_lald, o_aald, o_iast, o_zast, o_last, o_aast, o_alen, o_gi, o_gr, o_pi, o_pz, o_pr, o_new, o_newa, o_copy, o_oinit, o_call, o_callV, o_callVc, o_callI, popn, cnO, o_BAD, lgt, lst, isL, kil, st1, st2, entL, List.length_nil, List.length_cons, List.replicate, Nat.reduceAdd, Nat.reduceLeDiff, Nat.reduceSub, true_and, and_true, Nat.zero_le, ne_eq, qk_wi, ql_wi, qr_wi, qj_wi, qt_wi, qk_wj, ql_wj, qr_wj, qi_wj, qt_wj, qk_wr, ql_wr, qi_wr, qj_wr, qt_wr, qi_ws, qj_ws, qr_ws, Int.toNat_natCast, Int.toNat_zero, Int.reduceToNat, not_true_eq_false, not_false_eq_true, false_implies, implies_true, Option.some.injEq, reduceCtorEq, Sp0, true_or, or_true, or_self, wi_wi, wj_wj, hM.k]
      refine main 12 (Nat.le_refl _) a (qi h (y + 10)) (-1, qi h (y + 10)) (fun m hm hg => ?_) (fun m _ hm => ha m hm) (.inl rfl) (fun q => absurd rfl q) (fun a' f' b' e' hd' hb' hf' hgo v3 p v6 => ?_) _ _ _
      · have := (gdB_iff.mp hg).2
        rw [ha m hm]; omega
      · refine nxt a' a f' b' false v3 p v6 hd' hb' (by rw [hgo]; rfl) ?_
        exact fin a f' b' ha (by rw [e']; exact sF_bst hI ha _) hb' hf' _ _
    · intro j hj ih a ha v4 v5 v6
      refine s_X8_best_6 x ok _ _ _ _ ?_
      simp only [wpS, o_c, o_cl, o_il, o_ll, o_al, o_is, o_ls, o_as, o_inc, o_add, o_sub, o_mul, o_and, o_or, o_xor, o_shl, o_shr, o_div, o_neg, o_ladd, o_lsub, o_lmul, o_ldiv, o_lrem, o_lneg, o_lcmp, o_i2l, o_l2i, o_dup, o_dup2, o_pop, o_go, o_nn, o_sw, swc, o_iret, o_zret, o_lret, o_vret, o_ieq, o_eq0, o_ine, o_ne0, o_ilt, o_lt0, o_ige, o_ge0, o_igt, o_gt0, o_ile, o_le0, o_iald, o_zald, o_lald, o_aald, o_iast, o_zast, o_last, o_aast, o_alen, o_gi, o_gr, o_pi, o_pz, o_pr, o_new, o_newa, o_copy, o_oinit, o_call, o_callV, o_callVc, o_callI, popn, cnO, o_BAD, lgt, lst, isL, kil, st1, st2, entL, List.length_nil, List.length_cons, List.replicate, Nat.reduceAdd, Nat.reduceLeDiff, Nat.reduceSub, true_and, and_true, Nat.zero_le, ne_eq, qk_wi, ql_wi, qr_wi, qj_wi, qt_wi, qk_wj, ql_wj, qr_wj, qi_wj, qt_wj, qk_wr, ql_wr, qi_wr, qj_wr, qt_wr, qi_ws, qj_ws, qr_ws, Int.toNat_natCast, Int.toNat_zero, Int.reduceToNat, not_true_eq_false, not_false_eq_true, false_implies, implies_true, Option.some.injEq, reduceCtorEq, Sp0, true_or, or_true, or_self, wi_wi, wj_wj, hM.k, hM.r8, hM.k9, hM.l9, q9, w9]
      repeat' (first | (with_reducible refine And.intro ?_ ?_) | (with_reducible intro))
      all_goals (try (first | with_reducible assumption | omega | (unfold inI; omega) | (unfold inL; omega) | exact cz_in _ _))
      all_goals (try (exfalso; omega))
      refine ih _ (fun m hm => ?_) _ _ _
      unfold fu
      by_cases u : m = j
      · rw [if_pos u]
      · rw [if_neg u]; exact ha m (by omega)
  have h0 := start 0 (by omega) (qi h (y + 9)) (fun m hm => by omega)
  rw [hself] at h0
  all_goals (try ((first | (refine s_X8_best_0 x ok _ _ _ _ ?_) | (refine s_X8_best_25 x ok _ _ _ _ ?_) | (refine s_X8_best_80 x ok _ _ _ _ ?_) | (refine s_X8_best_86 x ok _ _ _ _ ?_) | (refine s_X8_best_101 x ok _ _ _ _ ?_) | (refine s_X8_best_146 x ok _ _ _ _ ?_) | (refine s_X8_best_147 x ok _ _ _ _ ?_) | (refine s_X8_best_154 x ok _ _ _ _ ?_) | (refine s_X8_best_162 x ok _ _ _ _ ?_) | (refine s_X8_best_204 x ok _ _ _ _ ?_)); (try simp only [wpS, o_c, o_cl, o_il, o_ll, o_al, o_is, o_ls, o_as, o_inc, o_add, o_sub, o_mul, o_and, o_or, o_xor, o_shl, o_shr, o_div, o_neg, o_ladd, o_lsub, o_lmul, o_ldiv, o_lrem, o_lneg, o_lcmp, o_i2l, o_l2i, o_dup, o_dup2, o_pop, o_go, o_nn, o_sw, swc, o_iret, o_zret, o_lret, o_vret, o_ieq, o_eq0, o_ine, o_ne0, o_ilt, o_lt0, o_ige, o_ge0, o_igt, o_gt0, o_ile, o_le0, o_iald, o_zald, o_lald, o_aald, o_iast, o_zast, o_last, o_aast, o_alen, o_gi, o_gr, o_pi, o_pz, o_pr, o_new, o_newa, o_copy, o_oinit, o_call, o_callV, o_callVc, o_callI, popn, cnO, o_BAD, lgt, lst, isL, kil, st1, st2, entL, List.length_nil, List.length_cons, List.replicate, Nat.reduceAdd, Nat.reduceLeDiff, Nat.reduceSub, true_and, and_true, Nat.zero_le, ne_eq, qk_wi, ql_wi, qr_wi, qj_wi, qt_wi, qk_wj, ql_wj, qr_wj, qi_wj, qt_wj, qk_wr, ql_wr, qi_wr, qj_wr, qt_wr, qi_ws, qj_ws, qr_ws, Int.toNat_natCast, Int.toNat_zero, Int.reduceToNat, not_true_eq_false, not_false_eq_true, false_implies, implies_true, Option.some.injEq, reduceCtorEq, Sp0, true_or, or_true, or_self, wi_wi, wj_wj]); (repeat' (first | (with_reducible refine And.intro ?_ ?_) | (with_reducible intro))); (all_goals (try (first | with_reducible assumption | omega | (unfold inI; omega) | (unfold inL; omega) | exact cz_in _ _)))))
  all_goals (first | exact h0 _ _ _ | skip)

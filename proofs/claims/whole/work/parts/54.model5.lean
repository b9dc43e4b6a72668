/-! ===== FitBenchModel.book ===== -/
theorem sg_but (f : Nat → Int) (p : Nat) : ∀ n, sg (fun i => if i ≠ p then f i else 0) n = sg f n - (if p < n then f p else 0)
  | 0 => by rw [sg_0, sg_0, if_neg (by omega)]; rfl
  | n + 1 => by
    rw [sg_s, sg_s, sg_but f p n]
    by_cases z : n = p
    · subst z
      rw [if_neg (by omega), if_neg (by omega), if_pos (by omega)]; omega
    · rw [if_pos z]
      by_cases u : p < n
      · rw [if_pos u, if_pos (by omega)]; omega
      · rw [if_neg u, if_neg (by omega)]; omega
def bdF (d : Dd) (m : Nat) (z n : Int) : Dd := fun k => if k = 48 + m then 1 else if 60 + 81 * m ≤ k ∧ k < 60 + 81 * m + 81 then bkF d m z n (k - (60 + 81 * m)) else d k
def T_X8_book : TT := fun as h K => ∃ (y : Nat) (m z n : Int), as = [vr (some y), vi m, vi z, vi n] ∧ Mo h y ∧ Inv (qi h (y + 1)) ∧ inI m ∧ inI z ∧ inI n ∧ (¬ ((0 ≤ m ∧ m ≤ 11) ∧ (0 ≤ n ∧ n ≤ 9) ∧ bkOk (qi h (y + 1)) m.toNat z n) → K (some (vi 0)) h) ∧ ((0 ≤ m ∧ m ≤ 11) ∧ (0 ≤ n ∧ n ≤ 9) ∧ bkOk (qi h (y + 1)) m.toNat z n → K (some (vi 1)) (wi h (y + 1) (bdF (qi h (y + 1)) m.toNat z n)))
abbrev i_X8_book : MI := (cX8_book, 6, RX8, (some .boolean), "book", 3)
theorem k_X8_book_0 : Okop i_X8_book 0 (o_il 1) 1 := k_iln (j := 1) (by decide +kernel)
theorem k_X8_book_1 : Okop i_X8_book 1 (o_call 1 T_X8_isMeasure) 4 := k_call (idx := 55) m_X8_isMeasure ⟨gw_718, gw_10, ⟨by decide, by decide, by decide +kernel⟩, by decide, by decide⟩ gw_716 gw_717 (by decide +kernel)
theorem k_X8_book_4 : Okop i_X8_book 4 (o_eq0 43) 7 := k_eq0 (off := 39) (by decide +kernel) (by decide)
theorem k_X8_book_7 : Okop i_X8_book 7 (o_il 2) 8 := k_iln (j := 2) (by decide +kernel)
theorem k_X8_book_8 : Okop i_X8_book 8 (o_al 0) 9 := k_aln (j := 0) (by decide +kernel)
theorem k_X8_book_9 : Okop i_X8_book 9 (o_gr 8 0) 12 := k_gr (idx := 7) fo_8 (by decide) (by decide) gw_660 (by decide +kernel)
theorem k_X8_book_12 : Okop i_X8_book 12 (o_c 24) 14 := k_bipush (by decide +kernel) rfl
theorem k_X8_book_14 : Okop i_X8_book 14 (o_il 1) 15 := k_iln (j := 1) (by decide +kernel)
theorem k_X8_book_15 : Okop i_X8_book 15 (o_add) 16 := k_add (by decide +kernel)
theorem k_X8_book_16 : Okop i_X8_book 16 (o_iald) 17 := k_iald (by decide +kernel)
theorem k_X8_book_17 : Okop i_X8_book 17 (o_ilt 43) 20 := k_ilt (off := 26) (by decide +kernel) (by decide)
theorem k_X8_book_20 : Okop i_X8_book 20 (o_il 2) 21 := k_iln (j := 2) (by decide +kernel)
theorem k_X8_book_21 : Okop i_X8_book 21 (o_al 0) 22 := k_aln (j := 0) (by decide +kernel)
theorem k_X8_book_22 : Okop i_X8_book 22 (o_gr 8 0) 25 := k_gr (idx := 7) fo_8 (by decide) (by decide) gw_660 (by decide +kernel)
theorem k_X8_book_25 : Okop i_X8_book 25 (o_c 36) 27 := k_bipush (by decide +kernel) rfl
theorem k_X8_book_27 : Okop i_X8_book 27 (o_il 1) 28 := k_iln (j := 1) (by decide +kernel)
theorem k_X8_book_28 : Okop i_X8_book 28 (o_add) 29 := k_add (by decide +kernel)
theorem k_X8_book_29 : Okop i_X8_book 29 (o_iald) 30 := k_iald (by decide +kernel)
theorem k_X8_book_30 : Okop i_X8_book 30 (o_igt 43) 33 := k_igt (off := 13) (by decide +kernel) (by decide)
theorem k_X8_book_33 : Okop i_X8_book 33 (o_il 3) 34 := k_iln (j := 3) (by decide +kernel)
theorem k_X8_book_34 : Okop i_X8_book 34 (o_lt0 43) 37 := k_lt0 (off := 9) (by decide +kernel) (by decide)
theorem k_X8_book_37 : Okop i_X8_book 37 (o_il 3) 38 := k_iln (j := 3) (by decide +kernel)
theorem k_X8_book_38 : Okop i_X8_book 38 (o_c 9) 40 := k_bipush (by decide +kernel) rfl
theorem k_X8_book_40 : Okop i_X8_book 40 (o_ile 45) 43 := k_ile (off := 5) (by decide +kernel) (by decide)
theorem k_X8_book_43 : Okop i_X8_book 43 (o_c 0) 44 := k_iconst (by decide +kernel)
theorem k_X8_book_44 : Okop i_X8_book 44 (o_zret) 45 := k_zret (by decide +kernel) rfl
theorem k_X8_book_45 : Okop i_X8_book 45 (o_c 0) 46 := k_iconst (by decide +kernel)
theorem k_X8_book_46 : Okop i_X8_book 46 (o_is 4) 48 := k_is (by decide +kernel) (by decide)
theorem k_X8_book_48 : Okop i_X8_book 48 (o_al 0) 49 := k_aln (j := 0) (by decide +kernel)
theorem k_X8_book_49 : Okop i_X8_book 49 (o_gr 8 0) 52 := k_gr (idx := 7) fo_8 (by decide) (by decide) gw_660 (by decide +kernel)
theorem k_X8_book_52 : Okop i_X8_book 52 (o_c 24) 54 := k_bipush (by decide +kernel) rfl
theorem k_X8_book_54 : Okop i_X8_book 54 (o_il 1) 55 := k_iln (j := 1) (by decide +kernel)
theorem k_X8_book_55 : Okop i_X8_book 55 (o_add) 56 := k_add (by decide +kernel)
theorem k_X8_book_56 : Okop i_X8_book 56 (o_iald) 57 := k_iald (by decide +kernel)
theorem k_X8_book_57 : Okop i_X8_book 57 (o_is 5) 59 := k_is (by decide +kernel) (by decide)
theorem k_X8_book_59 : Okop i_X8_book 59 (o_il 5) 61 := k_il (by decide +kernel)
theorem k_X8_book_61 : Okop i_X8_book 61 (o_al 0) 62 := k_aln (j := 0) (by decide +kernel)
theorem k_X8_book_62 : Okop i_X8_book 62 (o_gr 8 0) 65 := k_gr (idx := 7) fo_8 (by decide) (by decide) gw_660 (by decide +kernel)
theorem k_X8_book_65 : Okop i_X8_book 65 (o_c 36) 67 := k_bipush (by decide +kernel) rfl
theorem k_X8_book_67 : Okop i_X8_book 67 (o_il 1) 68 := k_iln (j := 1) (by decide +kernel)
theorem k_X8_book_68 : Okop i_X8_book 68 (o_add) 69 := k_add (by decide +kernel)
theorem k_X8_book_69 : Okop i_X8_book 69 (o_iald) 70 := k_iald (by decide +kernel)
theorem k_X8_book_70 : Okop i_X8_book 70 (o_igt 97) 73 := k_igt (off := 27) (by decide +kernel) (by decide)
theorem k_X8_book_73 : Okop i_X8_book 73 (o_il 5) 75 := k_il (by decide +kernel)
theorem k_X8_book_75 : Okop i_X8_book 75 (o_il 2) 76 := k_iln (j := 2) (by decide +kernel)
theorem k_X8_book_76 : Okop i_X8_book 76 (o_ieq 91) 79 := k_ieq (off := 15) (by decide +kernel) (by decide)
theorem k_X8_book_79 : Okop i_X8_book 79 (o_il 4) 81 := k_il (by decide +kernel)
theorem k_X8_book_81 : Okop i_X8_book 81 (o_al 0) 82 := k_aln (j := 0) (by decide +kernel)
theorem k_X8_book_82 : Okop i_X8_book 82 (o_il 1) 83 := k_iln (j := 1) (by decide +kernel)
theorem k_X8_book_83 : Okop i_X8_book 83 (o_il 5) 85 := k_il (by decide +kernel)
theorem k_X8_book_85 : Okop i_X8_book 85 (o_callV 8 2 T_X8_many) 88 := k_callV (idx := 66) (r0 := (RX8, TX8, 14)) m_X8_many ⟨gw_732, gw_10, ⟨by decide, by decide, by decide +kernel⟩, by decide, by decide⟩ rfl gw_729 gw_731 gs_13 (by decide +kernel)
theorem k_X8_book_88 : Okop i_X8_book 88 (o_add) 89 := k_add (by decide +kernel)
theorem k_X8_book_89 : Okop i_X8_book 89 (o_is 4) 91 := k_is (by decide +kernel) (by decide)
theorem k_X8_book_91 : Okop i_X8_book 91 (o_inc 5 1) 94 := k_inc (by decide +kernel) (by decide)
theorem k_X8_book_94 : Okop i_X8_book 94 (o_go 59) 97 := k_go (off := -35) (by decide +kernel) (by decide)
theorem k_X8_book_97 : Okop i_X8_book 97 (o_il 4) 99 := k_il (by decide +kernel)
theorem k_X8_book_99 : Okop i_X8_book 99 (o_il 3) 100 := k_iln (j := 3) (by decide +kernel)
theorem k_X8_book_100 : Okop i_X8_book 100 (o_add) 101 := k_add (by decide +kernel)
theorem k_X8_book_101 : Okop i_X8_book 101 (o_ne0 106) 104 := k_ne0 (off := 5) (by decide +kernel) (by decide)
theorem k_X8_book_104 : Okop i_X8_book 104 (o_c 0) 105 := k_iconst (by decide +kernel)
theorem k_X8_book_105 : Okop i_X8_book 105 (o_zret) 106 := k_zret (by decide +kernel) rfl
theorem k_X8_book_106 : Okop i_X8_book 106 (o_al 0) 107 := k_aln (j := 0) (by decide +kernel)
theorem k_X8_book_107 : Okop i_X8_book 107 (o_gr 8 0) 110 := k_gr (idx := 7) fo_8 (by decide) (by decide) gw_660 (by decide +kernel)
theorem k_X8_book_110 : Okop i_X8_book 110 (o_c 48) 112 := k_bipush (by decide +kernel) rfl
theorem k_X8_book_112 : Okop i_X8_book 112 (o_il 1) 113 := k_iln (j := 1) (by decide +kernel)
theorem k_X8_book_113 : Okop i_X8_book 113 (o_add) 114 := k_add (by decide +kernel)
theorem k_X8_book_114 : Okop i_X8_book 114 (o_iald) 115 := k_iald (by decide +kernel)
theorem k_X8_book_115 : Okop i_X8_book 115 (o_ne0 150) 118 := k_ne0 (off := 35) (by decide +kernel) (by decide)
theorem k_X8_book_118 : Okop i_X8_book 118 (o_c 0) 119 := k_iconst (by decide +kernel)
theorem k_X8_book_119 : Okop i_X8_book 119 (o_is 5) 121 := k_is (by decide +kernel) (by decide)
theorem k_X8_book_121 : Okop i_X8_book 121 (o_il 5) 123 := k_il (by decide +kernel)
theorem k_X8_book_123 : Okop i_X8_book 123 (o_c 81) 125 := k_bipush (by decide +kernel) rfl
theorem k_X8_book_125 : Okop i_X8_book 125 (o_ige 150) 128 := k_ige (off := 25) (by decide +kernel) (by decide)
theorem k_X8_book_128 : Okop i_X8_book 128 (o_al 0) 129 := k_aln (j := 0) (by decide +kernel)
theorem k_X8_book_129 : Okop i_X8_book 129 (o_gr 8 0) 132 := k_gr (idx := 7) fo_8 (by decide) (by decide) gw_660 (by decide +kernel)
theorem k_X8_book_132 : Okop i_X8_book 132 (o_c 60) 134 := k_bipush (by decide +kernel) rfl
theorem k_X8_book_134 : Okop i_X8_book 134 (o_c 81) 136 := k_bipush (by decide +kernel) rfl
theorem k_X8_book_136 : Okop i_X8_book 136 (o_il 1) 137 := k_iln (j := 1) (by decide +kernel)
theorem k_X8_book_137 : Okop i_X8_book 137 (o_mul) 138 := k_mul (by decide +kernel)
theorem k_X8_book_138 : Okop i_X8_book 138 (o_add) 139 := k_add (by decide +kernel)
theorem k_X8_book_139 : Okop i_X8_book 139 (o_il 5) 141 := k_il (by decide +kernel)
theorem k_X8_book_141 : Okop i_X8_book 141 (o_add) 142 := k_add (by decide +kernel)
theorem k_X8_book_142 : Okop i_X8_book 142 (o_c 1) 143 := k_iconst (by decide +kernel)
theorem k_X8_book_143 : Okop i_X8_book 143 (o_iast) 144 := k_iast (by decide +kernel)
theorem k_X8_book_144 : Okop i_X8_book 144 (o_inc 5 1) 147 := k_inc (by decide +kernel) (by decide)
theorem k_X8_book_147 : Okop i_X8_book 147 (o_go 121) 150 := k_go (off := -26) (by decide +kernel) (by decide)
theorem k_X8_book_150 : Okop i_X8_book 150 (o_al 0) 151 := k_aln (j := 0) (by decide +kernel)
theorem k_X8_book_151 : Okop i_X8_book 151 (o_gr 8 0) 154 := k_gr (idx := 7) fo_8 (by decide) (by decide) gw_660 (by decide +kernel)
theorem k_X8_book_154 : Okop i_X8_book 154 (o_c 48) 156 := k_bipush (by decide +kernel) rfl
theorem k_X8_book_156 : Okop i_X8_book 156 (o_il 1) 157 := k_iln (j := 1) (by decide +kernel)
theorem k_X8_book_157 : Okop i_X8_book 157 (o_add) 158 := k_add (by decide +kernel)
theorem k_X8_book_158 : Okop i_X8_book 158 (o_c 1) 159 := k_iconst (by decide +kernel)
theorem k_X8_book_159 : Okop i_X8_book 159 (o_iast) 160 := k_iast (by decide +kernel)
theorem k_X8_book_160 : Okop i_X8_book 160 (o_al 0) 161 := k_aln (j := 0) (by decide +kernel)
theorem k_X8_book_161 : Okop i_X8_book 161 (o_gr 8 0) 164 := k_gr (idx := 7) fo_8 (by decide) (by decide) gw_660 (by decide +kernel)
theorem k_X8_book_164 : Okop i_X8_book 164 (o_c 60) 166 := k_bipush (by decide +kernel) rfl
theorem k_X8_book_166 : Okop i_X8_book 166 (o_c 81) 168 := k_bipush (by decide +kernel) rfl
theorem k_X8_book_168 : Okop i_X8_book 168 (o_il 1) 169 := k_iln (j := 1) (by decide +kernel)
theorem k_X8_book_169 : Okop i_X8_book 169 (o_mul) 170 := k_mul (by decide +kernel)
theorem k_X8_book_170 : Okop i_X8_book 170 (o_add) 171 := k_add (by decide +kernel)
theorem k_X8_book_171 : Okop i_X8_book 171 (o_il 2) 172 := k_iln (j := 2) (by decide +kernel)
theorem k_X8_book_172 : Okop i_X8_book 172 (o_add) 173 := k_add (by decide +kernel)
theorem k_X8_book_173 : Okop i_X8_book 173 (o_c 40) 175 := k_bipush (by decide +kernel) rfl
theorem k_X8_book_175 : Okop i_X8_book 175 (o_add) 176 := k_add (by decide +kernel)
theorem k_X8_book_176 : Okop i_X8_book 176 (o_il 3) 177 := k_iln (j := 3) (by decide +kernel)
theorem k_X8_book_177 : Okop i_X8_book 177 (o_iast) 178 := k_iast (by decide +kernel)
theorem k_X8_book_178 : Okop i_X8_book 178 (o_c 1) 179 := k_iconst (by decide +kernel)
theorem k_X8_book_179 : Okop i_X8_book 179 (o_zret) 180 := k_zret (by decide +kernel) rfl
theorem s_X8_book_0 : Seg i_X8_book 0 [o_il 1, o_call 1 T_X8_isMeasure, o_eq0 43, o_il 2, o_al 0, o_gr 8 0, o_c 24, o_il 1, o_add, o_iald, o_ilt 43, o_il 2, o_al 0, o_gr 8 0, o_c 36, o_il 1, o_add, o_iald, o_igt 43, o_il 3, o_lt0 43, o_il 3, o_c 9, o_ile 45, o_c 0, o_zret] 45 := Seg.cons k_X8_book_0 (Seg.cons k_X8_book_1 (Seg.cons k_X8_book_4 (Seg.cons k_X8_book_7 (Seg.cons k_X8_book_8 (Seg.cons k_X8_book_9 (Seg.cons k_X8_book_12 (Seg.cons k_X8_book_14 (Seg.cons k_X8_book_15 (Seg.cons k_X8_book_16 (Seg.cons k_X8_book_17 (Seg.cons k_X8_book_20 (Seg.cons k_X8_book_21 (Seg.cons k_X8_book_22 (Seg.cons k_X8_book_25 (Seg.cons k_X8_book_27 (Seg.cons k_X8_book_28 (Seg.cons k_X8_book_29 (Seg.cons k_X8_book_30 (Seg.cons k_X8_book_33 (Seg.cons k_X8_book_34 (Seg.cons k_X8_book_37 (Seg.cons k_X8_book_38 (Seg.cons k_X8_book_40 (Seg.cons k_X8_book_43 (Seg.cons k_X8_book_44 (Seg.nil))))))))))))))))))))))))))
theorem s_X8_book_43 : Seg i_X8_book 43 [o_c 0, o_zret] 45 := Seg.cons k_X8_book_43 (Seg.cons k_X8_book_44 (Seg.nil))
theorem s_X8_book_45 : Seg i_X8_book 45 [o_c 0, o_is 4, o_al 0, o_gr 8 0, o_c 24, o_il 1, o_add, o_iald, o_is 5] 59 := Seg.cons k_X8_book_45 (Seg.cons k_X8_book_46 (Seg.cons k_X8_book_48 (Seg.cons k_X8_book_49 (Seg.cons k_X8_book_52 (Seg.cons k_X8_book_54 (Seg.cons k_X8_book_55 (Seg.cons k_X8_book_56 (Seg.cons k_X8_book_57 (Seg.nil)))))))))
theorem s_X8_book_59 : Seg i_X8_book 59 [o_il 5, o_al 0, o_gr 8 0, o_c 36, o_il 1, o_add, o_iald, o_igt 97, o_il 5, o_il 2, o_ieq 91, o_il 4, o_al 0, o_il 1, o_il 5, o_callV 8 2 T_X8_many, o_add, o_is 4, o_inc 5 1, o_go 59] 97 := Seg.cons k_X8_book_59 (Seg.cons k_X8_book_61 (Seg.cons k_X8_book_62 (Seg.cons k_X8_book_65 (Seg.cons k_X8_book_67 (Seg.cons k_X8_book_68 (Seg.cons k_X8_book_69 (Seg.cons k_X8_book_70 (Seg.cons k_X8_book_73 (Seg.cons k_X8_book_75 (Seg.cons k_X8_book_76 (Seg.cons k_X8_book_79 (Seg.cons k_X8_book_81 (Seg.cons k_X8_book_82 (Seg.cons k_X8_book_83 (Seg.cons k_X8_book_85 (Seg.cons k_X8_book_88 (Seg.cons k_X8_book_89 (Seg.cons k_X8_book_91 (Seg.cons k_X8_book_94 (Seg.nil))))))))))))))))))))
theorem s_X8_book_91 : Seg i_X8_book 91 [o_inc 5 1, o_go 59] 97 := Seg.cons k_X8_book_91 (Seg.cons k_X8_book_94 (Seg.nil))
theorem s_X8_book_97 : Seg i_X8_book 97 [o_il 4, o_il 3, o_add, o_ne0 106, o_c 0, o_zret] 106 := Seg.cons k_X8_book_97 (Seg.cons k_X8_book_99 (Seg.cons k_X8_book_100 (Seg.cons k_X8_book_101 (Seg.cons k_X8_book_104 (Seg.cons k_X8_book_105 (Seg.nil))))))
theorem s_X8_book_106 : Seg i_X8_book 106 [o_al 0, o_gr 8 0, o_c 48, o_il 1, o_add, o_iald, o_ne0 150, o_c 0, o_is 5] 121 := Seg.cons k_X8_book_106 (Seg.cons k_X8_book_107 (Seg.cons k_X8_book_110 (Seg.cons k_X8_book_112 (Seg.cons k_X8_book_113 (Seg.cons k_X8_book_114 (Seg.cons k_X8_book_115 (Seg.cons k_X8_book_118 (Seg.cons k_X8_book_119 (Seg.nil)))))))))
theorem s_X8_book_121 : Seg i_X8_book 121 [o_il 5, o_c 81, o_ige 150, o_al 0, o_gr 8 0, o_c 60, o_c 81, o_il 1, o_mul, o_add, o_il 5, o_add, o_c 1, o_iast, o_inc 5 1, o_go 121] 150 := Seg.cons k_X8_book_121 (Seg.cons k_X8_book_123 (Seg.cons k_X8_book_125 (Seg.cons k_X8_book_128 (Seg.cons k_X8_book_129 (Seg.cons k_X8_book_132 (Seg.cons k_X8_book_134 (Seg.cons k_X8_book_136 (Seg.cons k_X8_book_137 (Seg.cons k_X8_book_138 (Seg.cons k_X8_book_139 (Seg.cons k_X8_book_141 (Seg.cons k_X8_book_142 (Seg.cons k_X8_book_143 (Seg.cons k_X8_book_144 (Seg.cons k_X8_book_147 (Seg.nil))))))))))))))))
theorem s_X8_book_150 : Seg i_X8_book 150 [o_al 0, o_gr 8 0, o_c 48, o_il 1, o_add, o_c 1, o_iast, o_al 0, o_gr 8 0, o_c 60, o_c 81, o_il 1, o_mul, o_add, o_il 2, o_add, o_c 40, o_add, o_il 3, o_iast, o_c 1, o_zret] 180 := Seg.cons k_X8_book_150 (Seg.cons k_X8_book_151 (Seg.cons k_X8_book_154 (Seg.cons k_X8_book_156 (Seg.cons k_X8_book_157 (Seg.cons k_X8_book_158 (Seg.cons k_X8_book_159 (Seg.cons k_X8_book_160 (Seg.cons k_X8_book_161 (Seg.cons k_X8_book_164 (Seg.cons k_X8_book_166 (Seg.cons k_X8_book_168 (Seg.cons k_X8_book_169 (Seg.cons k_X8_book_170 (Seg.cons k_X8_book_171 (Seg.cons k_X8_book_172 (Seg.cons k_X8_book_173 (Seg.cons k_X8_book_175 (Seg.cons k_X8_book_176 (Seg.cons k_X8_book_177 (Seg.cons k_X8_book_178 (Seg.cons k_X8_book_179 (Seg.nil))))))))))))))))))))))

theorem m_X8_book : Mth yX8_book cX8_book 6 (some .boolean) 3 (Sp0 T_X8_book) := by
  refine Mth.of (by decide) ?_
  rintro x as h ok ⟨y, m, z, n, rfl, hM, hI, im, iz, in', hK0, hK1⟩
  refine ⟨Nat.le_of_ble_eq_true rfl, ?_⟩
  by_cases q : 0 ≤ m ∧ m ≤ 11
  · obtain ⟨N, rfl, hN⟩ : ∃ C : Nat, m = (C : Int) ∧ C < 12 := ⟨m.toNat, by omega, by omega⟩
    rw [Int.toNat_natCast] at hK0 hK1
    have hIN := hI.1 N hN
    have hb := hIN.b
    have ha := hIN.a
    have hr := hIN.rg
    have hh := hIN.h
    have e24 : qi h (y + 1) (24 + N) = db (qi h (y + 1)) N := rfl
    have e36 : qi h (y + 1) (36 + N) = da (qi h (y + 1)) N := rfl
    have e48 : qi h (y + 1) (48 + N) = dh (qi h (y + 1)) N := rfl
    by_cases q2 : (db (qi h (y + 1)) N ≤ z ∧ z ≤ da (qi h (y + 1)) N) ∧ (0 ≤ n ∧ n ≤ 9)
    · obtain ⟨p, hp⟩ : ∃ p : Nat, z = db (qi h (y + 1)) N + p := ⟨(z - db (qi h (y + 1)) N).toNat, by omega⟩
      obtain ⟨Z, hZ⟩ : ∃ Z : Nat, z + 40 = (Z : Int) := ⟨(z + 40).toNat, by omega⟩
      have eZ : ((60 + 81 * N : Nat) : Int) + z + 40 = ((60 + 81 * N + Z : Nat) : Int) := by push_cast; omega
      have hbut := sg_but (fun j => mny (qi h (y + 1)) N (db (qi h (y + 1)) N + j)) p (rng (qi h (y + 1)) N + 1)
      rw [if_pos (by omega), ← hp] at hbut
      change _ = lot (qi h (y + 1)) N - mny (qi h (y + 1)) N z at hbut
      have hpt := sg_pt (f := fun j => mny (qi h (y + 1)) N (db (qi h (y + 1)) N + j)) (n := rng (qi h (y + 1)) N + 1) (fun k hk => mny_nn hIN (by omega)) p (by omega)
      change mny (qi h (y + 1)) N (db (qi h (y + 1)) N + p) ≤ lot (qi h (y + 1)) N at hpt
      rw [← hp] at hpt
      have hlt := hIN.lt
      have hmz := mny_nn hIN (j := p) (by omega)
      rw [← hp] at hmz
      -- the last writes
      have h150 : bkOk (qi h (y + 1)) N z n → ∀ (g : Nat → Int) v4 v5, (∀ k, g k = if dh (qi h (y + 1)) N = 0 ∧ 60 + 81 * N ≤ k ∧ k < 60 + 81 * N + 81 then 1 else qi h (y + 1) k) → V i_X8_book x 150 [some (vr (some y)), some (vi N), some (vi z), some (vi n), v4, v5] [] (wi h (y + 1) g) (0, 0) := by
        intro hok g v4 v5 hg
        have hK := hK1 ⟨q, q2.2, hok⟩
        have eg : fu (fu g (48 + N) 1) (60 + 81 * N + Z) n = bdF (qi h (y + 1)) N z n := by
          funext k
          unfold fu bdF bkF
          rw [hZ, Int.toNat_natCast]
          have := hg k
          have e60 : ∀ k, 60 + 81 * N ≤ k → qi h (y + 1) k = dn (qi h (y + 1)) N (k - (60 + 81 * N)) := fun k hk => by
            unfold dn
            congr 1
            omega
          by_cases z1 : k = 60 + 81 * N + Z
          · rw [if_pos z1, if_neg (by omega), if_pos (by omega), if_pos (by omega)]
          · rw [if_neg z1]
            by_cases z2 : k = 48 + N
            · rw [if_pos z2, if_pos z2]
            · rw [if_neg z2, if_neg z2, this]
              by_cases z3 : 60 + 81 * N ≤ k ∧ k < 60 + 81 * N + 81
              · have n3 : ¬ k - (60 + 81 * N) = Z := by omega
                by_cases z4 : dh (qi h (y + 1)) N = 0
                · rw [if_pos ⟨z4, z3⟩, if_pos z3, if_neg n3, if_pos z4]
                · rw [if_neg (fun w => z4 w.1), if_pos z3, if_neg n3, if_neg z4, e60 k z3.1]
              · rw [if_neg (fun w => z3 w.2), if_neg z3]
        rw [← eg] at hK
        refine s_X8_book_150 x ok _ _ _ _ ?_
        simp only [wpS, o_c, o_cl, o_il, o_ll, o_al, o_is, o_ls, o_as, o_inc, o_add, o_sub, o_mul, o_and, o_or, o_xor, o_shl, o_shr, o_div, o_neg, o_ladd, o_lsub, o_lmul, o_ldiv, o_lrem, o_lneg, o_lcmp, o_i2l, o_l2i, o_dup, o_dup2, o_pop, o_go, o_nn, o_sw, swc, o_iret, o_zret, o_lret, o_vret, o_ieq, o_eq0, o_ine, o_ne0, o_ilt, o_lt0, o_ige, o_ge0, o_igt, o_gt0, o_ile, o_le0, o_iald, o_zald, o_lald, o_aald, o_iast, o_zast, o_last, o_aast, o_alen, o_gi, o_gr, o_pi, o_pz, o_pr, o_new, o_newa, o_copy, o_oinit, o_call, o_callV, o_callVc, o_callI, popn, cnO, o_BAD, lgt, lst, isL, kil, st1, st2, entL, List.length_nil, List.length_cons, List.replicate, Nat.reduceAdd, Nat.reduceLeDiff, Nat.reduceSub, true_and, and_true, Nat.zero_le, ne_eq, qk_wi, ql_wi, qr_wi, qj_wi, qt_wi, qk_wj, ql_wj, qr_wj, qi_wj, qt_wj, qk_wr, ql_wr, qi_wr, qj_wr, qt_wr, qi_ws, qj_ws, qr_ws, Int.toNat_natCast, Int.toNat_zero, Int.reduceToNat, not_true_eq_false, not_false_eq_true, false_implies, implies_true, Option.some.injEq, reduceCtorEq, Sp0, true_or, or_true, or_self, wi_wi, wj_wj, hM.k, hM.r0, hM.k1, hM.l1, ix0, ix12, ix24, ix36, ix48, ix60, ix1032, ix1044, ix1092, ix1140, ix1188, ix1200, ix1212, ix1284, ix1290, ix1296, ix1298, ix1322, ix1346, ix1358, ixm4, ixm12, ixm24, ixm81, ixm1382, ixadd, Nat.zero_add, eZ]
        repeat' (first | (with_reducible refine And.intro ?_ ?_) | (with_reducible intro))
        all_goals (try (first | with_reducible assumption | omega | (unfold inI; omega) | (unfold inL; omega) | exact cz_in _ _))
      have fill : ∀ j, j ≤ 81 → bkOk (qi h (y + 1)) N z n → dh (qi h (y + 1)) N = 0 → ∀ (g : Nat → Int) (v4 : Int), (∀ k, g k = if 60 + 81 * N ≤ k ∧ k < 60 + 81 * N + j then 1 else qi h (y + 1) k) → V i_X8_book x 121 [some (vr (some y)), some (vi N), some (vi z), some (vi n), some (vi v4), some (vi j)] [] (wi h (y + 1) g) (0, 0) := by
        refine bwd _ ?_ ?_
        · intro hok h0 g v4 hg
          refine s_X8_book_121 x ok _ _ _ _ ?_
          simp only [wpS, o_c, o_cl, o_il, o_ll, o_al, o_is, o_ls, o_as, o_inc, o_add, o_sub, o_mul, o_and, o_or, o_xor, o_shl, o_shr, o_div, o_neg, o_ladd, o_lsub, o_lmul, o_ldiv, o_lrem, o_lneg, o_lcmp, o_i2l, o_l2i, o_dup, o_dup2, o_pop, o_go, o_nn, o_sw, swc, o_iret, o_zret, o_lret, o_vret, o_ieq, o_eq0, o_ine, o_ne0, o_ilt, o_lt0, o_ige, o_ge0, o_igt, o_gt0, o_ile, o_le0, o_iald, o_zald, o_lald, o_aald, o_iast, o_zast, o_last, o_aast, o_alen, o_gi, o_gr, o_pi, o_pz, o_pr, o_new, o_newa, o_copy, o_oinit, o_call, o_callV, o_callVc, o_callI, popn, cnO, o_BAD, lgt, lst, isL, kil, st1, st2, entL, List.length_nil, List.length_cons, List.replicate, Nat.reduceAdd, Nat.reduceLeDiff, Nat.reduceSub, true_and, and_true, Nat.zero_le, ne_eq, qk_wi, ql_wi, qr_wi, qj_wi, qt_wi, qk_wj, ql_wj, qr_wj, qi_wj, qt_wj, qk_wr, ql_wr, qi_wr, qj_wr, qt_wr, qi_ws, qj_ws, qr_ws, Int.toNat_natCast, Int.toNat_zero, Int.reduceToNat, not_true_eq_false, not_false_eq_true, false_implies, implies_true, Option.some.injEq, reduceCtorEq, Sp0, true_or, or_true, or_self, wi_wi, wj_wj]
          repeat' (first | (with_reducible refine And.intro ?_ ?_) | (with_reducible intro))
          all_goals (try (first | with_reducible assumption | omega | (unfold inI; omega) | (unfold inL; omega) | exact cz_in _ _))
          refine h150 hok g _ _ (fun k => ?_)
          rw [hg k]
          by_cases z3 : 60 + 81 * N ≤ k ∧ k < 60 + 81 * N + 81
          · rw [if_pos z3, if_pos ⟨h0, z3⟩]
          · rw [if_neg z3, if_neg (fun w => z3 w.2)]
        · intro j hj ih hok h0 g v4 hg
          refine s_X8_book_121 x ok _ _ _ _ ?_
          simp only [wpS, o_c, o_cl, o_il, o_ll, o_al, o_is, o_ls, o_as, o_inc, o_add, o_sub, o_mul, o_and, o_or, o_xor, o_shl, o_shr, o_div, o_neg, o_ladd, o_lsub, o_lmul, o_ldiv, o_lrem, o_lneg, o_lcmp, o_i2l, o_l2i, o_dup, o_dup2, o_pop, o_go, o_nn, o_sw, swc, o_iret, o_zret, o_lret, o_vret, o_ieq, o_eq0, o_ine, o_ne0, o_ilt, o_lt0, o_ige, o_ge0, o_igt, o_gt0, o_ile, o_le0, o_iald, o_zald, o_lald, o_aald, o_iast, o_zast, o_last, o_aast, o_alen, o_gi, o_gr, o_pi, o_pz, o_pr, o_new, o_newa, o_copy, o_oinit, o_call, o_callV, o_callVc, o_callI, popn, cnO, o_BAD, lgt, lst, isL, kil, st1, st2, entL, List.length_nil, List.length_cons, List.replicate, Nat.reduceAdd, Nat.reduceLeDiff, Nat.reduceSub, true_and, and_true, Nat.zero_le, ne_eq, qk_wi, ql_wi, qr_wi, qj_wi, qt_wi, qk_wj, ql_wj, qr_wj, qi_wj, qt_wj, qk_wr, ql_wr, qi_wr, qj_wr, qt_wr, qi_ws, qj_ws, qr_ws, Int.toNat_natCast, Int.toNat_zero, Int.reduceToNat, not_true_eq_false, not_false_eq_true, false_implies, implies_true, Option.some.injEq, reduceCtorEq, Sp0, true_or, or_true, or_self, wi_wi, wj_wj, hM.k, hM.r0, hM.k1, hM.l1, ix0, ix12, ix24, ix36, ix48, ix60, ix1032, ix1044, ix1092, ix1140, ix1188, ix1200, ix1212, ix1284, ix1290, ix1296, ix1298, ix1322, ix1346, ix1358, ixm4, ixm12, ixm24, ixm81, ixm1382, ixadd, Nat.zero_add]
          repeat' (first | (with_reducible refine And.intro ?_ ?_) | (with_reducible intro))
          all_goals (try (first | with_reducible assumption | omega | (unfold inI; omega) | (unfold inL; omega) | exact cz_in _ _))
          all_goals (try (exfalso; omega))
          refine ih hok h0 _ v4 (fun k => ?_)
          unfold fu
          have := hg k
          by_cases z3 : k = 60 + 81 * N + j
          · rw [if_pos z3, if_pos (by omega)]
          · rw [if_neg z3, this]
            by_cases z4 : 60 + 81 * N ≤ k ∧ k < 60 + 81 * N + j
            · rw [if_pos z4, if_pos (by omega)]
            · rw [if_neg z4, if_neg (by omega)]
      have loop : ∀ j, j ≤ rng (qi h (y + 1)) N + 1 → V i_X8_book x 59 [some (vr (some y)), some (vi N), some (vi z), some (vi n), some (vi (sg (fun i => if i ≠ p then mny (qi h (y + 1)) N (db (qi h (y + 1)) N + i) else 0) j)), some (vi (db (qi h (y + 1)) N + j))] [] h (0, 0) := by
        refine bwd _ ?_ ?_
        · rw [hbut]
          refine s_X8_book_59 x ok _ _ _ _ ?_
          simp only [wpS, o_c, o_cl, o_il, o_ll, o_al, o_is, o_ls, o_as, o_inc, o_add, o_sub, o_mul, o_and, o_or, o_xor, o_shl, o_shr, o_div, o_neg, o_ladd, o_lsub, o_lmul, o_ldiv, o_lrem, o_lneg, o_lcmp, o_i2l, o_l2i, o_dup, o_dup2, o_pop, o_go, o_nn, o_sw, swc, o_iret, o_zret, o_lret, o_vret, o_ieq, o_eq0, o_ine, o_ne0, o_ilt, o_lt0, o_ige, o_ge0, o_igt, o_gt0, o_ile, o_le0, o_iald, o_zald, o_lald, o_aald, o_iast, o_zast, o_last, o_aast, o_alen, o_gi, o_gr, o_pi, o_pz, o_pr, o_new, o_newa, o_copy, o_oinit, o_call, o_callV, o_callVc, o_callI, popn, cnO, o_BAD, lgt, lst, isL, kil, st1, st2, entL, List.length_nil, List.length_cons, List.replicate, Nat.reduceAdd, Nat.reduceLeDiff, Nat.reduceSub, true_and, and_true, Nat.zero_le, ne_eq, qk_wi, ql_wi, qr_wi, qj_wi, qt_wi, qk_wj, ql_wj, qr_wj, qi_wj, qt_wj, qk_wr, ql_wr, qi_wr, qj_wr, qt_wr, qi_ws, qj_ws, qr_ws, Int.toNat_natCast, Int.toNat_zero, Int.reduceToNat, not_true_eq_false, not_false_eq_true, false_implies, implies_true, Option.some.injEq, reduceCtorEq, Sp0, true_or, or_true, or_self, wi_wi, wj_wj, hM.k, hM.r0, hM.k1, hM.l1, ix0, ix12, ix24, ix36, ix48, ix60, ix1032, ix1044, ix1092, ix1140, ix1188, ix1200, ix1212, ix1284, ix1290, ix1296, ix1298, ix1322, ix1346, ix1358, ixm4, ixm12, ixm24, ixm81, ixm1382, ixadd, Nat.zero_add, e36]
          repeat' (first | (with_reducible refine And.intro ?_ ?_) | (with_reducible intro))
          all_goals (try (first | with_reducible assumption | omega | (unfold inI; omega) | (unfold inL; omega) | exact cz_in _ _))
          all_goals (try (exfalso; omega))
          refine s_X8_book_97 x ok _ _ _ _ ?_
          simp only [wpS, o_c, o_cl, o_il, o_ll, o_al, o_is, o_ls, o_as, o_inc, o_add, o_sub, o_mul, o_and, o_or, o_xor, o_shl, o_shr, o_div, o_neg, o_ladd, o_lsub, o_lmul, o_ldiv, o_lrem, o_lneg, o_lcmp, o_i2l, o_l2i, o_dup, o_dup2, o_pop, o_go, o_nn, o_sw, swc, o_iret, o_zret, o_lret, o_vret, o_ieq, o_eq0, o_ine, o_ne0, o_ilt, o_lt0, o_ige, o_ge0, o_igt, o_gt0, o_ile, o_le0, o_iald, o_zald, o_lald, o_aald, o_iast, o_zast, o_last, o_aast, o_alen, o_gi, o_gr, o_pi, o_pz, o_pr, o_new, o_newa, o_copy, o_oinit, o_call, o_callV, o_callVc, o_callI, popn, cnO, o_BAD, lgt, lst, isL, kil, st1, st2, entL, List.length_nil, List.length_cons, List.replicate, Nat.reduceAdd, Nat.reduceLeDiff, Nat.reduceSub, true_and, and_true, Nat.zero_le, ne_eq, qk_wi, ql_wi, qr_wi, qj_wi, qt_wi, qk_wj, ql_wj, qr_wj, qi_wj, qt_wj, qk_wr, ql_wr, qi_wr, qj_wr, qt_wr, qi_ws, qj_ws, qr_ws, Int.toNat_natCast, Int.toNat_zero, Int.reduceToNat, not_true_eq_false, not_false_eq_true, false_implies, implies_true, Option.some.injEq, reduceCtorEq, Sp0, true_or, or_true, or_self, wi_wi, wj_wj]
          repeat' (first | (with_reducible refine And.intro ?_ ?_) | (with_reducible intro))
          all_goals (try (first | with_reducible assumption | omega | (unfold inI; omega) | (unfold inL; omega) | exact cz_in _ _))
          · have hok : bkOk (qi h (y + 1)) N z n := ⟨q2.1.1, q2.1.2, by omega⟩
            refine s_X8_book_106 x ok _ _ _ _ ?_
            simp only [wpS, o_c, o_cl, o_il, o_ll, o_al, o_is, o_ls, o_as, o_inc, o_add, o_sub, o_mul, o_and, o_or, o_xor, o_shl, o_shr, o_div, o_neg, o_ladd, o_lsub, o_lmul, o_ldiv, o_lrem, o_lneg, o_lcmp, o_i2l, o_l2i, o_dup, o_dup2, o_pop, o_go, o_nn, o_sw, swc, o_iret, o_zret, o_lret, o_vret, o_ieq, o_eq0, o_ine, o_ne0, o_ilt, o_lt0, o_ige, o_ge0, o_igt, o_gt0, o_ile, o_le0, o_iald, o_zald, o_lald, o_aald, o_iast, o_zast, o_last, o_aast, o_alen, o_gi, o_gr, o_pi, o_pz, o_pr, o_new, o_newa, o_copy, o_oinit, o_call, o_callV, o_callVc, o_callI, popn, cnO, o_BAD, lgt, lst, isL, kil, st1, st2, entL, List.length_nil, List.length_cons, List.replicate, Nat.reduceAdd, Nat.reduceLeDiff, Nat.reduceSub, true_and, and_true, Nat.zero_le, ne_eq, qk_wi, ql_wi, qr_wi, qj_wi, qt_wi, qk_wj, ql_wj, qr_wj, qi_wj, qt_wj, qk_wr, ql_wr, qi_wr, qj_wr, qt_wr, qi_ws, qj_ws, qr_ws, Int.toNat_natCast, Int.toNat_zero, Int.reduceToNat, not_true_eq_false, not_false_eq_true, false_implies, implies_true, Option.some.injEq, reduceCtorEq, Sp0, true_or, or_true, or_self, wi_wi, wj_wj, hM.k, hM.r0, hM.k1, hM.l1, ix0, ix12, ix24, ix36, ix48, ix60, ix1032, ix1044, ix1092, ix1140, ix1188, ix1200, ix1212, ix1284, ix1290, ix1296, ix1298, ix1322, ix1346, ix1358, ixm4, ixm12, ixm24, ixm81, ixm1382, ixadd, Nat.zero_add, e48]
            repeat' (first | (with_reducible refine And.intro ?_ ?_) | (with_reducible intro))
            all_goals (try (first | with_reducible assumption | omega | (unfold inI; omega) | (unfold inL; omega) | exact cz_in _ _))
            · have := h150 hok (qi h (y + 1)) (some (vi (lot (qi h (y + 1)) N - mny (qi h (y + 1)) N z))) (some (vi (db (qi h (y + 1)) N + ((rng (qi h (y + 1)) N + 1 : Nat) : Int)))) (fun k => by rw [if_neg (fun w => by omega)])
              rw [wi_self] at this
              exact this
            · have := fill 0 (by omega) hok (by assumption) (qi h (y + 1)) (lot (qi h (y + 1)) N - mny (qi h (y + 1)) N z) (fun k => by rw [if_neg (by omega)])
              rw [wi_self] at this
              exact this
          · exact hK0 (fun w => w.2.2.2.2 (by omega))
        · intro j hj ih
          rw [sg_s] at ih
          have e1 : db (qi h (y + 1)) N + ((j + 1 : Nat) : Int) = db (qi h (y + 1)) N + (j : Int) + 1 := by push_cast; omega
          rw [e1] at ih
          by_cases z3 : j = p
          · subst z3
            rw [if_neg (by omega), Int.add_zero] at ih
            refine s_X8_book_59 x ok _ _ _ _ ?_
            simp only [wpS, o_c, o_cl, o_il, o_ll, o_al, o_is, o_ls, o_as, o_inc, o_add, o_sub, o_mul, o_and, o_or, o_xor, o_shl, o_shr, o_div, o_neg, o_ladd, o_lsub, o_lmul, o_ldiv, o_lrem, o_lneg, o_lcmp, o_i2l, o_l2i, o_dup, o_dup2, o_pop, o_go, o_nn, o_sw, swc, o_iret, o_zret, o_lret, o_vret, o_ieq, o_eq0, o_ine, o_ne0, o_ilt, o_lt0, o_ige, o_ge0, o_igt, o_gt0, o_ile, o_le0, o_iald, o_zald, o_lald, o_aald, o_iast, o_zast, o_last, o_aast, o_alen, o_gi, o_gr, o_pi, o_pz, o_pr, o_new, o_newa, o_copy, o_oinit, o_call, o_callV, o_callVc, o_callI, popn, cnO, o_BAD, lgt, lst, isL, kil, st1, st2, entL, List.length_nil, List.length_cons, List.replicate, Nat.reduceAdd, Nat.reduceLeDiff, Nat.reduceSub, true_and, and_true, Nat.zero_le, ne_eq, qk_wi, ql_wi, qr_wi, qj_wi, qt_wi, qk_wj, ql_wj, qr_wj, qi_wj, qt_wj, qk_wr, ql_wr, qi_wr, qj_wr, qt_wr, qi_ws, qj_ws, qr_ws, Int.toNat_natCast, Int.toNat_zero, Int.reduceToNat, not_true_eq_false, not_false_eq_true, false_implies, implies_true, Option.some.injEq, reduceCtorEq, Sp0, true_or, or_true, or_self, wi_wi, wj_wj, hM.k, hM.r0, hM.k1, hM.l1, ix0, ix12, ix24, ix36, ix48, ix60, ix1032, ix1044, ix1092, ix1140, ix1188, ix1200, ix1212, ix1284, ix1290, ix1296, ix1298, ix1322, ix1346, ix1358, ixm4, ixm12, ixm24, ixm81, ixm1382, ixadd, Nat.zero_add, e36]
            repeat' (first | (with_reducible refine And.intro ?_ ?_) | (with_reducible intro))
            all_goals (try (first | with_reducible assumption | omega | (unfold inI; omega) | (unfold inL; omega) | exact cz_in _ _))
            all_goals (try (exfalso; omega))
            all_goals (try ((first | (refine s_X8_book_0 x ok _ _ _ _ ?_) | (refine s_X8_book_43 x ok _ _ _ _ ?_) | (refine s_X8_book_45 x ok _ _ _ _ ?_) | (refine s_X8_book_91 x ok _ _ _ _ ?_) | (refine s_X8_book_97 x ok _ _ _ _ ?_) | (refine s_X8_book_106 x ok _ _ _ _ ?_) | (refine s_X8_book_150 x ok _ _ _ _ ?_)); (try simp only [wpS, o_c, o_cl, o_il, o_ll, o_al, o_is, o_ls, o_as, o_inc, o_add, o_sub, o_mul, o_and, o_or, o_xor, o_shl, o_shr, o_div, o_neg, o_ladd, o_lsub, o_lmul, o_ldiv, o_lrem, o_lneg, o_lcmp, o_i2l, o_l2i, o_dup, o_dup2, o_pop, o_go, o_nn, o_sw, swc, o_iret, o_zret, o_lret, o_vret, o_ieq, o_eq0, o_ine, o_ne0, o_ilt, o_lt0, o_ige, o_ge0, o_igt, o_gt0, o_ile, o_le0, o_iald, o_zald, o_lald, o_aald, o_iast, o_zast, o_last, o_aast, o_alen, o_gi, o_gr, o_pi, o_pz, o_pr, o_new, o_newa, o_copy, o_oinit, o_call, o_callV, o_callVc, o_callI, popn, cnO, o_BAD, lgt, lst, isL, kil, st1, st2, entL, List.length_nil, List.length_cons, List.replicate, Nat.reduceAdd, Nat.reduceLeDiff, Nat.reduceSub, true_and, and_true, Nat.zero_le, ne_eq, qk_wi, ql_wi, qr_wi, qj_wi, qt_wi, qk_wj, ql_wj, qr_wj, qi_wj, qt_wj, qk_wr, ql_wr, qi_wr, qj_wr, qt_wr, qi_ws, qj_ws, qr_ws, Int.toNat_natCast, Int.toNat_zero, Int.reduceToNat, not_true_eq_false, not_false_eq_true, false_implies, implies_true, Option.some.injEq, reduceCtorEq, Sp0, true_or, or_true, or_self, wi_wi, wj_wj]); (repeat' (first | (with_reducible refine And.intro ?_ ?_) | (with_reducible intro))); (all_goals (try (first | with_reducible assumption | omega | (unfold inI; omega) | (unfold inL; omega) | exact cz_in _ _)))))
          · rw [if_pos z3] at ih
            refine s_X8_book_59 x ok _ _ _ _ ?_
            simp only [wpS, o_c, o_cl, o_il, o_ll, o_al, o_is, o_ls, o_as, o_inc, o_add, o_sub, o_mul, o_and, o_or, o_xor, o_shl, o_shr, o_div, o_neg, o_ladd, o_lsub, o_lmul, o_ldiv, o_lrem, o_lneg, o_lcmp, o_i2l, o_l2i, o_dup, o_dup2, o_pop, o_go, o_nn, o_sw, swc, o_iret, o_zret, o_lret, o_vret, o_ieq, o_eq0, o_ine, o_ne0, o_ilt, o_lt0, o_ige, o_ge0, o_igt, o_gt0, o_ile, o_le0, o_iald, o_zald, o_lald, o_aald, o_iast, o_zast, o_last, o_aast, o_alen, o_gi, o_gr, o_pi, o_pz, o_pr, o_new, o_newa, o_copy, o_oinit, o_call, o_callV, o_callVc, o_callI, popn, cnO, o_BAD, lgt, lst, isL, kil, st1, st2, entL, List.length_nil, List.length_cons, List.replicate, Nat.reduceAdd, Nat.reduceLeDiff, Nat.reduceSub, true_and, and_true, Nat.zero_le, ne_eq, qk_wi, ql_wi, qr_wi, qj_wi, qt_wi, qk_wj, ql_wj, qr_wj, qi_wj, qt_wj, qk_wr, ql_wr, qi_wr, qj_wr, qt_wr, qi_ws, qj_ws, qr_ws, Int.toNat_natCast, Int.toNat_zero, Int.reduceToNat, not_true_eq_false, not_false_eq_true, false_implies, implies_true, Option.some.injEq, reduceCtorEq, Sp0, true_or, or_true, or_self, wi_wi, wj_wj, hM.k, hM.r0, hM.k1, hM.l1, ix0, ix12, ix24, ix36, ix48, ix60, ix1032, ix1044, ix1092, ix1140, ix1188, ix1200, ix1212, ix1284, ix1290, ix1296, ix1298, ix1322, ix1346, ix1358, ixm4, ixm12, ixm24, ixm81, ixm1382, ixadd, Nat.zero_add, e36]
            repeat' (first | (with_reducible refine And.intro ?_ ?_) | (with_reducible intro))
            all_goals (try (first | with_reducible assumption | omega | (unfold inI; omega) | (unfold inL; omega) | exact cz_in _ _))
            all_goals (try (exfalso; omega))
            refine c8_many hM hI hN (by omega) ?_
            simp only [wpS, o_c, o_cl, o_il, o_ll, o_al, o_is, o_ls, o_as, o_inc, o_add, o_sub, o_mul, o_and, o_or, o_xor, o_shl, o_shr, o_div, o_neg, o_ladd, o_lsub, o_lmul, o_ldiv, o_lrem, o_lneg, o_lcmp, o_i2l, o_l2i, o_dup, o_dup2, o_pop, o_go, o_nn, o_sw, swc, o_iret, o_zret, o_lret, o_vret, o_ieq, o_eq0, o_ine, o_ne0, o_ilt, o_lt0, o_ige, o_ge0, o_igt, o_gt0, o_ile, o_le0, o_iald, o_zald, o_lald, o_aald, o_iast, o_zast, o_last, o_aast, o_alen, o_gi, o_gr, o_pi, o_pz, o_pr, o_new, o_newa, o_copy, o_oinit, o_call, o_callV, o_callVc, o_callI, popn, cnO, o_BAD, lgt, lst, isL, kil, st1, st2, entL, List.length_nil, List.length_cons, List.replicate, Nat.reduceAdd, Nat.reduceLeDiff, Nat.reduceSub, true_and, and_true, Nat.zero_le, ne_eq, qk_wi, ql_wi, qr_wi, qj_wi, qt_wi, qk_wj, ql_wj, qr_wj, qi_wj, qt_wj, qk_wr, ql_wr, qi_wr, qj_wr, qt_wr, qi_ws, qj_ws, qr_ws, Int.toNat_natCast, Int.toNat_zero, Int.reduceToNat, not_true_eq_false, not_false_eq_true, false_implies, implies_true, Option.some.injEq, reduceCtorEq, Sp0, true_or, or_true, or_self, wi_wi, wj_wj]
            repeat' (first | (with_reducible refine And.intro ?_ ?_) | (with_reducible intro))
            all_goals (try (first | with_reducible assumption | omega | (unfold inI; omega) | (unfold inL; omega) | exact cz_in _ _))
      have l0 := loop 0 (by omega)
      rw [sg_0] at l0
      have e00 : db (qi h (y + 1)) N + ((0 : Nat) : Int) = db (qi h (y + 1)) N := Int.add_zero _
      rw [e00] at l0
      all_goals (try ((first | (refine s_X8_book_0 x ok _ _ _ _ ?_) | (refine s_X8_book_43 x ok _ _ _ _ ?_) | (refine s_X8_book_45 x ok _ _ _ _ ?_) | (refine s_X8_book_91 x ok _ _ _ _ ?_) | (refine s_X8_book_97 x ok _ _ _ _ ?_) | (refine s_X8_book_106 x ok _ _ _ _ ?_) | (refine s_X8_book_150 x ok _ _ _ _ ?_) | (refine c_rg ?_)); (try simp only [wpS, o_c, o_cl, o_il, o_ll, o_al, o_is, o_ls, o_as, o_inc, o_add, o_sub, o_mul, o_and, o_or, o_xor, o_shl, o_shr, o_div, o_neg, o_ladd, o_lsub, o_lmul, o_ldiv, o_lrem, o_lneg, o_lcmp, o_i2l, o_l2i, o_dup, o_dup2, o_pop, o_go, o_nn, o_sw, swc, o_iret, o_zret, o_lret, o_vret, o_ieq, o_eq0, o_ine, o_ne0, o_ilt, o_lt0, o_ige, o_ge0, o_igt, o_gt0, o_ile, o_le0, o_iald, o_zald, o_lald, o_aald, o_iast, o_zast, o_last, o_aast, o_alen, o_gi, o_gr, o_pi, o_pz, o_pr, o_new, o_newa, o_copy, o_oinit, o_call, o_callV, o_callVc, o_callI, popn, cnO, o_BAD, lgt, lst, isL, kil, st1, st2, entL, List.length_nil, List.length_cons, List.replicate, Nat.reduceAdd, Nat.reduceLeDiff, Nat.reduceSub, true_and, and_true, Nat.zero_le, ne_eq, qk_wi, ql_wi, qr_wi, qj_wi, qt_wi, qk_wj, ql_wj, qr_wj, qi_wj, qt_wj, qk_wr, ql_wr, qi_wr, qj_wr, qt_wr, qi_ws, qj_ws, qr_ws, Int.toNat_natCast, Int.toNat_zero, Int.reduceToNat, not_true_eq_false, not_false_eq_true, false_implies, implies_true, Option.some.injEq, reduceCtorEq, Sp0, true_or, or_true, or_self, wi_wi, wj_wj, hM.k, hM.r0, hM.k1, hM.l1, ix0, ix12, ix24, ix36, ix48, ix60, ix1032, ix1044, ix1092, ix1140, ix1188, ix1200, ix1212, ix1284, ix1290, ix1296, ix1298, ix1322, ix1346, ix1358, ixm4, ixm12, ixm24, ixm81, ixm1382, ixadd, Nat.zero_add, e24, e36]); (repeat' (first | (with_reducible refine And.intro ?_ ?_) | (with_reducible intro))); (all_goals (try (first | with_reducible assumption | omega | (unfold inI; omega) | (unfold inL; omega) | exact cz_in _ _)))))
      all_goals (try ((first | (refine s_X8_book_0 x ok _ _ _ _ ?_) | (refine s_X8_book_43 x ok _ _ _ _ ?_) | (refine s_X8_book_45 x ok _ _ _ _ ?_) | (refine s_X8_book_91 x ok _ _ _ _ ?_) | (refine s_X8_book_97 x ok _ _ _ _ ?_) | (refine s_X8_book_106 x ok _ _ _ _ ?_) | (refine s_X8_book_150 x ok _ _ _ _ ?_) | (refine c_rg ?_)); (try simp only [wpS, o_c, o_cl, o_il, o_ll, o_al, o_is, o_ls, o_as, o_inc, o_add, o_sub, o_mul, o_and, o_or, o_xor, o_shl, o_shr, o_div, o_neg, o_ladd, o_lsub, o_lmul, o_ldiv, o_lrem, o_lneg, o_lcmp, o_i2l, o_l2i, o_dup, o_dup2, o_pop, o_go, o_nn, o_sw, swc, o_iret, o_zret, o_lret, o_vret, o_ieq, o_eq0, o_ine, o_ne0, o_ilt, o_lt0, o_ige, o_ge0, o_igt, o_gt0, o_ile, o_le0, o_iald, o_zald, o_lald, o_aald, o_iast, o_zast, o_last, o_aast, o_alen, o_gi, o_gr, o_pi, o_pz, o_pr, o_new, o_newa, o_copy, o_oinit, o_call, o_callV, o_callVc, o_callI, popn, cnO, o_BAD, lgt, lst, isL, kil, st1, st2, entL, List.length_nil, List.length_cons, List.replicate, Nat.reduceAdd, Nat.reduceLeDiff, Nat.reduceSub, true_and, and_true, Nat.zero_le, ne_eq, qk_wi, ql_wi, qr_wi, qj_wi, qt_wi, qk_wj, ql_wj, qr_wj, qi_wj, qt_wj, qk_wr, ql_wr, qi_wr, qj_wr, qt_wr, qi_ws, qj_ws, qr_ws, Int.toNat_natCast, Int.toNat_zero, Int.reduceToNat, not_true_eq_false, not_false_eq_true, false_implies, implies_true, Option.some.injEq, reduceCtorEq, Sp0, true_or, or_true, or_self, wi_wi, wj_wj, hM.k, hM.r0, hM.k1, hM.l1, ix0, ix12, ix24, ix36, ix48, ix60, ix1032, ix1044, ix1092, ix1140, ix1188, ix1200, ix1212, ix1284, ix1290, ix1296, ix1298, ix1322, ix1346, ix1358, ixm4, ixm12, ixm24, ixm81, ixm1382, ixadd, Nat.zero_add, e24, e36]); (repeat' (first | (with_reducible refine And.intro ?_ ?_) | (with_reducible intro))); (all_goals (try (first | with_reducible assumption | omega | (unfold inI; omega) | (unfold inL; omega) | exact cz_in _ _)))))
      all_goals (try ((first | (refine s_X8_book_0 x ok _ _ _ _ ?_) | (refine s_X8_book_43 x ok _ _ _ _ ?_) | (refine s_X8_book_45 x ok _ _ _ _ ?_) | (refine s_X8_book_91 x ok _ _ _ _ ?_) | (refine s_X8_book_97 x ok _ _ _ _ ?_) | (refine s_X8_book_106 x ok _ _ _ _ ?_) | (refine s_X8_book_150 x ok _ _ _ _ ?_) | (refine c_rg ?_)); (try simp only [wpS, o_c, o_cl, o_il, o_ll, o_al, o_is, o_ls, o_as, o_inc, o_add, o_sub, o_mul, o_and, o_or, o_xor, o_shl, o_shr, o_div, o_neg, o_ladd, o_lsub, o_lmul, o_ldiv, o_lrem, o_lneg, o_lcmp, o_i2l, o_l2i, o_dup, o_dup2, o_pop, o_go, o_nn, o_sw, swc, o_iret, o_zret, o_lret, o_vret, o_ieq, o_eq0, o_ine, o_ne0, o_ilt, o_lt0, o_ige, o_ge0, o_igt, o_gt0, o_ile, o_le0, o_iald, o_zald, o_lald, o_aald, o_iast, o_zast, o_last, o_aast, o_alen, o_gi, o_gr, o_pi, o_pz, o_pr, o_new, o_newa, o_copy, o_oinit, o_call, o_callV, o_callVc, o_callI, popn, cnO, o_BAD, lgt, lst, isL, kil, st1, st2, entL, List.length_nil, List.length_cons, List.replicate, Nat.reduceAdd, Nat.reduceLeDiff, Nat.reduceSub, true_and, and_true, Nat.zero_le, ne_eq, qk_wi, ql_wi, qr_wi, qj_wi, qt_wi, qk_wj, ql_wj, qr_wj, qi_wj, qt_wj, qk_wr, ql_wr, qi_wr, qj_wr, qt_wr, qi_ws, qj_ws, qr_ws, Int.toNat_natCast, Int.toNat_zero, Int.reduceToNat, not_true_eq_false, not_false_eq_true, false_implies, implies_true, Option.some.injEq, reduceCtorEq, Sp0, true_or, or_true, or_self, wi_wi, wj_wj, hM.k, hM.r0, hM.k1, hM.l1, ix0, ix12, ix24, ix36, ix48, ix60, ix1032, ix1044, ix1092, ix1140, ix1188, ix1200, ix1212, ix1284, ix1290, ix1296, ix1298, ix1322, ix1346, ix1358, ixm4, ixm12, ixm24, ixm81, ixm1382, ixadd, Nat.zero_add, e24, e36]); (repeat' (first | (with_reducible refine And.intro ?_ ?_) | (with_reducible intro))); (all_goals (try (first | with_reducible assumption | omega | (unfold inI; omega) | (unfold inL; omega) | exact cz_in _ _)))))
      all_goals (first | exact l0 | (exfalso; omega) | skip)
    · have hK := hK0 (fun w => q2 ⟨⟨w.2.2.1, w.2.2.2.1⟩, w.2.1⟩)
      all_goals (try ((first | (refine s_X8_book_0 x ok _ _ _ _ ?_) | (refine s_X8_book_43 x ok _ _ _ _ ?_) | (refine s_X8_book_45 x ok _ _ _ _ ?_) | (refine s_X8_book_91 x ok _ _ _ _ ?_) | (refine s_X8_book_97 x ok _ _ _ _ ?_) | (refine s_X8_book_106 x ok _ _ _ _ ?_) | (refine s_X8_book_150 x ok _ _ _ _ ?_) | (refine c_rg ?_)); (try simp only [wpS, o_c, o_cl, o_il, o_ll, o_al, o_is, o_ls, o_as, o_inc, o_add, o_sub, o_mul, o_and, o_or, o_xor, o_shl, o_shr, o_div, o_neg, o_ladd, o_lsub, o_lmul, o_ldiv, o_lrem, o_lneg, o_lcmp, o_i2l, o_l2i, o_dup, o_dup2, o_pop, o_go, o_nn, o_sw, swc, o_iret, o_zret, o_lret, o_vret, o_ieq, o_eq0, o_ine, o_ne0, o_ilt, o_lt0, o_ige, o_ge0, o_igt, o_gt0, o_ile, o_le0, o_iald, o_zald, o_lald, o_aald, o_iast, o_zast, o_last, o_aast, o_alen, o_gi, o_gr, o_pi, o_pz, o_pr, o_new, o_newa, o_copy, o_oinit, o_call, o_callV, o_callVc, o_callI, popn, cnO, o_BAD, lgt, lst, isL, kil, st1, st2, entL, List.length_nil, List.length_cons, List.replicate, Nat.reduceAdd, Nat.reduceLeDiff, Nat.reduceSub, true_and, and_true, Nat.zero_le, ne_eq, qk_wi, ql_wi, qr_wi, qj_wi, qt_wi, qk_wj, ql_wj, qr_wj, qi_wj, qt_wj, qk_wr, ql_wr, qi_wr, qj_wr, qt_wr, qi_ws, qj_ws, qr_ws, Int.toNat_natCast, Int.toNat_zero, Int.reduceToNat, not_true_eq_false, not_false_eq_true, false_implies, implies_true, Option.some.injEq, reduceCtorEq, Sp0, true_or, or_true, or_self, wi_wi, wj_wj, hM.k, hM.r0, hM.k1, hM.l1, ix0, ix12, ix24, ix36, ix48, ix60, ix1032, ix1044, ix1092, ix1140, ix1188, ix1200, ix1212, ix1284, ix1290, ix1296, ix1298, ix1322, ix1346, ix1358, ixm4, ixm12, ixm24, ixm81, ixm1382, ixadd, Nat.zero_add, e24, e36]); (repeat' (first | (with_reducible refine And.intro ?_ ?_) | (with_reducible intro))); (all_goals (try (first | with_reducible assumption | omega | (unfold inI; omega) | (unfold inL; omega) | exact cz_in _ _)))))
      all_goals (try ((first | (refine s_X8_book_0 x ok _ _ _ _ ?_) | (refine s_X8_book_43 x ok _ _ _ _ ?_) | (refine s_X8_book_45 x ok _ _ _ _ ?_) | (refine s_X8_book_91 x ok _ _ _ _ ?_) | (refine s_X8_book_97 x ok _ _ _ _ ?_) | (refine s_X8_book_106 x ok _ _ _ _ ?_) | (refine s_X8_book_150 x ok _ _ _ _ ?_) | (refine c_rg ?_)); (try simp only [wpS, o_c, o_cl, o_il, o_ll, o_al, o_is, o_ls, o_as, o_inc, o_add, o_sub, o_mul, o_and, o_or, o_xor, o_shl, o_shr, o_div, o_neg, o_ladd, o_lsub, o_lmul, o_ldiv, o_lrem, o_lneg, o_lcmp, o_i2l, o_l2i, o_dup, o_dup2, o_pop, o_go, o_nn, o_sw, swc, o_iret, o_zret, o_lret, o_vret, o_ieq, o_eq0, o_ine, o_ne0, o_ilt, o_lt0, o_ige, o_ge0, o_igt, o_gt0, o_ile, o_le0, o_iald, o_zald, o_lald, o_aald, o_iast, o_zast, o_last, o_aast, o_alen, o_gi, o_gr, o_pi, o_pz, o_pr, o_new, o_newa, o_copy, o_oinit, o_call, o_callV, o_callVc, o_callI, popn, cnO, o_BAD, lgt, lst, isL, kil, st1, st2, entL, List.length_nil, List.length_cons, List.replicate, Nat.reduceAdd, Nat.reduceLeDiff, Nat.reduceSub, true_and, and_true, Nat.zero_le, ne_eq, qk_wi, ql_wi, qr_wi, qj_wi, qt_wi, qk_wj, ql_wj, qr_wj, qi_wj, qt_wj, qk_wr, ql_wr, qi_wr, qj_wr, qt_wr, qi_ws, qj_ws, qr_ws, Int.toNat_natCast, Int.toNat_zero, Int.reduceToNat, not_true_eq_false, not_false_eq_true, false_implies, implies_true, Option.some.injEq, reduceCtorEq, Sp0, true_or, or_true, or_self, wi_wi, wj_wj, hM.k, hM.r0, hM.k1, hM.l1, ix0, ix12, ix24, ix36, ix48, ix60, ix1032, ix1044, ix1092, ix1140, ix1188, ix1200, ix1212, ix1284, ix1290, ix1296, ix1298, ix1322, ix1346, ix1358, ixm4, ixm12, ixm24, ixm81, ixm1382, ixadd, Nat.zero_add, e24, e36]); (repeat' (first | (with_reducible refine And.intro ?_ ?_) | (with_reducible intro))); (all_goals (try (first | with_reducible assumption | omega | (unfold inI; omega) | (unfold inL; omega) | exact cz_in _ _)))))
      all_goals (try ((first | (refine s_X8_book_0 x ok _ _ _ _ ?_) | (refine s_X8_book_43 x ok _ _ _ _ ?_) | (refine s_X8_book_45 x ok _ _ _ _ ?_) | (refine s_X8_book_91 x ok _ _ _ _ ?_) | (refine s_X8_book_97 x ok _ _ _ _ ?_) | (refine s_X8_book_106 x ok _ _ _ _ ?_) | (refine s_X8_book_150 x ok _ _ _ _ ?_) | (refine c_rg ?_)); (try simp only [wpS, o_c, o_cl, o_il, o_ll, o_al, o_is, o_ls, o_as, o_inc, o_add, o_sub, o_mul, o_and, o_or, o_xor, o_shl, o_shr, o_div, o_neg, o_ladd, o_lsub, o_lmul, o_ldiv, o_lrem, o_lneg, o_lcmp, o_i2l, o_l2i, o_dup, o_dup2, o_pop, o_go, o_nn, o_sw, swc, o_iret, o_zret, o_lret, o_vret, o_ieq, o_eq0, o_ine, o_ne0, o_ilt, o_lt0, o_ige, o_ge0, o_igt, o_gt0, o_ile, o_le0, o_iald, o_zald, o_lald, o_aald, o_iast, o_zast, o_last, o_aast, o_alen, o_gi, o_gr, o_pi, o_pz, o_pr, o_new, o_newa, o_copy, o_oinit, o_call, o_callV, o_callVc, o_callI, popn, cnO, o_BAD, lgt, lst, isL, kil, st1, st2, entL, List.length_nil, List.length_cons, List.replicate, Nat.reduceAdd, Nat.reduceLeDiff, Nat.reduceSub, true_and, and_true, Nat.zero_le, ne_eq, qk_wi, ql_wi, qr_wi, qj_wi, qt_wi, qk_wj, ql_wj, qr_wj, qi_wj, qt_wj, qk_wr, ql_wr, qi_wr, qj_wr, qt_wr, qi_ws, qj_ws, qr_ws, Int.toNat_natCast, Int.toNat_zero, Int.reduceToNat, not_true_eq_false, not_false_eq_true, false_implies, implies_true, Option.some.injEq, reduceCtorEq, Sp0, true_or, or_true, or_self, wi_wi, wj_wj, hM.k, hM.r0, hM.k1, hM.l1, ix0, ix12, ix24, ix36, ix48, ix60, ix1032, ix1044, ix1092, ix1140, ix1188, ix1200, ix1212, ix1284, ix1290, ix1296, ix1298, ix1322, ix1346, ix1358, ixm4, ixm12, ixm24, ixm81, ixm1382, ixadd, Nat.zero_add, e24, e36]); (repeat' (first | (with_reducible refine And.intro ?_ ?_) | (with_reducible intro))); (all_goals (try (first | with_reducible assumption | omega | (unfold inI; omega) | (unfold inL; omega) | exact cz_in _ _)))))
      all_goals (first | exact hK | (exfalso; omega) | skip)
  · have hK := hK0 (fun w => q w.1)
    all_goals (try ((first | (refine s_X8_book_0 x ok _ _ _ _ ?_) | (refine s_X8_book_43 x ok _ _ _ _ ?_) | (refine s_X8_book_45 x ok _ _ _ _ ?_) | (refine s_X8_book_91 x ok _ _ _ _ ?_) | (refine s_X8_book_97 x ok _ _ _ _ ?_) | (refine s_X8_book_106 x ok _ _ _ _ ?_) | (refine s_X8_book_150 x ok _ _ _ _ ?_) | (refine c_rg ?_)); (try simp only [wpS, o_c, o_cl, o_il, o_ll, o_al, o_is, o_ls, o_as, o_inc, o_add, o_sub, o_mul, o_and, o_or, o_xor, o_shl, o_shr, o_div, o_neg, o_ladd, o_lsub, o_lmul, o_ldiv, o_lrem, o_lneg, o_lcmp, o_i2l, o_l2i, o_dup, o_dup2, o_pop, o_go, o_nn, o_sw, swc, o_iret, o_zret, o_lret, o_vret, o_ieq, o_eq0, o_ine, o_ne0, o_ilt, o_lt0, o_ige, o_ge0, o_igt, o_gt0, o_ile, o_le0, o_iald, o_zald, o_lald, o_aald, o_iast, o_zast, o_last, o_aast, o_alen, o_gi, o_gr, o_pi, o_pz, o_pr, o_new, o_newa, o_copy, o_oinit, o_call, o_callV, o_callVc, o_callI, popn, cnO, o_BAD, lgt, lst, isL, kil, st1, st2, entL, List.length_nil, List.length_cons, List.replicate, Nat.reduceAdd, Nat.reduceLeDiff, Nat.reduceSub, true_and, and_true, Nat.zero_le, ne_eq, qk_wi, ql_wi, qr_wi, qj_wi, qt_wi, qk_wj, ql_wj, qr_wj, qi_wj, qt_wj, qk_wr, ql_wr, qi_wr, qj_wr, qt_wr, qi_ws, qj_ws, qr_ws, Int.toNat_natCast, Int.toNat_zero, Int.reduceToNat, not_true_eq_false, not_false_eq_true, false_implies, implies_true, Option.some.injEq, reduceCtorEq, Sp0, true_or, or_true, or_self, wi_wi, wj_wj, hM.k]); (repeat' (first | (with_reducible refine And.intro ?_ ?_) | (with_reducible intro))); (all_goals (try (first | with_reducible assumption | omega | (unfold inI; omega) | (unfold inL; omega) | exact cz_in _ _)))))
    all_goals (try ((first | (refine s_X8_book_0 x ok _ _ _ _ ?_) | (refine s_X8_book_43 x ok _ _ _ _ ?_) | (refine s_X8_book_45 x ok _ _ _ _ ?_) | (refine s_X8_book_91 x ok _ _ _ _ ?_) | (refine s_X8_book_97 x ok _ _ _ _ ?_) | (refine s_X8_book_106 x ok _ _ _ _ ?_) | (refine s_X8_book_150 x ok _ _ _ _ ?_) | (refine c_rg ?_)); (try simp only [wpS, o_c, o_cl, o_il, o_ll, o_al, o_is, o_ls, o_as, o_inc, o_add, o_sub, o_mul, o_and, o_or, o_xor, o_shl, o_shr, o_div, o_neg, o_ladd, o_lsub, o_lmul, o_ldiv, o_lrem, o_lneg, o_lcmp, o_i2l, o_l2i, o_dup, o_dup2, o_pop, o_go, o_nn, o_sw, swc, o_iret, o_zret, o_lret, o_vret, o_ieq, o_eq0, o_ine, o_ne0, o_ilt, o_lt0, o_ige, o_ge0, o_igt, o_gt0, o_ile, o_le0, o_iald, o_zald, o_lald, o_aald, o_iast, o_zast, o_last, o_aast, o_alen, o_gi, o_gr, o_pi, o_pz, o_pr, o_new, o_newa, o_copy, o_oinit, o_call, o_callV, o_callVc, o_callI, popn, cnO, o_BAD, lgt, lst, isL, kil, st1, st2, entL, List.length_nil, List.length_cons, List.replicate, Nat.reduceAdd, Nat.reduceLeDiff, Nat.reduceSub, true_and, and_true, Nat.zero_le, ne_eq, qk_wi, ql_wi, qr_wi, qj_wi, qt_wi, qk_wj, ql_wj, qr_wj, qi_wj, qt_wj, qk_wr, ql_wr, qi_wr, qj_wr, qt_wr, qi_ws, qj_ws, qr_ws, Int.toNat_natCast, Int.toNat_zero, Int.reduceToNat, not_true_eq_false, not_false_eq_true, false_implies, implies_true, Option.some.injEq, reduceCtorEq, Sp0, true_or, or_true, or_self, wi_wi, wj_wj, hM.k]); (repeat' (first | (with_reducible refine And.intro ?_ ?_) | (with_reducible intro))); (all_goals (try (first | with_reducible assumption | omega | (unfold inI; omega) | (unfold inL; omega) | exact cz_in _ _)))))
    all_goals (try ((first | (refine s_X8_book_0 x ok _ _ _ _ ?_) | (refine s_X8_book_43 x ok _ _ _ _ ?_) | (refine s_X8_book_45 x ok _ _ _ _ ?_) | (refine s_X8_book_91 x ok _ _ _ _ ?_) | (refine s_X8_book_97 x ok _ _ _ _ ?_) | (refine s_X8_book_106 x ok _ _ _ _ ?_) | (refine s_X8_book_150 x ok _ _ _ _ ?_) | (refine c_rg ?_)); (try simp only [wpS, o_c, o_cl, o_il, o_ll, o_al, o_is, o_ls, o_as, o_inc, o_add, o_sub, o_mul, o_and, o_or, o_xor, o_shl, o_shr, o_div, o_neg, o_ladd, o_lsub, o_lmul, o_ldiv, o_lrem, o_lneg, o_lcmp, o_i2l, o_l2i, o_dup, o_dup2, o_pop, o_go, o_nn, o_sw, swc, o_iret, o_zret, o_lret, o_vret, o_ieq, o_eq0, o_ine, o_ne0, o_ilt, o_lt0, o_ige, o_ge0, o_igt, o_gt0, o_ile, o_le0, o_iald, o_zald, o_lald, o_aald, o_iast, o_zast, o_last, o_aast, o_alen, o_gi, o_gr, o_pi, o_pz, o_pr, o_new, o_newa, o_copy, o_oinit, o_call, o_callV, o_callVc, o_callI, popn, cnO, o_BAD, lgt, lst, isL, kil, st1, st2, entL, List.length_nil, List.length_cons, List.replicate, Nat.reduceAdd, Nat.reduceLeDiff, Nat.reduceSub, true_and, and_true, Nat.zero_le, ne_eq, qk_wi, ql_wi, qr_wi, qj_wi, qt_wi, qk_wj, ql_wj, qr_wj, qi_wj, qt_wj, qk_wr, ql_wr, qi_wr, qj_wr, qt_wr, qi_ws, qj_ws, qr_ws, Int.toNat_natCast, Int.toNat_zero, Int.reduceToNat, not_true_eq_false, not_false_eq_true, false_implies, implies_true, Option.some.injEq, reduceCtorEq, Sp0, true_or, or_true, or_self, wi_wi, wj_wj, hM.k]); (repeat' (first | (with_reducible refine And.intro ?_ ?_) | (with_reducible intro))); (all_goals (try (first | with_reducible assumption | omega | (unfold inI; omega) | (unfold inL; omega) | exact cz_in _ _)))))
    all_goals (first | exact hK | (exfalso; omega) | skip)

/-! ===== FitBenchModel.gapsThatCanBe ===== -/
def bp (g : Nat → Int) (n : Nat) (P : Nat → Prop) : Prop := ∀ k, k < n → (g k = 1 ∧ P k) ∨ (g k = 0 ∧ ¬ P k)
def T_X8_gapsThatCanBe : TT := fun as h K => ∃ (y c : Nat), as = [vr (some y), vi c] ∧ Mo h y ∧ Inv (qi h (y + 1)) ∧ c < 6 ∧ ∀ a b : Nat → Int, bp a ((wdG (qi h (y + 1)) (dsh (qi h (y + 1)) c)).toNat + 1) (rcd (qi h (y + 1)) (dsh (qi h (y + 1)) c) 12) → K none (wi (wi h (y + 13) a) (y + 14) b)
abbrev i_X8_gapsThatCanBe : MI := (cX8_gapsThatCanBe, 8, RX8, none, "gapsThatCanBe", 6)
theorem k_X8_gapsThatCanBe_0 : Okop i_X8_gapsThatCanBe 0 (o_al 0) 1 := k_aln (j := 0) (by decide +kernel)
theorem k_X8_gapsThatCanBe_1 : Okop i_X8_gapsThatCanBe 1 (o_il 1) 2 := k_iln (j := 1) (by decide +kernel)
theorem k_X8_gapsThatCanBe_2 : Okop i_X8_gapsThatCanBe 2 (o_callV 8 1 T_X8_wide) 5 := k_callV (idx := 111) (r0 := (RX8, TX8, 14)) m_X8_wide ⟨gw_827, gw_10, ⟨by decide, by decide, by decide +kernel⟩, by decide, by decide⟩ rfl gw_824 gw_826 gs_21 (by decide +kernel)
theorem k_X8_gapsThatCanBe_5 : Okop i_X8_gapsThatCanBe 5 (o_is 2) 6 := k_isn (j := 2) (by decide +kernel) (by decide)
theorem k_X8_gapsThatCanBe_6 : Okop i_X8_gapsThatCanBe 6 (o_c 0) 7 := k_iconst (by decide +kernel)
theorem k_X8_gapsThatCanBe_7 : Okop i_X8_gapsThatCanBe 7 (o_is 3) 8 := k_isn (j := 3) (by decide +kernel) (by decide)
theorem k_X8_gapsThatCanBe_8 : Okop i_X8_gapsThatCanBe 8 (o_il 3) 9 := k_iln (j := 3) (by decide +kernel)
theorem k_X8_gapsThatCanBe_9 : Okop i_X8_gapsThatCanBe 9 (o_il 2) 10 := k_iln (j := 2) (by decide +kernel)
theorem k_X8_gapsThatCanBe_10 : Okop i_X8_gapsThatCanBe 10 (o_igt 34) 13 := k_igt (off := 24) (by decide +kernel) (by decide)
theorem k_X8_gapsThatCanBe_13 : Okop i_X8_gapsThatCanBe 13 (o_al 0) 14 := k_aln (j := 0) (by decide +kernel)
theorem k_X8_gapsThatCanBe_14 : Okop i_X8_gapsThatCanBe 14 (o_gr 8 12) 17 := k_gr (idx := 49) fo_8 (by decide) (by decide) gw_672 (by decide +kernel)
theorem k_X8_gapsThatCanBe_17 : Okop i_X8_gapsThatCanBe 17 (o_il 3) 18 := k_iln (j := 3) (by decide +kernel)
theorem k_X8_gapsThatCanBe_18 : Okop i_X8_gapsThatCanBe 18 (o_il 3) 19 := k_iln (j := 3) (by decide +kernel)
theorem k_X8_gapsThatCanBe_19 : Okop i_X8_gapsThatCanBe 19 (o_ne0 26) 22 := k_ne0 (off := 7) (by decide +kernel) (by decide)
theorem k_X8_gapsThatCanBe_22 : Okop i_X8_gapsThatCanBe 22 (o_c 1) 23 := k_iconst (by decide +kernel)
theorem k_X8_gapsThatCanBe_23 : Okop i_X8_gapsThatCanBe 23 (o_go 27) 26 := k_go (off := 4) (by decide +kernel) (by decide)
theorem k_X8_gapsThatCanBe_26 : Okop i_X8_gapsThatCanBe 26 (o_c 0) 27 := k_iconst (by decide +kernel)
theorem k_X8_gapsThatCanBe_27 : Okop i_X8_gapsThatCanBe 27 (o_zast) 28 := k_zast (by decide +kernel)
theorem k_X8_gapsThatCanBe_28 : Okop i_X8_gapsThatCanBe 28 (o_inc 3 1) 31 := k_inc (by decide +kernel) (by decide)
theorem k_X8_gapsThatCanBe_31 : Okop i_X8_gapsThatCanBe 31 (o_go 8) 34 := k_go (off := -23) (by decide +kernel) (by decide)
theorem k_X8_gapsThatCanBe_34 : Okop i_X8_gapsThatCanBe 34 (o_c 0) 35 := k_iconst (by decide +kernel)
theorem k_X8_gapsThatCanBe_35 : Okop i_X8_gapsThatCanBe 35 (o_is 3) 36 := k_isn (j := 3) (by decide +kernel) (by decide)
theorem k_X8_gapsThatCanBe_36 : Okop i_X8_gapsThatCanBe 36 (o_il 3) 37 := k_iln (j := 3) (by decide +kernel)
theorem k_X8_gapsThatCanBe_37 : Okop i_X8_gapsThatCanBe 37 (o_c 12) 39 := k_bipush (by decide +kernel) rfl
theorem k_X8_gapsThatCanBe_39 : Okop i_X8_gapsThatCanBe 39 (o_ige 223) 42 := k_ige (off := 184) (by decide +kernel) (by decide)
theorem k_X8_gapsThatCanBe_42 : Okop i_X8_gapsThatCanBe 42 (o_al 0) 43 := k_aln (j := 0) (by decide +kernel)
theorem k_X8_gapsThatCanBe_43 : Okop i_X8_gapsThatCanBe 43 (o_il 1) 44 := k_iln (j := 1) (by decide +kernel)
theorem k_X8_gapsThatCanBe_44 : Okop i_X8_gapsThatCanBe 44 (o_il 3) 45 := k_iln (j := 3) (by decide +kernel)
theorem k_X8_gapsThatCanBe_45 : Okop i_X8_gapsThatCanBe 45 (o_callV 8 2 T_X8_shareOf) 48 := k_callV (idx := 85) (r0 := (RX8, TX8, 14)) m_X8_shareOf ⟨gw_789, gw_10, ⟨by decide, by decide, by decide +kernel⟩, by decide, by decide⟩ rfl gw_786 gw_788 gs_16 (by decide +kernel)
theorem k_X8_gapsThatCanBe_48 : Okop i_X8_gapsThatCanBe 48 (o_is 4) 50 := k_is (by decide +kernel) (by decide)
theorem k_X8_gapsThatCanBe_50 : Okop i_X8_gapsThatCanBe 50 (o_il 4) 52 := k_il (by decide +kernel)
theorem k_X8_gapsThatCanBe_52 : Okop i_X8_gapsThatCanBe 52 (o_eq0 217) 55 := k_eq0 (off := 165) (by decide +kernel) (by decide)
theorem k_X8_gapsThatCanBe_55 : Okop i_X8_gapsThatCanBe 55 (o_al 0) 56 := k_aln (j := 0) (by decide +kernel)
theorem k_X8_gapsThatCanBe_56 : Okop i_X8_gapsThatCanBe 56 (o_gr 8 0) 59 := k_gr (idx := 7) fo_8 (by decide) (by decide) gw_660 (by decide +kernel)
theorem k_X8_gapsThatCanBe_59 : Okop i_X8_gapsThatCanBe 59 (o_c 0) 60 := k_iconst (by decide +kernel)
theorem k_X8_gapsThatCanBe_60 : Okop i_X8_gapsThatCanBe 60 (o_il 3) 61 := k_iln (j := 3) (by decide +kernel)
theorem k_X8_gapsThatCanBe_61 : Okop i_X8_gapsThatCanBe 61 (o_add) 62 := k_add (by decide +kernel)
theorem k_X8_gapsThatCanBe_62 : Okop i_X8_gapsThatCanBe 62 (o_iald) 63 := k_iald (by decide +kernel)
theorem k_X8_gapsThatCanBe_63 : Okop i_X8_gapsThatCanBe 63 (o_eq0 69) 66 := k_eq0 (off := 6) (by decide +kernel) (by decide)
theorem k_X8_gapsThatCanBe_66 : Okop i_X8_gapsThatCanBe 66 (o_go 217) 69 := k_go (off := 151) (by decide +kernel) (by decide)
theorem k_X8_gapsThatCanBe_69 : Okop i_X8_gapsThatCanBe 69 (o_il 4) 71 := k_il (by decide +kernel)
theorem k_X8_gapsThatCanBe_71 : Okop i_X8_gapsThatCanBe 71 (o_ge0 80) 74 := k_ge0 (off := 9) (by decide +kernel) (by decide)
theorem k_X8_gapsThatCanBe_74 : Okop i_X8_gapsThatCanBe 74 (o_il 4) 76 := k_il (by decide +kernel)
theorem k_X8_gapsThatCanBe_76 : Okop i_X8_gapsThatCanBe 76 (o_neg) 77 := k_neg (by decide +kernel)
theorem k_X8_gapsThatCanBe_77 : Okop i_X8_gapsThatCanBe 77 (o_go 82) 80 := k_go (off := 5) (by decide +kernel) (by decide)
theorem k_X8_gapsThatCanBe_80 : Okop i_X8_gapsThatCanBe 80 (o_il 4) 82 := k_il (by decide +kernel)
theorem k_X8_gapsThatCanBe_82 : Okop i_X8_gapsThatCanBe 82 (o_is 5) 84 := k_is (by decide +kernel) (by decide)
theorem k_X8_gapsThatCanBe_84 : Okop i_X8_gapsThatCanBe 84 (o_c 0) 85 := k_iconst (by decide +kernel)
theorem k_X8_gapsThatCanBe_85 : Okop i_X8_gapsThatCanBe 85 (o_is 6) 87 := k_is (by decide +kernel) (by decide)
theorem k_X8_gapsThatCanBe_87 : Okop i_X8_gapsThatCanBe 87 (o_il 6) 89 := k_il (by decide +kernel)
theorem k_X8_gapsThatCanBe_89 : Okop i_X8_gapsThatCanBe 89 (o_il 2) 90 := k_iln (j := 2) (by decide +kernel)
theorem k_X8_gapsThatCanBe_90 : Okop i_X8_gapsThatCanBe 90 (o_igt 188) 93 := k_igt (off := 98) (by decide +kernel) (by decide)
theorem k_X8_gapsThatCanBe_93 : Okop i_X8_gapsThatCanBe 93 (o_al 0) 94 := k_aln (j := 0) (by decide +kernel)
theorem k_X8_gapsThatCanBe_94 : Okop i_X8_gapsThatCanBe 94 (o_gr 8 13) 97 := k_gr (idx := 52) fo_8 (by decide) (by decide) gw_673 (by decide +kernel)
theorem k_X8_gapsThatCanBe_97 : Okop i_X8_gapsThatCanBe 97 (o_il 6) 99 := k_il (by decide +kernel)
theorem k_X8_gapsThatCanBe_99 : Okop i_X8_gapsThatCanBe 99 (o_c 0) 100 := k_iconst (by decide +kernel)
theorem k_X8_gapsThatCanBe_100 : Okop i_X8_gapsThatCanBe 100 (o_zast) 101 := k_zast (by decide +kernel)
theorem k_X8_gapsThatCanBe_101 : Okop i_X8_gapsThatCanBe 101 (o_c 0) 102 := k_iconst (by decide +kernel)
theorem k_X8_gapsThatCanBe_102 : Okop i_X8_gapsThatCanBe 102 (o_is 7) 104 := k_is (by decide +kernel) (by decide)
theorem k_X8_gapsThatCanBe_104 : Okop i_X8_gapsThatCanBe 104 (o_il 7) 106 := k_il (by decide +kernel)
theorem k_X8_gapsThatCanBe_106 : Okop i_X8_gapsThatCanBe 106 (o_al 0) 107 := k_aln (j := 0) (by decide +kernel)
theorem k_X8_gapsThatCanBe_107 : Okop i_X8_gapsThatCanBe 107 (o_gr 8 0) 110 := k_gr (idx := 7) fo_8 (by decide) (by decide) gw_660 (by decide +kernel)
theorem k_X8_gapsThatCanBe_110 : Okop i_X8_gapsThatCanBe 110 (o_c 36) 112 := k_bipush (by decide +kernel) rfl
theorem k_X8_gapsThatCanBe_112 : Okop i_X8_gapsThatCanBe 112 (o_il 3) 113 := k_iln (j := 3) (by decide +kernel)
theorem k_X8_gapsThatCanBe_113 : Okop i_X8_gapsThatCanBe 113 (o_add) 114 := k_add (by decide +kernel)
theorem k_X8_gapsThatCanBe_114 : Okop i_X8_gapsThatCanBe 114 (o_iald) 115 := k_iald (by decide +kernel)
theorem k_X8_gapsThatCanBe_115 : Okop i_X8_gapsThatCanBe 115 (o_al 0) 116 := k_aln (j := 0) (by decide +kernel)
theorem k_X8_gapsThatCanBe_116 : Okop i_X8_gapsThatCanBe 116 (o_gr 8 0) 119 := k_gr (idx := 7) fo_8 (by decide) (by decide) gw_660 (by decide +kernel)
theorem k_X8_gapsThatCanBe_119 : Okop i_X8_gapsThatCanBe 119 (o_c 24) 121 := k_bipush (by decide +kernel) rfl
theorem k_X8_gapsThatCanBe_121 : Okop i_X8_gapsThatCanBe 121 (o_il 3) 122 := k_iln (j := 3) (by decide +kernel)
theorem k_X8_gapsThatCanBe_122 : Okop i_X8_gapsThatCanBe 122 (o_add) 123 := k_add (by decide +kernel)
theorem k_X8_gapsThatCanBe_123 : Okop i_X8_gapsThatCanBe 123 (o_iald) 124 := k_iald (by decide +kernel)
theorem k_X8_gapsThatCanBe_124 : Okop i_X8_gapsThatCanBe 124 (o_sub) 125 := k_sub (by decide +kernel)
theorem k_X8_gapsThatCanBe_125 : Okop i_X8_gapsThatCanBe 125 (o_igt 182) 128 := k_igt (off := 57) (by decide +kernel) (by decide)
theorem k_X8_gapsThatCanBe_128 : Okop i_X8_gapsThatCanBe 128 (o_il 7) 130 := k_il (by decide +kernel)
theorem k_X8_gapsThatCanBe_130 : Okop i_X8_gapsThatCanBe 130 (o_il 5) 132 := k_il (by decide +kernel)
theorem k_X8_gapsThatCanBe_132 : Okop i_X8_gapsThatCanBe 132 (o_mul) 133 := k_mul (by decide +kernel)
theorem k_X8_gapsThatCanBe_133 : Okop i_X8_gapsThatCanBe 133 (o_il 6) 135 := k_il (by decide +kernel)
theorem k_X8_gapsThatCanBe_135 : Okop i_X8_gapsThatCanBe 135 (o_igt 182) 138 := k_igt (off := 47) (by decide +kernel) (by decide)
theorem k_X8_gapsThatCanBe_138 : Okop i_X8_gapsThatCanBe 138 (o_al 0) 139 := k_aln (j := 0) (by decide +kernel)
theorem k_X8_gapsThatCanBe_139 : Okop i_X8_gapsThatCanBe 139 (o_gr 8 13) 142 := k_gr (idx := 52) fo_8 (by decide) (by decide) gw_673 (by decide +kernel)
theorem k_X8_gapsThatCanBe_142 : Okop i_X8_gapsThatCanBe 142 (o_il 6) 144 := k_il (by decide +kernel)
theorem k_X8_gapsThatCanBe_144 : Okop i_X8_gapsThatCanBe 144 (o_al 0) 145 := k_aln (j := 0) (by decide +kernel)
theorem k_X8_gapsThatCanBe_145 : Okop i_X8_gapsThatCanBe 145 (o_gr 8 13) 148 := k_gr (idx := 52) fo_8 (by decide) (by decide) gw_673 (by decide +kernel)
theorem k_X8_gapsThatCanBe_148 : Okop i_X8_gapsThatCanBe 148 (o_il 6) 150 := k_il (by decide +kernel)
theorem k_X8_gapsThatCanBe_150 : Okop i_X8_gapsThatCanBe 150 (o_zald) 151 := k_zald (by decide +kernel)
theorem k_X8_gapsThatCanBe_151 : Okop i_X8_gapsThatCanBe 151 (o_ne0 170) 154 := k_ne0 (off := 19) (by decide +kernel) (by decide)
theorem k_X8_gapsThatCanBe_154 : Okop i_X8_gapsThatCanBe 154 (o_al 0) 155 := k_aln (j := 0) (by decide +kernel)
theorem k_X8_gapsThatCanBe_155 : Okop i_X8_gapsThatCanBe 155 (o_gr 8 12) 158 := k_gr (idx := 49) fo_8 (by decide) (by decide) gw_672 (by decide +kernel)
theorem k_X8_gapsThatCanBe_158 : Okop i_X8_gapsThatCanBe 158 (o_il 6) 160 := k_il (by decide +kernel)
theorem k_X8_gapsThatCanBe_160 : Okop i_X8_gapsThatCanBe 160 (o_il 7) 162 := k_il (by decide +kernel)
theorem k_X8_gapsThatCanBe_162 : Okop i_X8_gapsThatCanBe 162 (o_il 5) 164 := k_il (by decide +kernel)
theorem k_X8_gapsThatCanBe_164 : Okop i_X8_gapsThatCanBe 164 (o_mul) 165 := k_mul (by decide +kernel)
theorem k_X8_gapsThatCanBe_165 : Okop i_X8_gapsThatCanBe 165 (o_sub) 166 := k_sub (by decide +kernel)
theorem k_X8_gapsThatCanBe_166 : Okop i_X8_gapsThatCanBe 166 (o_zald) 167 := k_zald (by decide +kernel)
theorem k_X8_gapsThatCanBe_167 : Okop i_X8_gapsThatCanBe 167 (o_eq0 174) 170 := k_eq0 (off := 7) (by decide +kernel) (by decide)
theorem k_X8_gapsThatCanBe_170 : Okop i_X8_gapsThatCanBe 170 (o_c 1) 171 := k_iconst (by decide +kernel)
theorem k_X8_gapsThatCanBe_171 : Okop i_X8_gapsThatCanBe 171 (o_go 175) 174 := k_go (off := 4) (by decide +kernel) (by decide)
theorem k_X8_gapsThatCanBe_174 : Okop i_X8_gapsThatCanBe 174 (o_c 0) 175 := k_iconst (by decide +kernel)
theorem k_X8_gapsThatCanBe_175 : Okop i_X8_gapsThatCanBe 175 (o_zast) 176 := k_zast (by decide +kernel)
theorem k_X8_gapsThatCanBe_176 : Okop i_X8_gapsThatCanBe 176 (o_inc 7 1) 179 := k_inc (by decide +kernel) (by decide)
theorem k_X8_gapsThatCanBe_179 : Okop i_X8_gapsThatCanBe 179 (o_go 104) 182 := k_go (off := -75) (by decide +kernel) (by decide)
theorem k_X8_gapsThatCanBe_182 : Okop i_X8_gapsThatCanBe 182 (o_inc 6 1) 185 := k_inc (by decide +kernel) (by decide)
theorem k_X8_gapsThatCanBe_185 : Okop i_X8_gapsThatCanBe 185 (o_go 87) 188 := k_go (off := -98) (by decide +kernel) (by decide)
theorem k_X8_gapsThatCanBe_188 : Okop i_X8_gapsThatCanBe 188 (o_c 0) 189 := k_iconst (by decide +kernel)
theorem k_X8_gapsThatCanBe_189 : Okop i_X8_gapsThatCanBe 189 (o_is 6) 191 := k_is (by decide +kernel) (by decide)
theorem k_X8_gapsThatCanBe_191 : Okop i_X8_gapsThatCanBe 191 (o_il 6) 193 := k_il (by decide +kernel)
theorem k_X8_gapsThatCanBe_193 : Okop i_X8_gapsThatCanBe 193 (o_il 2) 194 := k_iln (j := 2) (by decide +kernel)
theorem k_X8_gapsThatCanBe_194 : Okop i_X8_gapsThatCanBe 194 (o_igt 217) 197 := k_igt (off := 23) (by decide +kernel) (by decide)
theorem k_X8_gapsThatCanBe_197 : Okop i_X8_gapsThatCanBe 197 (o_al 0) 198 := k_aln (j := 0) (by decide +kernel)
theorem k_X8_gapsThatCanBe_198 : Okop i_X8_gapsThatCanBe 198 (o_gr 8 12) 201 := k_gr (idx := 49) fo_8 (by decide) (by decide) gw_672 (by decide +kernel)
theorem k_X8_gapsThatCanBe_201 : Okop i_X8_gapsThatCanBe 201 (o_il 6) 203 := k_il (by decide +kernel)
theorem k_X8_gapsThatCanBe_203 : Okop i_X8_gapsThatCanBe 203 (o_al 0) 204 := k_aln (j := 0) (by decide +kernel)
theorem k_X8_gapsThatCanBe_204 : Okop i_X8_gapsThatCanBe 204 (o_gr 8 13) 207 := k_gr (idx := 52) fo_8 (by decide) (by decide) gw_673 (by decide +kernel)
theorem k_X8_gapsThatCanBe_207 : Okop i_X8_gapsThatCanBe 207 (o_il 6) 209 := k_il (by decide +kernel)
theorem k_X8_gapsThatCanBe_209 : Okop i_X8_gapsThatCanBe 209 (o_zald) 210 := k_zald (by decide +kernel)
theorem k_X8_gapsThatCanBe_210 : Okop i_X8_gapsThatCanBe 210 (o_zast) 211 := k_zast (by decide +kernel)
theorem k_X8_gapsThatCanBe_211 : Okop i_X8_gapsThatCanBe 211 (o_inc 6 1) 214 := k_inc (by decide +kernel) (by decide)
theorem k_X8_gapsThatCanBe_214 : Okop i_X8_gapsThatCanBe 214 (o_go 191) 217 := k_go (off := -23) (by decide +kernel) (by decide)
theorem k_X8_gapsThatCanBe_217 : Okop i_X8_gapsThatCanBe 217 (o_inc 3 1) 220 := k_inc (by decide +kernel) (by decide)
theorem k_X8_gapsThatCanBe_220 : Okop i_X8_gapsThatCanBe 220 (o_go 36) 223 := k_go (off := -184) (by decide +kernel) (by decide)
theorem k_X8_gapsThatCanBe_223 : Okop i_X8_gapsThatCanBe 223 (o_vret) 224 := k_vret (by decide +kernel) rfl
theorem s_X8_gapsThatCanBe_0 : Seg i_X8_gapsThatCanBe 0 [o_al 0, o_il 1, o_callV 8 1 T_X8_wide, o_is 2, o_c 0, o_is 3] 8 := Seg.cons k_X8_gapsThatCanBe_0 (Seg.cons k_X8_gapsThatCanBe_1 (Seg.cons k_X8_gapsThatCanBe_2 (Seg.cons k_X8_gapsThatCanBe_5 (Seg.cons k_X8_gapsThatCanBe_6 (Seg.cons k_X8_gapsThatCanBe_7 (Seg.nil))))))
theorem s_X8_gapsThatCanBe_8 : Seg i_X8_gapsThatCanBe 8 [o_il 3, o_il 2, o_igt 34, o_al 0, o_gr 8 12, o_il 3, o_il 3, o_ne0 26, o_c 1, o_go 27] 26 := Seg.cons k_X8_gapsThatCanBe_8 (Seg.cons k_X8_gapsThatCanBe_9 (Seg.cons k_X8_gapsThatCanBe_10 (Seg.cons k_X8_gapsThatCanBe_13 (Seg.cons k_X8_gapsThatCanBe_14 (Seg.cons k_X8_gapsThatCanBe_17 (Seg.cons k_X8_gapsThatCanBe_18 (Seg.cons k_X8_gapsThatCanBe_19 (Seg.cons k_X8_gapsThatCanBe_22 (Seg.cons k_X8_gapsThatCanBe_23 (Seg.nil))))))))))
theorem s_X8_gapsThatCanBe_26 : Seg i_X8_gapsThatCanBe 26 [o_c 0, o_zast, o_inc 3 1, o_go 8] 34 := Seg.cons k_X8_gapsThatCanBe_26 (Seg.cons k_X8_gapsThatCanBe_27 (Seg.cons k_X8_gapsThatCanBe_28 (Seg.cons k_X8_gapsThatCanBe_31 (Seg.nil))))
theorem s_X8_gapsThatCanBe_27 : Seg i_X8_gapsThatCanBe 27 [o_zast, o_inc 3 1, o_go 8] 34 := Seg.cons k_X8_gapsThatCanBe_27 (Seg.cons k_X8_gapsThatCanBe_28 (Seg.cons k_X8_gapsThatCanBe_31 (Seg.nil)))
theorem s_X8_gapsThatCanBe_34 : Seg i_X8_gapsThatCanBe 34 [o_c 0, o_is 3] 36 := Seg.cons k_X8_gapsThatCanBe_34 (Seg.cons k_X8_gapsThatCanBe_35 (Seg.nil))
theorem s_X8_gapsThatCanBe_36 : Seg i_X8_gapsThatCanBe 36 [o_il 3, o_c 12, o_ige 223, o_al 0, o_il 1, o_il 3, o_callV 8 2 T_X8_shareOf, o_is 4, o_il 4, o_eq0 217, o_al 0, o_gr 8 0, o_c 0, o_il 3, o_add, o_iald, o_eq0 69, o_go 217] 69 := Seg.cons k_X8_gapsThatCanBe_36 (Seg.cons k_X8_gapsThatCanBe_37 (Seg.cons k_X8_gapsThatCanBe_39 (Seg.cons k_X8_gapsThatCanBe_42 (Seg.cons k_X8_gapsThatCanBe_43 (Seg.cons k_X8_gapsThatCanBe_44 (Seg.cons k_X8_gapsThatCanBe_45 (Seg.cons k_X8_gapsThatCanBe_48 (Seg.cons k_X8_gapsThatCanBe_50 (Seg.cons k_X8_gapsThatCanBe_52 (Seg.cons k_X8_gapsThatCanBe_55 (Seg.cons k_X8_gapsThatCanBe_56 (Seg.cons k_X8_gapsThatCanBe_59 (Seg.cons k_X8_gapsThatCanBe_60 (Seg.cons k_X8_gapsThatCanBe_61 (Seg.cons k_X8_gapsThatCanBe_62 (Seg.cons k_X8_gapsThatCanBe_63 (Seg.cons k_X8_gapsThatCanBe_66 (Seg.nil))))))))))))))))))
theorem s_X8_gapsThatCanBe_69 : Seg i_X8_gapsThatCanBe 69 [o_il 4, o_ge0 80, o_il 4, o_neg, o_go 82] 80 := Seg.cons k_X8_gapsThatCanBe_69 (Seg.cons k_X8_gapsThatCanBe_71 (Seg.cons k_X8_gapsThatCanBe_74 (Seg.cons k_X8_gapsThatCanBe_76 (Seg.cons k_X8_gapsThatCanBe_77 (Seg.nil)))))
theorem s_X8_gapsThatCanBe_80 : Seg i_X8_gapsThatCanBe 80 [o_il 4, o_is 5, o_c 0, o_is 6] 87 := Seg.cons k_X8_gapsThatCanBe_80 (Seg.cons k_X8_gapsThatCanBe_82 (Seg.cons k_X8_gapsThatCanBe_84 (Seg.cons k_X8_gapsThatCanBe_85 (Seg.nil))))
theorem s_X8_gapsThatCanBe_82 : Seg i_X8_gapsThatCanBe 82 [o_is 5, o_c 0, o_is 6] 87 := Seg.cons k_X8_gapsThatCanBe_82 (Seg.cons k_X8_gapsThatCanBe_84 (Seg.cons k_X8_gapsThatCanBe_85 (Seg.nil)))
theorem s_X8_gapsThatCanBe_87 : Seg i_X8_gapsThatCanBe 87 [o_il 6, o_il 2, o_igt 188, o_al 0, o_gr 8 13, o_il 6, o_c 0, o_zast, o_c 0, o_is 7] 104 := Seg.cons k_X8_gapsThatCanBe_87 (Seg.cons k_X8_gapsThatCanBe_89 (Seg.cons k_X8_gapsThatCanBe_90 (Seg.cons k_X8_gapsThatCanBe_93 (Seg.cons k_X8_gapsThatCanBe_94 (Seg.cons k_X8_gapsThatCanBe_97 (Seg.cons k_X8_gapsThatCanBe_99 (Seg.cons k_X8_gapsThatCanBe_100 (Seg.cons k_X8_gapsThatCanBe_101 (Seg.cons k_X8_gapsThatCanBe_102 (Seg.nil))))))))))
theorem s_X8_gapsThatCanBe_104 : Seg i_X8_gapsThatCanBe 104 [o_il 7, o_al 0, o_gr 8 0, o_c 36, o_il 3, o_add, o_iald, o_al 0, o_gr 8 0, o_c 24, o_il 3, o_add, o_iald, o_sub, o_igt 182, o_il 7, o_il 5, o_mul, o_il 6, o_igt 182, o_al 0, o_gr 8 13, o_il 6, o_al 0, o_gr 8 13, o_il 6, o_zald, o_ne0 170, o_al 0, o_gr 8 12, o_il 6, o_il 7, o_il 5, o_mul, o_sub, o_zald, o_eq0 174, o_c 1, o_go 175] 174 := Seg.cons k_X8_gapsThatCanBe_104 (Seg.cons k_X8_gapsThatCanBe_106 (Seg.cons k_X8_gapsThatCanBe_107 (Seg.cons k_X8_gapsThatCanBe_110 (Seg.cons k_X8_gapsThatCanBe_112 (Seg.cons k_X8_gapsThatCanBe_113 (Seg.cons k_X8_gapsThatCanBe_114 (Seg.cons k_X8_gapsThatCanBe_115 (Seg.cons k_X8_gapsThatCanBe_116 (Seg.cons k_X8_gapsThatCanBe_119 (Seg.cons k_X8_gapsThatCanBe_121 (Seg.cons k_X8_gapsThatCanBe_122 (Seg.cons k_X8_gapsThatCanBe_123 (Seg.cons k_X8_gapsThatCanBe_124 (Seg.cons k_X8_gapsThatCanBe_125 (Seg.cons k_X8_gapsThatCanBe_128 (Seg.cons k_X8_gapsThatCanBe_130 (Seg.cons k_X8_gapsThatCanBe_132 (Seg.cons k_X8_gapsThatCanBe_133 (Seg.cons k_X8_gapsThatCanBe_135 (Seg.cons k_X8_gapsThatCanBe_138 (Seg.cons k_X8_gapsThatCanBe_139 (Seg.cons k_X8_gapsThatCanBe_142 (Seg.cons k_X8_gapsThatCanBe_144 (Seg.cons k_X8_gapsThatCanBe_145 (Seg.cons k_X8_gapsThatCanBe_148 (Seg.cons k_X8_gapsThatCanBe_150 (Seg.cons k_X8_gapsThatCanBe_151 (Seg.cons k_X8_gapsThatCanBe_154 (Seg.cons k_X8_gapsThatCanBe_155 (Seg.cons k_X8_gapsThatCanBe_158 (Seg.cons k_X8_gapsThatCanBe_160 (Seg.cons k_X8_gapsThatCanBe_162 (Seg.cons k_X8_gapsThatCanBe_164 (Seg.cons k_X8_gapsThatCanBe_165 (Seg.cons k_X8_gapsThatCanBe_166 (Seg.cons k_X8_gapsThatCanBe_167 (Seg.cons k_X8_gapsThatCanBe_170 (Seg.cons k_X8_gapsThatCanBe_171 (Seg.nil)))))))))))))))))))))))))))))))))))))))
theorem s_X8_gapsThatCanBe_170 : Seg i_X8_gapsThatCanBe 170 [o_c 1, o_go 175] 174 := Seg.cons k_X8_gapsThatCanBe_170 (Seg.cons k_X8_gapsThatCanBe_171 (Seg.nil))
theorem s_X8_gapsThatCanBe_174 : Seg i_X8_gapsThatCanBe 174 [o_c 0, o_zast, o_inc 7 1, o_go 104] 182 := Seg.cons k_X8_gapsThatCanBe_174 (Seg.cons k_X8_gapsThatCanBe_175 (Seg.cons k_X8_gapsThatCanBe_176 (Seg.cons k_X8_gapsThatCanBe_179 (Seg.nil))))
theorem s_X8_gapsThatCanBe_175 : Seg i_X8_gapsThatCanBe 175 [o_zast, o_inc 7 1, o_go 104] 182 := Seg.cons k_X8_gapsThatCanBe_175 (Seg.cons k_X8_gapsThatCanBe_176 (Seg.cons k_X8_gapsThatCanBe_179 (Seg.nil)))
theorem s_X8_gapsThatCanBe_182 : Seg i_X8_gapsThatCanBe 182 [o_inc 6 1, o_go 87] 188 := Seg.cons k_X8_gapsThatCanBe_182 (Seg.cons k_X8_gapsThatCanBe_185 (Seg.nil))
theorem s_X8_gapsThatCanBe_188 : Seg i_X8_gapsThatCanBe 188 [o_c 0, o_is 6] 191 := Seg.cons k_X8_gapsThatCanBe_188 (Seg.cons k_X8_gapsThatCanBe_189 (Seg.nil))
theorem s_X8_gapsThatCanBe_191 : Seg i_X8_gapsThatCanBe 191 [o_il 6, o_il 2, o_igt 217, o_al 0, o_gr 8 12, o_il 6, o_al 0, o_gr 8 13, o_il 6, o_zald, o_zast, o_inc 6 1, o_go 191] 217 := Seg.cons k_X8_gapsThatCanBe_191 (Seg.cons k_X8_gapsThatCanBe_193 (Seg.cons k_X8_gapsThatCanBe_194 (Seg.cons k_X8_gapsThatCanBe_197 (Seg.cons k_X8_gapsThatCanBe_198 (Seg.cons k_X8_gapsThatCanBe_201 (Seg.cons k_X8_gapsThatCanBe_203 (Seg.cons k_X8_gapsThatCanBe_204 (Seg.cons k_X8_gapsThatCanBe_207 (Seg.cons k_X8_gapsThatCanBe_209 (Seg.cons k_X8_gapsThatCanBe_210 (Seg.cons k_X8_gapsThatCanBe_211 (Seg.cons k_X8_gapsThatCanBe_214 (Seg.nil)))))))))))))
theorem s_X8_gapsThatCanBe_217 : Seg i_X8_gapsThatCanBe 217 [o_inc 3 1, o_go 36] 223 := Seg.cons k_X8_gapsThatCanBe_217 (Seg.cons k_X8_gapsThatCanBe_220 (Seg.nil))
theorem s_X8_gapsThatCanBe_223 : Seg i_X8_gapsThatCanBe 223 [o_vret] 224 := Seg.cons k_X8_gapsThatCanBe_223 (Seg.nil)

theorem m_X8_gapsThatCanBe : Mth yX8_gapsThatCanBe cX8_gapsThatCanBe 8 none 6 (Sp0 T_X8_gapsThatCanBe) := by
  refine Mth.of (by decide) ?_
  rintro x as h ok ⟨y, c, rfl, hM, hI, hc, hK⟩
  refine ⟨Nat.le_of_ble_eq_true rfl, ?_⟩
  have hw := wdG_rg hI.1 (hI.2.1 c hc).1
  obtain ⟨w, hwd⟩ : ∃ w : Nat, wdG (qi h (y + 1)) (dsh (qi h (y + 1)) c) = (w : Int) := ⟨(wdG (qi h (y + 1)) (dsh (qi h (y + 1)) c)).toNat, by omega⟩
  rw [hwd, Int.toNat_natCast] at hK
  rw [hwd] at hw
  have n1 : y + 1 ≠ y + 13 := by omega
  have n2 : y + 1 ≠ y + 14 := by omega
  have n3 : y + 13 ≠ y + 14 := by omega
  have c13 : ∀ a b a2 : Nat → Int, wi (wi (wi h (y + 13) a) (y + 14) b) (y + 13) a2 = wi (wi h (y + 13) a2) (y + 14) b := fun a b a2 => by
    rw [wi_comm _ (show y + 14 ≠ y + 13 by omega), wi_wi]
  have hD : ∀ a b : Nat → Int, qi (wi (wi h (y + 13) a) (y + 14) b) (y + 1) = qi h (y + 1) := fun a b => by rw [qi_wn n2, qi_wn n1]
  have h13 : ∀ a b : Nat → Int, qi (wi (wi h (y + 13) a) (y + 14) b) (y + 13) = a := fun a b => by rw [qi_wn n3, qi_ws]
  have hM2 : ∀ a b : Nat → Int, Mo (wi (wi h (y + 13) a) (y + 14) b) y := fun a b => hM
  have main : ∀ j, j ≤ 12 → ∀ (a b : Nat → Int), bp a (w + 1) (rcd (qi h (y + 1)) (dsh (qi h (y + 1)) c) j) → ∀ v4 v5 v6 v7, V i_X8_gapsThatCanBe x 36 [some (vr (some y)), some (vi c), some (vi w), some (vi j), v4, v5, v6, v7] [] (wi (wi h (y + 13) a) (y + 14) b) (0, 0) := by
    refine bwd _ ?_ ?_
    · intro a b ha v4 v5 v6 v7
      refine s_X8_gapsThatCanBe_36 x ok _ _ _ _ ?_
      simp only [wpS, o_c, o_cl, o_il, o_ll, o_al, o_is, o_ls, o_as, o_inc, o_add, o_sub, o_mul, o_and, o_or, o_xor, o_shl, o_shr, o_div, o_neg, o_ladd, o_lsub, o_lmul, o_ldiv, o_lrem, o_lneg, o_lcmp, o_i2l, o_l2i, o_dup, o_dup2, o_pop, o_go, o_nn, o_sw, swc, o_iret, o_zret, o_lret, o_vret, o_ieq, o_eq0, o_ine, o_ne0, o_ilt, o_lt0, o_ige, o_ge0, o_igt, o_gt0, o_ile, o_le0, o_iald, o_zald, o_lald, o_aald, o_iast, o_zast, o_last, o_aast, o_alen, o_gi, o_gr, o_pi, o_pz, o_pr, o_new, o_newa, o_copy, o_oinit, o_call, o_callV, o_callVc, o_callI, popn, cnO, o_BAD, lgt, lst, isL, kil, st1, st2, entL, List.length_nil, List.length_cons, List.replicate, Nat.reduceAdd, Nat.reduceLeDiff, Nat.reduceSub, true_and, and_true, Nat.zero_le, ne_eq, qk_wi, ql_wi, qr_wi, qj_wi, qt_wi, qk_wj, ql_wj, qr_wj, qi_wj, qt_wj, qk_wr, ql_wr, qi_wr, qj_wr, qt_wr, qi_ws, qj_ws, qr_ws, Int.toNat_natCast, Int.toNat_zero, Int.reduceToNat, not_true_eq_false, not_false_eq_true, false_implies, implies_true, Option.some.injEq, reduceCtorEq, Sp0, true_or, or_true, or_self, wi_wi, wj_wj]
      repeat' (first | (with_reducible refine And.intro ?_ ?_) | (with_reducible intro))
      all_goals (try (first | with_reducible assumption | omega | (unfold inI; omega) | (unfold inL; omega) | exact cz_in _ _))
      all_goals (try ((first | (refine s_X8_gapsThatCanBe_0 x ok _ _ _ _ ?_) | (refine s_X8_gapsThatCanBe_26 x ok _ _ _ _ ?_) | (refine s_X8_gapsThatCanBe_27 x ok _ _ _ _ ?_) | (refine s_X8_gapsThatCanBe_34 x ok _ _ _ _ ?_) | (refine s_X8_gapsThatCanBe_69 x ok _ _ _ _ ?_) | (refine s_X8_gapsThatCanBe_80 x ok _ _ _ _ ?_) | (refine s_X8_gapsThatCanBe_82 x ok _ _ _ _ ?_) | (refine s_X8_gapsThatCanBe_170 x ok _ _ _ _ ?_) | (refine s_X8_gapsThatCanBe_174 x ok _ _ _ _ ?_) | (refine s_X8_gapsThatCanBe_175 x ok _ _ _ _ ?_) | (refine s_X8_gapsThatCanBe_182 x ok _ _ _ _ ?_) | (refine s_X8_gapsThatCanBe_188 x ok _ _ _ _ ?_) | (refine s_X8_gapsThatCanBe_217 x ok _ _ _ _ ?_) | (refine s_X8_gapsThatCanBe_223 x ok _ _ _ _ ?_)); (try simp only [wpS, o_c, o_cl, o_il, o_ll, o_al, o_is, o_ls, o_as, o_inc, o_add, o_sub, o_mul, o_and, o_or, o_xor, o_shl, o_shr, o_div, o_neg, o_ladd, o_lsub, o_lmul, o_ldiv, o_lrem, o_lneg, o_lcmp, o_i2l, o_l2i, o_dup, o_dup2, o_pop, o_go, o_nn, o_sw, swc, o_iret, o_zret, o_lret, o_vret, o_ieq, o_eq0, o_ine, o_ne0, o_ilt, o_lt0, o_ige, o_ge0, o_igt, o_gt0, o_ile, o_le0, o_iald, o_zald, o_lald, o_aald, o_iast, o_zast, o_last, o_aast, o_alen, o_gi, o_gr, o_pi, o_pz, o_pr, o_new, o_newa, o_copy, o_oinit, o_call, o_callV, o_callVc, o_callI, popn, cnO, o_BAD, lgt, lst, isL, kil, st1, st2, entL, List.length_nil, List.length_cons, List.replicate, Nat.reduceAdd, Nat.reduceLeDiff, Nat.reduceSub, true_and, and_true, Nat.zero_le, ne_eq, qk_wi, ql_wi, qr_wi, qj_wi, qt_wi, qk_wj, ql_wj, qr_wj, qi_wj, qt_wj, qk_wr, ql_wr, qi_wr, qj_wr, qt_wr, qi_ws, qj_ws, qr_ws, Int.toNat_natCast, Int.toNat_zero, Int.reduceToNat, not_true_eq_false, not_false_eq_true, false_implies, implies_true, Option.some.injEq, reduceCtorEq, Sp0, true_or, or_true, or_self, wi_wi, wj_wj]); (repeat' (first | (with_reducible refine And.intro ?_ ?_) | (with_reducible intro))); (all_goals (try (first | with_reducible assumption | omega | (unfold inI; omega) | (unfold inL; omega) | exact cz_in _ _)))))
      exact hK a b ha
    · intro j hj ih a b ha v4 v5 v6 v7
      have hIj := hI.1 j hj
      have hk := hIj.k
      have hb := hIj.b
      have haa := hIj.a
      have hmr := mrg_rg hIj
      have hs := (hI.2.1 c hc).1 j hj
      have his := iab_le hs.1 hs.2
      have e0 : qi h (y + 1) j = dk (qi h (y + 1)) j := rfl
      have e24 : qi h (y + 1) (24 + j) = db (qi h (y + 1)) j := rfl
      have e36 : qi h (y + 1) (36 + j) = da (qi h (y + 1)) j := rfl
      have skip : ((iab (dsh (qi h (y + 1)) c j)).toNat = 0 ∨ (mrg (qi h (y + 1)) j).toNat = 0) → ∀ v4 v5 v6 v7, V i_X8_gapsThatCanBe x 217 [some (vr (some y)), some (vi c), some (vi w), some (vi j), v4, v5, v6, v7] [] (wi (wi h (y + 13) a) (y + 14) b) (0, 0) := fun n v4 v5 v6 v7 => by
        refine s_X8_gapsThatCanBe_217 x ok _ _ _ _ ?_
        simp only [wpS, o_c, o_cl, o_il, o_ll, o_al, o_is, o_ls, o_as, o_inc, o_add, o_sub, o_mul, o_and, o_or, o_xor, o_shl, o_shr, o_div, o_neg, o_ladd, o_lsub, o_lmul, o_ldiv, o_lrem, o_lneg, o_lcmp, o_i2l, o_l2i, o_dup, o_dup2, o_pop, o_go, o_nn, o_sw, swc, o_iret, o_zret, o_lret, o_vret, o_ieq, o_eq0, o_ine, o_ne0, o_ilt, o_lt0, o_ige, o_ge0, o_igt, o_gt0, o_ile, o_le0, o_iald, o_zald, o_lald, o_aald, o_iast, o_zast, o_last, o_aast, o_alen, o_gi, o_gr, o_pi, o_pz, o_pr, o_new, o_newa, o_copy, o_oinit, o_call, o_callV, o_callVc, o_callI, popn, cnO, o_BAD, lgt, lst, isL, kil, st1, st2, entL, List.length_nil, List.length_cons, List.replicate, Nat.reduceAdd, Nat.reduceLeDiff, Nat.reduceSub, true_and, and_true, Nat.zero_le, ne_eq, qk_wi, ql_wi, qr_wi, qj_wi, qt_wi, qk_wj, ql_wj, qr_wj, qi_wj, qt_wj, qk_wr, ql_wr, qi_wr, qj_wr, qt_wr, qi_ws, qj_ws, qr_ws, Int.toNat_natCast, Int.toNat_zero, Int.reduceToNat, not_true_eq_false, not_false_eq_true, false_implies, implies_true, Option.some.injEq, reduceCtorEq, Sp0, true_or, or_true, or_self, wi_wi, wj_wj]
        repeat' (first | (with_reducible refine And.intro ?_ ?_) | (with_reducible intro))
        all_goals (try (first | with_reducible assumption | omega | (unfold inI; omega) | (unfold inL; omega) | exact cz_in _ _))
        refine ih a b (fun k hk2 => ?_) _ _ _ _
        rw [rcd_skip n]
        exact ha k hk2
      have work : ∀ (st : Nat) (s : Int), dk (qi h (y + 1)) j = 0 → (iab (dsh (qi h (y + 1)) c j)) = (st : Int) → 0 < st → ∀ v7, V i_X8_gapsThatCanBe x 87 [some (vr (some y)), some (vi c), some (vi w), some (vi j), some (vi s), some (vi st), some (vi 0), v7] [] (wi (wi h (y + 13) a) (y + 14) b) (0, 0) := by
        intro st s hk0 hst hst0 v7
        have hst2 : st ≤ 3 := by omega
        obtain ⟨rg, hrg⟩ : ∃ rg : Nat, mrg (qi h (y + 1)) j = (rg : Int) := ⟨(mrg (qi h (y + 1)) j).toNat, by omega⟩
        have hmd : da (qi h (y + 1)) j - db (qi h (y + 1)) j = (rg : Int) := by rw [← hrg]; unfold mrg; rw [if_pos hk0]
        have hrc : ∀ k, rcd (qi h (y + 1)) (dsh (qi h (y + 1)) c) (j + 1) k ↔ ∃ i, i ≤ rg ∧ i * st ≤ k ∧ rcd (qi h (y + 1)) (dsh (qi h (y + 1)) c) j (k - i * st) := fun k => by
          show (∃ i, i ≤ (mrg (qi h (y + 1)) j).toNat ∧ i * (iab (dsh (qi h (y + 1)) c j)).toNat ≤ k ∧ rcd (qi h (y + 1)) (dsh (qi h (y + 1)) c) j (k - i * (iab (dsh (qi h (y + 1)) c j)).toNat)) ↔ _
          rw [hst, hrg, Int.toNat_natCast, Int.toNat_natCast]
        have copy : ∀ i, i ≤ w + 1 → ∀ (a b : Nat → Int) v7, bp b (w + 1) (rcd (qi h (y + 1)) (dsh (qi h (y + 1)) c) (j + 1)) → (∀ k, k < i → a k = b k) → V i_X8_gapsThatCanBe x 191 [some (vr (some y)), some (vi c), some (vi w), some (vi j), some (vi s), some (vi st), some (vi i), v7] [] (wi (wi h (y + 13) a) (y + 14) b) (0, 0) := by
          refine bwd _ ?_ ?_
          · intro a b v7 hb2 he
            refine s_X8_gapsThatCanBe_191 x ok _ _ _ _ ?_
            simp only [wpS, o_c, o_cl, o_il, o_ll, o_al, o_is, o_ls, o_as, o_inc, o_add, o_sub, o_mul, o_and, o_or, o_xor, o_shl, o_shr, o_div, o_neg, o_ladd, o_lsub, o_lmul, o_ldiv, o_lrem, o_lneg, o_lcmp, o_i2l, o_l2i, o_dup, o_dup2, o_pop, o_go, o_nn, o_sw, swc, o_iret, o_zret, o_lret, o_vret, o_ieq, o_eq0, o_ine, o_ne0, o_ilt, o_lt0, o_ige, o_ge0, o_igt, o_gt0, o_ile, o_le0, o_iald, o_zald, o_lald, o_aald, o_iast, o_zast, o_last, o_aast, o_alen, o_gi, o_gr, o_pi, o_pz, o_pr, o_new, o_newa, o_copy, o_oinit, o_call, o_callV, o_callVc, o_callI, popn, cnO, o_BAD, lgt, lst, isL, kil, st1, st2, entL, List.length_nil, List.length_cons, List.replicate, Nat.reduceAdd, Nat.reduceLeDiff, Nat.reduceSub, true_and, and_true, Nat.zero_le, ne_eq, qk_wi, ql_wi, qr_wi, qj_wi, qt_wi, qk_wj, ql_wj, qr_wj, qi_wj, qt_wj, qk_wr, ql_wr, qi_wr, qj_wr, qt_wr, qi_ws, qj_ws, qr_ws, Int.toNat_natCast, Int.toNat_zero, Int.reduceToNat, not_true_eq_false, not_false_eq_true, false_implies, implies_true, Option.some.injEq, reduceCtorEq, Sp0, true_or, or_true, or_self, wi_wi, wj_wj]
            repeat' (first | (with_reducible refine And.intro ?_ ?_) | (with_reducible intro))
            all_goals (try (first | with_reducible assumption | omega | (unfold inI; omega) | (unfold inL; omega) | exact cz_in _ _))
            all_goals (try (exfalso; omega))
            refine s_X8_gapsThatCanBe_217 x ok _ _ _ _ ?_
            simp only [wpS, o_c, o_cl, o_il, o_ll, o_al, o_is, o_ls, o_as, o_inc, o_add, o_sub, o_mul, o_and, o_or, o_xor, o_shl, o_shr, o_div, o_neg, o_ladd, o_lsub, o_lmul, o_ldiv, o_lrem, o_lneg, o_lcmp, o_i2l, o_l2i, o_dup, o_dup2, o_pop, o_go, o_nn, o_sw, swc, o_iret, o_zret, o_lret, o_vret, o_ieq, o_eq0, o_ine, o_ne0, o_ilt, o_lt0, o_ige, o_ge0, o_igt, o_gt0, o_ile, o_le0, o_iald, o_zald, o_lald, o_aald, o_iast, o_zast, o_last, o_aast, o_alen, o_gi, o_gr, o_pi, o_pz, o_pr, o_new, o_newa, o_copy, o_oinit, o_call, o_callV, o_callVc, o_callI, popn, cnO, o_BAD, lgt, lst, isL, kil, st1, st2, entL, List.length_nil, List.length_cons, List.replicate, Nat.reduceAdd, Nat.reduceLeDiff, Nat.reduceSub, true_and, and_true, Nat.zero_le, ne_eq, qk_wi, ql_wi, qr_wi, qj_wi, qt_wi, qk_wj, ql_wj, qr_wj, qi_wj, qt_wj, qk_wr, ql_wr, qi_wr, qj_wr, qt_wr, qi_ws, qj_ws, qr_ws, Int.toNat_natCast, Int.toNat_zero, Int.reduceToNat, not_true_eq_false, not_false_eq_true, false_implies, implies_true, Option.some.injEq, reduceCtorEq, Sp0, true_or, or_true, or_self, wi_wi, wj_wj]
            repeat' (first | (with_reducible refine And.intro ?_ ?_) | (with_reducible intro))
            all_goals (try (first | with_reducible assumption | omega | (unfold inI; omega) | (unfold inL; omega) | exact cz_in _ _))
            exact ih a b (fun k hk2 => by rw [he k hk2]; exact hb2 k hk2) _ _ _ _
          · intro i hi ih2 a b v7 hb2 he
            have hbi := hb2 i hi
            have hbi2 : b i = 0 ∨ b i = 1 := by
              rcases hbi with z | z
              · exact .inr z.1
              · exact .inl z.1
            refine s_X8_gapsThatCanBe_191 x ok _ _ _ _ ?_
            simp only [wpS, o_c, o_cl, o_il, o_ll, o_al, o_is, o_ls, o_as, o_inc, o_add, o_sub, o_mul, o_and, o_or, o_xor, o_shl, o_shr, o_div, o_neg, o_ladd, o_lsub, o_lmul, o_ldiv, o_lrem, o_lneg, o_lcmp, o_i2l, o_l2i, o_dup, o_dup2, o_pop, o_go, o_nn, o_sw, swc, o_iret, o_zret, o_lret, o_vret, o_ieq, o_eq0, o_ine, o_ne0, o_ilt, o_lt0, o_ige, o_ge0, o_igt, o_gt0, o_ile, o_le0, o_iald, o_zald, o_lald, o_aald, o_iast, o_zast, o_last, o_aast, o_alen, o_gi, o_gr, o_pi, o_pz, o_pr, o_new, o_newa, o_copy, o_oinit, o_call, o_callV, o_callVc, o_callI, popn, cnO, o_BAD, lgt, lst, isL, kil, st1, st2, entL, List.length_nil, List.length_cons, List.replicate, Nat.reduceAdd, Nat.reduceLeDiff, Nat.reduceSub, true_and, and_true, Nat.zero_le, ne_eq, qk_wi, ql_wi, qr_wi, qj_wi, qt_wi, qk_wj, ql_wj, qr_wj, qi_wj, qt_wj, qk_wr, ql_wr, qi_wr, qj_wr, qt_wr, qi_ws, qj_ws, qr_ws, Int.toNat_natCast, Int.toNat_zero, Int.reduceToNat, not_true_eq_false, not_false_eq_true, false_implies, implies_true, Option.some.injEq, reduceCtorEq, Sp0, true_or, or_true, or_self, wi_wi, wj_wj, hM.k, hM.r12, hM.k13, hM.l13, hM.r13, hM.k14, hM.l14, h13, c13]
            repeat' (first | (with_reducible refine And.intro ?_ ?_) | (with_reducible intro))
            all_goals (try (first | with_reducible assumption | omega | (unfold inI; omega) | (unfold inL; omega) | exact cz_in _ _))
            all_goals (try (exfalso; omega))
            refine ih2 _ b v7 hb2 (fun k hk2 => ?_)
            unfold fu
            by_cases z : k = i
            · rw [if_pos z, z]
            · rw [if_neg z]; exact he k (by omega)
        have outer : ∀ k, k ≤ w + 1 → ∀ (b : Nat → Int) v7, bp b k (rcd (qi h (y + 1)) (dsh (qi h (y + 1)) c) (j + 1)) → V i_X8_gapsThatCanBe x 87 [some (vr (some y)), some (vi c), some (vi w), some (vi j), some (vi s), some (vi st), some (vi k), v7] [] (wi (wi h (y + 13) a) (y + 14) b) (0, 0) := by
          refine bwd _ ?_ ?_
          · intro b v7 hb2
            refine s_X8_gapsThatCanBe_87 x ok _ _ _ _ ?_
            simp only [wpS, o_c, o_cl, o_il, o_ll, o_al, o_is, o_ls, o_as, o_inc, o_add, o_sub, o_mul, o_and, o_or, o_xor, o_shl, o_shr, o_div, o_neg, o_ladd, o_lsub, o_lmul, o_ldiv, o_lrem, o_lneg, o_lcmp, o_i2l, o_l2i, o_dup, o_dup2, o_pop, o_go, o_nn, o_sw, swc, o_iret, o_zret, o_lret, o_vret, o_ieq, o_eq0, o_ine, o_ne0, o_ilt, o_lt0, o_ige, o_ge0, o_igt, o_gt0, o_ile, o_le0, o_iald, o_zald, o_lald, o_aald, o_iast, o_zast, o_last, o_aast, o_alen, o_gi, o_gr, o_pi, o_pz, o_pr, o_new, o_newa, o_copy, o_oinit, o_call, o_callV, o_callVc, o_callI, popn, cnO, o_BAD, lgt, lst, isL, kil, st1, st2, entL, List.length_nil, List.length_cons, List.replicate, Nat.reduceAdd, Nat.reduceLeDiff, Nat.reduceSub, true_and, and_true, Nat.zero_le, ne_eq, qk_wi, ql_wi, qr_wi, qj_wi, qt_wi, qk_wj, ql_wj, qr_wj, qi_wj, qt_wj, qk_wr, ql_wr, qi_wr, qj_wr, qt_wr, qi_ws, qj_ws, qr_ws, Int.toNat_natCast, Int.toNat_zero, Int.reduceToNat, not_true_eq_false, not_false_eq_true, false_implies, implies_true, Option.some.injEq, reduceCtorEq, Sp0, true_or, or_true, or_self, wi_wi, wj_wj]
            repeat' (first | (with_reducible refine And.intro ?_ ?_) | (with_reducible intro))
            all_goals (try (first | with_reducible assumption | omega | (unfold inI; omega) | (unfold inL; omega) | exact cz_in _ _))
            all_goals (try (exfalso; omega))
            refine s_X8_gapsThatCanBe_188 x ok _ _ _ _ ?_
            simp only [wpS, o_c, o_cl, o_il, o_ll, o_al, o_is, o_ls, o_as, o_inc, o_add, o_sub, o_mul, o_and, o_or, o_xor, o_shl, o_shr, o_div, o_neg, o_ladd, o_lsub, o_lmul, o_ldiv, o_lrem, o_lneg, o_lcmp, o_i2l, o_l2i, o_dup, o_dup2, o_pop, o_go, o_nn, o_sw, swc, o_iret, o_zret, o_lret, o_vret, o_ieq, o_eq0, o_ine, o_ne0, o_ilt, o_lt0, o_ige, o_ge0, o_igt, o_gt0, o_ile, o_le0, o_iald, o_zald, o_lald, o_aald, o_iast, o_zast, o_last, o_aast, o_alen, o_gi, o_gr, o_pi, o_pz, o_pr, o_new, o_newa, o_copy, o_oinit, o_call, o_callV, o_callVc, o_callI, popn, cnO, o_BAD, lgt, lst, isL, kil, st1, st2, entL, List.length_nil, List.length_cons, List.replicate, Nat.reduceAdd, Nat.reduceLeDiff, Nat.reduceSub, true_and, and_true, Nat.zero_le, ne_eq, qk_wi, ql_wi, qr_wi, qj_wi, qt_wi, qk_wj, ql_wj, qr_wj, qi_wj, qt_wj, qk_wr, ql_wr, qi_wr, qj_wr, qt_wr, qi_ws, qj_ws, qr_ws, Int.toNat_natCast, Int.toNat_zero, Int.reduceToNat, not_true_eq_false, not_false_eq_true, false_implies, implies_true, Option.some.injEq, reduceCtorEq, Sp0, true_or, or_true, or_self, wi_wi, wj_wj]
            exact copy 0 (by omega) a b v7 hb2 (fun k hk2 => by omega)
          · intro k hkw ih2 b v7 hb2
            have inner : ∀ q, q ≤ rg + 1 → ∀ b : Nat → Int, bp b k (rcd (qi h (y + 1)) (dsh (qi h (y + 1)) c) (j + 1)) → ((b k = 1 ∧ ∃ i, i < q ∧ i * st ≤ k ∧ rcd (qi h (y + 1)) (dsh (qi h (y + 1)) c) j (k - i * st)) ∨ (b k = 0 ∧ ¬ ∃ i, i < q ∧ i * st ≤ k ∧ rcd (qi h (y + 1)) (dsh (qi h (y + 1)) c) j (k - i * st))) → V i_X8_gapsThatCanBe x 104 [some (vr (some y)), some (vi c), some (vi w), some (vi j), some (vi s), some (vi st), some (vi k), some (vi q)] [] (wi (wi h (y + 13) a) (y + 14) b) (0, 0) := by
              have out : ∀ (q : Nat) (b : Nat → Int), q ≤ rg + 1 → (q = rg + 1 ∨ k < q * st) → bp b k (rcd (qi h (y + 1)) (dsh (qi h (y + 1)) c) (j + 1)) → ((b k = 1 ∧ ∃ i, i < q ∧ i * st ≤ k ∧ rcd (qi h (y + 1)) (dsh (qi h (y + 1)) c) j (k - i * st)) ∨ (b k = 0 ∧ ¬ ∃ i, i < q ∧ i * st ≤ k ∧ rcd (qi h (y + 1)) (dsh (qi h (y + 1)) c) j (k - i * st))) → V i_X8_gapsThatCanBe x 182 [some (vr (some y)), some (vi c), some (vi w), some (vi j), some (vi s), some (vi st), some (vi k), some (vi q)] [] (wi (wi h (y + 13) a) (y + 14) b) (0, 0) := by
                intro q b hq hex hb3 hbk
                have iff : rcd (qi h (y + 1)) (dsh (qi h (y + 1)) c) (j + 1) k ↔ ∃ i, i < q ∧ i * st ≤ k ∧ rcd (qi h (y + 1)) (dsh (qi h (y + 1)) c) j (k - i * st) := by
                  rw [hrc k]
                  constructor
                  · rintro ⟨i, h1, h2, h3⟩
                    refine ⟨i, ?_, h2, h3⟩
                    rcases hex with z | z
                    · omega
                    · rcases Nat.lt_or_ge i q with u | u
                      · exact u
                      · have : q * st ≤ i * st := Nat.mul_le_mul_right _ u
                        omega
                  · rintro ⟨i, h1, h2, h3⟩
                    exact ⟨i, by omega, h2, h3⟩
                refine s_X8_gapsThatCanBe_182 x ok _ _ _ _ ?_
                simp only [wpS, o_c, o_cl, o_il, o_ll, o_al, o_is, o_ls, o_as, o_inc, o_add, o_sub, o_mul, o_and, o_or, o_xor, o_shl, o_shr, o_div, o_neg, o_ladd, o_lsub, o_lmul, o_ldiv, o_lrem, o_lneg, o_lcmp, o_i2l, o_l2i, o_dup, o_dup2, o_pop, o_go, o_nn, o_sw, swc, o_iret, o_zret, o_lret, o_vret, o_ieq, o_eq0, o_ine, o_ne0, o_ilt, o_lt0, o_ige, o_ge0, o_igt, o_gt0, o_ile, o_le0, o_iald, o_zald, o_lald, o_aald, o_iast, o_zast, o_last, o_aast, o_alen, o_gi, o_gr, o_pi, o_pz, o_pr, o_new, o_newa, o_copy, o_oinit, o_call, o_callV, o_callVc, o_callI, popn, cnO, o_BAD, lgt, lst, isL, kil, st1, st2, entL, List.length_nil, List.length_cons, List.replicate, Nat.reduceAdd, Nat.reduceLeDiff, Nat.reduceSub, true_and, and_true, Nat.zero_le, ne_eq, qk_wi, ql_wi, qr_wi, qj_wi, qt_wi, qk_wj, ql_wj, qr_wj, qi_wj, qt_wj, qk_wr, ql_wr, qi_wr, qj_wr, qt_wr, qi_ws, qj_ws, qr_ws, Int.toNat_natCast, Int.toNat_zero, Int.reduceToNat, not_true_eq_false, not_false_eq_true, false_implies, implies_true, Option.some.injEq, reduceCtorEq, Sp0, true_or, or_true, or_self, wi_wi, wj_wj]
                repeat' (first | (with_reducible refine And.intro ?_ ?_) | (with_reducible intro))
                all_goals (try (first | with_reducible assumption | omega | (unfold inI; omega) | (unfold inL; omega) | exact cz_in _ _))
                refine ih2 b _ (fun k2 hk2 => ?_)
                by_cases z : k2 = k
                · rw [z, iff]; exact hbk
                · exact hb3 k2 (by omega)
              refine bwd _ ?_ ?_
              · intro b hb3 hbk
                refine s_X8_gapsThatCanBe_104 x ok _ _ _ _ ?_
                simp only [wpS, o_c, o_cl, o_il, o_ll, o_al, o_is, o_ls, o_as, o_inc, o_add, o_sub, o_mul, o_and, o_or, o_xor, o_shl, o_shr, o_div, o_neg, o_ladd, o_lsub, o_lmul, o_ldiv, o_lrem, o_lneg, o_lcmp, o_i2l, o_l2i, o_dup, o_dup2, o_pop, o_go, o_nn, o_sw, swc, o_iret, o_zret, o_lret, o_vret, o_ieq, o_eq0, o_ine, o_ne0, o_ilt, o_lt0, o_ige, o_ge0, o_igt, o_gt0, o_ile, o_le0, o_iald, o_zald, o_lald, o_aald, o_iast, o_zast, o_last, o_aast, o_alen, o_gi, o_gr, o_pi, o_pz, o_pr, o_new, o_newa, o_copy, o_oinit, o_call, o_callV, o_callVc, o_callI, popn, cnO, o_BAD, lgt, lst, isL, kil, st1, st2, entL, List.length_nil, List.length_cons, List.replicate, Nat.reduceAdd, Nat.reduceLeDiff, Nat.reduceSub, true_and, and_true, Nat.zero_le, ne_eq, qk_wi, ql_wi, qr_wi, qj_wi, qt_wi, qk_wj, ql_wj, qr_wj, qi_wj, qt_wj, qk_wr, ql_wr, qi_wr, qj_wr, qt_wr, qi_ws, qj_ws, qr_ws, Int.toNat_natCast, Int.toNat_zero, Int.reduceToNat, not_true_eq_false, not_false_eq_true, false_implies, implies_true, Option.some.injEq, reduceCtorEq, Sp0, true_or, or_true, or_self, wi_wi, wj_wj, hM.k, hM.r0, hM.k1, hM.l1, ix0, ix12, ix24, ix36, ix48, ix60, ix1032, ix1044, ix1092, ix1140, ix1188, ix1200, ix1212, ix1284, ix1290, ix1296, ix1298, ix1322, ix1346, ix1358, ixm4, ixm12, ixm24, ixm81, ixm1382, ixadd, Nat.zero_add, hD, e24, e36, hmd]
                repeat' (first | (with_reducible refine And.intro ?_ ?_) | (with_reducible intro))
                all_goals (try (first | with_reducible assumption | omega | (unfold inI; omega) | (unfold inL; omega) | exact cz_in _ _))
                all_goals (try (exfalso; omega))
                exact out (rg + 1) b (Nat.le_refl _) (.inl rfl) hb3 hbk
              · intro q hq ih3 b hb3 hbk
                have eqs : (q : Int) * (st : Int) = ((q * st : Nat) : Int) := by push_cast; rfl
                have hqs : q * st ≤ 80 * 3 := Nat.mul_le_mul (by omega) hst2
                by_cases hgt : k < q * st
                · refine s_X8_gapsThatCanBe_104 x ok _ _ _ _ ?_
                  simp only [wpS, o_c, o_cl, o_il, o_ll, o_al, o_is, o_ls, o_as, o_inc, o_add, o_sub, o_mul, o_and, o_or, o_xor, o_shl, o_shr, o_div, o_neg, o_ladd, o_lsub, o_lmul, o_ldiv, o_lrem, o_lneg, o_lcmp, o_i2l, o_l2i, o_dup, o_dup2, o_pop, o_go, o_nn, o_sw, swc, o_iret, o_zret, o_lret, o_vret, o_ieq, o_eq0, o_ine, o_ne0, o_ilt, o_lt0, o_ige, o_ge0, o_igt, o_gt0, o_ile, o_le0, o_iald, o_zald, o_lald, o_aald, o_iast, o_zast, o_last, o_aast, o_alen, o_gi, o_gr, o_pi, o_pz, o_pr, o_new, o_newa, o_copy, o_oinit, o_call, o_callV, o_callVc, o_callI, popn, cnO, o_BAD, lgt, lst, isL, kil, st1, st2, entL, List.length_nil, List.length_cons, List.replicate, Nat.reduceAdd, Nat.reduceLeDiff, Nat.reduceSub, true_and, and_true, Nat.zero_le, ne_eq, qk_wi, ql_wi, qr_wi, qj_wi, qt_wi, qk_wj, ql_wj, qr_wj, qi_wj, qt_wj, qk_wr, ql_wr, qi_wr, qj_wr, qt_wr, qi_ws, qj_ws, qr_ws, Int.toNat_natCast, Int.toNat_zero, Int.reduceToNat, not_true_eq_false, not_false_eq_true, false_implies, implies_true, Option.some.injEq, reduceCtorEq, Sp0, true_or, or_true, or_self, wi_wi, wj_wj, hM.k, hM.r0, hM.k1, hM.l1, ix0, ix12, ix24, ix36, ix48, ix60, ix1032, ix1044, ix1092, ix1140, ix1188, ix1200, ix1212, ix1284, ix1290, ix1296, ix1298, ix1322, ix1346, ix1358, ixm4, ixm12, ixm24, ixm81, ixm1382, ixadd, Nat.zero_add, hD, e24, e36, hmd, eqs]
                  repeat' (first | (with_reducible refine And.intro ?_ ?_) | (with_reducible intro))
                  all_goals (try (first | with_reducible assumption | omega | (unfold inI; omega) | (unfold inL; omega) | exact cz_in _ _))
                  all_goals (try (exfalso; omega))
                  exact out q b (by omega) (.inr hgt) hb3 hbk
                · have esub : ((k : Int) - ((q * st : Nat) : Int)).toNat = k - q * st := by omega
                  have hak := ha (k - q * st) (by omega)
                  have hfin : ∀ z : Int, (z = 1 ∧ ∃ i, i < q + 1 ∧ i * st ≤ k ∧ rcd (qi h (y + 1)) (dsh (qi h (y + 1)) c) j (k - i * st)) ∨ (z = 0 ∧ ¬ ∃ i, i < q + 1 ∧ i * st ≤ k ∧ rcd (qi h (y + 1)) (dsh (qi h (y + 1)) c) j (k - i * st)) → V i_X8_gapsThatCanBe x 104 [some (vr (some y)), some (vi c), some (vi w), some (vi j), some (vi s), some (vi st), some (vi k), some (vi ((q : Int) + 1))] [] (wi (wi h (y + 13) a) (y + 14) (fu b k z)) (0, 0) := fun z hz => by
                    refine ih3 (fu b k z) (fun k2 hk2 => ?_) ?_
                    · rw [fu_n (by omega)]; exact hb3 k2 hk2
                    · rw [fu_s]; exact hz
                  rcases hbk with ⟨hb1, i, i1, i2, i3⟩ | ⟨hb0, hno⟩
                  · refine s_X8_gapsThatCanBe_104 x ok _ _ _ _ ?_
                    simp only [wpS, o_c, o_cl, o_il, o_ll, o_al, o_is, o_ls, o_as, o_inc, o_add, o_sub, o_mul, o_and, o_or, o_xor, o_shl, o_shr, o_div, o_neg, o_ladd, o_lsub, o_lmul, o_ldiv, o_lrem, o_lneg, o_lcmp, o_i2l, o_l2i, o_dup, o_dup2, o_pop, o_go, o_nn, o_sw, swc, o_iret, o_zret, o_lret, o_vret, o_ieq, o_eq0, o_ine, o_ne0, o_ilt, o_lt0, o_ige, o_ge0, o_igt, o_gt0, o_ile, o_le0, o_iald, o_zald, o_lald, o_aald, o_iast, o_zast, o_last, o_aast, o_alen, o_gi, o_gr, o_pi, o_pz, o_pr, o_new, o_newa, o_copy, o_oinit, o_call, o_callV, o_callVc, o_callI, popn, cnO, o_BAD, lgt, lst, isL, kil, st1, st2, entL, List.length_nil, List.length_cons, List.replicate, Nat.reduceAdd, Nat.reduceLeDiff, Nat.reduceSub, true_and, and_true, Nat.zero_le, ne_eq, qk_wi, ql_wi, qr_wi, qj_wi, qt_wi, qk_wj, ql_wj, qr_wj, qi_wj, qt_wj, qk_wr, ql_wr, qi_wr, qj_wr, qt_wr, qi_ws, qj_ws, qr_ws, Int.toNat_natCast, Int.toNat_zero, Int.reduceToNat, not_true_eq_false, not_false_eq_true, false_implies, implies_true, Option.some.injEq, reduceCtorEq, Sp0, true_or, or_true, or_self, wi_wi, wj_wj, hM.k, hM.r0, hM.k1, hM.l1, ix0, ix12, ix24, ix36, ix48, ix60, ix1032, ix1044, ix1092, ix1140, ix1188, ix1200, ix1212, ix1284, ix1290, ix1296, ix1298, ix1322, ix1346, ix1358, ixm4, ixm12, ixm24, ixm81, ixm1382, ixadd, Nat.zero_add, hD, e24, e36, hmd, eqs, hM.r13, hM.k14, hM.l14, hb1]
                    repeat' (first | (with_reducible refine And.intro ?_ ?_) | (with_reducible intro))
                    all_goals (try (first | with_reducible assumption | omega | (unfold inI; omega) | (unfold inL; omega) | exact cz_in _ _))
                    all_goals (try (exfalso; omega))
                    all_goals (try ((first | (refine s_X8_gapsThatCanBe_0 x ok _ _ _ _ ?_) | (refine s_X8_gapsThatCanBe_26 x ok _ _ _ _ ?_) | (refine s_X8_gapsThatCanBe_27 x ok _ _ _ _ ?_) | (refine s_X8_gapsThatCanBe_34 x ok _ _ _ _ ?_) | (refine s_X8_gapsThatCanBe_69 x ok _ _ _ _ ?_) | (refine s_X8_gapsThatCanBe_80 x ok _ _ _ _ ?_) | (refine s_X8_gapsThatCanBe_82 x ok _ _ _ _ ?_) | (refine s_X8_gapsThatCanBe_170 x ok _ _ _ _ ?_) | (refine s_X8_gapsThatCanBe_174 x ok _ _ _ _ ?_) | (refine s_X8_gapsThatCanBe_175 x ok _ _ _ _ ?_) | (refine s_X8_gapsThatCanBe_182 x ok _ _ _ _ ?_) | (refine s_X8_gapsThatCanBe_188 x ok _ _ _ _ ?_) | (refine s_X8_gapsThatCanBe_217 x ok _ _ _ _ ?_) | (refine s_X8_gapsThatCanBe_223 x ok _ _ _ _ ?_)); (try simp only [wpS, o_c, o_cl, o_il, o_ll, o_al, o_is, o_ls, o_as, o_inc, o_add, o_sub, o_mul, o_and, o_or, o_xor, o_shl, o_shr, o_div, o_neg, o_ladd, o_lsub, o_lmul, o_ldiv, o_lrem, o_lneg, o_lcmp, o_i2l, o_l2i, o_dup, o_dup2, o_pop, o_go, o_nn, o_sw, swc, o_iret, o_zret, o_lret, o_vret, o_ieq, o_eq0, o_ine, o_ne0, o_ilt, o_lt0, o_ige, o_ge0, o_igt, o_gt0, o_ile, o_le0, o_iald, o_zald, o_lald, o_aald, o_iast, o_zast, o_last, o_aast, o_alen, o_gi, o_gr, o_pi, o_pz, o_pr, o_new, o_newa, o_copy, o_oinit, o_call, o_callV, o_callVc, o_callI, popn, cnO, o_BAD, lgt, lst, isL, kil, st1, st2, entL, List.length_nil, List.length_cons, List.replicate, Nat.reduceAdd, Nat.reduceLeDiff, Nat.reduceSub, true_and, and_true, Nat.zero_le, ne_eq, qk_wi, ql_wi, qr_wi, qj_wi, qt_wi, qk_wj, ql_wj, qr_wj, qi_wj, qt_wj, qk_wr, ql_wr, qi_wr, qj_wr, qt_wr, qi_ws, qj_ws, qr_ws, Int.toNat_natCast, Int.toNat_zero, Int.reduceToNat, not_true_eq_false, not_false_eq_true, false_implies, implies_true, Option.some.injEq, reduceCtorEq, Sp0, true_or, or_true, or_self, wi_wi, wj_wj, hM.r13, hM.k14, hM.l14]); (repeat' (first | (with_reducible refine And.intro ?_ ?_) | (with_reducible intro))); (all_goals (try (first | with_reducible assumption | omega | (unfold inI; omega) | (unfold inL; omega) | exact cz_in _ _)))))
                    all_goals (try ((first | (refine s_X8_gapsThatCanBe_0 x ok _ _ _ _ ?_) | (refine s_X8_gapsThatCanBe_26 x ok _ _ _ _ ?_) | (refine s_X8_gapsThatCanBe_27 x ok _ _ _ _ ?_) | (refine s_X8_gapsThatCanBe_34 x ok _ _ _ _ ?_) | (refine s_X8_gapsThatCanBe_69 x ok _ _ _ _ ?_) | (refine s_X8_gapsThatCanBe_80 x ok _ _ _ _ ?_) | (refine s_X8_gapsThatCanBe_82 x ok _ _ _ _ ?_) | (refine s_X8_gapsThatCanBe_170 x ok _ _ _ _ ?_) | (refine s_X8_gapsThatCanBe_174 x ok _ _ _ _ ?_) | (refine s_X8_gapsThatCanBe_175 x ok _ _ _ _ ?_) | (refine s_X8_gapsThatCanBe_182 x ok _ _ _ _ ?_) | (refine s_X8_gapsThatCanBe_188 x ok _ _ _ _ ?_) | (refine s_X8_gapsThatCanBe_217 x ok _ _ _ _ ?_) | (refine s_X8_gapsThatCanBe_223 x ok _ _ _ _ ?_)); (try simp only [wpS, o_c, o_cl, o_il, o_ll, o_al, o_is, o_ls, o_as, o_inc, o_add, o_sub, o_mul, o_and, o_or, o_xor, o_shl, o_shr, o_div, o_neg, o_ladd, o_lsub, o_lmul, o_ldiv, o_lrem, o_lneg, o_lcmp, o_i2l, o_l2i, o_dup, o_dup2, o_pop, o_go, o_nn, o_sw, swc, o_iret, o_zret, o_lret, o_vret, o_ieq, o_eq0, o_ine, o_ne0, o_ilt, o_lt0, o_ige, o_ge0, o_igt, o_gt0, o_ile, o_le0, o_iald, o_zald, o_lald, o_aald, o_iast, o_zast, o_last, o_aast, o_alen, o_gi, o_gr, o_pi, o_pz, o_pr, o_new, o_newa, o_copy, o_oinit, o_call, o_callV, o_callVc, o_callI, popn, cnO, o_BAD, lgt, lst, isL, kil, st1, st2, entL, List.length_nil, List.length_cons, List.replicate, Nat.reduceAdd, Nat.reduceLeDiff, Nat.reduceSub, true_and, and_true, Nat.zero_le, ne_eq, qk_wi, ql_wi, qr_wi, qj_wi, qt_wi, qk_wj, ql_wj, qr_wj, qi_wj, qt_wj, qk_wr, ql_wr, qi_wr, qj_wr, qt_wr, qi_ws, qj_ws, qr_ws, Int.toNat_natCast, Int.toNat_zero, Int.reduceToNat, not_true_eq_false, not_false_eq_true, false_implies, implies_true, Option.some.injEq, reduceCtorEq, Sp0, true_or, or_true, or_self, wi_wi, wj_wj, hM.r13, hM.k14, hM.l14]); (repeat' (first | (with_reducible refine And.intro ?_ ?_) | (with_reducible intro))); (all_goals (try (first | with_reducible assumption | omega | (unfold inI; omega) | (unfold inL; omega) | exact cz_in _ _)))))
                    all_goals (try (exfalso; omega))
                    exact hfin 1 (.inl ⟨rfl, i, by omega, i2, i3⟩)
                  · rcases hak with ⟨ha1, hr1⟩ | ⟨ha0, hr0⟩
                    · refine s_X8_gapsThatCanBe_104 x ok _ _ _ _ ?_
                      simp only [wpS, o_c, o_cl, o_il, o_ll, o_al, o_is, o_ls, o_as, o_inc, o_add, o_sub, o_mul, o_and, o_or, o_xor, o_shl, o_shr, o_div, o_neg, o_ladd, o_lsub, o_lmul, o_ldiv, o_lrem, o_lneg, o_lcmp, o_i2l, o_l2i, o_dup, o_dup2, o_pop, o_go, o_nn, o_sw, swc, o_iret, o_zret, o_lret, o_vret, o_ieq, o_eq0, o_ine, o_ne0, o_ilt, o_lt0, o_ige, o_ge0, o_igt, o_gt0, o_ile, o_le0, o_iald, o_zald, o_lald, o_aald, o_iast, o_zast, o_last, o_aast, o_alen, o_gi, o_gr, o_pi, o_pz, o_pr, o_new, o_newa, o_copy, o_oinit, o_call, o_callV, o_callVc, o_callI, popn, cnO, o_BAD, lgt, lst, isL, kil, st1, st2, entL, List.length_nil, List.length_cons, List.replicate, Nat.reduceAdd, Nat.reduceLeDiff, Nat.reduceSub, true_and, and_true, Nat.zero_le, ne_eq, qk_wi, ql_wi, qr_wi, qj_wi, qt_wi, qk_wj, ql_wj, qr_wj, qi_wj, qt_wj, qk_wr, ql_wr, qi_wr, qj_wr, qt_wr, qi_ws, qj_ws, qr_ws, Int.toNat_natCast, Int.toNat_zero, Int.reduceToNat, not_true_eq_false, not_false_eq_true, false_implies, implies_true, Option.some.injEq, reduceCtorEq, Sp0, true_or, or_true, or_self, wi_wi, wj_wj, hM.k, hM.r0, hM.k1, hM.l1, ix0, ix12, ix24, ix36, ix48, ix60, ix1032, ix1044, ix1092, ix1140, ix1188, ix1200, ix1212, ix1284, ix1290, ix1296, ix1298, ix1322, ix1346, ix1358, ixm4, ixm12, ixm24, ixm81, ixm1382, ixadd, Nat.zero_add, hD, e24, e36, hmd, eqs, hM.r13, hM.k14, hM.l14, hM.r12, hM.k13, hM.l13, hb0, h13, esub, ha1]
                      repeat' (first | (with_reducible refine And.intro ?_ ?_) | (with_reducible intro))
                      all_goals (try (first | with_reducible assumption | omega | (unfold inI; omega) | (unfold inL; omega) | exact cz_in _ _))
                      all_goals (try (exfalso; omega))
                      all_goals (try ((first | (refine s_X8_gapsThatCanBe_0 x ok _ _ _ _ ?_) | (refine s_X8_gapsThatCanBe_26 x ok _ _ _ _ ?_) | (refine s_X8_gapsThatCanBe_27 x ok _ _ _ _ ?_) | (refine s_X8_gapsThatCanBe_34 x ok _ _ _ _ ?_) | (refine s_X8_gapsThatCanBe_69 x ok _ _ _ _ ?_) | (refine s_X8_gapsThatCanBe_80 x ok _ _ _ _ ?_) | (refine s_X8_gapsThatCanBe_82 x ok _ _ _ _ ?_) | (refine s_X8_gapsThatCanBe_170 x ok _ _ _ _ ?_) | (refine s_X8_gapsThatCanBe_174 x ok _ _ _ _ ?_) | (refine s_X8_gapsThatCanBe_175 x ok _ _ _ _ ?_) | (refine s_X8_gapsThatCanBe_182 x ok _ _ _ _ ?_) | (refine s_X8_gapsThatCanBe_188 x ok _ _ _ _ ?_) | (refine s_X8_gapsThatCanBe_217 x ok _ _ _ _ ?_) | (refine s_X8_gapsThatCanBe_223 x ok _ _ _ _ ?_)); (try simp only [wpS, o_c, o_cl, o_il, o_ll, o_al, o_is, o_ls, o_as, o_inc, o_add, o_sub, o_mul, o_and, o_or, o_xor, o_shl, o_shr, o_div, o_neg, o_ladd, o_lsub, o_lmul, o_ldiv, o_lrem, o_lneg, o_lcmp, o_i2l, o_l2i, o_dup, o_dup2, o_pop, o_go, o_nn, o_sw, swc, o_iret, o_zret, o_lret, o_vret, o_ieq, o_eq0, o_ine, o_ne0, o_ilt, o_lt0, o_ige, o_ge0, o_igt, o_gt0, o_ile, o_le0, o_iald, o_zald, o_lald, o_aald, o_iast, o_zast, o_last, o_aast, o_alen, o_gi, o_gr, o_pi, o_pz, o_pr, o_new, o_newa, o_copy, o_oinit, o_call, o_callV, o_callVc, o_callI, popn, cnO, o_BAD, lgt, lst, isL, kil, st1, st2, entL, List.length_nil, List.length_cons, List.replicate, Nat.reduceAdd, Nat.reduceLeDiff, Nat.reduceSub, true_and, and_true, Nat.zero_le, ne_eq, qk_wi, ql_wi, qr_wi, qj_wi, qt_wi, qk_wj, ql_wj, qr_wj, qi_wj, qt_wj, qk_wr, ql_wr, qi_wr, qj_wr, qt_wr, qi_ws, qj_ws, qr_ws, Int.toNat_natCast, Int.toNat_zero, Int.reduceToNat, not_true_eq_false, not_false_eq_true, false_implies, implies_true, Option.some.injEq, reduceCtorEq, Sp0, true_or, or_true, or_self, wi_wi, wj_wj, hM.r13, hM.k14, hM.l14]); (repeat' (first | (with_reducible refine And.intro ?_ ?_) | (with_reducible intro))); (all_goals (try (first | with_reducible assumption | omega | (unfold inI; omega) | (unfold inL; omega) | exact cz_in _ _)))))
                      all_goals (try (exfalso; omega))
                      exact hfin 1 (.inl ⟨rfl, q, by omega, by omega, hr1⟩)
                    · refine s_X8_gapsThatCanBe_104 x ok _ _ _ _ ?_
                      simp only [wpS, o_c, o_cl, o_il, o_ll, o_al, o_is, o_ls, o_as, o_inc, o_add, o_sub, o_mul, o_and, o_or, o_xor, o_shl, o_shr, o_div, o_neg, o_ladd, o_lsub, o_lmul, o_ldiv, o_lrem, o_lneg, o_lcmp, o_i2l, o_l2i, o_dup, o_dup2, o_pop, o_go, o_nn, o_sw, swc, o_iret, o_zret, o_lret, o_vret, o_ieq, o_eq0, o_ine, o_ne0, o_ilt, o_lt0, o_ige, o_ge0, o_igt, o_gt0, o_ile, o_le0, o_iald, o_zald, o_lald, o_aald, o_iast, o_zast, o_last, o_aast, o_alen, o_gi, o_gr, o_pi, o_pz, o_pr, o_new, o_newa, o_copy, o_oinit, o_call, o_callV, o_callVc, o_callI, popn, cnO, o_BAD, lgt, lst, isL, kil, st1, st2, entL, List.length_nil, List.length_cons, List.replicate, Nat.reduceAdd, Nat.reduceLeDiff, Nat.reduceSub, true_and, and_true, Nat.zero_le, ne_eq, qk_wi, ql_wi, qr_wi, qj_wi, qt_wi, qk_wj, ql_wj, qr_wj, qi_wj, qt_wj, qk_wr, ql_wr, qi_wr, qj_wr, qt_wr, qi_ws, qj_ws, qr_ws, Int.toNat_natCast, Int.toNat_zero, Int.reduceToNat, not_true_eq_false, not_false_eq_true, false_implies, implies_true, Option.some.injEq, reduceCtorEq, Sp0, true_or, or_true, or_self, wi_wi, wj_wj, hM.k, hM.r0, hM.k1, hM.l1, ix0, ix12, ix24, ix36, ix48, ix60, ix1032, ix1044, ix1092, ix1140, ix1188, ix1200, ix1212, ix1284, ix1290, ix1296, ix1298, ix1322, ix1346, ix1358, ixm4, ixm12, ixm24, ixm81, ixm1382, ixadd, Nat.zero_add, hD, e24, e36, hmd, eqs, hM.r13, hM.k14, hM.l14, hM.r12, hM.k13, hM.l13, hb0, h13, esub, ha0]
                      repeat' (first | (with_reducible refine And.intro ?_ ?_) | (with_reducible intro))
                      all_goals (try (first | with_reducible assumption | omega | (unfold inI; omega) | (unfold inL; omega) | exact cz_in _ _))
                      all_goals (try (exfalso; omega))
                      all_goals (try ((first | (refine s_X8_gapsThatCanBe_0 x ok _ _ _ _ ?_) | (refine s_X8_gapsThatCanBe_26 x ok _ _ _ _ ?_) | (refine s_X8_gapsThatCanBe_27 x ok _ _ _ _ ?_) | (refine s_X8_gapsThatCanBe_34 x ok _ _ _ _ ?_) | (refine s_X8_gapsThatCanBe_69 x ok _ _ _ _ ?_) | (refine s_X8_gapsThatCanBe_80 x ok _ _ _ _ ?_) | (refine s_X8_gapsThatCanBe_82 x ok _ _ _ _ ?_) | (refine s_X8_gapsThatCanBe_170 x ok _ _ _ _ ?_) | (refine s_X8_gapsThatCanBe_174 x ok _ _ _ _ ?_) | (refine s_X8_gapsThatCanBe_175 x ok _ _ _ _ ?_) | (refine s_X8_gapsThatCanBe_182 x ok _ _ _ _ ?_) | (refine s_X8_gapsThatCanBe_188 x ok _ _ _ _ ?_) | (refine s_X8_gapsThatCanBe_217 x ok _ _ _ _ ?_) | (refine s_X8_gapsThatCanBe_223 x ok _ _ _ _ ?_)); (try simp only [wpS, o_c, o_cl, o_il, o_ll, o_al, o_is, o_ls, o_as, o_inc, o_add, o_sub, o_mul, o_and, o_or, o_xor, o_shl, o_shr, o_div, o_neg, o_ladd, o_lsub, o_lmul, o_ldiv, o_lrem, o_lneg, o_lcmp, o_i2l, o_l2i, o_dup, o_dup2, o_pop, o_go, o_nn, o_sw, swc, o_iret, o_zret, o_lret, o_vret, o_ieq, o_eq0, o_ine, o_ne0, o_ilt, o_lt0, o_ige, o_ge0, o_igt, o_gt0, o_ile, o_le0, o_iald, o_zald, o_lald, o_aald, o_iast, o_zast, o_last, o_aast, o_alen, o_gi, o_gr, o_pi, o_pz, o_pr, o_new, o_newa, o_copy, o_oinit, o_call, o_callV, o_callVc, o_callI, popn, cnO, o_BAD, lgt, lst, isL, kil, st1, st2, entL, List.length_nil, List.length_cons, List.replicate, Nat.reduceAdd, Nat.reduceLeDiff, Nat.reduceSub, true_and, and_true, Nat.zero_le, ne_eq, qk_wi, ql_wi, qr_wi, qj_wi, qt_wi, qk_wj, ql_wj, qr_wj, qi_wj, qt_wj, qk_wr, ql_wr, qi_wr, qj_wr, qt_wr, qi_ws, qj_ws, qr_ws, Int.toNat_natCast, Int.toNat_zero, Int.reduceToNat, not_true_eq_false, not_false_eq_true, false_implies, implies_true, Option.some.injEq, reduceCtorEq, Sp0, true_or, or_true, or_self, wi_wi, wj_wj, hM.r13, hM.k14, hM.l14]); (repeat' (first | (with_reducible refine And.intro ?_ ?_) | (with_reducible intro))); (all_goals (try (first | with_reducible assumption | omega | (unfold inI; omega) | (unfold inL; omega) | exact cz_in _ _)))))
                      all_goals (try (exfalso; omega))
                      refine hfin 0 (.inr ⟨rfl, ?_⟩)
                      rintro ⟨i, i1, i2, i3⟩
                      by_cases z : i = q
                      · subst z; exact hr0 i3
                      · exact hno ⟨i, by omega, i2, i3⟩
            refine s_X8_gapsThatCanBe_87 x ok _ _ _ _ ?_
            simp only [wpS, o_c, o_cl, o_il, o_ll, o_al, o_is, o_ls, o_as, o_inc, o_add, o_sub, o_mul, o_and, o_or, o_xor, o_shl, o_shr, o_div, o_neg, o_ladd, o_lsub, o_lmul, o_ldiv, o_lrem, o_lneg, o_lcmp, o_i2l, o_l2i, o_dup, o_dup2, o_pop, o_go, o_nn, o_sw, swc, o_iret, o_zret, o_lret, o_vret, o_ieq, o_eq0, o_ine, o_ne0, o_ilt, o_lt0, o_ige, o_ge0, o_igt, o_gt0, o_ile, o_le0, o_iald, o_zald, o_lald, o_aald, o_iast, o_zast, o_last, o_aast, o_alen, o_gi, o_gr, o_pi, o_pz, o_pr, o_new, o_newa, o_copy, o_oinit, o_call, o_callV, o_callVc, o_callI, popn, cnO, o_BAD, lgt, lst, isL, kil, st1, st2, entL, List.length_nil, List.length_cons, List.replicate, Nat.reduceAdd, Nat.reduceLeDiff, Nat.reduceSub, true_and, and_true, Nat.zero_le, ne_eq, qk_wi, ql_wi, qr_wi, qj_wi, qt_wi, qk_wj, ql_wj, qr_wj, qi_wj, qt_wj, qk_wr, ql_wr, qi_wr, qj_wr, qt_wr, qi_ws, qj_ws, qr_ws, Int.toNat_natCast, Int.toNat_zero, Int.reduceToNat, not_true_eq_false, not_false_eq_true, false_implies, implies_true, Option.some.injEq, reduceCtorEq, Sp0, true_or, or_true, or_self, wi_wi, wj_wj, hM.k, hM.r13, hM.k14, hM.l14]
            repeat' (first | (with_reducible refine And.intro ?_ ?_) | (with_reducible intro))
            all_goals (try (first | with_reducible assumption | omega | (unfold inI; omega) | (unfold inL; omega) | exact cz_in _ _))
            all_goals (try (exfalso; omega))
            refine inner 0 (by omega) _ (fun k2 hk2 => ?_) (.inr ⟨fu_s, ?_⟩)
            · rw [fu_n (by omega)]; exact hb2 k2 hk2
            · rintro ⟨i, i1, -⟩
              omega
        exact outer 0 (by omega) b v7 (fun k hk2 => by omega)
      refine s_X8_gapsThatCanBe_36 x ok _ _ _ _ ?_
      simp only [wpS, o_c, o_cl, o_il, o_ll, o_al, o_is, o_ls, o_as, o_inc, o_add, o_sub, o_mul, o_and, o_or, o_xor, o_shl, o_shr, o_div, o_neg, o_ladd, o_lsub, o_lmul, o_ldiv, o_lrem, o_lneg, o_lcmp, o_i2l, o_l2i, o_dup, o_dup2, o_pop, o_go, o_nn, o_sw, swc, o_iret, o_zret, o_lret, o_vret, o_ieq, o_eq0, o_ine, o_ne0, o_ilt, o_lt0, o_ige, o_ge0, o_igt, o_gt0, o_ile, o_le0, o_iald, o_zald, o_lald, o_aald, o_iast, o_zast, o_last, o_aast, o_alen, o_gi, o_gr, o_pi, o_pz, o_pr, o_new, o_newa, o_copy, o_oinit, o_call, o_callV, o_callVc, o_callI, popn, cnO, o_BAD, lgt, lst, isL, kil, st1, st2, entL, List.length_nil, List.length_cons, List.replicate, Nat.reduceAdd, Nat.reduceLeDiff, Nat.reduceSub, true_and, and_true, Nat.zero_le, ne_eq, qk_wi, ql_wi, qr_wi, qj_wi, qt_wi, qk_wj, ql_wj, qr_wj, qi_wj, qt_wj, qk_wr, ql_wr, qi_wr, qj_wr, qt_wr, qi_ws, qj_ws, qr_ws, Int.toNat_natCast, Int.toNat_zero, Int.reduceToNat, not_true_eq_false, not_false_eq_true, false_implies, implies_true, Option.some.injEq, reduceCtorEq, Sp0, true_or, or_true, or_self, wi_wi, wj_wj, hM.k]
      repeat' (first | (with_reducible refine And.intro ?_ ?_) | (with_reducible intro))
      all_goals (try (first | with_reducible assumption | omega | (unfold inI; omega) | (unfold inL; omega) | exact cz_in _ _))
      refine c8_shareOf (hM2 a b) hc hj ?_
      rw [hD]
      simp only [wpS, o_c, o_cl, o_il, o_ll, o_al, o_is, o_ls, o_as, o_inc, o_add, o_sub, o_mul, o_and, o_or, o_xor, o_shl, o_shr, o_div, o_neg, o_ladd, o_lsub, o_lmul, o_ldiv, o_lrem, o_lneg, o_lcmp, o_i2l, o_l2i, o_dup, o_dup2, o_pop, o_go, o_nn, o_sw, swc, o_iret, o_zret, o_lret, o_vret, o_ieq, o_eq0, o_ine, o_ne0, o_ilt, o_lt0, o_ige, o_ge0, o_igt, o_gt0, o_ile, o_le0, o_iald, o_zald, o_lald, o_aald, o_iast, o_zast, o_last, o_aast, o_alen, o_gi, o_gr, o_pi, o_pz, o_pr, o_new, o_newa, o_copy, o_oinit, o_call, o_callV, o_callVc, o_callI, popn, cnO, o_BAD, lgt, lst, isL, kil, st1, st2, entL, List.length_nil, List.length_cons, List.replicate, Nat.reduceAdd, Nat.reduceLeDiff, Nat.reduceSub, true_and, and_true, Nat.zero_le, ne_eq, qk_wi, ql_wi, qr_wi, qj_wi, qt_wi, qk_wj, ql_wj, qr_wj, qi_wj, qt_wj, qk_wr, ql_wr, qi_wr, qj_wr, qt_wr, qi_ws, qj_ws, qr_ws, Int.toNat_natCast, Int.toNat_zero, Int.reduceToNat, not_true_eq_false, not_false_eq_true, false_implies, implies_true, Option.some.injEq, reduceCtorEq, Sp0, true_or, or_true, or_self, wi_wi, wj_wj, hM.k, hM.r0, hM.k1, hM.l1, ix0, ix12, ix24, ix36, ix48, ix60, ix1032, ix1044, ix1092, ix1140, ix1188, ix1200, ix1212, ix1284, ix1290, ix1296, ix1298, ix1322, ix1346, ix1358, ixm4, ixm12, ixm24, ixm81, ixm1382, ixadd, Nat.zero_add, hD, e0]
      repeat' (first | (with_reducible refine And.intro ?_ ?_) | (with_reducible intro))
      all_goals (try (first | with_reducible assumption | omega | (unfold inI; omega) | (unfold inL; omega) | exact cz_in _ _))
      · exact skip (.inl (by unfold iab; split <;> omega)) _ _ _ _
      · refine s_X8_gapsThatCanBe_69 x ok _ _ _ _ ?_
        simp only [wpS, o_c, o_cl, o_il, o_ll, o_al, o_is, o_ls, o_as, o_inc, o_add, o_sub, o_mul, o_and, o_or, o_xor, o_shl, o_shr, o_div, o_neg, o_ladd, o_lsub, o_lmul, o_ldiv, o_lrem, o_lneg, o_lcmp, o_i2l, o_l2i, o_dup, o_dup2, o_pop, o_go, o_nn, o_sw, swc, o_iret, o_zret, o_lret, o_vret, o_ieq, o_eq0, o_ine, o_ne0, o_ilt, o_lt0, o_ige, o_ge0, o_igt, o_gt0, o_ile, o_le0, o_iald, o_zald, o_lald, o_aald, o_iast, o_zast, o_last, o_aast, o_alen, o_gi, o_gr, o_pi, o_pz, o_pr, o_new, o_newa, o_copy, o_oinit, o_call, o_callV, o_callVc, o_callI, popn, cnO, o_BAD, lgt, lst, isL, kil, st1, st2, entL, List.length_nil, List.length_cons, List.replicate, Nat.reduceAdd, Nat.reduceLeDiff, Nat.reduceSub, true_and, and_true, Nat.zero_le, ne_eq, qk_wi, ql_wi, qr_wi, qj_wi, qt_wi, qk_wj, ql_wj, qr_wj, qi_wj, qt_wj, qk_wr, ql_wr, qi_wr, qj_wr, qt_wr, qi_ws, qj_ws, qr_ws, Int.toNat_natCast, Int.toNat_zero, Int.reduceToNat, not_true_eq_false, not_false_eq_true, false_implies, implies_true, Option.some.injEq, reduceCtorEq, Sp0, true_or, or_true, or_self, wi_wi, wj_wj]
        repeat' (first | (with_reducible refine And.intro ?_ ?_) | (with_reducible intro))
        all_goals (try (first | with_reducible assumption | omega | (unfold inI; omega) | (unfold inL; omega) | exact cz_in _ _))
        · refine s_X8_gapsThatCanBe_80 x ok _ _ _ _ ?_
          simp only [wpS, o_c, o_cl, o_il, o_ll, o_al, o_is, o_ls, o_as, o_inc, o_add, o_sub, o_mul, o_and, o_or, o_xor, o_shl, o_shr, o_div, o_neg, o_ladd, o_lsub, o_lmul, o_ldiv, o_lrem, o_lneg, o_lcmp, o_i2l, o_l2i, o_dup, o_dup2, o_pop, o_go, o_nn, o_sw, swc, o_iret, o_zret, o_lret, o_vret, o_ieq, o_eq0, o_ine, o_ne0, o_ilt, o_lt0, o_ige, o_ge0, o_igt, o_gt0, o_ile, o_le0, o_iald, o_zald, o_lald, o_aald, o_iast, o_zast, o_last, o_aast, o_alen, o_gi, o_gr, o_pi, o_pz, o_pr, o_new, o_newa, o_copy, o_oinit, o_call, o_callV, o_callVc, o_callI, popn, cnO, o_BAD, lgt, lst, isL, kil, st1, st2, entL, List.length_nil, List.length_cons, List.replicate, Nat.reduceAdd, Nat.reduceLeDiff, Nat.reduceSub, true_and, and_true, Nat.zero_le, ne_eq, qk_wi, ql_wi, qr_wi, qj_wi, qt_wi, qk_wj, ql_wj, qr_wj, qi_wj, qt_wj, qk_wr, ql_wr, qi_wr, qj_wr, qt_wr, qi_ws, qj_ws, qr_ws, Int.toNat_natCast, Int.toNat_zero, Int.reduceToNat, not_true_eq_false, not_false_eq_true, false_implies, implies_true, Option.some.injEq, reduceCtorEq, Sp0, true_or, or_true, or_self, wi_wi, wj_wj]
          repeat' (first | (with_reducible refine And.intro ?_ ?_) | (with_reducible intro))
          all_goals (try (first | with_reducible assumption | omega | (unfold inI; omega) | (unfold inL; omega) | exact cz_in _ _))
          have := work (iab (dsh (qi h (y + 1)) c j)).toNat (dsh (qi h (y + 1)) c j) (by assumption) (by omega) (by unfold iab; split <;> omega) v7
          have e5 : (((iab (dsh (qi h (y + 1)) c j)).toNat : Nat) : Int) = dsh (qi h (y + 1)) c j := by unfold iab; split <;> omega
          rw [e5] at this
          exact this
        · refine s_X8_gapsThatCanBe_82 x ok _ _ _ _ ?_
          simp only [wpS, o_c, o_cl, o_il, o_ll, o_al, o_is, o_ls, o_as, o_inc, o_add, o_sub, o_mul, o_and, o_or, o_xor, o_shl, o_shr, o_div, o_neg, o_ladd, o_lsub, o_lmul, o_ldiv, o_lrem, o_lneg, o_lcmp, o_i2l, o_l2i, o_dup, o_dup2, o_pop, o_go, o_nn, o_sw, swc, o_iret, o_zret, o_lret, o_vret, o_ieq, o_eq0, o_ine, o_ne0, o_ilt, o_lt0, o_ige, o_ge0, o_igt, o_gt0, o_ile, o_le0, o_iald, o_zald, o_lald, o_aald, o_iast, o_zast, o_last, o_aast, o_alen, o_gi, o_gr, o_pi, o_pz, o_pr, o_new, o_newa, o_copy, o_oinit, o_call, o_callV, o_callVc, o_callI, popn, cnO, o_BAD, lgt, lst, isL, kil, st1, st2, entL, List.length_nil, List.length_cons, List.replicate, Nat.reduceAdd, Nat.reduceLeDiff, Nat.reduceSub, true_and, and_true, Nat.zero_le, ne_eq, qk_wi, ql_wi, qr_wi, qj_wi, qt_wi, qk_wj, ql_wj, qr_wj, qi_wj, qt_wj, qk_wr, ql_wr, qi_wr, qj_wr, qt_wr, qi_ws, qj_ws, qr_ws, Int.toNat_natCast, Int.toNat_zero, Int.reduceToNat, not_true_eq_false, not_false_eq_true, false_implies, implies_true, Option.some.injEq, reduceCtorEq, Sp0, true_or, or_true, or_self, wi_wi, wj_wj]
          repeat' (first | (with_reducible refine And.intro ?_ ?_) | (with_reducible intro))
          all_goals (try (first | with_reducible assumption | omega | (unfold inI; omega) | (unfold inL; omega) | exact cz_in _ _))
          have := work (iab (dsh (qi h (y + 1)) c j)).toNat (dsh (qi h (y + 1)) c j) (by assumption) (by omega) (by unfold iab; split <;> omega) v7
          have e5 : (((iab (dsh (qi h (y + 1)) c j)).toNat : Nat) : Int) = -dsh (qi h (y + 1)) c j := by unfold iab; split <;> omega
          rw [e5] at this
          exact this
      · exact skip (.inr (by unfold mrg; rw [if_neg (by assumption)]; rfl)) _ _ _ _
  have start : ∀ j, j ≤ w + 1 → ∀ a : Nat → Int, (∀ k, k < j → a k = if k = 0 then 1 else 0) → V i_X8_gapsThatCanBe x 8 [some (vr (some y)), some (vi c), some (vi w), some (vi j), none, none, none, none] [] (wi h (y + 13) a) (0, 0) := by
    refine bwd _ ?_ ?_
    · intro a ha
      refine s_X8_gapsThatCanBe_8 x ok _ _ _ _ ?_
      simp only [wpS, o_c, o_cl, o_il, o_ll, o_al, o_is, o_ls, o_as, o_inc, o_add, o_sub, o_mul, o_and, o_or, o_xor, o_shl, o_shr, o_div, o_neg, o_ladd, o_lsub, o_lmul, o_ldiv, o_lrem, o_lneg, o_lcmp, o_i2l, o_l2i, o_dup, o_dup2, o_pop, o_go, o_nn, o_sw, swc, o_iret, o_zret, o_lret, o_vret, o_ieq, o_eq0, o_ine, o_ne0, o_ilt, o_lt0, o_ige, o_ge0, o_igt, o_gt0, o_ile, o_le0, o_iald, o_zald, o_lald, o_aald, o_iast, o_zast, o_last, o_aast, o_alen, o_gi, o_gr, o_pi, o_pz, o_pr, o_new, o_newa, o_copy, o_oinit, o_call, o_callV, o_callVc, o_callI, popn, cnO, o_BAD, lgt, lst, isL, kil, st1, st2, entL, List.length_nil, List.length_cons, List.replicate, Nat.reduceAdd, Nat.reduceLeDiff, Nat.reduceSub, true_and, and_true, Nat.zero_le, ne_eq, qk_wi, ql_wi, qr_wi, qj_wi, qt_wi, qk_wj, ql_wj, qr_wj, qi_wj, qt_wj, qk_wr, ql_wr, qi_wr, qj_wr, qt_wr, qi_ws, qj_ws, qr_ws, Int.toNat_natCast, Int.toNat_zero, Int.reduceToNat, not_true_eq_false, not_false_eq_true, false_implies, implies_true, Option.some.injEq, reduceCtorEq, Sp0, true_or, or_true, or_self, wi_wi, wj_wj]
      repeat' (first | (with_reducible refine And.intro ?_ ?_) | (with_reducible intro))
      all_goals (try (first | with_reducible assumption | omega | (unfold inI; omega) | (unfold inL; omega) | exact cz_in _ _))
      refine s_X8_gapsThatCanBe_34 x ok _ _ _ _ ?_
      simp only [wpS, o_c, o_cl, o_il, o_ll, o_al, o_is, o_ls, o_as, o_inc, o_add, o_sub, o_mul, o_and, o_or, o_xor, o_shl, o_shr, o_div, o_neg, o_ladd, o_lsub, o_lmul, o_ldiv, o_lrem, o_lneg, o_lcmp, o_i2l, o_l2i, o_dup, o_dup2, o_pop, o_go, o_nn, o_sw, swc, o_iret, o_zret, o_lret, o_vret, o_ieq, o_eq0, o_ine, o_ne0, o_ilt, o_lt0, o_ige, o_ge0, o_igt, o_gt0, o_ile, o_le0, o_iald, o_zald, o_lald, o_aald, o_iast, o_zast, o_last, o_aast, o_alen, o_gi, o_gr, o_pi, o_pz, o_pr, o_new, o_newa, o_copy, o_oinit, o_call, o_callV, o_callVc, o_callI, popn, cnO, o_BAD, lgt, lst, isL, kil, st1, st2, entL, List.length_nil, List.length_cons, List.replicate, Nat.reduceAdd, Nat.reduceLeDiff, Nat.reduceSub, true_and, and_true, Nat.zero_le, ne_eq, qk_wi, ql_wi, qr_wi, qj_wi, qt_wi, qk_wj, ql_wj, qr_wj, qi_wj, qt_wj, qk_wr, ql_wr, qi_wr, qj_wr, qt_wr, qi_ws, qj_ws, qr_ws, Int.toNat_natCast, Int.toNat_zero, Int.reduceToNat, not_true_eq_false, not_false_eq_true, false_implies, implies_true, Option.some.injEq, reduceCtorEq, Sp0, true_or, or_true, or_self, wi_wi, wj_wj]
      have := main 0 (by omega) a (qi h (y + 14)) (fun k hk => by
        show (a k = 1 ∧ k = 0) ∨ (a k = 0 ∧ ¬ k = 0)
        have := ha k hk
        by_cases z : k = 0
        · rw [if_pos z] at this; exact .inl ⟨this, z⟩
        · rw [if_neg z] at this; exact .inr ⟨this, z⟩) none none none none
      have es : wi (wi h (y + 13) a) (y + 14) (qi h (y + 14)) = wi h (y + 13) a := by
        rw [← qi_wn (h := h) (a := y + 13) (b := y + 14) (f := a) (by omega), wi_self]
      rw [es] at this
      exact this
    · intro j hj ih a ha
      refine s_X8_gapsThatCanBe_8 x ok _ _ _ _ ?_
      simp only [wpS, o_c, o_cl, o_il, o_ll, o_al, o_is, o_ls, o_as, o_inc, o_add, o_sub, o_mul, o_and, o_or, o_xor, o_shl, o_shr, o_div, o_neg, o_ladd, o_lsub, o_lmul, o_ldiv, o_lrem, o_lneg, o_lcmp, o_i2l, o_l2i, o_dup, o_dup2, o_pop, o_go, o_nn, o_sw, swc, o_iret, o_zret, o_lret, o_vret, o_ieq, o_eq0, o_ine, o_ne0, o_ilt, o_lt0, o_ige, o_ge0, o_igt, o_gt0, o_ile, o_le0, o_iald, o_zald, o_lald, o_aald, o_iast, o_zast, o_last, o_aast, o_alen, o_gi, o_gr, o_pi, o_pz, o_pr, o_new, o_newa, o_copy, o_oinit, o_call, o_callV, o_callVc, o_callI, popn, cnO, o_BAD, lgt, lst, isL, kil, st1, st2, entL, List.length_nil, List.length_cons, List.replicate, Nat.reduceAdd, Nat.reduceLeDiff, Nat.reduceSub, true_and, and_true, Nat.zero_le, ne_eq, qk_wi, ql_wi, qr_wi, qj_wi, qt_wi, qk_wj, ql_wj, qr_wj, qi_wj, qt_wj, qk_wr, ql_wr, qi_wr, qj_wr, qt_wr, qi_ws, qj_ws, qr_ws, Int.toNat_natCast, Int.toNat_zero, Int.reduceToNat, not_true_eq_false, not_false_eq_true, false_implies, implies_true, Option.some.injEq, reduceCtorEq, Sp0, true_or, or_true, or_self, wi_wi, wj_wj, hM.k, hM.r12, hM.k13, hM.l13]
      repeat' (first | (with_reducible refine And.intro ?_ ?_) | (with_reducible intro))
      all_goals (try (first | with_reducible assumption | omega | (unfold inI; omega) | (unfold inL; omega) | exact cz_in _ _))
      all_goals (try (exfalso; omega))
      all_goals (all_goals (try ((first | (refine s_X8_gapsThatCanBe_0 x ok _ _ _ _ ?_) | (refine s_X8_gapsThatCanBe_26 x ok _ _ _ _ ?_) | (refine s_X8_gapsThatCanBe_27 x ok _ _ _ _ ?_) | (refine s_X8_gapsThatCanBe_34 x ok _ _ _ _ ?_) | (refine s_X8_gapsThatCanBe_69 x ok _ _ _ _ ?_) | (refine s_X8_gapsThatCanBe_80 x ok _ _ _ _ ?_) | (refine s_X8_gapsThatCanBe_82 x ok _ _ _ _ ?_) | (refine s_X8_gapsThatCanBe_170 x ok _ _ _ _ ?_) | (refine s_X8_gapsThatCanBe_174 x ok _ _ _ _ ?_) | (refine s_X8_gapsThatCanBe_175 x ok _ _ _ _ ?_) | (refine s_X8_gapsThatCanBe_182 x ok _ _ _ _ ?_) | (refine s_X8_gapsThatCanBe_188 x ok _ _ _ _ ?_) | (refine s_X8_gapsThatCanBe_217 x ok _ _ _ _ ?_) | (refine s_X8_gapsThatCanBe_223 x ok _ _ _ _ ?_)); (try simp only [wpS, o_c, o_cl, o_il, o_ll, o_al, o_is, o_ls, o_as, o_inc, o_add, o_sub, o_mul, o_and, o_or, o_xor, o_shl, o_shr, o_div, o_neg, o_ladd, o_lsub, o_lmul, o_ldiv, o_lrem, o_lneg, o_lcmp, o_i2l, o_l2i, o_dup, o_dup2, o_pop, o_go, o_nn, o_sw, swc, o_iret, o_zret, o_lret, o_vret, o_ieq, o_eq0, o_ine, o_ne0, o_ilt, o_lt0, o_ige, o_ge0, o_igt, o_gt0, o_ile, o_le0, o_iald, o_zald, o_lald, o_aald, o_iast, o_zast, o_last, o_aast, o_alen, o_gi, o_gr, o_pi, o_pz, o_pr, o_new, o_newa, o_copy, o_oinit, o_call, o_callV, o_callVc, o_callI, popn, cnO, o_BAD, lgt, lst, isL, kil, st1, st2, entL, List.length_nil, List.length_cons, List.replicate, Nat.reduceAdd, Nat.reduceLeDiff, Nat.reduceSub, true_and, and_true, Nat.zero_le, ne_eq, qk_wi, ql_wi, qr_wi, qj_wi, qt_wi, qk_wj, ql_wj, qr_wj, qi_wj, qt_wj, qk_wr, ql_wr, qi_wr, qj_wr, qt_wr, qi_ws, qj_ws, qr_ws, Int.toNat_natCast, Int.toNat_zero, Int.reduceToNat, not_true_eq_false, not_false_eq_true, false_implies, implies_true, Option.some.injEq, reduceCtorEq, Sp0, true_or, or_true, or_self, wi_wi, wj_wj, hM.k, hM.r12, hM.k13, hM.l13]); (repeat' (first | (with_reducible refine And.intro ?_ ?_) | (with_reducible intro))); (all_goals (try (first | with_reducible assumption | omega | (unfold inI; omega) | (unfold inL; omega) | exact cz_in _ _))))))
      all_goals (try (exfalso; omega))
      all_goals (first | (refine ih _ (fun k hk => ?_); unfold fu; have := ha k; grind) | skip)
  refine s_X8_gapsThatCanBe_0 x ok _ _ _ _ ?_
  simp only [wpS, o_c, o_cl, o_il, o_ll, o_al, o_is, o_ls, o_as, o_inc, o_add, o_sub, o_mul, o_and, o_or, o_xor, o_shl, o_shr, o_div, o_neg, o_ladd, o_lsub, o_lmul, o_ldiv, o_lrem, o_lneg, o_lcmp, o_i2l, o_l2i, o_dup, o_dup2, o_pop, o_go, o_nn, o_sw, swc, o_iret, o_zret, o_lret, o_vret, o_ieq, o_eq0, o_ine, o_ne0, o_ilt, o_lt0, o_ige, o_ge0, o_igt, o_gt0, o_ile, o_le0, o_iald, o_zald, o_lald, o_aald, o_iast, o_zast, o_last, o_aast, o_alen, o_gi, o_gr, o_pi, o_pz, o_pr, o_new, o_newa, o_copy, o_oinit, o_call, o_callV, o_callVc, o_callI, popn, cnO, o_BAD, lgt, lst, isL, kil, st1, st2, entL, List.length_nil, List.length_cons, List.replicate, Nat.reduceAdd, Nat.reduceLeDiff, Nat.reduceSub, true_and, and_true, Nat.zero_le, ne_eq, qk_wi, ql_wi, qr_wi, qj_wi, qt_wi, qk_wj, ql_wj, qr_wj, qi_wj, qt_wj, qk_wr, ql_wr, qi_wr, qj_wr, qt_wr, qi_ws, qj_ws, qr_ws, Int.toNat_natCast, Int.toNat_zero, Int.reduceToNat, not_true_eq_false, not_false_eq_true, false_implies, implies_true, Option.some.injEq, reduceCtorEq, Sp0, true_or, or_true, or_self, wi_wi, wj_wj, hM.k]
  repeat' (first | (with_reducible refine And.intro ?_ ?_) | (with_reducible intro))
  all_goals (try (first | with_reducible assumption | omega | (unfold inI; omega) | (unfold inL; omega) | exact cz_in _ _))
  refine c8_wide hM hI hc ?_
  rw [hwd]
  simp only [wpS, o_c, o_cl, o_il, o_ll, o_al, o_is, o_ls, o_as, o_inc, o_add, o_sub, o_mul, o_and, o_or, o_xor, o_shl, o_shr, o_div, o_neg, o_ladd, o_lsub, o_lmul, o_ldiv, o_lrem, o_lneg, o_lcmp, o_i2l, o_l2i, o_dup, o_dup2, o_pop, o_go, o_nn, o_sw, swc, o_iret, o_zret, o_lret, o_vret, o_ieq, o_eq0, o_ine, o_ne0, o_ilt, o_lt0, o_ige, o_ge0, o_igt, o_gt0, o_ile, o_le0, o_iald, o_zald, o_lald, o_aald, o_iast, o_zast, o_last, o_aast, o_alen, o_gi, o_gr, o_pi, o_pz, o_pr, o_new, o_newa, o_copy, o_oinit, o_call, o_callV, o_callVc, o_callI, popn, cnO, o_BAD, lgt, lst, isL, kil, st1, st2, entL, List.length_nil, List.length_cons, List.replicate, Nat.reduceAdd, Nat.reduceLeDiff, Nat.reduceSub, true_and, and_true, Nat.zero_le, ne_eq, qk_wi, ql_wi, qr_wi, qj_wi, qt_wi, qk_wj, ql_wj, qr_wj, qi_wj, qt_wj, qk_wr, ql_wr, qi_wr, qj_wr, qt_wr, qi_ws, qj_ws, qr_ws, Int.toNat_natCast, Int.toNat_zero, Int.reduceToNat, not_true_eq_false, not_false_eq_true, false_implies, implies_true, Option.some.injEq, reduceCtorEq, Sp0, true_or, or_true, or_self, wi_wi, wj_wj]
  repeat' (first | (with_reducible refine And.intro ?_ ?_) | (with_reducible intro))
  all_goals (try (first | with_reducible assumption | omega | (unfold inI; omega) | (unfold inL; omega) | exact cz_in _ _))
  have s0 := start 0 (by omega) (qi h (y + 13)) (fun k hk => by omega)
  rw [wi_self] at s0
  exact s0

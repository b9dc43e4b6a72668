/-! ===== FitBenchModel.match ===== -/
noncomputable def mtD (d : Dd) (lo hi : Int) : Dd := fun k => if 1358 ≤ k ∧ k < 1382 then (mtc d lo hi).2.2.1 (k - 1358) else d k
def T_X8_match : TT := fun as h K => ∃ (y : Nat) (lo hi : Int), as = [vr (some y), vi lo, vi hi] ∧ Mo h y ∧ Inv (qi h (y + 1)) ∧ inI lo ∧ inI hi ∧ (¬ mtOk lo hi → K (some (vi (-1))) h) ∧ (mtOk lo hi → ∀ a b : Nat → Int, K (some (vi (mtc (qi h (y + 1)) lo hi).2.2.2)) (wi (wi (wi h (y + 1) (mtD (qi h (y + 1)) lo hi)) (y + 11) a) (y + 12) b))
abbrev i_X8_match : MI := (cX8_match, 9, RX8, (some .int), "match", 2)
theorem k_X8_match_0 : Okop i_X8_match 0 (o_il 1) 1 := k_iln (j := 1) (by decide +kernel)
theorem k_X8_match_1 : Okop i_X8_match 1 (o_c (-30000)) 4 := k_sipush (by decide +kernel) rfl
theorem k_X8_match_4 : Okop i_X8_match 4 (o_ilt 33) 7 := k_ilt (off := 29) (by decide +kernel) (by decide)
theorem k_X8_match_7 : Okop i_X8_match 7 (o_il 1) 8 := k_iln (j := 1) (by decide +kernel)
theorem k_X8_match_8 : Okop i_X8_match 8 (o_c 30000) 11 := k_sipush (by decide +kernel) rfl
theorem k_X8_match_11 : Okop i_X8_match 11 (o_igt 33) 14 := k_igt (off := 22) (by decide +kernel) (by decide)
theorem k_X8_match_14 : Okop i_X8_match 14 (o_il 2) 15 := k_iln (j := 2) (by decide +kernel)
theorem k_X8_match_15 : Okop i_X8_match 15 (o_c (-30000)) 18 := k_sipush (by decide +kernel) rfl
theorem k_X8_match_18 : Okop i_X8_match 18 (o_ilt 33) 21 := k_ilt (off := 15) (by decide +kernel) (by decide)
theorem k_X8_match_21 : Okop i_X8_match 21 (o_il 2) 22 := k_iln (j := 2) (by decide +kernel)
theorem k_X8_match_22 : Okop i_X8_match 22 (o_c 30000) 25 := k_sipush (by decide +kernel) rfl
theorem k_X8_match_25 : Okop i_X8_match 25 (o_igt 33) 28 := k_igt (off := 8) (by decide +kernel) (by decide)
theorem k_X8_match_28 : Okop i_X8_match 28 (o_il 1) 29 := k_iln (j := 1) (by decide +kernel)
theorem k_X8_match_29 : Okop i_X8_match 29 (o_il 2) 30 := k_iln (j := 2) (by decide +kernel)
theorem k_X8_match_30 : Okop i_X8_match 30 (o_ile 35) 33 := k_ile (off := 5) (by decide +kernel) (by decide)
theorem k_X8_match_33 : Okop i_X8_match 33 (o_c (-1)) 34 := k_iconst (by decide +kernel)
theorem k_X8_match_34 : Okop i_X8_match 34 (o_iret) 35 := k_iret (by decide +kernel) rfl
theorem k_X8_match_35 : Okop i_X8_match 35 (o_c 0) 36 := k_iconst (by decide +kernel)
theorem k_X8_match_36 : Okop i_X8_match 36 (o_is 3) 37 := k_isn (j := 3) (by decide +kernel) (by decide)
theorem k_X8_match_37 : Okop i_X8_match 37 (o_c 0) 38 := k_iconst (by decide +kernel)
theorem k_X8_match_38 : Okop i_X8_match 38 (o_is 4) 40 := k_is (by decide +kernel) (by decide)
theorem k_X8_match_40 : Okop i_X8_match 40 (o_il 4) 42 := k_il (by decide +kernel)
theorem k_X8_match_42 : Okop i_X8_match 42 (o_c 24) 44 := k_bipush (by decide +kernel) rfl
theorem k_X8_match_44 : Okop i_X8_match 44 (o_ige 81) 47 := k_ige (off := 37) (by decide +kernel) (by decide)
theorem k_X8_match_47 : Okop i_X8_match 47 (o_al 0) 48 := k_aln (j := 0) (by decide +kernel)
theorem k_X8_match_48 : Okop i_X8_match 48 (o_gr 8 10) 51 := k_gr (idx := 43) fo_8 (by decide) (by decide) gw_670 (by decide +kernel)
theorem k_X8_match_51 : Okop i_X8_match 51 (o_il 4) 53 := k_il (by decide +kernel)
theorem k_X8_match_53 : Okop i_X8_match 53 (o_c 0) 54 := k_iconst (by decide +kernel)
theorem k_X8_match_54 : Okop i_X8_match 54 (o_zast) 55 := k_zast (by decide +kernel)
theorem k_X8_match_55 : Okop i_X8_match 55 (o_al 0) 56 := k_aln (j := 0) (by decide +kernel)
theorem k_X8_match_56 : Okop i_X8_match 56 (o_gr 8 11) 59 := k_gr (idx := 46) fo_8 (by decide) (by decide) gw_671 (by decide +kernel)
theorem k_X8_match_59 : Okop i_X8_match 59 (o_il 4) 61 := k_il (by decide +kernel)
theorem k_X8_match_61 : Okop i_X8_match 61 (o_c 0) 62 := k_iconst (by decide +kernel)
theorem k_X8_match_62 : Okop i_X8_match 62 (o_zast) 63 := k_zast (by decide +kernel)
theorem k_X8_match_63 : Okop i_X8_match 63 (o_al 0) 64 := k_aln (j := 0) (by decide +kernel)
theorem k_X8_match_64 : Okop i_X8_match 64 (o_gr 8 0) 67 := k_gr (idx := 7) fo_8 (by decide) (by decide) gw_660 (by decide +kernel)
theorem k_X8_match_67 : Okop i_X8_match 67 (o_c 1358) 70 := k_sipush (by decide +kernel) rfl
theorem k_X8_match_70 : Okop i_X8_match 70 (o_il 4) 72 := k_il (by decide +kernel)
theorem k_X8_match_72 : Okop i_X8_match 72 (o_add) 73 := k_add (by decide +kernel)
theorem k_X8_match_73 : Okop i_X8_match 73 (o_c (-1)) 74 := k_iconst (by decide +kernel)
theorem k_X8_match_74 : Okop i_X8_match 74 (o_iast) 75 := k_iast (by decide +kernel)
theorem k_X8_match_75 : Okop i_X8_match 75 (o_inc 4 1) 78 := k_inc (by decide +kernel) (by decide)
theorem k_X8_match_78 : Okop i_X8_match 78 (o_go 40) 81 := k_go (off := -38) (by decide +kernel) (by decide)
theorem k_X8_match_81 : Okop i_X8_match 81 (o_c 0) 82 := k_iconst (by decide +kernel)
theorem k_X8_match_82 : Okop i_X8_match 82 (o_is 4) 84 := k_is (by decide +kernel) (by decide)
theorem k_X8_match_84 : Okop i_X8_match 84 (o_il 4) 86 := k_il (by decide +kernel)
theorem k_X8_match_86 : Okop i_X8_match 86 (o_al 0) 87 := k_aln (j := 0) (by decide +kernel)
theorem k_X8_match_87 : Okop i_X8_match 87 (o_gr 8 0) 90 := k_gr (idx := 7) fo_8 (by decide) (by decide) gw_660 (by decide +kernel)
theorem k_X8_match_90 : Okop i_X8_match 90 (o_c 1296) 93 := k_sipush (by decide +kernel) rfl
theorem k_X8_match_93 : Okop i_X8_match 93 (o_iald) 94 := k_iald (by decide +kernel)
theorem k_X8_match_94 : Okop i_X8_match 94 (o_ige 321) 97 := k_ige (off := 227) (by decide +kernel) (by decide)
theorem k_X8_match_97 : Okop i_X8_match 97 (o_c (-1)) 98 := k_iconst (by decide +kernel)
theorem k_X8_match_98 : Okop i_X8_match 98 (o_is 5) 100 := k_is (by decide +kernel) (by decide)
theorem k_X8_match_100 : Okop i_X8_match 100 (o_c 0) 101 := k_iconst (by decide +kernel)
theorem k_X8_match_101 : Okop i_X8_match 101 (o_is 6) 103 := k_is (by decide +kernel) (by decide)
theorem k_X8_match_103 : Okop i_X8_match 103 (o_il 6) 105 := k_il (by decide +kernel)
theorem k_X8_match_105 : Okop i_X8_match 105 (o_al 0) 106 := k_aln (j := 0) (by decide +kernel)
theorem k_X8_match_106 : Okop i_X8_match 106 (o_gr 8 0) 109 := k_gr (idx := 7) fo_8 (by decide) (by decide) gw_660 (by decide +kernel)
theorem k_X8_match_109 : Okop i_X8_match 109 (o_c 1296) 112 := k_sipush (by decide +kernel) rfl
theorem k_X8_match_112 : Okop i_X8_match 112 (o_iald) 113 := k_iald (by decide +kernel)
theorem k_X8_match_113 : Okop i_X8_match 113 (o_ige 167) 116 := k_ige (off := 54) (by decide +kernel) (by decide)
theorem k_X8_match_116 : Okop i_X8_match 116 (o_al 0) 117 := k_aln (j := 0) (by decide +kernel)
theorem k_X8_match_117 : Okop i_X8_match 117 (o_gr 8 10) 120 := k_gr (idx := 43) fo_8 (by decide) (by decide) gw_670 (by decide +kernel)
theorem k_X8_match_120 : Okop i_X8_match 120 (o_il 6) 122 := k_il (by decide +kernel)
theorem k_X8_match_122 : Okop i_X8_match 122 (o_zald) 123 := k_zald (by decide +kernel)
theorem k_X8_match_123 : Okop i_X8_match 123 (o_ne0 161) 126 := k_ne0 (off := 38) (by decide +kernel) (by decide)
theorem k_X8_match_126 : Okop i_X8_match 126 (o_il 5) 128 := k_il (by decide +kernel)
theorem k_X8_match_128 : Okop i_X8_match 128 (o_c (-1)) 129 := k_iconst (by decide +kernel)
theorem k_X8_match_129 : Okop i_X8_match 129 (o_ieq 157) 132 := k_ieq (off := 28) (by decide +kernel) (by decide)
theorem k_X8_match_132 : Okop i_X8_match 132 (o_al 0) 133 := k_aln (j := 0) (by decide +kernel)
theorem k_X8_match_133 : Okop i_X8_match 133 (o_gr 8 0) 136 := k_gr (idx := 7) fo_8 (by decide) (by decide) gw_660 (by decide +kernel)
theorem k_X8_match_136 : Okop i_X8_match 136 (o_c 1298) 139 := k_sipush (by decide +kernel) rfl
theorem k_X8_match_139 : Okop i_X8_match 139 (o_il 6) 141 := k_il (by decide +kernel)
theorem k_X8_match_141 : Okop i_X8_match 141 (o_add) 142 := k_add (by decide +kernel)
theorem k_X8_match_142 : Okop i_X8_match 142 (o_iald) 143 := k_iald (by decide +kernel)
theorem k_X8_match_143 : Okop i_X8_match 143 (o_al 0) 144 := k_aln (j := 0) (by decide +kernel)
theorem k_X8_match_144 : Okop i_X8_match 144 (o_gr 8 0) 147 := k_gr (idx := 7) fo_8 (by decide) (by decide) gw_660 (by decide +kernel)
theorem k_X8_match_147 : Okop i_X8_match 147 (o_c 1298) 150 := k_sipush (by decide +kernel) rfl
theorem k_X8_match_150 : Okop i_X8_match 150 (o_il 5) 152 := k_il (by decide +kernel)
theorem k_X8_match_152 : Okop i_X8_match 152 (o_add) 153 := k_add (by decide +kernel)
theorem k_X8_match_153 : Okop i_X8_match 153 (o_iald) 154 := k_iald (by decide +kernel)
theorem k_X8_match_154 : Okop i_X8_match 154 (o_ige 161) 157 := k_ige (off := 7) (by decide +kernel) (by decide)
theorem k_X8_match_157 : Okop i_X8_match 157 (o_il 6) 159 := k_il (by decide +kernel)
theorem k_X8_match_159 : Okop i_X8_match 159 (o_is 5) 161 := k_is (by decide +kernel) (by decide)
theorem k_X8_match_161 : Okop i_X8_match 161 (o_inc 6 1) 164 := k_inc (by decide +kernel) (by decide)
theorem k_X8_match_164 : Okop i_X8_match 164 (o_go 103) 167 := k_go (off := -61) (by decide +kernel) (by decide)
theorem k_X8_match_167 : Okop i_X8_match 167 (o_al 0) 168 := k_aln (j := 0) (by decide +kernel)
theorem k_X8_match_168 : Okop i_X8_match 168 (o_gr 8 10) 171 := k_gr (idx := 43) fo_8 (by decide) (by decide) gw_670 (by decide +kernel)
theorem k_X8_match_171 : Okop i_X8_match 171 (o_il 5) 173 := k_il (by decide +kernel)
theorem k_X8_match_173 : Okop i_X8_match 173 (o_c 1) 174 := k_iconst (by decide +kernel)
theorem k_X8_match_174 : Okop i_X8_match 174 (o_zast) 175 := k_zast (by decide +kernel)
theorem k_X8_match_175 : Okop i_X8_match 175 (o_c (-1)) 176 := k_iconst (by decide +kernel)
theorem k_X8_match_176 : Okop i_X8_match 176 (o_is 6) 178 := k_is (by decide +kernel) (by decide)
theorem k_X8_match_178 : Okop i_X8_match 178 (o_c 0) 179 := k_iconst (by decide +kernel)
theorem k_X8_match_179 : Okop i_X8_match 179 (o_is 7) 181 := k_is (by decide +kernel) (by decide)
theorem k_X8_match_181 : Okop i_X8_match 181 (o_il 7) 183 := k_il (by decide +kernel)
theorem k_X8_match_183 : Okop i_X8_match 183 (o_al 0) 184 := k_aln (j := 0) (by decide +kernel)
theorem k_X8_match_184 : Okop i_X8_match 184 (o_gr 8 0) 187 := k_gr (idx := 7) fo_8 (by decide) (by decide) gw_660 (by decide +kernel)
theorem k_X8_match_187 : Okop i_X8_match 187 (o_c 1297) 190 := k_sipush (by decide +kernel) rfl
theorem k_X8_match_190 : Okop i_X8_match 190 (o_iald) 191 := k_iald (by decide +kernel)
theorem k_X8_match_191 : Okop i_X8_match 191 (o_ige 282) 194 := k_ige (off := 91) (by decide +kernel) (by decide)
theorem k_X8_match_194 : Okop i_X8_match 194 (o_al 0) 195 := k_aln (j := 0) (by decide +kernel)
theorem k_X8_match_195 : Okop i_X8_match 195 (o_gr 8 0) 198 := k_gr (idx := 7) fo_8 (by decide) (by decide) gw_660 (by decide +kernel)
theorem k_X8_match_198 : Okop i_X8_match 198 (o_c 1322) 201 := k_sipush (by decide +kernel) rfl
theorem k_X8_match_201 : Okop i_X8_match 201 (o_il 7) 203 := k_il (by decide +kernel)
theorem k_X8_match_203 : Okop i_X8_match 203 (o_add) 204 := k_add (by decide +kernel)
theorem k_X8_match_204 : Okop i_X8_match 204 (o_iald) 205 := k_iald (by decide +kernel)
theorem k_X8_match_205 : Okop i_X8_match 205 (o_al 0) 206 := k_aln (j := 0) (by decide +kernel)
theorem k_X8_match_206 : Okop i_X8_match 206 (o_gr 8 0) 209 := k_gr (idx := 7) fo_8 (by decide) (by decide) gw_660 (by decide +kernel)
theorem k_X8_match_209 : Okop i_X8_match 209 (o_c 1298) 212 := k_sipush (by decide +kernel) rfl
theorem k_X8_match_212 : Okop i_X8_match 212 (o_il 5) 214 := k_il (by decide +kernel)
theorem k_X8_match_214 : Okop i_X8_match 214 (o_add) 215 := k_add (by decide +kernel)
theorem k_X8_match_215 : Okop i_X8_match 215 (o_iald) 216 := k_iald (by decide +kernel)
theorem k_X8_match_216 : Okop i_X8_match 216 (o_sub) 217 := k_sub (by decide +kernel)
theorem k_X8_match_217 : Okop i_X8_match 217 (o_is 8) 219 := k_is (by decide +kernel) (by decide)
theorem k_X8_match_219 : Okop i_X8_match 219 (o_al 0) 220 := k_aln (j := 0) (by decide +kernel)
theorem k_X8_match_220 : Okop i_X8_match 220 (o_gr 8 11) 223 := k_gr (idx := 46) fo_8 (by decide) (by decide) gw_671 (by decide +kernel)
theorem k_X8_match_223 : Okop i_X8_match 223 (o_il 7) 225 := k_il (by decide +kernel)
theorem k_X8_match_225 : Okop i_X8_match 225 (o_zald) 226 := k_zald (by decide +kernel)
theorem k_X8_match_226 : Okop i_X8_match 226 (o_ne0 276) 229 := k_ne0 (off := 50) (by decide +kernel) (by decide)
theorem k_X8_match_229 : Okop i_X8_match 229 (o_il 8) 231 := k_il (by decide +kernel)
theorem k_X8_match_231 : Okop i_X8_match 231 (o_il 1) 232 := k_iln (j := 1) (by decide +kernel)
theorem k_X8_match_232 : Okop i_X8_match 232 (o_ilt 276) 235 := k_ilt (off := 44) (by decide +kernel) (by decide)
theorem k_X8_match_235 : Okop i_X8_match 235 (o_il 8) 237 := k_il (by decide +kernel)
theorem k_X8_match_237 : Okop i_X8_match 237 (o_il 2) 238 := k_iln (j := 2) (by decide +kernel)
theorem k_X8_match_238 : Okop i_X8_match 238 (o_igt 276) 241 := k_igt (off := 38) (by decide +kernel) (by decide)
theorem k_X8_match_241 : Okop i_X8_match 241 (o_il 6) 243 := k_il (by decide +kernel)
theorem k_X8_match_243 : Okop i_X8_match 243 (o_c (-1)) 244 := k_iconst (by decide +kernel)
theorem k_X8_match_244 : Okop i_X8_match 244 (o_ieq 272) 247 := k_ieq (off := 28) (by decide +kernel) (by decide)
theorem k_X8_match_247 : Okop i_X8_match 247 (o_al 0) 248 := k_aln (j := 0) (by decide +kernel)
theorem k_X8_match_248 : Okop i_X8_match 248 (o_gr 8 0) 251 := k_gr (idx := 7) fo_8 (by decide) (by decide) gw_660 (by decide +kernel)
theorem k_X8_match_251 : Okop i_X8_match 251 (o_c 1322) 254 := k_sipush (by decide +kernel) rfl
theorem k_X8_match_254 : Okop i_X8_match 254 (o_il 7) 256 := k_il (by decide +kernel)
theorem k_X8_match_256 : Okop i_X8_match 256 (o_add) 257 := k_add (by decide +kernel)
theorem k_X8_match_257 : Okop i_X8_match 257 (o_iald) 258 := k_iald (by decide +kernel)
theorem k_X8_match_258 : Okop i_X8_match 258 (o_al 0) 259 := k_aln (j := 0) (by decide +kernel)
theorem k_X8_match_259 : Okop i_X8_match 259 (o_gr 8 0) 262 := k_gr (idx := 7) fo_8 (by decide) (by decide) gw_660 (by decide +kernel)
theorem k_X8_match_262 : Okop i_X8_match 262 (o_c 1322) 265 := k_sipush (by decide +kernel) rfl
theorem k_X8_match_265 : Okop i_X8_match 265 (o_il 6) 267 := k_il (by decide +kernel)
theorem k_X8_match_267 : Okop i_X8_match 267 (o_add) 268 := k_add (by decide +kernel)
theorem k_X8_match_268 : Okop i_X8_match 268 (o_iald) 269 := k_iald (by decide +kernel)
theorem k_X8_match_269 : Okop i_X8_match 269 (o_ige 276) 272 := k_ige (off := 7) (by decide +kernel) (by decide)
theorem k_X8_match_272 : Okop i_X8_match 272 (o_il 7) 274 := k_il (by decide +kernel)
theorem k_X8_match_274 : Okop i_X8_match 274 (o_is 6) 276 := k_is (by decide +kernel) (by decide)
theorem k_X8_match_276 : Okop i_X8_match 276 (o_inc 7 1) 279 := k_inc (by decide +kernel) (by decide)
theorem k_X8_match_279 : Okop i_X8_match 279 (o_go 181) 282 := k_go (off := -98) (by decide +kernel) (by decide)
theorem k_X8_match_282 : Okop i_X8_match 282 (o_il 6) 284 := k_il (by decide +kernel)
theorem k_X8_match_284 : Okop i_X8_match 284 (o_c (-1)) 285 := k_iconst (by decide +kernel)
theorem k_X8_match_285 : Okop i_X8_match 285 (o_ine 291) 288 := k_ine (off := 6) (by decide +kernel) (by decide)
theorem k_X8_match_288 : Okop i_X8_match 288 (o_go 315) 291 := k_go (off := 27) (by decide +kernel) (by decide)
theorem k_X8_match_291 : Okop i_X8_match 291 (o_al 0) 292 := k_aln (j := 0) (by decide +kernel)
theorem k_X8_match_292 : Okop i_X8_match 292 (o_gr 8 11) 295 := k_gr (idx := 46) fo_8 (by decide) (by decide) gw_671 (by decide +kernel)
theorem k_X8_match_295 : Okop i_X8_match 295 (o_il 6) 297 := k_il (by decide +kernel)
theorem k_X8_match_297 : Okop i_X8_match 297 (o_c 1) 298 := k_iconst (by decide +kernel)
theorem k_X8_match_298 : Okop i_X8_match 298 (o_zast) 299 := k_zast (by decide +kernel)
theorem k_X8_match_299 : Okop i_X8_match 299 (o_al 0) 300 := k_aln (j := 0) (by decide +kernel)
theorem k_X8_match_300 : Okop i_X8_match 300 (o_gr 8 0) 303 := k_gr (idx := 7) fo_8 (by decide) (by decide) gw_660 (by decide +kernel)
theorem k_X8_match_303 : Okop i_X8_match 303 (o_c 1358) 306 := k_sipush (by decide +kernel) rfl
theorem k_X8_match_306 : Okop i_X8_match 306 (o_il 5) 308 := k_il (by decide +kernel)
theorem k_X8_match_308 : Okop i_X8_match 308 (o_add) 309 := k_add (by decide +kernel)
theorem k_X8_match_309 : Okop i_X8_match 309 (o_il 6) 311 := k_il (by decide +kernel)
theorem k_X8_match_311 : Okop i_X8_match 311 (o_iast) 312 := k_iast (by decide +kernel)
theorem k_X8_match_312 : Okop i_X8_match 312 (o_inc 3 1) 315 := k_inc (by decide +kernel) (by decide)
theorem k_X8_match_315 : Okop i_X8_match 315 (o_inc 4 1) 318 := k_inc (by decide +kernel) (by decide)
theorem k_X8_match_318 : Okop i_X8_match 318 (o_go 84) 321 := k_go (off := -234) (by decide +kernel) (by decide)
theorem k_X8_match_321 : Okop i_X8_match 321 (o_il 3) 322 := k_iln (j := 3) (by decide +kernel)
theorem k_X8_match_322 : Okop i_X8_match 322 (o_iret) 323 := k_iret (by decide +kernel) rfl
theorem s_X8_match_0 : Seg i_X8_match 0 [o_il 1, o_c (-30000), o_ilt 33, o_il 1, o_c 30000, o_igt 33, o_il 2, o_c (-30000), o_ilt 33, o_il 2, o_c 30000, o_igt 33, o_il 1, o_il 2, o_ile 35, o_c (-1), o_iret] 35 := Seg.cons k_X8_match_0 (Seg.cons k_X8_match_1 (Seg.cons k_X8_match_4 (Seg.cons k_X8_match_7 (Seg.cons k_X8_match_8 (Seg.cons k_X8_match_11 (Seg.cons k_X8_match_14 (Seg.cons k_X8_match_15 (Seg.cons k_X8_match_18 (Seg.cons k_X8_match_21 (Seg.cons k_X8_match_22 (Seg.cons k_X8_match_25 (Seg.cons k_X8_match_28 (Seg.cons k_X8_match_29 (Seg.cons k_X8_match_30 (Seg.cons k_X8_match_33 (Seg.cons k_X8_match_34 (Seg.nil)))))))))))))))))
theorem s_X8_match_33 : Seg i_X8_match 33 [o_c (-1), o_iret] 35 := Seg.cons k_X8_match_33 (Seg.cons k_X8_match_34 (Seg.nil))
theorem s_X8_match_35 : Seg i_X8_match 35 [o_c 0, o_is 3, o_c 0, o_is 4] 40 := Seg.cons k_X8_match_35 (Seg.cons k_X8_match_36 (Seg.cons k_X8_match_37 (Seg.cons k_X8_match_38 (Seg.nil))))
theorem s_X8_match_40 : Seg i_X8_match 40 [o_il 4, o_c 24, o_ige 81, o_al 0, o_gr 8 10, o_il 4, o_c 0, o_zast, o_al 0, o_gr 8 11, o_il 4, o_c 0, o_zast, o_al 0, o_gr 8 0, o_c 1358, o_il 4, o_add, o_c (-1), o_iast, o_inc 4 1, o_go 40] 81 := Seg.cons k_X8_match_40 (Seg.cons k_X8_match_42 (Seg.cons k_X8_match_44 (Seg.cons k_X8_match_47 (Seg.cons k_X8_match_48 (Seg.cons k_X8_match_51 (Seg.cons k_X8_match_53 (Seg.cons k_X8_match_54 (Seg.cons k_X8_match_55 (Seg.cons k_X8_match_56 (Seg.cons k_X8_match_59 (Seg.cons k_X8_match_61 (Seg.cons k_X8_match_62 (Seg.cons k_X8_match_63 (Seg.cons k_X8_match_64 (Seg.cons k_X8_match_67 (Seg.cons k_X8_match_70 (Seg.cons k_X8_match_72 (Seg.cons k_X8_match_73 (Seg.cons k_X8_match_74 (Seg.cons k_X8_match_75 (Seg.cons k_X8_match_78 (Seg.nil))))))))))))))))))))))
theorem s_X8_match_81 : Seg i_X8_match 81 [o_c 0, o_is 4] 84 := Seg.cons k_X8_match_81 (Seg.cons k_X8_match_82 (Seg.nil))
theorem s_X8_match_84 : Seg i_X8_match 84 [o_il 4, o_al 0, o_gr 8 0, o_c 1296, o_iald, o_ige 321, o_c (-1), o_is 5, o_c 0, o_is 6] 103 := Seg.cons k_X8_match_84 (Seg.cons k_X8_match_86 (Seg.cons k_X8_match_87 (Seg.cons k_X8_match_90 (Seg.cons k_X8_match_93 (Seg.cons k_X8_match_94 (Seg.cons k_X8_match_97 (Seg.cons k_X8_match_98 (Seg.cons k_X8_match_100 (Seg.cons k_X8_match_101 (Seg.nil))))))))))
theorem s_X8_match_103 : Seg i_X8_match 103 [o_il 6, o_al 0, o_gr 8 0, o_c 1296, o_iald, o_ige 167, o_al 0, o_gr 8 10, o_il 6, o_zald, o_ne0 161, o_il 5, o_c (-1), o_ieq 157, o_al 0, o_gr 8 0, o_c 1298, o_il 6, o_add, o_iald, o_al 0, o_gr 8 0, o_c 1298, o_il 5, o_add, o_iald, o_ige 161, o_il 6, o_is 5, o_inc 6 1, o_go 103] 167 := Seg.cons k_X8_match_103 (Seg.cons k_X8_match_105 (Seg.cons k_X8_match_106 (Seg.cons k_X8_match_109 (Seg.cons k_X8_match_112 (Seg.cons k_X8_match_113 (Seg.cons k_X8_match_116 (Seg.cons k_X8_match_117 (Seg.cons k_X8_match_120 (Seg.cons k_X8_match_122 (Seg.cons k_X8_match_123 (Seg.cons k_X8_match_126 (Seg.cons k_X8_match_128 (Seg.cons k_X8_match_129 (Seg.cons k_X8_match_132 (Seg.cons k_X8_match_133 (Seg.cons k_X8_match_136 (Seg.cons k_X8_match_139 (Seg.cons k_X8_match_141 (Seg.cons k_X8_match_142 (Seg.cons k_X8_match_143 (Seg.cons k_X8_match_144 (Seg.cons k_X8_match_147 (Seg.cons k_X8_match_150 (Seg.cons k_X8_match_152 (Seg.cons k_X8_match_153 (Seg.cons k_X8_match_154 (Seg.cons k_X8_match_157 (Seg.cons k_X8_match_159 (Seg.cons k_X8_match_161 (Seg.cons k_X8_match_164 (Seg.nil)))))))))))))))))))))))))))))))
theorem s_X8_match_157 : Seg i_X8_match 157 [o_il 6, o_is 5, o_inc 6 1, o_go 103] 167 := Seg.cons k_X8_match_157 (Seg.cons k_X8_match_159 (Seg.cons k_X8_match_161 (Seg.cons k_X8_match_164 (Seg.nil))))
theorem s_X8_match_161 : Seg i_X8_match 161 [o_inc 6 1, o_go 103] 167 := Seg.cons k_X8_match_161 (Seg.cons k_X8_match_164 (Seg.nil))
theorem s_X8_match_167 : Seg i_X8_match 167 [o_al 0, o_gr 8 10, o_il 5, o_c 1, o_zast, o_c (-1), o_is 6, o_c 0, o_is 7] 181 := Seg.cons k_X8_match_167 (Seg.cons k_X8_match_168 (Seg.cons k_X8_match_171 (Seg.cons k_X8_match_173 (Seg.cons k_X8_match_174 (Seg.cons k_X8_match_175 (Seg.cons k_X8_match_176 (Seg.cons k_X8_match_178 (Seg.cons k_X8_match_179 (Seg.nil)))))))))
theorem s_X8_match_181 : Seg i_X8_match 181 [o_il 7, o_al 0, o_gr 8 0, o_c 1297, o_iald, o_ige 282, o_al 0, o_gr 8 0, o_c 1322, o_il 7, o_add, o_iald, o_al 0, o_gr 8 0, o_c 1298, o_il 5, o_add, o_iald, o_sub, o_is 8, o_al 0, o_gr 8 11, o_il 7, o_zald, o_ne0 276, o_il 8, o_il 1, o_ilt 276, o_il 8, o_il 2, o_igt 276, o_il 6, o_c (-1), o_ieq 272, o_al 0, o_gr 8 0, o_c 1322, o_il 7, o_add, o_iald, o_al 0, o_gr 8 0, o_c 1322, o_il 6, o_add, o_iald, o_ige 276, o_il 7, o_is 6, o_inc 7 1, o_go 181] 282 := Seg.cons k_X8_match_181 (Seg.cons k_X8_match_183 (Seg.cons k_X8_match_184 (Seg.cons k_X8_match_187 (Seg.cons k_X8_match_190 (Seg.cons k_X8_match_191 (Seg.cons k_X8_match_194 (Seg.cons k_X8_match_195 (Seg.cons k_X8_match_198 (Seg.cons k_X8_match_201 (Seg.cons k_X8_match_203 (Seg.cons k_X8_match_204 (Seg.cons k_X8_match_205 (Seg.cons k_X8_match_206 (Seg.cons k_X8_match_209 (Seg.cons k_X8_match_212 (Seg.cons k_X8_match_214 (Seg.cons k_X8_match_215 (Seg.cons k_X8_match_216 (Seg.cons k_X8_match_217 (Seg.cons k_X8_match_219 (Seg.cons k_X8_match_220 (Seg.cons k_X8_match_223 (Seg.cons k_X8_match_225 (Seg.cons k_X8_match_226 (Seg.cons k_X8_match_229 (Seg.cons k_X8_match_231 (Seg.cons k_X8_match_232 (Seg.cons k_X8_match_235 (Seg.cons k_X8_match_237 (Seg.cons k_X8_match_238 (Seg.cons k_X8_match_241 (Seg.cons k_X8_match_243 (Seg.cons k_X8_match_244 (Seg.cons k_X8_match_247 (Seg.cons k_X8_match_248 (Seg.cons k_X8_match_251 (Seg.cons k_X8_match_254 (Seg.cons k_X8_match_256 (Seg.cons k_X8_match_257 (Seg.cons k_X8_match_258 (Seg.cons k_X8_match_259 (Seg.cons k_X8_match_262 (Seg.cons k_X8_match_265 (Seg.cons k_X8_match_267 (Seg.cons k_X8_match_268 (Seg.cons k_X8_match_269 (Seg.cons k_X8_match_272 (Seg.cons k_X8_match_274 (Seg.cons k_X8_match_276 (Seg.cons k_X8_match_279 (Seg.nil)))))))))))))))))))))))))))))))))))))))))))))))))))
theorem s_X8_match_272 : Seg i_X8_match 272 [o_il 7, o_is 6, o_inc 7 1, o_go 181] 282 := Seg.cons k_X8_match_272 (Seg.cons k_X8_match_274 (Seg.cons k_X8_match_276 (Seg.cons k_X8_match_279 (Seg.nil))))
theorem s_X8_match_276 : Seg i_X8_match 276 [o_inc 7 1, o_go 181] 282 := Seg.cons k_X8_match_276 (Seg.cons k_X8_match_279 (Seg.nil))
theorem s_X8_match_282 : Seg i_X8_match 282 [o_il 6, o_c (-1), o_ine 291, o_go 315] 291 := Seg.cons k_X8_match_282 (Seg.cons k_X8_match_284 (Seg.cons k_X8_match_285 (Seg.cons k_X8_match_288 (Seg.nil))))
theorem s_X8_match_291 : Seg i_X8_match 291 [o_al 0, o_gr 8 11, o_il 6, o_c 1, o_zast, o_al 0, o_gr 8 0, o_c 1358, o_il 5, o_add, o_il 6, o_iast, o_inc 3 1, o_inc 4 1, o_go 84] 321 := Seg.cons k_X8_match_291 (Seg.cons k_X8_match_292 (Seg.cons k_X8_match_295 (Seg.cons k_X8_match_297 (Seg.cons k_X8_match_298 (Seg.cons k_X8_match_299 (Seg.cons k_X8_match_300 (Seg.cons k_X8_match_303 (Seg.cons k_X8_match_306 (Seg.cons k_X8_match_308 (Seg.cons k_X8_match_309 (Seg.cons k_X8_match_311 (Seg.cons k_X8_match_312 (Seg.cons k_X8_match_315 (Seg.cons k_X8_match_318 (Seg.nil)))))))))))))))
theorem s_X8_match_315 : Seg i_X8_match 315 [o_inc 4 1, o_go 84] 321 := Seg.cons k_X8_match_315 (Seg.cons k_X8_match_318 (Seg.nil))
theorem s_X8_match_321 : Seg i_X8_match 321 [o_il 3, o_iret] 323 := Seg.cons k_X8_match_321 (Seg.cons k_X8_match_322 (Seg.nil))

theorem m_X8_match : Mth yX8_match cX8_match 9 (some .int) 2 (Sp0 T_X8_match) := by
  refine Mth.of (by decide) ?_
  rintro x as h ok ⟨y, lo, hi, rfl, hM, hI, il, ih, hK0, hK1⟩
  refine ⟨Nat.le_of_ble_eq_true rfl, ?_⟩
  unfold mtOk at hK0 hK1
  by_cases q : lo ≤ hi ∧ -30000 ≤ lo ∧ hi ≤ 30000
  · have hK := hK1 q
    clear hK0 hK1
    have hL0 := hI.2.2.1 0 (by omega)
    have hL1 := hI.2.2.1 1 (by omega)
    have q1 : ∀ g a b : Nat → Int, qi (wi (wi (wi h (y + 1) g) (y + 11) a) (y + 12) b) (y + 1) = g := fun g a b => by rw [qi_wn (by omega), qi_wn (by omega), qi_ws]
    have q11 : ∀ g a b : Nat → Int, qi (wi (wi (wi h (y + 1) g) (y + 11) a) (y + 12) b) (y + 11) = a := fun g a b => by rw [qi_wn (by omega), qi_ws]
    have w1 : ∀ g a b g2 : Nat → Int, wi (wi (wi (wi h (y + 1) g) (y + 11) a) (y + 12) b) (y + 1) g2 = wi (wi (wi h (y + 1) g2) (y + 11) a) (y + 12) b := fun g a b g2 => by
      rw [wi_comm _ (show y + 12 ≠ y + 1 by omega), wi_comm _ (show y + 11 ≠ y + 1 by omega), wi_wi]
    have w11 : ∀ g a b g2 : Nat → Int, wi (wi (wi (wi h (y + 1) g) (y + 11) a) (y + 12) b) (y + 11) g2 = wi (wi (wi h (y + 1) g) (y + 11) g2) (y + 12) b := fun g a b g2 => by
      rw [wi_comm _ (show y + 12 ≠ y + 11 by omega), wi_wi]
    generalize hD : qi h (y + 1) = D at *
    obtain ⟨c0, hc0⟩ : ∃ c : Nat, dct D 0 = (c : Int) := ⟨(dct D 0).toNat, by have := hL0.1; omega⟩
    obtain ⟨c1, hc1⟩ : ∃ c : Nat, dct D 1 = (c : Int) := ⟨(dct D 1).toNat, by have := hL1.1; omega⟩
    have b0 : c0 ≤ 24 := by have := hL0.1; omega
    have b1 : c1 ≤ 24 := by have := hL1.1; omega
    have hf0 := hL0.2
    have hf1 := hL1.2
    have hleft := mtS_left (f0 := dpt D 0) (f1 := dpt D 1) (c0 := c0) (c1 := c1) (lo := lo) (hi := hi) (fun k hk => hf0 k (by omega))
    have hfin : ∀ (g a b : Nat → Int), (∀ k, ¬ (1358 ≤ k ∧ k < 1382) → g k = D k) → (∀ k, k < 24 → g (1358 + k) = (mtS (dpt D 0) (dpt D 1) c0 c1 lo hi c0).2.2.1 k) → xR x (some (vi (mtS (dpt D 0) (dpt D 1) c0 c1 lo hi c0).2.2.2)) (wi (wi (wi h (y + 1) g) (y + 11) a) (y + 12) b) := by
      intro g a b hg hm
      have e : g = mtD D lo hi := by
        funext k
        unfold mtD mtc
        rw [hc0, hc1, Int.toNat_natCast, Int.toNat_natCast]
        by_cases z : 1358 ≤ k ∧ k < 1382
        · rw [if_pos z, ← hm (k - 1358) (by omega), show 1358 + (k - 1358) = k by omega]
        · rw [if_neg z, hg k z]
      rw [e]
      have := hK a b
      unfold mtc at this
      rw [hc0, hc1, Int.toNat_natCast, Int.toNat_natCast] at this
      exact this
    clear hK hL0 hL1
    have hM2 : ∀ g a b : Nat → Int, Mo (wi (wi (wi h (y + 1) g) (y + 11) a) (y + 12) b) y := fun _ _ _ => hM
    have main : ∀ n, n ≤ c0 → ∀ (g a b : Nat → Int) (P : Int), (∀ k, ¬ (1358 ≤ k ∧ k < 1382) → g k = D k) → (∀ k, k < 24 → g (1358 + k) = (mtS (dpt D 0) (dpt D 1) c0 c1 lo hi n).2.2.1 k) → (∀ k, k < 24 → a k = if (mtS (dpt D 0) (dpt D 1) c0 c1 lo hi n).1 k then 1 else 0) → (∀ k, k < 24 → b k = if (mtS (dpt D 0) (dpt D 1) c0 c1 lo hi n).2.1 k then 1 else 0) → P = (mtS (dpt D 0) (dpt D 1) c0 c1 lo hi n).2.2.2 → 0 ≤ P → P ≤ n → ∀ v5 v6 v7 v8, V i_X8_match x 84 [some (vr (some y)), some (vi lo), some (vi hi), some (vi P), some (vi n), v5, v6, v7, v8] [] (wi (wi (wi h (y + 1) g) (y + 11) a) (y + 12) b) (0, 0) := by
      refine bwd _ ?_ ?_
      · intro g a b P hg hm ha hb hP p1 p2 v5 v6 v7 v8
        have e96 : g 1296 = (c0 : Int) := by rw [hg 1296 (by omega), ← hc0]; rfl
        refine s_X8_match_84 x ok _ _ _ _ ?_
        simp only [wpS, o_c, o_cl, o_il, o_ll, o_al, o_is, o_ls, o_as, o_inc, o_add, o_sub, o_mul, o_and, o_or, o_xor, o_shl, o_shr, o_div, o_neg, o_ladd, o_lsub, o_lmul, o_ldiv, o_lrem, o_lneg, o_lcmp, o_i2l, o_l2i, o_dup, o_dup2, o_pop, o_go, o_nn, o_sw, swc, o_iret, o_zret, o_lret, o_vret, o_ieq, o_eq0, o_ine, o_ne0, o_ilt, o_lt0, o_ige, o_ge0, o_igt, o_gt0, o_ile, o_le0, o_iald, o_zald, o_lald, o_aald, o_iast, o_zast, o_last, o_aast, o_alen, o_gi, o_gr, o_pi, o_pz, o_pr, o_new, o_newa, o_copy, o_oinit, o_call, o_callV, o_callVc, o_callI, popn, cnO, o_BAD, lgt, lst, isL, kil, st1, st2, entL, List.length_nil, List.length_cons, List.replicate, Nat.reduceAdd, Nat.reduceLeDiff, Nat.reduceSub, true_and, and_true, Nat.zero_le, ne_eq, qk_wi, ql_wi, qr_wi, qj_wi, qt_wi, qk_wj, ql_wj, qr_wj, qi_wj, qt_wj, qk_wr, ql_wr, qi_wr, qj_wr, qt_wr, qi_ws, qj_ws, qr_ws, Int.toNat_natCast, Int.toNat_zero, Int.reduceToNat, not_true_eq_false, not_false_eq_true, false_implies, implies_true, Option.some.injEq, reduceCtorEq, Sp0, true_or, or_true, or_self, wi_wi, wj_wj, hM.k, hM.r0, hM.k1, hM.l1, ix0, ix12, ix24, ix36, ix48, ix60, ix1032, ix1044, ix1092, ix1140, ix1188, ix1200, ix1212, ix1284, ix1290, ix1296, ix1298, ix1322, ix1346, ix1358, ixm4, ixm12, ixm24, ixm81, ixm1382, ixadd, Nat.zero_add, q1, e96]
        repeat' (first | (with_reducible refine And.intro ?_ ?_) | (with_reducible intro))
        all_goals (try (first | with_reducible assumption | omega | (unfold inI; omega) | (unfold inL; omega) | exact cz_in _ _))
        all_goals (try (exfalso; omega))
        refine s_X8_match_321 x ok _ _ _ _ ?_
        simp only [wpS, o_c, o_cl, o_il, o_ll, o_al, o_is, o_ls, o_as, o_inc, o_add, o_sub, o_mul, o_and, o_or, o_xor, o_shl, o_shr, o_div, o_neg, o_ladd, o_lsub, o_lmul, o_ldiv, o_lrem, o_lneg, o_lcmp, o_i2l, o_l2i, o_dup, o_dup2, o_pop, o_go, o_nn, o_sw, swc, o_iret, o_zret, o_lret, o_vret, o_ieq, o_eq0, o_ine, o_ne0, o_ilt, o_lt0, o_ige, o_ge0, o_igt, o_gt0, o_ile, o_le0, o_iald, o_zald, o_lald, o_aald, o_iast, o_zast, o_last, o_aast, o_alen, o_gi, o_gr, o_pi, o_pz, o_pr, o_new, o_newa, o_copy, o_oinit, o_call, o_callV, o_callVc, o_callI, popn, cnO, o_BAD, lgt, lst, isL, kil, st1, st2, entL, List.length_nil, List.length_cons, List.replicate, Nat.reduceAdd, Nat.reduceLeDiff, Nat.reduceSub, true_and, and_true, Nat.zero_le, ne_eq, qk_wi, ql_wi, qr_wi, qj_wi, qt_wi, qk_wj, ql_wj, qr_wj, qi_wj, qt_wj, qk_wr, ql_wr, qi_wr, qj_wr, qt_wr, qi_ws, qj_ws, qr_ws, Int.toNat_natCast, Int.toNat_zero, Int.reduceToNat, not_true_eq_false, not_false_eq_true, false_implies, implies_true, Option.some.injEq, reduceCtorEq, Sp0, true_or, or_true, or_self, wi_wi, wj_wj, hM.k]
        repeat' (first | (with_reducible refine And.intro ?_ ?_) | (with_reducible intro))
        all_goals (try (first | with_reducible assumption | omega | (unfold inI; omega) | (unfold inL; omega) | exact cz_in _ _))
        rw [hP]
        exact hfin g a b hg hm
      · intro n hn ih g a b P hg hm ha hb hP p1 p2 v5 v6 v7 v8
        have e96 : g 1296 = (c0 : Int) := by rw [hg 1296 (by omega), ← hc0]; rfl
        have e97 : g 1297 = (c1 : Int) := by rw [hg 1297 (by omega), ← hc1]; rfl
        have e98 : ∀ k, k < 24 → g (1298 + k) = dpt D 0 k := fun k hk => by rw [hg (1298 + k) (by omega)]; rfl
        have e22 : ∀ k, k < 24 → g (1322 + k) = dpt D 1 k := fun k hk => by rw [hg (1322 + k) (by omega)]; rfl
        obtain ⟨A, hA, eA, hAf⟩ := (hleft n (by omega)).2 hn
        rw [mtS_s, eA, Int.toNat_natCast] at ih
        have hMs := mtS_s (dpt D 0) (dpt D 1) c0 c1 lo hi n
        generalize (mtS (dpt D 0) (dpt D 1) c0 c1 lo hi n) = S at *
        clear hMs
        have h167 : ∀ v7 v8, V i_X8_match x 167 [some (vr (some y)), some (vi lo), some (vi hi), some (vi P), some (vi n), some (vi A), some (vi c0), v7, v8] [] (wi (wi (wi h (y + 1) g) (y + 11) a) (y + 12) b) (0, 0) := by
          intro v7 v8
          have in2 : ∀ k, k ≤ c1 → ∀ v8, V i_X8_match x 181 [some (vr (some y)), some (vi lo), some (vi hi), some (vi P), some (vi n), some (vi A), some (vi (lwF (dpt D 1) S.2.1 (dpt D 0 A + lo) (dpt D 0 A + hi) k)), some (vi k), v8] [] (wi (wi (wi h (y + 1) g) (y + 11) (fu a A 1)) (y + 12) b) (0, 0) := by
            have fA := hf0 A (by omega)
            have eAA := e98 A (by omega)
            refine bwd _ ?_ ?_
            · intro v8
              refine s_X8_match_181 x ok _ _ _ _ ?_
              simp only [wpS, o_c, o_cl, o_il, o_ll, o_al, o_is, o_ls, o_as, o_inc, o_add, o_sub, o_mul, o_and, o_or, o_xor, o_shl, o_shr, o_div, o_neg, o_ladd, o_lsub, o_lmul, o_ldiv, o_lrem, o_lneg, o_lcmp, o_i2l, o_l2i, o_dup, o_dup2, o_pop, o_go, o_nn, o_sw, swc, o_iret, o_zret, o_lret, o_vret, o_ieq, o_eq0, o_ine, o_ne0, o_ilt, o_lt0, o_ige, o_ge0, o_igt, o_gt0, o_ile, o_le0, o_iald, o_zald, o_lald, o_aald, o_iast, o_zast, o_last, o_aast, o_alen, o_gi, o_gr, o_pi, o_pz, o_pr, o_new, o_newa, o_copy, o_oinit, o_call, o_callV, o_callVc, o_callI, popn, cnO, o_BAD, lgt, lst, isL, kil, st1, st2, entL, List.length_nil, List.length_cons, List.replicate, Nat.reduceAdd, Nat.reduceLeDiff, Nat.reduceSub, true_and, and_true, Nat.zero_le, ne_eq, qk_wi, ql_wi, qr_wi, qj_wi, qt_wi, qk_wj, ql_wj, qr_wj, qi_wj, qt_wj, qk_wr, ql_wr, qi_wr, qj_wr, qt_wr, qi_ws, qj_ws, qr_ws, Int.toNat_natCast, Int.toNat_zero, Int.reduceToNat, not_true_eq_false, not_false_eq_true, false_implies, implies_true, Option.some.injEq, reduceCtorEq, Sp0, true_or, or_true, or_self, wi_wi, wj_wj, hM.k, hM.r0, hM.k1, hM.l1, ix0, ix12, ix24, ix36, ix48, ix60, ix1032, ix1044, ix1092, ix1140, ix1188, ix1200, ix1212, ix1284, ix1290, ix1296, ix1298, ix1322, ix1346, ix1358, ixm4, ixm12, ixm24, ixm81, ixm1382, ixadd, Nat.zero_add, q1, e97]
              repeat' (first | (with_reducible refine And.intro ?_ ?_) | (with_reducible intro))
              all_goals (try (first | with_reducible assumption | omega | (unfold inI; omega) | (unfold inL; omega) | exact cz_in _ _))
              all_goals (try (exfalso; omega))
              have ha2 : ∀ k, k < 24 → fu a A 1 k = if fu S.1 A true k then 1 else 0 := fun k hk => by
                unfold fu
                by_cases z : k = A
                · rw [if_pos z, if_pos z, if_pos rfl]
                · rw [if_neg z, if_neg z, ha k hk]
              rcases lwF_rng (dpt D 1) S.2.1 (dpt D 0 A + lo) (dpt D 0 A + hi) c1 with z | ⟨B, z1, z2, z3, -⟩
              · rw [z] at ih ⊢
                rw [if_pos rfl] at ih
                refine s_X8_match_282 x ok _ _ _ _ ?_
                simp only [wpS, o_c, o_cl, o_il, o_ll, o_al, o_is, o_ls, o_as, o_inc, o_add, o_sub, o_mul, o_and, o_or, o_xor, o_shl, o_shr, o_div, o_neg, o_ladd, o_lsub, o_lmul, o_ldiv, o_lrem, o_lneg, o_lcmp, o_i2l, o_l2i, o_dup, o_dup2, o_pop, o_go, o_nn, o_sw, swc, o_iret, o_zret, o_lret, o_vret, o_ieq, o_eq0, o_ine, o_ne0, o_ilt, o_lt0, o_ige, o_ge0, o_igt, o_gt0, o_ile, o_le0, o_iald, o_zald, o_lald, o_aald, o_iast, o_zast, o_last, o_aast, o_alen, o_gi, o_gr, o_pi, o_pz, o_pr, o_new, o_newa, o_copy, o_oinit, o_call, o_callV, o_callVc, o_callI, popn, cnO, o_BAD, lgt, lst, isL, kil, st1, st2, entL, List.length_nil, List.length_cons, List.replicate, Nat.reduceAdd, Nat.reduceLeDiff, Nat.reduceSub, true_and, and_true, Nat.zero_le, ne_eq, qk_wi, ql_wi, qr_wi, qj_wi, qt_wi, qk_wj, ql_wj, qr_wj, qi_wj, qt_wj, qk_wr, ql_wr, qi_wr, qj_wr, qt_wr, qi_ws, qj_ws, qr_ws, Int.toNat_natCast, Int.toNat_zero, Int.reduceToNat, not_true_eq_false, not_false_eq_true, false_implies, implies_true, Option.some.injEq, reduceCtorEq, Sp0, true_or, or_true, or_self, wi_wi, wj_wj, hM.k]
                repeat' (first | (with_reducible refine And.intro ?_ ?_) | (with_reducible intro))
                all_goals (try (first | with_reducible assumption | omega | (unfold inI; omega) | (unfold inL; omega) | exact cz_in _ _))
                all_goals (try (exfalso; omega))
                refine s_X8_match_315 x ok _ _ _ _ ?_
                simp only [wpS, o_c, o_cl, o_il, o_ll, o_al, o_is, o_ls, o_as, o_inc, o_add, o_sub, o_mul, o_and, o_or, o_xor, o_shl, o_shr, o_div, o_neg, o_ladd, o_lsub, o_lmul, o_ldiv, o_lrem, o_lneg, o_lcmp, o_i2l, o_l2i, o_dup, o_dup2, o_pop, o_go, o_nn, o_sw, swc, o_iret, o_zret, o_lret, o_vret, o_ieq, o_eq0, o_ine, o_ne0, o_ilt, o_lt0, o_ige, o_ge0, o_igt, o_gt0, o_ile, o_le0, o_iald, o_zald, o_lald, o_aald, o_iast, o_zast, o_last, o_aast, o_alen, o_gi, o_gr, o_pi, o_pz, o_pr, o_new, o_newa, o_copy, o_oinit, o_call, o_callV, o_callVc, o_callI, popn, cnO, o_BAD, lgt, lst, isL, kil, st1, st2, entL, List.length_nil, List.length_cons, List.replicate, Nat.reduceAdd, Nat.reduceLeDiff, Nat.reduceSub, true_and, and_true, Nat.zero_le, ne_eq, qk_wi, ql_wi, qr_wi, qj_wi, qt_wi, qk_wj, ql_wj, qr_wj, qi_wj, qt_wj, qk_wr, ql_wr, qi_wr, qj_wr, qt_wr, qi_ws, qj_ws, qr_ws, Int.toNat_natCast, Int.toNat_zero, Int.reduceToNat, not_true_eq_false, not_false_eq_true, false_implies, implies_true, Option.some.injEq, reduceCtorEq, Sp0, true_or, or_true, or_self, wi_wi, wj_wj, hM.k]
                repeat' (first | (with_reducible refine And.intro ?_ ?_) | (with_reducible intro))
                all_goals (try (first | with_reducible assumption | omega | (unfold inI; omega) | (unfold inL; omega) | exact cz_in _ _))
                exact ih g (fu a A 1) b P hg hm ha2 hb hP p1 (by omega) _ _ _ _
              · rw [z2] at ih ⊢
                rw [if_neg (by omega), Int.toNat_natCast] at ih
                refine s_X8_match_282 x ok _ _ _ _ ?_
                simp only [wpS, o_c, o_cl, o_il, o_ll, o_al, o_is, o_ls, o_as, o_inc, o_add, o_sub, o_mul, o_and, o_or, o_xor, o_shl, o_shr, o_div, o_neg, o_ladd, o_lsub, o_lmul, o_ldiv, o_lrem, o_lneg, o_lcmp, o_i2l, o_l2i, o_dup, o_dup2, o_pop, o_go, o_nn, o_sw, swc, o_iret, o_zret, o_lret, o_vret, o_ieq, o_eq0, o_ine, o_ne0, o_ilt, o_lt0, o_ige, o_ge0, o_igt, o_gt0, o_ile, o_le0, o_iald, o_zald, o_lald, o_aald, o_iast, o_zast, o_last, o_aast, o_alen, o_gi, o_gr, o_pi, o_pz, o_pr, o_new, o_newa, o_copy, o_oinit, o_call, o_callV, o_callVc, o_callI, popn, cnO, o_BAD, lgt, lst, isL, kil, st1, st2, entL, List.length_nil, List.length_cons, List.replicate, Nat.reduceAdd, Nat.reduceLeDiff, Nat.reduceSub, true_and, and_true, Nat.zero_le, ne_eq, qk_wi, ql_wi, qr_wi, qj_wi, qt_wi, qk_wj, ql_wj, qr_wj, qi_wj, qt_wj, qk_wr, ql_wr, qi_wr, qj_wr, qt_wr, qi_ws, qj_ws, qr_ws, Int.toNat_natCast, Int.toNat_zero, Int.reduceToNat, not_true_eq_false, not_false_eq_true, false_implies, implies_true, Option.some.injEq, reduceCtorEq, Sp0, true_or, or_true, or_self, wi_wi, wj_wj, hM.k]
                repeat' (first | (with_reducible refine And.intro ?_ ?_) | (with_reducible intro))
                all_goals (try (first | with_reducible assumption | omega | (unfold inI; omega) | (unfold inL; omega) | exact cz_in _ _))
                all_goals (try (exfalso; omega))
                refine s_X8_match_291 x ok _ _ _ _ ?_
                simp only [wpS, o_c, o_cl, o_il, o_ll, o_al, o_is, o_ls, o_as, o_inc, o_add, o_sub, o_mul, o_and, o_or, o_xor, o_shl, o_shr, o_div, o_neg, o_ladd, o_lsub, o_lmul, o_ldiv, o_lrem, o_lneg, o_lcmp, o_i2l, o_l2i, o_dup, o_dup2, o_pop, o_go, o_nn, o_sw, swc, o_iret, o_zret, o_lret, o_vret, o_ieq, o_eq0, o_ine, o_ne0, o_ilt, o_lt0, o_ige, o_ge0, o_igt, o_gt0, o_ile, o_le0, o_iald, o_zald, o_lald, o_aald, o_iast, o_zast, o_last, o_aast, o_alen, o_gi, o_gr, o_pi, o_pz, o_pr, o_new, o_newa, o_copy, o_oinit, o_call, o_callV, o_callVc, o_callI, popn, cnO, o_BAD, lgt, lst, isL, kil, st1, st2, entL, List.length_nil, List.length_cons, List.replicate, Nat.reduceAdd, Nat.reduceLeDiff, Nat.reduceSub, true_and, and_true, Nat.zero_le, ne_eq, qk_wi, ql_wi, qr_wi, qj_wi, qt_wi, qk_wj, ql_wj, qr_wj, qi_wj, qt_wj, qk_wr, ql_wr, qi_wr, qj_wr, qt_wr, qi_ws, qj_ws, qr_ws, Int.toNat_natCast, Int.toNat_zero, Int.reduceToNat, not_true_eq_false, not_false_eq_true, false_implies, implies_true, Option.some.injEq, reduceCtorEq, Sp0, true_or, or_true, or_self, wi_wi, wj_wj, hM.k, hM.r0, hM.k1, hM.l1, ix0, ix12, ix24, ix36, ix48, ix60, ix1032, ix1044, ix1092, ix1140, ix1188, ix1200, ix1212, ix1284, ix1290, ix1296, ix1298, ix1322, ix1346, ix1358, ixm4, ixm12, ixm24, ixm81, ixm1382, ixadd, Nat.zero_add, hM.r11, hM.k12, hM.l12, q1, w1]
                repeat' (first | (with_reducible refine And.intro ?_ ?_) | (with_reducible intro))
                all_goals (try (first | with_reducible assumption | omega | (unfold inI; omega) | (unfold inL; omega) | exact cz_in _ _))
                refine ih (fu g (1358 + A) B) (fu a A 1) (fu b B 1) (P + 1) ?_ ?_ ha2 ?_ (by rw [hP]) (by omega) (by omega) _ _ _ _
                · intro k hk
                  unfold fu
                  rw [if_neg (by omega), hg k hk]
                · intro k hk
                  show fu g (1358 + A) (B : Int) (1358 + k) = fu S.2.2.1 A (B : Int) k
                  unfold fu
                  by_cases z : k = A
                  · rw [if_pos (by omega), if_pos z]
                  · rw [if_neg (by omega), if_neg z, hm k hk]
                · intro k hk
                  show fu b B 1 k = if fu S.2.1 B true k then 1 else 0
                  unfold fu
                  by_cases z : k = B
                  · rw [if_pos z, if_pos z, if_pos rfl]
                  · rw [if_neg z, if_neg z, hb k hk]
            · intro k hk ih2 v8
              have fk := hf1 k (by omega)
              have ek := e22 k (by omega)
              have e1 : lwF (dpt D 1) S.2.1 (dpt D 0 A + lo) (dpt D 0 A + hi) (k + 1) = if S.2.1 k = false ∧ dpt D 0 A + lo ≤ dpt D 1 k ∧ dpt D 1 k ≤ dpt D 0 A + hi ∧ (lwF (dpt D 1) S.2.1 (dpt D 0 A + lo) (dpt D 0 A + hi) k = -1 ∨ dpt D 1 k < dpt D 1 (lwF (dpt D 1) S.2.1 (dpt D 0 A + lo) (dpt D 0 A + hi) k).toNat) then (k : Int) else lwF (dpt D 1) S.2.1 (dpt D 0 A + lo) (dpt D 0 A + hi) k := rfl
              rw [e1] at ih2
              have hbk := hb k (by omega)
              have h181 : S.2.1 k = false → dpt D 0 A + lo ≤ dpt D 1 k → dpt D 1 k ≤ dpt D 0 A + hi → (lwF (dpt D 1) S.2.1 (dpt D 0 A + lo) (dpt D 0 A + hi) k = -1 ∨ dpt D 1 k < dpt D 1 (lwF (dpt D 1) S.2.1 (dpt D 0 A + lo) (dpt D 0 A + hi) k).toNat) → ∀ v8, V i_X8_match x 181 [some (vr (some y)), some (vi lo), some (vi hi), some (vi P), some (vi n), some (vi A), some (vi k), some (vi (k + 1)), v8] [] (wi (wi (wi h (y + 1) g) (y + 11) (fu a A 1)) (y + 12) b) (0, 0) := by
                intro u1 u2 u3 u4 v8
                rw [if_pos ⟨u1, u2, u3, u4⟩] at ih2
                exact ih2 _
              have h272 : ∀ r, S.2.1 k = false → dpt D 0 A + lo ≤ dpt D 1 k → dpt D 1 k ≤ dpt D 0 A + hi → (lwF (dpt D 1) S.2.1 (dpt D 0 A + lo) (dpt D 0 A + hi) k = -1 ∨ dpt D 1 k < dpt D 1 (lwF (dpt D 1) S.2.1 (dpt D 0 A + lo) (dpt D 0 A + hi) k).toNat) → ∀ v8, V i_X8_match x 272 [some (vr (some y)), some (vi lo), some (vi hi), some (vi P), some (vi n), some (vi A), some (vi r), some (vi k), v8] [] (wi (wi (wi h (y + 1) g) (y + 11) (fu a A 1)) (y + 12) b) (0, 0) := by
                intro r u1 u2 u3 u4 v8
                rw [if_pos ⟨u1, u2, u3, u4⟩] at ih2
                refine s_X8_match_272 x ok _ _ _ _ ?_
                simp only [wpS, o_c, o_cl, o_il, o_ll, o_al, o_is, o_ls, o_as, o_inc, o_add, o_sub, o_mul, o_and, o_or, o_xor, o_shl, o_shr, o_div, o_neg, o_ladd, o_lsub, o_lmul, o_ldiv, o_lrem, o_lneg, o_lcmp, o_i2l, o_l2i, o_dup, o_dup2, o_pop, o_go, o_nn, o_sw, swc, o_iret, o_zret, o_lret, o_vret, o_ieq, o_eq0, o_ine, o_ne0, o_ilt, o_lt0, o_ige, o_ge0, o_igt, o_gt0, o_ile, o_le0, o_iald, o_zald, o_lald, o_aald, o_iast, o_zast, o_last, o_aast, o_alen, o_gi, o_gr, o_pi, o_pz, o_pr, o_new, o_newa, o_copy, o_oinit, o_call, o_callV, o_callVc, o_callI, popn, cnO, o_BAD, lgt, lst, isL, kil, st1, st2, entL, List.length_nil, List.length_cons, List.replicate, Nat.reduceAdd, Nat.reduceLeDiff, Nat.reduceSub, true_and, and_true, Nat.zero_le, ne_eq, qk_wi, ql_wi, qr_wi, qj_wi, qt_wi, qk_wj, ql_wj, qr_wj, qi_wj, qt_wj, qk_wr, ql_wr, qi_wr, qj_wr, qt_wr, qi_ws, qj_ws, qr_ws, Int.toNat_natCast, Int.toNat_zero, Int.reduceToNat, not_true_eq_false, not_false_eq_true, false_implies, implies_true, Option.some.injEq, reduceCtorEq, Sp0, true_or, or_true, or_self, wi_wi, wj_wj, hM.k]
                repeat' (first | (with_reducible refine And.intro ?_ ?_) | (with_reducible intro))
                all_goals (try (first | with_reducible assumption | omega | (unfold inI; omega) | (unfold inL; omega) | exact cz_in _ _))
                exact ih2 _
              have h276 : ¬ (S.2.1 k = false ∧ dpt D 0 A + lo ≤ dpt D 1 k ∧ dpt D 1 k ≤ dpt D 0 A + hi ∧ (lwF (dpt D 1) S.2.1 (dpt D 0 A + lo) (dpt D 0 A + hi) k = -1 ∨ dpt D 1 k < dpt D 1 (lwF (dpt D 1) S.2.1 (dpt D 0 A + lo) (dpt D 0 A + hi) k).toNat)) → ∀ v8, V i_X8_match x 276 [some (vr (some y)), some (vi lo), some (vi hi), some (vi P), some (vi n), some (vi A), some (vi (lwF (dpt D 1) S.2.1 (dpt D 0 A + lo) (dpt D 0 A + hi) k)), some (vi k), v8] [] (wi (wi (wi h (y + 1) g) (y + 11) (fu a A 1)) (y + 12) b) (0, 0) := by
                intro u v8
                rw [if_neg u] at ih2
                refine s_X8_match_276 x ok _ _ _ _ ?_
                simp only [wpS, o_c, o_cl, o_il, o_ll, o_al, o_is, o_ls, o_as, o_inc, o_add, o_sub, o_mul, o_and, o_or, o_xor, o_shl, o_shr, o_div, o_neg, o_ladd, o_lsub, o_lmul, o_ldiv, o_lrem, o_lneg, o_lcmp, o_i2l, o_l2i, o_dup, o_dup2, o_pop, o_go, o_nn, o_sw, swc, o_iret, o_zret, o_lret, o_vret, o_ieq, o_eq0, o_ine, o_ne0, o_ilt, o_lt0, o_ige, o_ge0, o_igt, o_gt0, o_ile, o_le0, o_iald, o_zald, o_lald, o_aald, o_iast, o_zast, o_last, o_aast, o_alen, o_gi, o_gr, o_pi, o_pz, o_pr, o_new, o_newa, o_copy, o_oinit, o_call, o_callV, o_callVc, o_callI, popn, cnO, o_BAD, lgt, lst, isL, kil, st1, st2, entL, List.length_nil, List.length_cons, List.replicate, Nat.reduceAdd, Nat.reduceLeDiff, Nat.reduceSub, true_and, and_true, Nat.zero_le, ne_eq, qk_wi, ql_wi, qr_wi, qj_wi, qt_wi, qk_wj, ql_wj, qr_wj, qi_wj, qt_wj, qk_wr, ql_wr, qi_wr, qj_wr, qt_wr, qi_ws, qj_ws, qr_ws, Int.toNat_natCast, Int.toNat_zero, Int.reduceToNat, not_true_eq_false, not_false_eq_true, false_implies, implies_true, Option.some.injEq, reduceCtorEq, Sp0, true_or, or_true, or_self, wi_wi, wj_wj, hM.k]
                repeat' (first | (with_reducible refine And.intro ?_ ?_) | (with_reducible intro))
                all_goals (try (first | with_reducible assumption | omega | (unfold inI; omega) | (unfold inL; omega) | exact cz_in _ _))
                exact ih2 _
              clear ih2
              cases ht : S.2.1 k with
              | true =>
                rw [ht, if_pos rfl] at hbk
                have h6 := h276 (fun u => by rw [ht] at u; cases u.1)
                refine s_X8_match_181 x ok _ _ _ _ ?_
                simp only [wpS, o_c, o_cl, o_il, o_ll, o_al, o_is, o_ls, o_as, o_inc, o_add, o_sub, o_mul, o_and, o_or, o_xor, o_shl, o_shr, o_div, o_neg, o_ladd, o_lsub, o_lmul, o_ldiv, o_lrem, o_lneg, o_lcmp, o_i2l, o_l2i, o_dup, o_dup2, o_pop, o_go, o_nn, o_sw, swc, o_iret, o_zret, o_lret, o_vret, o_ieq, o_eq0, o_ine, o_ne0, o_ilt, o_lt0, o_ige, o_ge0, o_igt, o_gt0, o_ile, o_le0, o_iald, o_zald, o_lald, o_aald, o_iast, o_zast, o_last, o_aast, o_alen, o_gi, o_gr, o_pi, o_pz, o_pr, o_new, o_newa, o_copy, o_oinit, o_call, o_callV, o_callVc, o_callI, popn, cnO, o_BAD, lgt, lst, isL, kil, st1, st2, entL, List.length_nil, List.length_cons, List.replicate, Nat.reduceAdd, Nat.reduceLeDiff, Nat.reduceSub, true_and, and_true, Nat.zero_le, ne_eq, qk_wi, ql_wi, qr_wi, qj_wi, qt_wi, qk_wj, ql_wj, qr_wj, qi_wj, qt_wj, qk_wr, ql_wr, qi_wr, qj_wr, qt_wr, qi_ws, qj_ws, qr_ws, Int.toNat_natCast, Int.toNat_zero, Int.reduceToNat, not_true_eq_false, not_false_eq_true, false_implies, implies_true, Option.some.injEq, reduceCtorEq, Sp0, true_or, or_true, or_self, wi_wi, wj_wj, hM.k, hM.r0, hM.k1, hM.l1, ix0, ix12, ix24, ix36, ix48, ix60, ix1032, ix1044, ix1092, ix1140, ix1188, ix1200, ix1212, ix1284, ix1290, ix1296, ix1298, ix1322, ix1346, ix1358, ixm4, ixm12, ixm24, ixm81, ixm1382, ixadd, Nat.zero_add, hM.r11, hM.k12, hM.l12, q1, e97, ek, eAA, hbk]
                repeat' (first | (with_reducible refine And.intro ?_ ?_) | (with_reducible intro))
                all_goals (try (first | with_reducible assumption | omega | (unfold inI; omega) | (unfold inL; omega) | exact cz_in _ _))
                all_goals (first | exact h6 _ | (exfalso; omega) | skip)
              | false =>
                rw [ht, if_neg (by decide)] at hbk
                rcases lwF_rng (dpt D 1) S.2.1 (dpt D 0 A + lo) (dpt D 0 A + hi) k with z | ⟨B, z1, z2, -⟩
                · rw [z] at h276 h272 ⊢
                  refine s_X8_match_181 x ok _ _ _ _ ?_
                  simp only [wpS, o_c, o_cl, o_il, o_ll, o_al, o_is, o_ls, o_as, o_inc, o_add, o_sub, o_mul, o_and, o_or, o_xor, o_shl, o_shr, o_div, o_neg, o_ladd, o_lsub, o_lmul, o_ldiv, o_lrem, o_lneg, o_lcmp, o_i2l, o_l2i, o_dup, o_dup2, o_pop, o_go, o_nn, o_sw, swc, o_iret, o_zret, o_lret, o_vret, o_ieq, o_eq0, o_ine, o_ne0, o_ilt, o_lt0, o_ige, o_ge0, o_igt, o_gt0, o_ile, o_le0, o_iald, o_zald, o_lald, o_aald, o_iast, o_zast, o_last, o_aast, o_alen, o_gi, o_gr, o_pi, o_pz, o_pr, o_new, o_newa, o_copy, o_oinit, o_call, o_callV, o_callVc, o_callI, popn, cnO, o_BAD, lgt, lst, isL, kil, st1, st2, entL, List.length_nil, List.length_cons, List.replicate, Nat.reduceAdd, Nat.reduceLeDiff, Nat.reduceSub, true_and, and_true, Nat.zero_le, ne_eq, qk_wi, ql_wi, qr_wi, qj_wi, qt_wi, qk_wj, ql_wj, qr_wj, qi_wj, qt_wj, qk_wr, ql_wr, qi_wr, qj_wr, qt_wr, qi_ws, qj_ws, qr_ws, Int.toNat_natCast, Int.toNat_zero, Int.reduceToNat, not_true_eq_false, not_false_eq_true, false_implies, implies_true, Option.some.injEq, reduceCtorEq, Sp0, true_or, or_true, or_self, wi_wi, wj_wj, hM.k, hM.r0, hM.k1, hM.l1, ix0, ix12, ix24, ix36, ix48, ix60, ix1032, ix1044, ix1092, ix1140, ix1188, ix1200, ix1212, ix1284, ix1290, ix1296, ix1298, ix1322, ix1346, ix1358, ixm4, ixm12, ixm24, ixm81, ixm1382, ixadd, Nat.zero_add, hM.r11, hM.k12, hM.l12, q1, e97, ek, eAA, hbk]
                  repeat' (first | (with_reducible refine And.intro ?_ ?_) | (with_reducible intro))
                  all_goals (try (first | with_reducible assumption | omega | (unfold inI; omega) | (unfold inL; omega) | exact cz_in _ _))
                  all_goals (first | exact h276 (by omega) _ | exact h272 _ ht (by omega) (by omega) (by omega) _ | exact h181 ht (by omega) (by omega) (by omega) _ | (exfalso; omega) | skip)
                · rw [z2] at h276 h272 h181 ⊢
                  rw [Int.toNat_natCast] at h276 h272 h181
                  have fB := hf1 B (by omega)
                  have eB := e22 B (by omega)
                  refine s_X8_match_181 x ok _ _ _ _ ?_
                  simp only [wpS, o_c, o_cl, o_il, o_ll, o_al, o_is, o_ls, o_as, o_inc, o_add, o_sub, o_mul, o_and, o_or, o_xor, o_shl, o_shr, o_div, o_neg, o_ladd, o_lsub, o_lmul, o_ldiv, o_lrem, o_lneg, o_lcmp, o_i2l, o_l2i, o_dup, o_dup2, o_pop, o_go, o_nn, o_sw, swc, o_iret, o_zret, o_lret, o_vret, o_ieq, o_eq0, o_ine, o_ne0, o_ilt, o_lt0, o_ige, o_ge0, o_igt, o_gt0, o_ile, o_le0, o_iald, o_zald, o_lald, o_aald, o_iast, o_zast, o_last, o_aast, o_alen, o_gi, o_gr, o_pi, o_pz, o_pr, o_new, o_newa, o_copy, o_oinit, o_call, o_callV, o_callVc, o_callI, popn, cnO, o_BAD, lgt, lst, isL, kil, st1, st2, entL, List.length_nil, List.length_cons, List.replicate, Nat.reduceAdd, Nat.reduceLeDiff, Nat.reduceSub, true_and, and_true, Nat.zero_le, ne_eq, qk_wi, ql_wi, qr_wi, qj_wi, qt_wi, qk_wj, ql_wj, qr_wj, qi_wj, qt_wj, qk_wr, ql_wr, qi_wr, qj_wr, qt_wr, qi_ws, qj_ws, qr_ws, Int.toNat_natCast, Int.toNat_zero, Int.reduceToNat, not_true_eq_false, not_false_eq_true, false_implies, implies_true, Option.some.injEq, reduceCtorEq, Sp0, true_or, or_true, or_self, wi_wi, wj_wj, hM.k, hM.r0, hM.k1, hM.l1, ix0, ix12, ix24, ix36, ix48, ix60, ix1032, ix1044, ix1092, ix1140, ix1188, ix1200, ix1212, ix1284, ix1290, ix1296, ix1298, ix1322, ix1346, ix1358, ixm4, ixm12, ixm24, ixm81, ixm1382, ixadd, Nat.zero_add, hM.r11, hM.k12, hM.l12, q1, e97, ek, eAA, eB, hbk]
                  repeat' (first | (with_reducible refine And.intro ?_ ?_) | (with_reducible intro))
                  all_goals (try (first | with_reducible assumption | omega | (unfold inI; omega) | (unfold inL; omega) | exact cz_in _ _))
                  all_goals (first | exact h276 (by omega) _ | exact h272 _ ht (by omega) (by omega) (by omega) _ | exact h181 ht (by omega) (by omega) (by omega) _ | (exfalso; omega) | skip)
          refine s_X8_match_167 x ok _ _ _ _ ?_
          simp only [wpS, o_c, o_cl, o_il, o_ll, o_al, o_is, o_ls, o_as, o_inc, o_add, o_sub, o_mul, o_and, o_or, o_xor, o_shl, o_shr, o_div, o_neg, o_ladd, o_lsub, o_lmul, o_ldiv, o_lrem, o_lneg, o_lcmp, o_i2l, o_l2i, o_dup, o_dup2, o_pop, o_go, o_nn, o_sw, swc, o_iret, o_zret, o_lret, o_vret, o_ieq, o_eq0, o_ine, o_ne0, o_ilt, o_lt0, o_ige, o_ge0, o_igt, o_gt0, o_ile, o_le0, o_iald, o_zald, o_lald, o_aald, o_iast, o_zast, o_last, o_aast, o_alen, o_gi, o_gr, o_pi, o_pz, o_pr, o_new, o_newa, o_copy, o_oinit, o_call, o_callV, o_callVc, o_callI, popn, cnO, o_BAD, lgt, lst, isL, kil, st1, st2, entL, List.length_nil, List.length_cons, List.replicate, Nat.reduceAdd, Nat.reduceLeDiff, Nat.reduceSub, true_and, and_true, Nat.zero_le, ne_eq, qk_wi, ql_wi, qr_wi, qj_wi, qt_wi, qk_wj, ql_wj, qr_wj, qi_wj, qt_wj, qk_wr, ql_wr, qi_wr, qj_wr, qt_wr, qi_ws, qj_ws, qr_ws, Int.toNat_natCast, Int.toNat_zero, Int.reduceToNat, not_true_eq_false, not_false_eq_true, false_implies, implies_true, Option.some.injEq, reduceCtorEq, Sp0, true_or, or_true, or_self, wi_wi, wj_wj, hM.k, hM.r10, hM.k11, hM.l11, q11, w11]
          repeat' (first | (with_reducible refine And.intro ?_ ?_) | (with_reducible intro))
          all_goals (try (first | with_reducible assumption | omega | (unfold inI; omega) | (unfold inL; omega) | exact cz_in _ _))
          exact in2 0 (by omega) _
        have in1 : ∀ k, k ≤ c0 → ∀ v7 v8, V i_X8_match x 103 [some (vr (some y)), some (vi lo), some (vi hi), some (vi P), some (vi n), some (vi (lwF (dpt D 0) S.1 (-10000) 10000 k)), some (vi k), v7, v8] [] (wi (wi (wi h (y + 1) g) (y + 11) a) (y + 12) b) (0, 0) := by
          refine bwd _ ?_ ?_
          · intro v7 v8
            rw [eA]
            refine s_X8_match_103 x ok _ _ _ _ ?_
            simp only [wpS, o_c, o_cl, o_il, o_ll, o_al, o_is, o_ls, o_as, o_inc, o_add, o_sub, o_mul, o_and, o_or, o_xor, o_shl, o_shr, o_div, o_neg, o_ladd, o_lsub, o_lmul, o_ldiv, o_lrem, o_lneg, o_lcmp, o_i2l, o_l2i, o_dup, o_dup2, o_pop, o_go, o_nn, o_sw, swc, o_iret, o_zret, o_lret, o_vret, o_ieq, o_eq0, o_ine, o_ne0, o_ilt, o_lt0, o_ige, o_ge0, o_igt, o_gt0, o_ile, o_le0, o_iald, o_zald, o_lald, o_aald, o_iast, o_zast, o_last, o_aast, o_alen, o_gi, o_gr, o_pi, o_pz, o_pr, o_new, o_newa, o_copy, o_oinit, o_call, o_callV, o_callVc, o_callI, popn, cnO, o_BAD, lgt, lst, isL, kil, st1, st2, entL, List.length_nil, List.length_cons, List.replicate, Nat.reduceAdd, Nat.reduceLeDiff, Nat.reduceSub, true_and, and_true, Nat.zero_le, ne_eq, qk_wi, ql_wi, qr_wi, qj_wi, qt_wi, qk_wj, ql_wj, qr_wj, qi_wj, qt_wj, qk_wr, ql_wr, qi_wr, qj_wr, qt_wr, qi_ws, qj_ws, qr_ws, Int.toNat_natCast, Int.toNat_zero, Int.reduceToNat, not_true_eq_false, not_false_eq_true, false_implies, implies_true, Option.some.injEq, reduceCtorEq, Sp0, true_or, or_true, or_self, wi_wi, wj_wj, hM.k, hM.r0, hM.k1, hM.l1, ix0, ix12, ix24, ix36, ix48, ix60, ix1032, ix1044, ix1092, ix1140, ix1188, ix1200, ix1212, ix1284, ix1290, ix1296, ix1298, ix1322, ix1346, ix1358, ixm4, ixm12, ixm24, ixm81, ixm1382, ixadd, Nat.zero_add, q1, e96]
            repeat' (first | (with_reducible refine And.intro ?_ ?_) | (with_reducible intro))
            all_goals (try (first | with_reducible assumption | omega | (unfold inI; omega) | (unfold inL; omega) | exact cz_in _ _))
            all_goals (first | exact h167 _ _ | (exfalso; omega) | skip)
          · intro k hk ih2 v7 v8
            have fk := hf0 k (by omega)
            have ek := e98 k (by omega)
            have e1 : lwF (dpt D 0) S.1 (-10000) 10000 (k + 1) = if S.1 k = false ∧ -10000 ≤ dpt D 0 k ∧ dpt D 0 k ≤ 10000 ∧ (lwF (dpt D 0) S.1 (-10000) 10000 k = -1 ∨ dpt D 0 k < dpt D 0 (lwF (dpt D 0) S.1 (-10000) 10000 k).toNat) then (k : Int) else lwF (dpt D 0) S.1 (-10000) 10000 k := rfl
            rw [e1] at ih2
            have hak := ha k (by omega)
            have h103 : S.1 k = false → (lwF (dpt D 0) S.1 (-10000) 10000 k = -1 ∨ dpt D 0 k < dpt D 0 (lwF (dpt D 0) S.1 (-10000) 10000 k).toNat) → ∀ v7 v8, V i_X8_match x 103 [some (vr (some y)), some (vi lo), some (vi hi), some (vi P), some (vi n), some (vi k), some (vi (k + 1)), v7, v8] [] (wi (wi (wi h (y + 1) g) (y + 11) a) (y + 12) b) (0, 0) := by
              intro u1 u4 v7 v8
              rw [if_pos ⟨u1, fk.1, fk.2, u4⟩] at ih2
              exact ih2 _ _
            have h157 : ∀ r, S.1 k = false → (lwF (dpt D 0) S.1 (-10000) 10000 k = -1 ∨ dpt D 0 k < dpt D 0 (lwF (dpt D 0) S.1 (-10000) 10000 k).toNat) → ∀ v7 v8, V i_X8_match x 157 [some (vr (some y)), some (vi lo), some (vi hi), some (vi P), some (vi n), some (vi r), some (vi k), v7, v8] [] (wi (wi (wi h (y + 1) g) (y + 11) a) (y + 12) b) (0, 0) := by
              intro r u1 u4 v7 v8
              rw [if_pos ⟨u1, fk.1, fk.2, u4⟩] at ih2
              refine s_X8_match_157 x ok _ _ _ _ ?_
              simp only [wpS, o_c, o_cl, o_il, o_ll, o_al, o_is, o_ls, o_as, o_inc, o_add, o_sub, o_mul, o_and, o_or, o_xor, o_shl, o_shr, o_div, o_neg, o_ladd, o_lsub, o_lmul, o_ldiv, o_lrem, o_lneg, o_lcmp, o_i2l, o_l2i, o_dup, o_dup2, o_pop, o_go, o_nn, o_sw, swc, o_iret, o_zret, o_lret, o_vret, o_ieq, o_eq0, o_ine, o_ne0, o_ilt, o_lt0, o_ige, o_ge0, o_igt, o_gt0, o_ile, o_le0, o_iald, o_zald, o_lald, o_aald, o_iast, o_zast, o_last, o_aast, o_alen, o_gi, o_gr, o_pi, o_pz, o_pr, o_new, o_newa, o_copy, o_oinit, o_call, o_callV, o_callVc, o_callI, popn, cnO, o_BAD, lgt, lst, isL, kil, st1, st2, entL, List.length_nil, List.length_cons, List.replicate, Nat.reduceAdd, Nat.reduceLeDiff, Nat.reduceSub, true_and, and_true, Nat.zero_le, ne_eq, qk_wi, ql_wi, qr_wi, qj_wi, qt_wi, qk_wj, ql_wj, qr_wj, qi_wj, qt_wj, qk_wr, ql_wr, qi_wr, qj_wr, qt_wr, qi_ws, qj_ws, qr_ws, Int.toNat_natCast, Int.toNat_zero, Int.reduceToNat, not_true_eq_false, not_false_eq_true, false_implies, implies_true, Option.some.injEq, reduceCtorEq, Sp0, true_or, or_true, or_self, wi_wi, wj_wj, hM.k]
              repeat' (first | (with_reducible refine And.intro ?_ ?_) | (with_reducible intro))
              all_goals (try (first | with_reducible assumption | omega | (unfold inI; omega) | (unfold inL; omega) | exact cz_in _ _))
              exact ih2 _ _
            have h161 : ¬ (S.1 k = false ∧ -10000 ≤ dpt D 0 k ∧ dpt D 0 k ≤ 10000 ∧ (lwF (dpt D 0) S.1 (-10000) 10000 k = -1 ∨ dpt D 0 k < dpt D 0 (lwF (dpt D 0) S.1 (-10000) 10000 k).toNat)) → ∀ v7 v8, V i_X8_match x 161 [some (vr (some y)), some (vi lo), some (vi hi), some (vi P), some (vi n), some (vi (lwF (dpt D 0) S.1 (-10000) 10000 k)), some (vi k), v7, v8] [] (wi (wi (wi h (y + 1) g) (y + 11) a) (y + 12) b) (0, 0) := by
              intro u v7 v8
              rw [if_neg u] at ih2
              refine s_X8_match_161 x ok _ _ _ _ ?_
              simp only [wpS, o_c, o_cl, o_il, o_ll, o_al, o_is, o_ls, o_as, o_inc, o_add, o_sub, o_mul, o_and, o_or, o_xor, o_shl, o_shr, o_div, o_neg, o_ladd, o_lsub, o_lmul, o_ldiv, o_lrem, o_lneg, o_lcmp, o_i2l, o_l2i, o_dup, o_dup2, o_pop, o_go, o_nn, o_sw, swc, o_iret, o_zret, o_lret, o_vret, o_ieq, o_eq0, o_ine, o_ne0, o_ilt, o_lt0, o_ige, o_ge0, o_igt, o_gt0, o_ile, o_le0, o_iald, o_zald, o_lald, o_aald, o_iast, o_zast, o_last, o_aast, o_alen, o_gi, o_gr, o_pi, o_pz, o_pr, o_new, o_newa, o_copy, o_oinit, o_call, o_callV, o_callVc, o_callI, popn, cnO, o_BAD, lgt, lst, isL, kil, st1, st2, entL, List.length_nil, List.length_cons, List.replicate, Nat.reduceAdd, Nat.reduceLeDiff, Nat.reduceSub, true_and, and_true, Nat.zero_le, ne_eq, qk_wi, ql_wi, qr_wi, qj_wi, qt_wi, qk_wj, ql_wj, qr_wj, qi_wj, qt_wj, qk_wr, ql_wr, qi_wr, qj_wr, qt_wr, qi_ws, qj_ws, qr_ws, Int.toNat_natCast, Int.toNat_zero, Int.reduceToNat, not_true_eq_false, not_false_eq_true, false_implies, implies_true, Option.some.injEq, reduceCtorEq, Sp0, true_or, or_true, or_self, wi_wi, wj_wj, hM.k]
              repeat' (first | (with_reducible refine And.intro ?_ ?_) | (with_reducible intro))
              all_goals (try (first | with_reducible assumption | omega | (unfold inI; omega) | (unfold inL; omega) | exact cz_in _ _))
              exact ih2 _ _
            clear ih2
            cases ht : S.1 k with
            | true =>
              rw [ht, if_pos rfl] at hak
              have h6 := h161 (fun u => by rw [ht] at u; cases u.1)
              refine s_X8_match_103 x ok _ _ _ _ ?_
              simp only [wpS, o_c, o_cl, o_il, o_ll, o_al, o_is, o_ls, o_as, o_inc, o_add, o_sub, o_mul, o_and, o_or, o_xor, o_shl, o_shr, o_div, o_neg, o_ladd, o_lsub, o_lmul, o_ldiv, o_lrem, o_lneg, o_lcmp, o_i2l, o_l2i, o_dup, o_dup2, o_pop, o_go, o_nn, o_sw, swc, o_iret, o_zret, o_lret, o_vret, o_ieq, o_eq0, o_ine, o_ne0, o_ilt, o_lt0, o_ige, o_ge0, o_igt, o_gt0, o_ile, o_le0, o_iald, o_zald, o_lald, o_aald, o_iast, o_zast, o_last, o_aast, o_alen, o_gi, o_gr, o_pi, o_pz, o_pr, o_new, o_newa, o_copy, o_oinit, o_call, o_callV, o_callVc, o_callI, popn, cnO, o_BAD, lgt, lst, isL, kil, st1, st2, entL, List.length_nil, List.length_cons, List.replicate, Nat.reduceAdd, Nat.reduceLeDiff, Nat.reduceSub, true_and, and_true, Nat.zero_le, ne_eq, qk_wi, ql_wi, qr_wi, qj_wi, qt_wi, qk_wj, ql_wj, qr_wj, qi_wj, qt_wj, qk_wr, ql_wr, qi_wr, qj_wr, qt_wr, qi_ws, qj_ws, qr_ws, Int.toNat_natCast, Int.toNat_zero, Int.reduceToNat, not_true_eq_false, not_false_eq_true, false_implies, implies_true, Option.some.injEq, reduceCtorEq, Sp0, true_or, or_true, or_self, wi_wi, wj_wj, hM.k, hM.r0, hM.k1, hM.l1, ix0, ix12, ix24, ix36, ix48, ix60, ix1032, ix1044, ix1092, ix1140, ix1188, ix1200, ix1212, ix1284, ix1290, ix1296, ix1298, ix1322, ix1346, ix1358, ixm4, ixm12, ixm24, ixm81, ixm1382, ixadd, Nat.zero_add, hM.r10, hM.k11, hM.l11, q1, q11, e96, ek, hak]
              repeat' (first | (with_reducible refine And.intro ?_ ?_) | (with_reducible intro))
              all_goals (try (first | with_reducible assumption | omega | (unfold inI; omega) | (unfold inL; omega) | exact cz_in _ _))
              all_goals (first | exact h6 _ _ | (exfalso; omega) | skip)
            | false =>
              rw [ht, if_neg (by decide)] at hak
              rcases lwF_rng (dpt D 0) S.1 (-10000) 10000 k with z | ⟨B, z1, z2, -⟩
              · rw [z] at h161 h157 ⊢
                refine s_X8_match_103 x ok _ _ _ _ ?_
                simp only [wpS, o_c, o_cl, o_il, o_ll, o_al, o_is, o_ls, o_as, o_inc, o_add, o_sub, o_mul, o_and, o_or, o_xor, o_shl, o_shr, o_div, o_neg, o_ladd, o_lsub, o_lmul, o_ldiv, o_lrem, o_lneg, o_lcmp, o_i2l, o_l2i, o_dup, o_dup2, o_pop, o_go, o_nn, o_sw, swc, o_iret, o_zret, o_lret, o_vret, o_ieq, o_eq0, o_ine, o_ne0, o_ilt, o_lt0, o_ige, o_ge0, o_igt, o_gt0, o_ile, o_le0, o_iald, o_zald, o_lald, o_aald, o_iast, o_zast, o_last, o_aast, o_alen, o_gi, o_gr, o_pi, o_pz, o_pr, o_new, o_newa, o_copy, o_oinit, o_call, o_callV, o_callVc, o_callI, popn, cnO, o_BAD, lgt, lst, isL, kil, st1, st2, entL, List.length_nil, List.length_cons, List.replicate, Nat.reduceAdd, Nat.reduceLeDiff, Nat.reduceSub, true_and, and_true, Nat.zero_le, ne_eq, qk_wi, ql_wi, qr_wi, qj_wi, qt_wi, qk_wj, ql_wj, qr_wj, qi_wj, qt_wj, qk_wr, ql_wr, qi_wr, qj_wr, qt_wr, qi_ws, qj_ws, qr_ws, Int.toNat_natCast, Int.toNat_zero, Int.reduceToNat, not_true_eq_false, not_false_eq_true, false_implies, implies_true, Option.some.injEq, reduceCtorEq, Sp0, true_or, or_true, or_self, wi_wi, wj_wj, hM.k, hM.r0, hM.k1, hM.l1, ix0, ix12, ix24, ix36, ix48, ix60, ix1032, ix1044, ix1092, ix1140, ix1188, ix1200, ix1212, ix1284, ix1290, ix1296, ix1298, ix1322, ix1346, ix1358, ixm4, ixm12, ixm24, ixm81, ixm1382, ixadd, Nat.zero_add, hM.r10, hM.k11, hM.l11, q1, q11, e96, ek, hak]
                repeat' (first | (with_reducible refine And.intro ?_ ?_) | (with_reducible intro))
                all_goals (try (first | with_reducible assumption | omega | (unfold inI; omega) | (unfold inL; omega) | exact cz_in _ _))
                all_goals (first | exact h161 (by omega) _ _ | exact h157 _ ht (by omega) _ _ | exact h103 ht (by omega) _ _ | (exfalso; omega) | skip)
              · rw [z2] at h161 h157 h103 ⊢
                rw [Int.toNat_natCast] at h161 h157 h103
                have fB := hf0 B (by omega)
                have eB := e98 B (by omega)
                refine s_X8_match_103 x ok _ _ _ _ ?_
                simp only [wpS, o_c, o_cl, o_il, o_ll, o_al, o_is, o_ls, o_as, o_inc, o_add, o_sub, o_mul, o_and, o_or, o_xor, o_shl, o_shr, o_div, o_neg, o_ladd, o_lsub, o_lmul, o_ldiv, o_lrem, o_lneg, o_lcmp, o_i2l, o_l2i, o_dup, o_dup2, o_pop, o_go, o_nn, o_sw, swc, o_iret, o_zret, o_lret, o_vret, o_ieq, o_eq0, o_ine, o_ne0, o_ilt, o_lt0, o_ige, o_ge0, o_igt, o_gt0, o_ile, o_le0, o_iald, o_zald, o_lald, o_aald, o_iast, o_zast, o_last, o_aast, o_alen, o_gi, o_gr, o_pi, o_pz, o_pr, o_new, o_newa, o_copy, o_oinit, o_call, o_callV, o_callVc, o_callI, popn, cnO, o_BAD, lgt, lst, isL, kil, st1, st2, entL, List.length_nil, List.length_cons, List.replicate, Nat.reduceAdd, Nat.reduceLeDiff, Nat.reduceSub, true_and, and_true, Nat.zero_le, ne_eq, qk_wi, ql_wi, qr_wi, qj_wi, qt_wi, qk_wj, ql_wj, qr_wj, qi_wj, qt_wj, qk_wr, ql_wr, qi_wr, qj_wr, qt_wr, qi_ws, qj_ws, qr_ws, Int.toNat_natCast, Int.toNat_zero, Int.reduceToNat, not_true_eq_false, not_false_eq_true, false_implies, implies_true, Option.some.injEq, reduceCtorEq, Sp0, true_or, or_true, or_self, wi_wi, wj_wj, hM.k, hM.r0, hM.k1, hM.l1, ix0, ix12, ix24, ix36, ix48, ix60, ix1032, ix1044, ix1092, ix1140, ix1188, ix1200, ix1212, ix1284, ix1290, ix1296, ix1298, ix1322, ix1346, ix1358, ixm4, ixm12, ixm24, ixm81, ixm1382, ixadd, Nat.zero_add, hM.r10, hM.k11, hM.l11, q1, q11, e96, ek, eB, hak]
                repeat' (first | (with_reducible refine And.intro ?_ ?_) | (with_reducible intro))
                all_goals (try (first | with_reducible assumption | omega | (unfold inI; omega) | (unfold inL; omega) | exact cz_in _ _))
                all_goals (first | exact h161 (by omega) _ _ | exact h157 _ ht (by omega) _ _ | exact h103 ht (by omega) _ _ | (exfalso; omega) | skip)
        refine s_X8_match_84 x ok _ _ _ _ ?_
        simp only [wpS, o_c, o_cl, o_il, o_ll, o_al, o_is, o_ls, o_as, o_inc, o_add, o_sub, o_mul, o_and, o_or, o_xor, o_shl, o_shr, o_div, o_neg, o_ladd, o_lsub, o_lmul, o_ldiv, o_lrem, o_lneg, o_lcmp, o_i2l, o_l2i, o_dup, o_dup2, o_pop, o_go, o_nn, o_sw, swc, o_iret, o_zret, o_lret, o_vret, o_ieq, o_eq0, o_ine, o_ne0, o_ilt, o_lt0, o_ige, o_ge0, o_igt, o_gt0, o_ile, o_le0, o_iald, o_zald, o_lald, o_aald, o_iast, o_zast, o_last, o_aast, o_alen, o_gi, o_gr, o_pi, o_pz, o_pr, o_new, o_newa, o_copy, o_oinit, o_call, o_callV, o_callVc, o_callI, popn, cnO, o_BAD, lgt, lst, isL, kil, st1, st2, entL, List.length_nil, List.length_cons, List.replicate, Nat.reduceAdd, Nat.reduceLeDiff, Nat.reduceSub, true_and, and_true, Nat.zero_le, ne_eq, qk_wi, ql_wi, qr_wi, qj_wi, qt_wi, qk_wj, ql_wj, qr_wj, qi_wj, qt_wj, qk_wr, ql_wr, qi_wr, qj_wr, qt_wr, qi_ws, qj_ws, qr_ws, Int.toNat_natCast, Int.toNat_zero, Int.reduceToNat, not_true_eq_false, not_false_eq_true, false_implies, implies_true, Option.some.injEq, reduceCtorEq, Sp0, true_or, or_true, or_self, wi_wi, wj_wj, hM.k, hM.r0, hM.k1, hM.l1, ix0, ix12, ix24, ix36, ix48, ix60, ix1032, ix1044, ix1092, ix1140, ix1188, ix1200, ix1212, ix1284, ix1290, ix1296, ix1298, ix1322, ix1346, ix1358, ixm4, ixm12, ixm24, ixm81, ixm1382, ixadd, Nat.zero_add, q1, e96]
        repeat' (first | (with_reducible refine And.intro ?_ ?_) | (with_reducible intro))
        all_goals (try (first | with_reducible assumption | omega | (unfold inI; omega) | (unfold inL; omega) | exact cz_in _ _))
        all_goals (first | exact in1 0 (by omega) _ _ | (exfalso; omega) | skip)
    have init : ∀ n, n ≤ 24 → ∀ (g a b : Nat → Int), (∀ k, ¬ (1358 ≤ k ∧ k < 1382) → g k = D k) → (∀ k, k < n → g (1358 + k) = -1 ∧ a k = 0 ∧ b k = 0) → ∀ v5 v6 v7 v8, V i_X8_match x 40 [some (vr (some y)), some (vi lo), some (vi hi), some (vi 0), some (vi n), v5, v6, v7, v8] [] (wi (wi (wi h (y + 1) g) (y + 11) a) (y + 12) b) (0, 0) := by
      refine bwd _ ?_ ?_
      · intro g a b hg hz v5 v6 v7 v8
        refine s_X8_match_40 x ok _ _ _ _ ?_
        simp only [wpS, o_c, o_cl, o_il, o_ll, o_al, o_is, o_ls, o_as, o_inc, o_add, o_sub, o_mul, o_and, o_or, o_xor, o_shl, o_shr, o_div, o_neg, o_ladd, o_lsub, o_lmul, o_ldiv, o_lrem, o_lneg, o_lcmp, o_i2l, o_l2i, o_dup, o_dup2, o_pop, o_go, o_nn, o_sw, swc, o_iret, o_zret, o_lret, o_vret, o_ieq, o_eq0, o_ine, o_ne0, o_ilt, o_lt0, o_ige, o_ge0, o_igt, o_gt0, o_ile, o_le0, o_iald, o_zald, o_lald, o_aald, o_iast, o_zast, o_last, o_aast, o_alen, o_gi, o_gr, o_pi, o_pz, o_pr, o_new, o_newa, o_copy, o_oinit, o_call, o_callV, o_callVc, o_callI, popn, cnO, o_BAD, lgt, lst, isL, kil, st1, st2, entL, List.length_nil, List.length_cons, List.replicate, Nat.reduceAdd, Nat.reduceLeDiff, Nat.reduceSub, true_and, and_true, Nat.zero_le, ne_eq, qk_wi, ql_wi, qr_wi, qj_wi, qt_wi, qk_wj, ql_wj, qr_wj, qi_wj, qt_wj, qk_wr, ql_wr, qi_wr, qj_wr, qt_wr, qi_ws, qj_ws, qr_ws, Int.toNat_natCast, Int.toNat_zero, Int.reduceToNat, not_true_eq_false, not_false_eq_true, false_implies, implies_true, Option.some.injEq, reduceCtorEq, Sp0, true_or, or_true, or_self, wi_wi, wj_wj, hM.k]
        repeat' (first | (with_reducible refine And.intro ?_ ?_) | (with_reducible intro))
        all_goals (try (first | with_reducible assumption | omega | (unfold inI; omega) | (unfold inL; omega) | exact cz_in _ _))
        all_goals (try (exfalso; omega))
        refine s_X8_match_81 x ok _ _ _ _ ?_
        simp only [wpS, o_c, o_cl, o_il, o_ll, o_al, o_is, o_ls, o_as, o_inc, o_add, o_sub, o_mul, o_and, o_or, o_xor, o_shl, o_shr, o_div, o_neg, o_ladd, o_lsub, o_lmul, o_ldiv, o_lrem, o_lneg, o_lcmp, o_i2l, o_l2i, o_dup, o_dup2, o_pop, o_go, o_nn, o_sw, swc, o_iret, o_zret, o_lret, o_vret, o_ieq, o_eq0, o_ine, o_ne0, o_ilt, o_lt0, o_ige, o_ge0, o_igt, o_gt0, o_ile, o_le0, o_iald, o_zald, o_lald, o_aald, o_iast, o_zast, o_last, o_aast, o_alen, o_gi, o_gr, o_pi, o_pz, o_pr, o_new, o_newa, o_copy, o_oinit, o_call, o_callV, o_callVc, o_callI, popn, cnO, o_BAD, lgt, lst, isL, kil, st1, st2, entL, List.length_nil, List.length_cons, List.replicate, Nat.reduceAdd, Nat.reduceLeDiff, Nat.reduceSub, true_and, and_true, Nat.zero_le, ne_eq, qk_wi, ql_wi, qr_wi, qj_wi, qt_wi, qk_wj, ql_wj, qr_wj, qi_wj, qt_wj, qk_wr, ql_wr, qi_wr, qj_wr, qt_wr, qi_ws, qj_ws, qr_ws, Int.toNat_natCast, Int.toNat_zero, Int.reduceToNat, not_true_eq_false, not_false_eq_true, false_implies, implies_true, Option.some.injEq, reduceCtorEq, Sp0, true_or, or_true, or_self, wi_wi, wj_wj, hM.k]
        exact main 0 (by omega) g a b 0 hg (fun k hk => (hz k hk).1) (fun k hk => (hz k hk).2.1) (fun k hk => (hz k hk).2.2) rfl (by omega) (by omega) _ _ _ _
      · intro n hn ih g a b hg hz v5 v6 v7 v8
        refine s_X8_match_40 x ok _ _ _ _ ?_
        simp only [wpS, o_c, o_cl, o_il, o_ll, o_al, o_is, o_ls, o_as, o_inc, o_add, o_sub, o_mul, o_and, o_or, o_xor, o_shl, o_shr, o_div, o_neg, o_ladd, o_lsub, o_lmul, o_ldiv, o_lrem, o_lneg, o_lcmp, o_i2l, o_l2i, o_dup, o_dup2, o_pop, o_go, o_nn, o_sw, swc, o_iret, o_zret, o_lret, o_vret, o_ieq, o_eq0, o_ine, o_ne0, o_ilt, o_lt0, o_ige, o_ge0, o_igt, o_gt0, o_ile, o_le0, o_iald, o_zald, o_lald, o_aald, o_iast, o_zast, o_last, o_aast, o_alen, o_gi, o_gr, o_pi, o_pz, o_pr, o_new, o_newa, o_copy, o_oinit, o_call, o_callV, o_callVc, o_callI, popn, cnO, o_BAD, lgt, lst, isL, kil, st1, st2, entL, List.length_nil, List.length_cons, List.replicate, Nat.reduceAdd, Nat.reduceLeDiff, Nat.reduceSub, true_and, and_true, Nat.zero_le, ne_eq, qk_wi, ql_wi, qr_wi, qj_wi, qt_wi, qk_wj, ql_wj, qr_wj, qi_wj, qt_wj, qk_wr, ql_wr, qi_wr, qj_wr, qt_wr, qi_ws, qj_ws, qr_ws, Int.toNat_natCast, Int.toNat_zero, Int.reduceToNat, not_true_eq_false, not_false_eq_true, false_implies, implies_true, Option.some.injEq, reduceCtorEq, Sp0, true_or, or_true, or_self, wi_wi, wj_wj, hM.k, hM.r0, hM.k1, hM.l1, ix0, ix12, ix24, ix36, ix48, ix60, ix1032, ix1044, ix1092, ix1140, ix1188, ix1200, ix1212, ix1284, ix1290, ix1296, ix1298, ix1322, ix1346, ix1358, ixm4, ixm12, ixm24, ixm81, ixm1382, ixadd, Nat.zero_add, hM.r10, hM.k11, hM.l11, hM.r11, hM.k12, hM.l12, q1, q11, w1, w11]
        repeat' (first | (with_reducible refine And.intro ?_ ?_) | (with_reducible intro))
        all_goals (try (first | with_reducible assumption | omega | (unfold inI; omega) | (unfold inL; omega) | exact cz_in _ _))
        all_goals (try (exfalso; omega))
        refine ih _ _ _ (fun k hk => ?_) (fun k hk => ?_) _ _ _ _
        · unfold fu
          rw [if_neg (by omega), hg k hk]
        · unfold fu
          by_cases z : k = n
          · rw [if_pos (by omega), if_pos z, if_pos z]
            exact ⟨rfl, rfl, rfl⟩
          · rw [if_neg (by omega), if_neg z, if_neg z]
            exact hz k (by omega)
    have h0 := init 0 (by omega) (qi h (y + 1)) (qi h (y + 11)) (qi h (y + 12)) (fun k _ => by rw [hD]) (fun k hk => by omega)
    have hself : wi (wi (wi h (y + 1) (qi h (y + 1))) (y + 11) (qi h (y + 11))) (y + 12) (qi h (y + 12)) = h := by rw [wi_self, wi_self, wi_self]
    rw [hself] at h0
    all_goals (try ((first | (refine s_X8_match_0 x ok _ _ _ _ ?_) | (refine s_X8_match_33 x ok _ _ _ _ ?_) | (refine s_X8_match_35 x ok _ _ _ _ ?_) | (refine s_X8_match_81 x ok _ _ _ _ ?_) | (refine s_X8_match_157 x ok _ _ _ _ ?_) | (refine s_X8_match_161 x ok _ _ _ _ ?_) | (refine s_X8_match_167 x ok _ _ _ _ ?_) | (refine s_X8_match_272 x ok _ _ _ _ ?_) | (refine s_X8_match_276 x ok _ _ _ _ ?_) | (refine s_X8_match_282 x ok _ _ _ _ ?_) | (refine s_X8_match_291 x ok _ _ _ _ ?_) | (refine s_X8_match_315 x ok _ _ _ _ ?_) | (refine s_X8_match_321 x ok _ _ _ _ ?_)); (try simp only [wpS, o_c, o_cl, o_il, o_ll, o_al, o_is, o_ls, o_as, o_inc, o_add, o_sub, o_mul, o_and, o_or, o_xor, o_shl, o_shr, o_div, o_neg, o_ladd, o_lsub, o_lmul, o_ldiv, o_lrem, o_lneg, o_lcmp, o_i2l, o_l2i, o_dup, o_dup2, o_pop, o_go, o_nn, o_sw, swc, o_iret, o_zret, o_lret, o_vret, o_ieq, o_eq0, o_ine, o_ne0, o_ilt, o_lt0, o_ige, o_ge0, o_igt, o_gt0, o_ile, o_le0, o_iald, o_zald, o_lald, o_aald, o_iast, o_zast, o_last, o_aast, o_alen, o_gi, o_gr, o_pi, o_pz, o_pr, o_new, o_newa, o_copy, o_oinit, o_call, o_callV, o_callVc, o_callI, popn, cnO, o_BAD, lgt, lst, isL, kil, st1, st2, entL, List.length_nil, List.length_cons, List.replicate, Nat.reduceAdd, Nat.reduceLeDiff, Nat.reduceSub, true_and, and_true, Nat.zero_le, ne_eq, qk_wi, ql_wi, qr_wi, qj_wi, qt_wi, qk_wj, ql_wj, qr_wj, qi_wj, qt_wj, qk_wr, ql_wr, qi_wr, qj_wr, qt_wr, qi_ws, qj_ws, qr_ws, Int.toNat_natCast, Int.toNat_zero, Int.reduceToNat, not_true_eq_false, not_false_eq_true, false_implies, implies_true, Option.some.injEq, reduceCtorEq, Sp0, true_or, or_true, or_self, wi_wi, wj_wj]); (repeat' (first | (with_reducible refine And.intro ?_ ?_) | (with_reducible intro))); (all_goals (try (first | with_reducible assumption | omega | (unfold inI; omega) | (unfold inL; omega) | exact cz_in _ _)))))
    all_goals (try ((first | (refine s_X8_match_0 x ok _ _ _ _ ?_) | (refine s_X8_match_33 x ok _ _ _ _ ?_) | (refine s_X8_match_35 x ok _ _ _ _ ?_) | (refine s_X8_match_81 x ok _ _ _ _ ?_) | (refine s_X8_match_157 x ok _ _ _ _ ?_) | (refine s_X8_match_161 x ok _ _ _ _ ?_) | (refine s_X8_match_167 x ok _ _ _ _ ?_) | (refine s_X8_match_272 x ok _ _ _ _ ?_) | (refine s_X8_match_276 x ok _ _ _ _ ?_) | (refine s_X8_match_282 x ok _ _ _ _ ?_) | (refine s_X8_match_291 x ok _ _ _ _ ?_) | (refine s_X8_match_315 x ok _ _ _ _ ?_) | (refine s_X8_match_321 x ok _ _ _ _ ?_)); (try simp only [wpS, o_c, o_cl, o_il, o_ll, o_al, o_is, o_ls, o_as, o_inc, o_add, o_sub, o_mul, o_and, o_or, o_xor, o_shl, o_shr, o_div, o_neg, o_ladd, o_lsub, o_lmul, o_ldiv, o_lrem, o_lneg, o_lcmp, o_i2l, o_l2i, o_dup, o_dup2, o_pop, o_go, o_nn, o_sw, swc, o_iret, o_zret, o_lret, o_vret, o_ieq, o_eq0, o_ine, o_ne0, o_ilt, o_lt0, o_ige, o_ge0, o_igt, o_gt0, o_ile, o_le0, o_iald, o_zald, o_lald, o_aald, o_iast, o_zast, o_last, o_aast, o_alen, o_gi, o_gr, o_pi, o_pz, o_pr, o_new, o_newa, o_copy, o_oinit, o_call, o_callV, o_callVc, o_callI, popn, cnO, o_BAD, lgt, lst, isL, kil, st1, st2, entL, List.length_nil, List.length_cons, List.replicate, Nat.reduceAdd, Nat.reduceLeDiff, Nat.reduceSub, true_and, and_true, Nat.zero_le, ne_eq, qk_wi, ql_wi, qr_wi, qj_wi, qt_wi, qk_wj, ql_wj, qr_wj, qi_wj, qt_wj, qk_wr, ql_wr, qi_wr, qj_wr, qt_wr, qi_ws, qj_ws, qr_ws, Int.toNat_natCast, Int.toNat_zero, Int.reduceToNat, not_true_eq_false, not_false_eq_true, false_implies, implies_true, Option.some.injEq, reduceCtorEq, Sp0, true_or, or_true, or_self, wi_wi, wj_wj]); (repeat' (first | (with_reducible refine And.intro ?_ ?_) | (with_reducible intro))); (all_goals (try (first | with_reducible assumption | omega | (unfold inI; omega) | (unfold inL; omega) | exact cz_in _ _)))))
    all_goals (try ((first | (refine s_X8_match_0 x ok _ _ _ _ ?_) | (refine s_X8_match_33 x ok _ _ _ _ ?_) | (refine s_X8_match_35 x ok _ _ _ _ ?_) | (refine s_X8_match_81 x ok _ _ _ _ ?_) | (refine s_X8_match_157 x ok _ _ _ _ ?_) | (refine s_X8_match_161 x ok _ _ _ _ ?_) | (refine s_X8_match_167 x ok _ _ _ _ ?_) | (refine s_X8_match_272 x ok _ _ _ _ ?_) | (refine s_X8_match_276 x ok _ _ _ _ ?_) | (refine s_X8_match_282 x ok _ _ _ _ ?_) | (refine s_X8_match_291 x ok _ _ _ _ ?_) | (refine s_X8_match_315 x ok _ _ _ _ ?_) | (refine s_X8_match_321 x ok _ _ _ _ ?_)); (try simp only [wpS, o_c, o_cl, o_il, o_ll, o_al, o_is, o_ls, o_as, o_inc, o_add, o_sub, o_mul, o_and, o_or, o_xor, o_shl, o_shr, o_div, o_neg, o_ladd, o_lsub, o_lmul, o_ldiv, o_lrem, o_lneg, o_lcmp, o_i2l, o_l2i, o_dup, o_dup2, o_pop, o_go, o_nn, o_sw, swc, o_iret, o_zret, o_lret, o_vret, o_ieq, o_eq0, o_ine, o_ne0, o_ilt, o_lt0, o_ige, o_ge0, o_igt, o_gt0, o_ile, o_le0, o_iald, o_zald, o_lald, o_aald, o_iast, o_zast, o_last, o_aast, o_alen, o_gi, o_gr, o_pi, o_pz, o_pr, o_new, o_newa, o_copy, o_oinit, o_call, o_callV, o_callVc, o_callI, popn, cnO, o_BAD, lgt, lst, isL, kil, st1, st2, entL, List.length_nil, List.length_cons, List.replicate, Nat.reduceAdd, Nat.reduceLeDiff, Nat.reduceSub, true_and, and_true, Nat.zero_le, ne_eq, qk_wi, ql_wi, qr_wi, qj_wi, qt_wi, qk_wj, ql_wj, qr_wj, qi_wj, qt_wj, qk_wr, ql_wr, qi_wr, qj_wr, qt_wr, qi_ws, qj_ws, qr_ws, Int.toNat_natCast, Int.toNat_zero, Int.reduceToNat, not_true_eq_false, not_false_eq_true, false_implies, implies_true, Option.some.injEq, reduceCtorEq, Sp0, true_or, or_true, or_self, wi_wi, wj_wj]); (repeat' (first | (with_reducible refine And.intro ?_ ?_) | (with_reducible intro))); (all_goals (try (first | with_reducible assumption | omega | (unfold inI; omega) | (unfold inL; omega) | exact cz_in _ _)))))
    all_goals (first | exact h0 _ _ _ _ | (exfalso; omega) | skip)
  · have hK := hK0 q
    all_goals (try ((first | (refine s_X8_match_0 x ok _ _ _ _ ?_) | (refine s_X8_match_33 x ok _ _ _ _ ?_) | (refine s_X8_match_35 x ok _ _ _ _ ?_) | (refine s_X8_match_81 x ok _ _ _ _ ?_) | (refine s_X8_match_157 x ok _ _ _ _ ?_) | (refine s_X8_match_161 x ok _ _ _ _ ?_) | (refine s_X8_match_167 x ok _ _ _ _ ?_) | (refine s_X8_match_272 x ok _ _ _ _ ?_) | (refine s_X8_match_276 x ok _ _ _ _ ?_) | (refine s_X8_match_282 x ok _ _ _ _ ?_) | (refine s_X8_match_291 x ok _ _ _ _ ?_) | (refine s_X8_match_315 x ok _ _ _ _ ?_) | (refine s_X8_match_321 x ok _ _ _ _ ?_)); (try simp only [wpS, o_c, o_cl, o_il, o_ll, o_al, o_is, o_ls, o_as, o_inc, o_add, o_sub, o_mul, o_and, o_or, o_xor, o_shl, o_shr, o_div, o_neg, o_ladd, o_lsub, o_lmul, o_ldiv, o_lrem, o_lneg, o_lcmp, o_i2l, o_l2i, o_dup, o_dup2, o_pop, o_go, o_nn, o_sw, swc, o_iret, o_zret, o_lret, o_vret, o_ieq, o_eq0, o_ine, o_ne0, o_ilt, o_lt0, o_ige, o_ge0, o_igt, o_gt0, o_ile, o_le0, o_iald, o_zald, o_lald, o_aald, o_iast, o_zast, o_last, o_aast, o_alen, o_gi, o_gr, o_pi, o_pz, o_pr, o_new, o_newa, o_copy, o_oinit, o_call, o_callV, o_callVc, o_callI, popn, cnO, o_BAD, lgt, lst, isL, kil, st1, st2, entL, List.length_nil, List.length_cons, List.replicate, Nat.reduceAdd, Nat.reduceLeDiff, Nat.reduceSub, true_and, and_true, Nat.zero_le, ne_eq, qk_wi, ql_wi, qr_wi, qj_wi, qt_wi, qk_wj, ql_wj, qr_wj, qi_wj, qt_wj, qk_wr, ql_wr, qi_wr, qj_wr, qt_wr, qi_ws, qj_ws, qr_ws, Int.toNat_natCast, Int.toNat_zero, Int.reduceToNat, not_true_eq_false, not_false_eq_true, false_implies, implies_true, Option.some.injEq, reduceCtorEq, Sp0, true_or, or_true, or_self, wi_wi, wj_wj]); (repeat' (first | (with_reducible refine And.intro ?_ ?_) | (with_reducible intro))); (all_goals (try (first | with_reducible assumption | omega | (unfold inI; omega) | (unfold inL; omega) | exact cz_in _ _)))))
    all_goals (try ((first | (refine s_X8_match_0 x ok _ _ _ _ ?_) | (refine s_X8_match_33 x ok _ _ _ _ ?_) | (refine s_X8_match_35 x ok _ _ _ _ ?_) | (refine s_X8_match_81 x ok _ _ _ _ ?_) | (refine s_X8_match_157 x ok _ _ _ _ ?_) | (refine s_X8_match_161 x ok _ _ _ _ ?_) | (refine s_X8_match_167 x ok _ _ _ _ ?_) | (refine s_X8_match_272 x ok _ _ _ _ ?_) | (refine s_X8_match_276 x ok _ _ _ _ ?_) | (refine s_X8_match_282 x ok _ _ _ _ ?_) | (refine s_X8_match_291 x ok _ _ _ _ ?_) | (refine s_X8_match_315 x ok _ _ _ _ ?_) | (refine s_X8_match_321 x ok _ _ _ _ ?_)); (try simp only [wpS, o_c, o_cl, o_il, o_ll, o_al, o_is, o_ls, o_as, o_inc, o_add, o_sub, o_mul, o_and, o_or, o_xor, o_shl, o_shr, o_div, o_neg, o_ladd, o_lsub, o_lmul, o_ldiv, o_lrem, o_lneg, o_lcmp, o_i2l, o_l2i, o_dup, o_dup2, o_pop, o_go, o_nn, o_sw, swc, o_iret, o_zret, o_lret, o_vret, o_ieq, o_eq0, o_ine, o_ne0, o_ilt, o_lt0, o_ige, o_ge0, o_igt, o_gt0, o_ile, o_le0, o_iald, o_zald, o_lald, o_aald, o_iast, o_zast, o_last, o_aast, o_alen, o_gi, o_gr, o_pi, o_pz, o_pr, o_new, o_newa, o_copy, o_oinit, o_call, o_callV, o_callVc, o_callI, popn, cnO, o_BAD, lgt, lst, isL, kil, st1, st2, entL, List.length_nil, List.length_cons, List.replicate, Nat.reduceAdd, Nat.reduceLeDiff, Nat.reduceSub, true_and, and_true, Nat.zero_le, ne_eq, qk_wi, ql_wi, qr_wi, qj_wi, qt_wi, qk_wj, ql_wj, qr_wj, qi_wj, qt_wj, qk_wr, ql_wr, qi_wr, qj_wr, qt_wr, qi_ws, qj_ws, qr_ws, Int.toNat_natCast, Int.toNat_zero, Int.reduceToNat, not_true_eq_false, not_false_eq_true, false_implies, implies_true, Option.some.injEq, reduceCtorEq, Sp0, true_or, or_true, or_self, wi_wi, wj_wj]); (repeat' (first | (with_reducible refine And.intro ?_ ?_) | (with_reducible intro))); (all_goals (try (first | with_reducible assumption | omega | (unfold inI; omega) | (unfold inL; omega) | exact cz_in _ _)))))
    all_goals (try ((first | (refine s_X8_match_0 x ok _ _ _ _ ?_) | (refine s_X8_match_33 x ok _ _ _ _ ?_) | (refine s_X8_match_35 x ok _ _ _ _ ?_) | (refine s_X8_match_81 x ok _ _ _ _ ?_) | (refine s_X8_match_157 x ok _ _ _ _ ?_) | (refine s_X8_match_161 x ok _ _ _ _ ?_) | (refine s_X8_match_167 x ok _ _ _ _ ?_) | (refine s_X8_match_272 x ok _ _ _ _ ?_) | (refine s_X8_match_276 x ok _ _ _ _ ?_) | (refine s_X8_match_282 x ok _ _ _ _ ?_) | (refine s_X8_match_291 x ok _ _ _ _ ?_) | (refine s_X8_match_315 x ok _ _ _ _ ?_) | (refine s_X8_match_321 x ok _ _ _ _ ?_)); (try simp only [wpS, o_c, o_cl, o_il, o_ll, o_al, o_is, o_ls, o_as, o_inc, o_add, o_sub, o_mul, o_and, o_or, o_xor, o_shl, o_shr, o_div, o_neg, o_ladd, o_lsub, o_lmul, o_ldiv, o_lrem, o_lneg, o_lcmp, o_i2l, o_l2i, o_dup, o_dup2, o_pop, o_go, o_nn, o_sw, swc, o_iret, o_zret, o_lret, o_vret, o_ieq, o_eq0, o_ine, o_ne0, o_ilt, o_lt0, o_ige, o_ge0, o_igt, o_gt0, o_ile, o_le0, o_iald, o_zald, o_lald, o_aald, o_iast, o_zast, o_last, o_aast, o_alen, o_gi, o_gr, o_pi, o_pz, o_pr, o_new, o_newa, o_copy, o_oinit, o_call, o_callV, o_callVc, o_callI, popn, cnO, o_BAD, lgt, lst, isL, kil, st1, st2, entL, List.length_nil, List.length_cons, List.replicate, Nat.reduceAdd, Nat.reduceLeDiff, Nat.reduceSub, true_and, and_true, Nat.zero_le, ne_eq, qk_wi, ql_wi, qr_wi, qj_wi, qt_wi, qk_wj, ql_wj, qr_wj, qi_wj, qt_wj, qk_wr, ql_wr, qi_wr, qj_wr, qt_wr, qi_ws, qj_ws, qr_ws, Int.toNat_natCast, Int.toNat_zero, Int.reduceToNat, not_true_eq_false, not_false_eq_true, false_implies, implies_true, Option.some.injEq, reduceCtorEq, Sp0, true_or, or_true, or_self, wi_wi, wj_wj]); (repeat' (first | (with_reducible refine And.intro ?_ ?_) | (with_reducible intro))); (all_goals (try (first | with_reducible assumption | omega | (unfold inI; omega) | (unfold inL; omega) | exact cz_in _ _)))))
    all_goals (first | exact hK | (exfalso; omega) | skip)

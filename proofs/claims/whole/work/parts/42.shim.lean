/-! ===== FitBench.shim ===== -/
theorem stF_rg {lo hi gap share step : Int} (h1 : -100000 ≤ lo ∧ hi ≤ 100000 ∧ lo ≤ hi) (h2 : -1000000 ≤ gap ∧ gap ≤ 1000000) (h3 : 1 ≤ step) : 1 ≤ stF lo hi gap share step ∧ stF lo hi gap share step ≤ 10000000 := by
  have d1 := div_rg (z := gap - lo) (w := step) (b := 2000000) (by omega) (by omega) (by omega)
  have d2 := div_rg (z := hi - gap) (w := step) (b := 2000000) (by omega) (by omega) (by omega)
  unfold stF
  dsimp only
  grind
noncomputable def shN (d : Dd) (s : Nat → Int) (lo hi share step : Int) : Nat → Int
  | 0 => 1
  | k + 1 => @ite _ (rcd d s 12 k) (Classical.propDecidable _) (if shN d s lo hi share step k < stF lo hi (leG d s + k) share step then stF lo hi (leG d s + k) share step else shN d s lo hi share step k) (shN d s lo hi share step k)
theorem shN_t {d : Dd} {s : Nat → Int} {lo hi share step : Int} {k : Nat} (h : rcd d s 12 k) : shN d s lo hi share step (k + 1) = if shN d s lo hi share step k < stF lo hi (leG d s + k) share step then stF lo hi (leG d s + k) share step else shN d s lo hi share step k := if_pos h
theorem shN_f {d : Dd} {s : Nat → Int} {lo hi share step : Int} {k : Nat} (h : ¬ rcd d s 12 k) : shN d s lo hi share step (k + 1) = shN d s lo hi share step k := if_neg h
def shmOk (d : Dd) (c m t : Int) : Prop := (0 ≤ c ∧ c ≤ 5) ∧ (0 ≤ m ∧ m ≤ 11) ∧ (1 ≤ t ∧ t ≤ 1000) ∧ dk d m.toNat = 2 ∧ iab (dsh d c.toNat m.toNat) = 1
noncomputable def shmF (d : Dd) (c m t : Int) : Int := if 2001 < shN d (dsh d c.toNat) (dcl d c.toNat) (dch d c.toNat) (dsh d c.toNat m.toNat) t ((wdG d (dsh d c.toNat)).toNat + 1) then -2 else shN d (dsh d c.toNat) (dcl d c.toNat) (dch d c.toNat) (dsh d c.toNat m.toNat) t ((wdG d (dsh d c.toNat)).toNat + 1)
def B_X7_shim : TB := fun as h _ K => ∃ (X R : Nat) (c m t : Int) (d : Dd), as = [vr (some X), vi c, vi m, vi t] ∧ Fbs h X d R ∧ inI c ∧ inI m ∧ inI t ∧ (¬ shmOk d c m t → K (some (vi (-1))) h) ∧ (shmOk d c m t → ∀ hf, Ov h X R (ql h R) hf → K (some (vi (shmF d c m t))) hf)
abbrev i_X7_shim : MI := (cX7_shim, 8, RX7, (some .int), "shim", 6)
theorem k_X7_shim_0 : Okop i_X7_shim 0 (o_il 1) 1 := k_iln (j := 1) (by decide +kernel)
theorem k_X7_shim_1 : Okop i_X7_shim 1 (o_call 1 T_X7_isChain) 4 := k_call (idx := 96) m_X7_isChain ⟨gw_319, gw_1, ⟨by decide, by decide, by decide +kernel⟩, by decide, by decide⟩ gw_317 gw_318 (by decide +kernel)
theorem k_X7_shim_4 : Okop i_X7_shim 4 (o_eq0 25) 7 := k_eq0 (off := 21) (by decide +kernel) (by decide)
theorem k_X7_shim_7 : Okop i_X7_shim 7 (o_il 2) 8 := k_iln (j := 2) (by decide +kernel)
theorem k_X7_shim_8 : Okop i_X7_shim 8 (o_call 1 T_X7_isMeasure) 11 := k_call (idx := 48) m_X7_isMeasure ⟨gw_280, gw_1, ⟨by decide, by decide, by decide +kernel⟩, by decide, by decide⟩ gw_278 gw_279 (by decide +kernel)
theorem k_X7_shim_11 : Okop i_X7_shim 11 (o_eq0 25) 14 := k_eq0 (off := 14) (by decide +kernel) (by decide)
theorem k_X7_shim_14 : Okop i_X7_shim 14 (o_il 3) 15 := k_iln (j := 3) (by decide +kernel)
theorem k_X7_shim_15 : Okop i_X7_shim 15 (o_c 1) 16 := k_iconst (by decide +kernel)
theorem k_X7_shim_16 : Okop i_X7_shim 16 (o_c 1000) 19 := k_sipush (by decide +kernel) rfl
theorem k_X7_shim_19 : Okop i_X7_shim 19 (o_call 3 T_X7_within) 22 := k_call (idx := 52) m_X7_within ⟨gw_283, gw_1, ⟨by decide, by decide, by decide +kernel⟩, by decide, by decide⟩ gw_281 gw_282 (by decide +kernel)
theorem k_X7_shim_22 : Okop i_X7_shim 22 (o_ne0 27) 25 := k_ne0 (off := 5) (by decide +kernel) (by decide)
theorem k_X7_shim_25 : Okop i_X7_shim 25 (o_c (-1)) 26 := k_iconst (by decide +kernel)
theorem k_X7_shim_26 : Okop i_X7_shim 26 (o_iret) 27 := k_iret (by decide +kernel) rfl
theorem k_X7_shim_27 : Okop i_X7_shim 27 (o_al 0) 28 := k_aln (j := 0) (by decide +kernel)
theorem k_X7_shim_28 : Okop i_X7_shim 28 (o_gr 7 0) 31 := k_gr (idx := 12) fo_7 (by decide) (by decide) gw_255 (by decide +kernel)
theorem k_X7_shim_31 : Okop i_X7_shim 31 (o_gr 6 1) 34 := k_gr (idx := 99) fo_6 (by decide) (by decide) gw_151 (by decide +kernel)
theorem k_X7_shim_34 : Okop i_X7_shim 34 (o_il 1) 35 := k_iln (j := 1) (by decide +kernel)
theorem k_X7_shim_35 : Okop i_X7_shim 35 (o_aald) 36 := k_aald (by decide +kernel)
theorem k_X7_shim_36 : Okop i_X7_shim 36 (o_as 4) 38 := k_as (by decide +kernel) (by decide)
theorem k_X7_shim_38 : Okop i_X7_shim 38 (o_al 0) 39 := k_aln (j := 0) (by decide +kernel)
theorem k_X7_shim_39 : Okop i_X7_shim 39 (o_gr 7 0) 42 := k_gr (idx := 12) fo_7 (by decide) (by decide) gw_255 (by decide +kernel)
theorem k_X7_shim_42 : Okop i_X7_shim 42 (o_gr 6 0) 45 := k_gr (idx := 60) fo_6 (by decide) (by decide) gw_148 (by decide +kernel)
theorem k_X7_shim_45 : Okop i_X7_shim 45 (o_il 2) 46 := k_iln (j := 2) (by decide +kernel)
theorem k_X7_shim_46 : Okop i_X7_shim 46 (o_aald) 47 := k_aald (by decide +kernel)
theorem k_X7_shim_47 : Okop i_X7_shim 47 (o_gi 4 0) 50 := k_gi (idx := 64) fo_4 (by decide) (by decide) gw_40 (by decide +kernel)
theorem k_X7_shim_50 : Okop i_X7_shim 50 (o_c 2) 51 := k_iconst (by decide +kernel)
theorem k_X7_shim_51 : Okop i_X7_shim 51 (o_ine 68) 54 := k_ine (off := 17) (by decide +kernel) (by decide)
theorem k_X7_shim_54 : Okop i_X7_shim 54 (o_al 4) 56 := k_al (by decide +kernel)
theorem k_X7_shim_56 : Okop i_X7_shim 56 (o_gr 1 0) 59 := k_gr (idx := 103) fo_1 (by decide) (by decide) gw_113 (by decide +kernel)
theorem k_X7_shim_59 : Okop i_X7_shim 59 (o_il 2) 60 := k_iln (j := 2) (by decide +kernel)
theorem k_X7_shim_60 : Okop i_X7_shim 60 (o_iald) 61 := k_iald (by decide +kernel)
theorem k_X7_shim_61 : Okop i_X7_shim 61 (o_call 1 T_J9_abs_0f7a4) 64 := k_call (idx := 129) m_J9_abs_0f7a4 ⟨gw_359, gw_12, ⟨by decide, by decide, by decide +kernel⟩, by decide, by decide⟩ gw_357 gw_358 (by decide +kernel)
theorem k_X7_shim_64 : Okop i_X7_shim 64 (o_c 1) 65 := k_iconst (by decide +kernel)
theorem k_X7_shim_65 : Okop i_X7_shim 65 (o_ieq 70) 68 := k_ieq (off := 5) (by decide +kernel) (by decide)
theorem k_X7_shim_68 : Okop i_X7_shim 68 (o_c (-1)) 69 := k_iconst (by decide +kernel)
theorem k_X7_shim_69 : Okop i_X7_shim 69 (o_iret) 70 := k_iret (by decide +kernel) rfl
theorem k_X7_shim_70 : Okop i_X7_shim 70 (o_al 0) 71 := k_aln (j := 0) (by decide +kernel)
theorem k_X7_shim_71 : Okop i_X7_shim 71 (o_gr 7 4) 74 := k_gr (idx := 37) fo_7 (by decide) (by decide) gw_259 (by decide +kernel)
theorem k_X7_shim_74 : Okop i_X7_shim 74 (o_al 0) 75 := k_aln (j := 0) (by decide +kernel)
theorem k_X7_shim_75 : Okop i_X7_shim 75 (o_gr 7 0) 78 := k_gr (idx := 12) fo_7 (by decide) (by decide) gw_255 (by decide +kernel)
theorem k_X7_shim_78 : Okop i_X7_shim 78 (o_gr 6 0) 81 := k_gr (idx := 60) fo_6 (by decide) (by decide) gw_148 (by decide +kernel)
theorem k_X7_shim_81 : Okop i_X7_shim 81 (o_al 4) 83 := k_al (by decide +kernel)
theorem k_X7_shim_83 : Okop i_X7_shim 83 (o_callVx 5 2 B_X5_layReached) 86 := k_callVx (idx := 234) (r0 := (RX5, TX5, 9)) m_X5_layReached ⟨gw_610, gw_8, ⟨by decide, by decide, by decide +kernel⟩, by decide, by decide⟩ rfl gw_607 gw_608 gw_609 (by decide +kernel)
theorem k_X7_shim_86 : Okop i_X7_shim 86 (o_al 4) 88 := k_al (by decide +kernel)
theorem k_X7_shim_88 : Okop i_X7_shim 88 (o_al 0) 89 := k_aln (j := 0) (by decide +kernel)
theorem k_X7_shim_89 : Okop i_X7_shim 89 (o_gr 7 0) 92 := k_gr (idx := 12) fo_7 (by decide) (by decide) gw_255 (by decide +kernel)
theorem k_X7_shim_92 : Okop i_X7_shim 92 (o_gr 6 0) 95 := k_gr (idx := 60) fo_6 (by decide) (by decide) gw_148 (by decide +kernel)
theorem k_X7_shim_95 : Okop i_X7_shim 95 (o_callV 1 1 T_X1_leastGap) 98 := k_callV (idx := 140) (r0 := (RX1, TX1, 3)) m_X1_leastGap ⟨gw_380, gw_4, ⟨by decide, by decide, by decide +kernel⟩, by decide, by decide⟩ rfl gw_377 gw_378 gw_379 (by decide +kernel)
theorem k_X7_shim_98 : Okop i_X7_shim 98 (o_is 5) 100 := k_is (by decide +kernel) (by decide)
theorem k_X7_shim_100 : Okop i_X7_shim 100 (o_c 1) 101 := k_iconst (by decide +kernel)
theorem k_X7_shim_101 : Okop i_X7_shim 101 (o_is 6) 103 := k_is (by decide +kernel) (by decide)
theorem k_X7_shim_103 : Okop i_X7_shim 103 (o_c 0) 104 := k_iconst (by decide +kernel)
theorem k_X7_shim_104 : Okop i_X7_shim 104 (o_is 7) 106 := k_is (by decide +kernel) (by decide)
theorem k_X7_shim_106 : Okop i_X7_shim 106 (o_il 7) 108 := k_il (by decide +kernel)
theorem k_X7_shim_108 : Okop i_X7_shim 108 (o_al 0) 109 := k_aln (j := 0) (by decide +kernel)
theorem k_X7_shim_109 : Okop i_X7_shim 109 (o_gr 7 4) 112 := k_gr (idx := 37) fo_7 (by decide) (by decide) gw_259 (by decide +kernel)
theorem k_X7_shim_112 : Okop i_X7_shim 112 (o_gi 5 0) 115 := k_gi (idx := 238) fo_5 (by decide) (by decide) gw_192 (by decide +kernel)
theorem k_X7_shim_115 : Okop i_X7_shim 115 (o_ige 164) 118 := k_ige (off := 49) (by decide +kernel) (by decide)
theorem k_X7_shim_118 : Okop i_X7_shim 118 (o_al 0) 119 := k_aln (j := 0) (by decide +kernel)
theorem k_X7_shim_119 : Okop i_X7_shim 119 (o_gr 7 4) 122 := k_gr (idx := 37) fo_7 (by decide) (by decide) gw_259 (by decide +kernel)
theorem k_X7_shim_122 : Okop i_X7_shim 122 (o_il 7) 124 := k_il (by decide +kernel)
theorem k_X7_shim_124 : Okop i_X7_shim 124 (o_c 0) 125 := k_iconst (by decide +kernel)
theorem k_X7_shim_125 : Okop i_X7_shim 125 (o_callV 5 2 T_X5_at) 128 := k_callV (idx := 241) (r0 := (RX5, TX5, 9)) m_X5_at ⟨gw_480, gw_8, ⟨by decide, by decide, by decide +kernel⟩, by decide, by decide⟩ rfl gw_477 gw_478 gw_479 (by decide +kernel)
theorem k_X7_shim_128 : Okop i_X7_shim 128 (o_cl 0) 129 := k_lconst (n := 0) (by decide +kernel) rfl
theorem k_X7_shim_129 : Okop i_X7_shim 129 (o_lcmp) 130 := k_lcmp (by decide +kernel)
theorem k_X7_shim_130 : Okop i_X7_shim 130 (o_le0 158) 133 := k_le0 (off := 28) (by decide +kernel) (by decide)
theorem k_X7_shim_133 : Okop i_X7_shim 133 (o_il 6) 135 := k_il (by decide +kernel)
theorem k_X7_shim_135 : Okop i_X7_shim 135 (o_al 4) 137 := k_al (by decide +kernel)
theorem k_X7_shim_137 : Okop i_X7_shim 137 (o_il 5) 139 := k_il (by decide +kernel)
theorem k_X7_shim_139 : Okop i_X7_shim 139 (o_il 7) 141 := k_il (by decide +kernel)
theorem k_X7_shim_141 : Okop i_X7_shim 141 (o_add) 142 := k_add (by decide +kernel)
theorem k_X7_shim_142 : Okop i_X7_shim 142 (o_al 4) 144 := k_al (by decide +kernel)
theorem k_X7_shim_144 : Okop i_X7_shim 144 (o_gr 1 0) 147 := k_gr (idx := 103) fo_1 (by decide) (by decide) gw_113 (by decide +kernel)
theorem k_X7_shim_147 : Okop i_X7_shim 147 (o_il 2) 148 := k_iln (j := 2) (by decide +kernel)
theorem k_X7_shim_148 : Okop i_X7_shim 148 (o_iald) 149 := k_iald (by decide +kernel)
theorem k_X7_shim_149 : Okop i_X7_shim 149 (o_il 3) 150 := k_iln (j := 3) (by decide +kernel)
theorem k_X7_shim_150 : Okop i_X7_shim 150 (o_call 4 T_X7_stepsFor) 153 := k_call (idx := 245) m_X7_stepsFor ⟨gw_618, gw_1, ⟨by decide, by decide, by decide +kernel⟩, by decide, by decide⟩ gw_616 gw_617 (by decide +kernel)
theorem k_X7_shim_153 : Okop i_X7_shim 153 (o_call 2 T_J9_max_7cf53) 156 := k_call (idx := 249) m_J9_max_7cf53 ⟨gw_453, gw_12, ⟨by decide, by decide, by decide +kernel⟩, by decide, by decide⟩ gw_473 gw_452 (by decide +kernel)
theorem k_X7_shim_156 : Okop i_X7_shim 156 (o_is 6) 158 := k_is (by decide +kernel) (by decide)
theorem k_X7_shim_158 : Okop i_X7_shim 158 (o_inc 7 1) 161 := k_inc (by decide +kernel) (by decide)
theorem k_X7_shim_161 : Okop i_X7_shim 161 (o_go 106) 164 := k_go (off := -55) (by decide +kernel) (by decide)
theorem k_X7_shim_164 : Okop i_X7_shim 164 (o_il 6) 166 := k_il (by decide +kernel)
theorem k_X7_shim_166 : Okop i_X7_shim 166 (o_c 2001) 169 := k_sipush (by decide +kernel) rfl
theorem k_X7_shim_169 : Okop i_X7_shim 169 (o_ile 177) 172 := k_ile (off := 8) (by decide +kernel) (by decide)
theorem k_X7_shim_172 : Okop i_X7_shim 172 (o_c (-2)) 174 := k_bipush (by decide +kernel) rfl
theorem k_X7_shim_174 : Okop i_X7_shim 174 (o_go 179) 177 := k_go (off := 5) (by decide +kernel) (by decide)
theorem k_X7_shim_177 : Okop i_X7_shim 177 (o_il 6) 179 := k_il (by decide +kernel)
theorem k_X7_shim_179 : Okop i_X7_shim 179 (o_iret) 180 := k_iret (by decide +kernel) rfl
theorem s_X7_shim_0 : Seg i_X7_shim 0 [o_il 1, o_call 1 T_X7_isChain, o_eq0 25, o_il 2, o_call 1 T_X7_isMeasure, o_eq0 25, o_il 3, o_c 1, o_c 1000, o_call 3 T_X7_within, o_ne0 27, o_c (-1), o_iret] 27 := Seg.cons k_X7_shim_0 (Seg.cons k_X7_shim_1 (Seg.cons k_X7_shim_4 (Seg.cons k_X7_shim_7 (Seg.cons k_X7_shim_8 (Seg.cons k_X7_shim_11 (Seg.cons k_X7_shim_14 (Seg.cons k_X7_shim_15 (Seg.cons k_X7_shim_16 (Seg.cons k_X7_shim_19 (Seg.cons k_X7_shim_22 (Seg.cons k_X7_shim_25 (Seg.cons k_X7_shim_26 (Seg.nil)))))))))))))
theorem s_X7_shim_25 : Seg i_X7_shim 25 [o_c (-1), o_iret] 27 := Seg.cons k_X7_shim_25 (Seg.cons k_X7_shim_26 (Seg.nil))
theorem s_X7_shim_27 : Seg i_X7_shim 27 [o_al 0, o_gr 7 0, o_gr 6 1, o_il 1, o_aald, o_as 4, o_al 0, o_gr 7 0, o_gr 6 0, o_il 2, o_aald, o_gi 4 0, o_c 2, o_ine 68, o_al 4, o_gr 1 0, o_il 2, o_iald, o_call 1 T_J9_abs_0f7a4, o_c 1, o_ieq 70, o_c (-1), o_iret] 70 := Seg.cons k_X7_shim_27 (Seg.cons k_X7_shim_28 (Seg.cons k_X7_shim_31 (Seg.cons k_X7_shim_34 (Seg.cons k_X7_shim_35 (Seg.cons k_X7_shim_36 (Seg.cons k_X7_shim_38 (Seg.cons k_X7_shim_39 (Seg.cons k_X7_shim_42 (Seg.cons k_X7_shim_45 (Seg.cons k_X7_shim_46 (Seg.cons k_X7_shim_47 (Seg.cons k_X7_shim_50 (Seg.cons k_X7_shim_51 (Seg.cons k_X7_shim_54 (Seg.cons k_X7_shim_56 (Seg.cons k_X7_shim_59 (Seg.cons k_X7_shim_60 (Seg.cons k_X7_shim_61 (Seg.cons k_X7_shim_64 (Seg.cons k_X7_shim_65 (Seg.cons k_X7_shim_68 (Seg.cons k_X7_shim_69 (Seg.nil)))))))))))))))))))))))
theorem s_X7_shim_68 : Seg i_X7_shim 68 [o_c (-1), o_iret] 70 := Seg.cons k_X7_shim_68 (Seg.cons k_X7_shim_69 (Seg.nil))
theorem s_X7_shim_70 : Seg i_X7_shim 70 [o_al 0, o_gr 7 4, o_al 0, o_gr 7 0, o_gr 6 0, o_al 4, o_callVx 5 2 B_X5_layReached, o_al 4, o_al 0, o_gr 7 0, o_gr 6 0, o_callV 1 1 T_X1_leastGap, o_is 5, o_c 1, o_is 6, o_c 0, o_is 7] 106 := Seg.cons k_X7_shim_70 (Seg.cons k_X7_shim_71 (Seg.cons k_X7_shim_74 (Seg.cons k_X7_shim_75 (Seg.cons k_X7_shim_78 (Seg.cons k_X7_shim_81 (Seg.cons k_X7_shim_83 (Seg.cons k_X7_shim_86 (Seg.cons k_X7_shim_88 (Seg.cons k_X7_shim_89 (Seg.cons k_X7_shim_92 (Seg.cons k_X7_shim_95 (Seg.cons k_X7_shim_98 (Seg.cons k_X7_shim_100 (Seg.cons k_X7_shim_101 (Seg.cons k_X7_shim_103 (Seg.cons k_X7_shim_104 (Seg.nil)))))))))))))))))
theorem s_X7_shim_106 : Seg i_X7_shim 106 [o_il 7, o_al 0, o_gr 7 4, o_gi 5 0, o_ige 164, o_al 0, o_gr 7 4, o_il 7, o_c 0, o_callV 5 2 T_X5_at, o_cl 0, o_lcmp, o_le0 158, o_il 6, o_al 4, o_il 5, o_il 7, o_add, o_al 4, o_gr 1 0, o_il 2, o_iald, o_il 3, o_call 4 T_X7_stepsFor, o_call 2 T_J9_max_7cf53, o_is 6, o_inc 7 1, o_go 106] 164 := Seg.cons k_X7_shim_106 (Seg.cons k_X7_shim_108 (Seg.cons k_X7_shim_109 (Seg.cons k_X7_shim_112 (Seg.cons k_X7_shim_115 (Seg.cons k_X7_shim_118 (Seg.cons k_X7_shim_119 (Seg.cons k_X7_shim_122 (Seg.cons k_X7_shim_124 (Seg.cons k_X7_shim_125 (Seg.cons k_X7_shim_128 (Seg.cons k_X7_shim_129 (Seg.cons k_X7_shim_130 (Seg.cons k_X7_shim_133 (Seg.cons k_X7_shim_135 (Seg.cons k_X7_shim_137 (Seg.cons k_X7_shim_139 (Seg.cons k_X7_shim_141 (Seg.cons k_X7_shim_142 (Seg.cons k_X7_shim_144 (Seg.cons k_X7_shim_147 (Seg.cons k_X7_shim_148 (Seg.cons k_X7_shim_149 (Seg.cons k_X7_shim_150 (Seg.cons k_X7_shim_153 (Seg.cons k_X7_shim_156 (Seg.cons k_X7_shim_158 (Seg.cons k_X7_shim_161 (Seg.nil))))))))))))))))))))))))))))
theorem s_X7_shim_158 : Seg i_X7_shim 158 [o_inc 7 1, o_go 106] 164 := Seg.cons k_X7_shim_158 (Seg.cons k_X7_shim_161 (Seg.nil))
theorem s_X7_shim_164 : Seg i_X7_shim 164 [o_il 6, o_c 2001, o_ile 177, o_c (-2), o_go 179] 177 := Seg.cons k_X7_shim_164 (Seg.cons k_X7_shim_166 (Seg.cons k_X7_shim_169 (Seg.cons k_X7_shim_172 (Seg.cons k_X7_shim_174 (Seg.nil)))))
theorem s_X7_shim_177 : Seg i_X7_shim 177 [o_il 6, o_iret] 180 := Seg.cons k_X7_shim_177 (Seg.cons k_X7_shim_179 (Seg.nil))
theorem s_X7_shim_179 : Seg i_X7_shim 179 [o_iret] 180 := Seg.cons k_X7_shim_179 (Seg.nil)

theorem m_X7_shim : Mthx yX7_shim cX7_shim 8 (some .int) 6 B_X7_shim := by
  refine Mthx.of (by decide) ?_
  rintro x as h bb ok ⟨X, R, c, m, t, d, rfl, hF, ic, im, it, hK1, hK2⟩
  refine ⟨Nat.le_of_ble_eq_true rfl, ?_⟩
  obtain ⟨⟨kx, rx, hS⟩, rfl2, hfl, hfe, rsp, hSp, hR, hqt⟩ := id hF
  by_cases qr : (0 ≤ c ∧ c ≤ 5) ∧ (0 ≤ m ∧ m ≤ 11) ∧ (1 ≤ t ∧ t ≤ 1000)
  · obtain ⟨qc, qm, qt⟩ := qr
    obtain ⟨C, rfl, hC⟩ : ∃ C : Nat, c = (C : Int) ∧ C < 6 := ⟨c.toNat, by omega, by omega⟩
    obtain ⟨M, rfl, hM⟩ : ∃ C : Nat, m = (C : Int) ∧ C < 12 := ⟨m.toNat, by omega, by omega⟩
    obtain ⟨⟨k1, r1, k2, l2⟩, ⟨c1, c2, c3⟩, hI⟩ := hS.ch hC
    have hcv := hS.cv hC
    have hI2 := hS.2.2.1
    have hmj := hS.ms.2.2.2 M hM
    have hdk := (hI2 M hM).k
    have hsM := hI.1 M hM
    have his := iab_le hsM.1 hsM.2
    have hle := leG_rg hI2 hI.1
    have hwd := wdG_rg hI2 hI.1
    have hends := hI.2
    have h27 : V i_X7_shim x 27 [some (vr (some X)), some (vi C), some (vi M), some (vi t), none, none, none, none] [] h bb := by
      by_cases q : dk d M = 2 ∧ iab (dsh d C M) = 1
      · have hK := hK2 ⟨qc, qm, qt, by rw [Int.toNat_natCast]; exact q.1, by rw [Int.toNat_natCast, Int.toNat_natCast]; exact q.2⟩
        unfold shmF at hK
        rw [Int.toNat_natCast, Int.toNat_natCast] at hK
        have h70 : V i_X7_shim x 70 [some (vr (some X)), some (vi C), some (vi M), some (vi t), some (vr (some (X + 1 + 65 + 2 * C))), none, none, none] [] h bb := by
          refine s_X7_shim_70 x ok _ _ _ _ ?_
          simp only [wpS, o_c, o_cl, o_il, o_ll, o_al, o_is, o_ls, o_as, o_inc, o_add, o_sub, o_mul, o_and, o_or, o_xor, o_shl, o_shr, o_div, o_neg, o_ladd, o_lsub, o_lmul, o_ldiv, o_lrem, o_lneg, o_lcmp, o_i2l, o_l2i, o_dup, o_dup2, o_pop, o_go, o_nn, o_sw, swc, o_iret, o_zret, o_lret, o_vret, o_ieq, o_eq0, o_ine, o_ne0, o_ilt, o_lt0, o_ige, o_ge0, o_igt, o_gt0, o_ile, o_le0, o_iald, o_zald, o_lald, o_aald, o_iast, o_zast, o_last, o_aast, o_alen, o_gi, o_gr, o_pi, o_pz, o_pr, o_new, o_newa, o_copy, o_oinit, o_call, o_callV, o_callVc, o_callI, popn, cnO, o_BAD, lgt, lst, isL, kil, st1, st2, entL, List.length_nil, List.length_cons, List.replicate, Nat.reduceAdd, Nat.reduceLeDiff, Nat.reduceSub, true_and, and_true, Nat.zero_le, ne_eq, qk_wi, ql_wi, qr_wi, qj_wi, qt_wi, qk_wj, ql_wj, qr_wj, qi_wj, qt_wj, qk_wr, ql_wr, qi_wr, qj_wr, qt_wr, qi_ws, qj_ws, qr_ws, Int.toNat_natCast, Int.toNat_zero, Int.reduceToNat, not_true_eq_false, not_false_eq_true, false_implies, implies_true, Option.some.injEq, reduceCtorEq, Sp0, true_or, or_true, or_self, wi_wi, wj_wj, kx, rx, rsp, hSp.1, hS.k, hS.r0, o_callVx]
          repeat' (first | (with_reducible refine And.intro ?_ ?_) | (with_reducible intro))
          all_goals (try (first | with_reducible assumption | omega | (unfold inI; omega) | (unfold inL; omega) | exact cz_in _ _))
          refine ⟨bb, Nat.le_refl _, Nat.le_refl _, X + 89, R, X + 1 + 1, X + 1 + 65 + 2 * C, d, dsh d C, rfl, hSp, by omega, hR, hS.ms, by omega, hcv, by omega, fun h' R' f2 gr u1 u2 u3 u4 u5 u6 u7 u8 => ?_⟩
          have hspr := u1.spr u4 f2 (qi h (X + 89 + 2)) (qi h (X + 89 + 3)) gr
          have hF2 := hF.spr hspr (R' := R') u2 u3
          have hfin := hK _ ⟨R', hspr, u2, u3, u4, u5⟩
          have hlen : (wdG d (dsh d C)).toNat + 1 ≤ ql (ws h' (X + 89) R' f2 (qi h (X + 89 + 2)) (qi h (X + 89 + 3)) gr) R' := by
            show _ ≤ ql h' R'
            rw [u5]
            have := hSp.2.2.2.2.2.2.2.2.2
            omega
          have y0 : qi (ws h' (X + 89) R' f2 (qi h (X + 89 + 2)) (qi h (X + 89 + 3)) gr) (X + 89) 0 = (((wdG d (dsh d C)).toNat + 1 : Nat) : Int) := by rw [qsS]; exact u6
          have y1 : qi (ws h' (X + 89) R' f2 (qi h (X + 89 + 2)) (qi h (X + 89 + 3)) gr) (X + 89) 1 = 1 := by rw [qsS]; exact u7
          have yR : ∀ k, k ≤ (wdG d (dsh d C)).toNat → (0 ≤ qj (ws h' (X + 89) R' f2 (qi h (X + 89 + 2)) (qi h (X + 89 + 3)) gr) R' k ∧ qj (ws h' (X + 89) R' f2 (qi h (X + 89 + 2)) (qi h (X + 89 + 3)) gr) R' k ≤ 1000) ∧ (0 < qj (ws h' (X + 89) R' f2 (qi h (X + 89 + 2)) (qi h (X + 89 + 3)) gr) R' k ↔ rcd d (dsh d C) 12 k) := fun k hk => by rw [qsR]; exact u8 k hk
          generalize (ws h' (X + 89) R' f2 (qi h (X + 89 + 2)) (qi h (X + 89 + 3)) gr) = hf at *
          have hcv2 := hF2.1.2.2.cv hC
          have hch2 := hF2.1.2.2.ch hC
          obtain ⟨⟨kx2, rx2, hS2⟩, -, -, -, rsp2, hSp2, -, -⟩ := hF2
          obtain ⟨⟨k1, r1, k2, l2⟩, ⟨c1, c2, c3⟩, -⟩ := hch2
          have kS2 := hSp2.1
          generalize hw : (wdG d (dsh d C)).toNat = w at *
          generalize hG : leG d (dsh d C) = le at *
          have hb : ∀ k, k ≤ w + 1 → 1 ≤ shN d (dsh d C) (dcl d C) (dch d C) (dsh d C M) t k ∧ shN d (dsh d C) (dcl d C) (dch d C) (dsh d C M) t k ≤ 10000000 := by
            intro k
            induction k with
            | zero => intro _; show (1 : Int) ≤ 1 ∧ (1 : Int) ≤ 10000000; omega
            | succ k ih =>
              intro hk
              have i1 := ih (by omega)
              have i2 := stF_rg (lo := dcl d C) (hi := dch d C) (gap := leG d (dsh d C) + k) (share := dsh d C M) (step := t) (by omega) (by omega) (by omega)
              by_cases z : rcd d (dsh d C) 12 k
              · rw [shN_t z]; split <;> omega
              · rw [shN_f z]; exact i1
          have loop : ∀ j, j ≤ w + 1 → V i_X7_shim x 106 [some (vr (some X)), some (vi C), some (vi M), some (vi t), some (vr (some (X + 1 + 65 + 2 * C))), some (vi le), some (vi (shN d (dsh d C) (dcl d C) (dch d C) (dsh d C M) t j)), some (vi j)] [] hf (bb.1 - bb.1, bb.2 - bb.2) := by
            refine bwd _ ?_ ?_
            · have b1 := hb (w + 1) (Nat.le_refl _)
              refine s_X7_shim_106 x ok _ _ _ _ ?_
              simp only [wpS, o_c, o_cl, o_il, o_ll, o_al, o_is, o_ls, o_as, o_inc, o_add, o_sub, o_mul, o_and, o_or, o_xor, o_shl, o_shr, o_div, o_neg, o_ladd, o_lsub, o_lmul, o_ldiv, o_lrem, o_lneg, o_lcmp, o_i2l, o_l2i, o_dup, o_dup2, o_pop, o_go, o_nn, o_sw, swc, o_iret, o_zret, o_lret, o_vret, o_ieq, o_eq0, o_ine, o_ne0, o_ilt, o_lt0, o_ige, o_ge0, o_igt, o_gt0, o_ile, o_le0, o_iald, o_zald, o_lald, o_aald, o_iast, o_zast, o_last, o_aast, o_alen, o_gi, o_gr, o_pi, o_pz, o_pr, o_new, o_newa, o_copy, o_oinit, o_call, o_callV, o_callVc, o_callI, popn, cnO, o_BAD, lgt, lst, isL, kil, st1, st2, entL, List.length_nil, List.length_cons, List.replicate, Nat.reduceAdd, Nat.reduceLeDiff, Nat.reduceSub, true_and, and_true, Nat.zero_le, ne_eq, qk_wi, ql_wi, qr_wi, qj_wi, qt_wi, qk_wj, ql_wj, qr_wj, qi_wj, qt_wj, qk_wr, ql_wr, qi_wr, qj_wr, qt_wr, qi_ws, qj_ws, qr_ws, Int.toNat_natCast, Int.toNat_zero, Int.reduceToNat, not_true_eq_false, not_false_eq_true, false_implies, implies_true, Option.some.injEq, reduceCtorEq, Sp0, true_or, or_true, or_self, wi_wi, wj_wj, kx2, rsp2, kS2, y0]
              repeat' (first | (with_reducible refine And.intro ?_ ?_) | (with_reducible intro))
              all_goals (try (first | with_reducible assumption | omega | (unfold inI; omega) | (unfold inL; omega) | exact cz_in _ _))
              all_goals (try (exfalso; omega))
              generalize shN d (dsh d C) (dcl d C) (dch d C) (dsh d C M) t (w + 1) = B at *
              refine s_X7_shim_164 x ok _ _ _ _ ?_
              simp only [wpS, o_c, o_cl, o_il, o_ll, o_al, o_is, o_ls, o_as, o_inc, o_add, o_sub, o_mul, o_and, o_or, o_xor, o_shl, o_shr, o_div, o_neg, o_ladd, o_lsub, o_lmul, o_ldiv, o_lrem, o_lneg, o_lcmp, o_i2l, o_l2i, o_dup, o_dup2, o_pop, o_go, o_nn, o_sw, swc, o_iret, o_zret, o_lret, o_vret, o_ieq, o_eq0, o_ine, o_ne0, o_ilt, o_lt0, o_ige, o_ge0, o_igt, o_gt0, o_ile, o_le0, o_iald, o_zald, o_lald, o_aald, o_iast, o_zast, o_last, o_aast, o_alen, o_gi, o_gr, o_pi, o_pz, o_pr, o_new, o_newa, o_copy, o_oinit, o_call, o_callV, o_callVc, o_callI, popn, cnO, o_BAD, lgt, lst, isL, kil, st1, st2, entL, List.length_nil, List.length_cons, List.replicate, Nat.reduceAdd, Nat.reduceLeDiff, Nat.reduceSub, true_and, and_true, Nat.zero_le, ne_eq, qk_wi, ql_wi, qr_wi, qj_wi, qt_wi, qk_wj, ql_wj, qr_wj, qi_wj, qt_wj, qk_wr, ql_wr, qi_wr, qj_wr, qt_wr, qi_ws, qj_ws, qr_ws, Int.toNat_natCast, Int.toNat_zero, Int.reduceToNat, not_true_eq_false, not_false_eq_true, false_implies, implies_true, Option.some.injEq, reduceCtorEq, Sp0, true_or, or_true, or_self, wi_wi, wj_wj]
              repeat' (first | (with_reducible refine And.intro ?_ ?_) | (with_reducible intro))
              all_goals (try (first | with_reducible assumption | omega | (unfold inI; omega) | (unfold inL; omega) | exact cz_in _ _))
              · refine s_X7_shim_177 x ok _ _ _ _ ?_
                simp only [wpS, o_c, o_cl, o_il, o_ll, o_al, o_is, o_ls, o_as, o_inc, o_add, o_sub, o_mul, o_and, o_or, o_xor, o_shl, o_shr, o_div, o_neg, o_ladd, o_lsub, o_lmul, o_ldiv, o_lrem, o_lneg, o_lcmp, o_i2l, o_l2i, o_dup, o_dup2, o_pop, o_go, o_nn, o_sw, swc, o_iret, o_zret, o_lret, o_vret, o_ieq, o_eq0, o_ine, o_ne0, o_ilt, o_lt0, o_ige, o_ge0, o_igt, o_gt0, o_ile, o_le0, o_iald, o_zald, o_lald, o_aald, o_iast, o_zast, o_last, o_aast, o_alen, o_gi, o_gr, o_pi, o_pz, o_pr, o_new, o_newa, o_copy, o_oinit, o_call, o_callV, o_callVc, o_callI, popn, cnO, o_BAD, lgt, lst, isL, kil, st1, st2, entL, List.length_nil, List.length_cons, List.replicate, Nat.reduceAdd, Nat.reduceLeDiff, Nat.reduceSub, true_and, and_true, Nat.zero_le, ne_eq, qk_wi, ql_wi, qr_wi, qj_wi, qt_wi, qk_wj, ql_wj, qr_wj, qi_wj, qt_wj, qk_wr, ql_wr, qi_wr, qj_wr, qt_wr, qi_ws, qj_ws, qr_ws, Int.toNat_natCast, Int.toNat_zero, Int.reduceToNat, not_true_eq_false, not_false_eq_true, false_implies, implies_true, Option.some.injEq, reduceCtorEq, Sp0, true_or, or_true, or_self, wi_wi, wj_wj]
                repeat' (first | (with_reducible refine And.intro ?_ ?_) | (with_reducible intro))
                all_goals (try (first | with_reducible assumption | omega | (unfold inI; omega) | (unfold inL; omega) | exact cz_in _ _))
                rw [if_neg (by omega)] at hfin
                exact hfin
              · refine s_X7_shim_179 x ok _ _ _ _ ?_
                simp only [wpS, o_c, o_cl, o_il, o_ll, o_al, o_is, o_ls, o_as, o_inc, o_add, o_sub, o_mul, o_and, o_or, o_xor, o_shl, o_shr, o_div, o_neg, o_ladd, o_lsub, o_lmul, o_ldiv, o_lrem, o_lneg, o_lcmp, o_i2l, o_l2i, o_dup, o_dup2, o_pop, o_go, o_nn, o_sw, swc, o_iret, o_zret, o_lret, o_vret, o_ieq, o_eq0, o_ine, o_ne0, o_ilt, o_lt0, o_ige, o_ge0, o_igt, o_gt0, o_ile, o_le0, o_iald, o_zald, o_lald, o_aald, o_iast, o_zast, o_last, o_aast, o_alen, o_gi, o_gr, o_pi, o_pz, o_pr, o_new, o_newa, o_copy, o_oinit, o_call, o_callV, o_callVc, o_callI, popn, cnO, o_BAD, lgt, lst, isL, kil, st1, st2, entL, List.length_nil, List.length_cons, List.replicate, Nat.reduceAdd, Nat.reduceLeDiff, Nat.reduceSub, true_and, and_true, Nat.zero_le, ne_eq, qk_wi, ql_wi, qr_wi, qj_wi, qt_wi, qk_wj, ql_wj, qr_wj, qi_wj, qt_wj, qk_wr, ql_wr, qi_wr, qj_wr, qt_wr, qi_ws, qj_ws, qr_ws, Int.toNat_natCast, Int.toNat_zero, Int.reduceToNat, not_true_eq_false, not_false_eq_true, false_implies, implies_true, Option.some.injEq, reduceCtorEq, Sp0, true_or, or_true, or_self, wi_wi, wj_wj]
                repeat' (first | (with_reducible refine And.intro ?_ ?_) | (with_reducible intro))
                all_goals (try (first | with_reducible assumption | omega | (unfold inI; omega) | (unfold inL; omega) | exact cz_in _ _))
                rw [if_pos (by omega)] at hfin
                exact hfin
            · intro j hj ih
              have b1 := hb j (by omega)
              have i2 := stF_rg (lo := dcl d C) (hi := dch d C) (gap := le + j) (share := dsh d C M) (step := t) (by omega) (by omega) (by omega)
              have yj := yR j (by omega)
              refine s_X7_shim_106 x ok _ _ _ _ ?_
              simp only [wpS, o_c, o_cl, o_il, o_ll, o_al, o_is, o_ls, o_as, o_inc, o_add, o_sub, o_mul, o_and, o_or, o_xor, o_shl, o_shr, o_div, o_neg, o_ladd, o_lsub, o_lmul, o_ldiv, o_lrem, o_lneg, o_lcmp, o_i2l, o_l2i, o_dup, o_dup2, o_pop, o_go, o_nn, o_sw, swc, o_iret, o_zret, o_lret, o_vret, o_ieq, o_eq0, o_ine, o_ne0, o_ilt, o_lt0, o_ige, o_ge0, o_igt, o_gt0, o_ile, o_le0, o_iald, o_zald, o_lald, o_aald, o_iast, o_zast, o_last, o_aast, o_alen, o_gi, o_gr, o_pi, o_pz, o_pr, o_new, o_newa, o_copy, o_oinit, o_call, o_callV, o_callVc, o_callI, popn, cnO, o_BAD, lgt, lst, isL, kil, st1, st2, entL, List.length_nil, List.length_cons, List.replicate, Nat.reduceAdd, Nat.reduceLeDiff, Nat.reduceSub, true_and, and_true, Nat.zero_le, ne_eq, qk_wi, ql_wi, qr_wi, qj_wi, qt_wi, qk_wj, ql_wj, qr_wj, qi_wj, qt_wj, qk_wr, ql_wr, qi_wr, qj_wr, qt_wr, qi_ws, qj_ws, qr_ws, Int.toNat_natCast, Int.toNat_zero, Int.reduceToNat, not_true_eq_false, not_false_eq_true, false_implies, implies_true, Option.some.injEq, reduceCtorEq, Sp0, true_or, or_true, or_self, wi_wi, wj_wj, kx2, rsp2, kS2, y0]
              repeat' (first | (with_reducible refine And.intro ?_ ?_) | (with_reducible intro))
              all_goals (try (first | with_reducible assumption | omega | (unfold inI; omega) | (unfold inL; omega) | exact cz_in _ _))
              all_goals (try (exfalso; omega))
              refine c_at (R := R') hSp2 ?_
              rw [y1, Int.mul_one, Int.add_zero]
              refine ⟨by unfold inI; omega, ?_⟩
              rw [if_pos ⟨by omega, by omega⟩, Int.toNat_natCast]
              simp only [wpS, o_c, o_cl, o_il, o_ll, o_al, o_is, o_ls, o_as, o_inc, o_add, o_sub, o_mul, o_and, o_or, o_xor, o_shl, o_shr, o_div, o_neg, o_ladd, o_lsub, o_lmul, o_ldiv, o_lrem, o_lneg, o_lcmp, o_i2l, o_l2i, o_dup, o_dup2, o_pop, o_go, o_nn, o_sw, swc, o_iret, o_zret, o_lret, o_vret, o_ieq, o_eq0, o_ine, o_ne0, o_ilt, o_lt0, o_ige, o_ge0, o_igt, o_gt0, o_ile, o_le0, o_iald, o_zald, o_lald, o_aald, o_iast, o_zast, o_last, o_aast, o_alen, o_gi, o_gr, o_pi, o_pz, o_pr, o_new, o_newa, o_copy, o_oinit, o_call, o_callV, o_callVc, o_callI, popn, cnO, o_BAD, lgt, lst, isL, kil, st1, st2, entL, List.length_nil, List.length_cons, List.replicate, Nat.reduceAdd, Nat.reduceLeDiff, Nat.reduceSub, true_and, and_true, Nat.zero_le, ne_eq, qk_wi, ql_wi, qr_wi, qj_wi, qt_wi, qk_wj, ql_wj, qr_wj, qi_wj, qt_wj, qk_wr, ql_wr, qi_wr, qj_wr, qt_wr, qi_ws, qj_ws, qr_ws, Int.toNat_natCast, Int.toNat_zero, Int.reduceToNat, not_true_eq_false, not_false_eq_true, false_implies, implies_true, Option.some.injEq, reduceCtorEq, Sp0, true_or, or_true, or_self, wi_wi, wj_wj, cz_le]
              repeat' (first | (with_reducible refine And.intro ?_ ?_) | (with_reducible intro))
              all_goals (try (first | with_reducible assumption | omega | (unfold inI; omega) | (unfold inL; omega) | exact cz_in _ _))
              · rw [shN_f (fun z => by have := yj.2.mpr z; omega)] at ih
                refine s_X7_shim_158 x ok _ _ _ _ ?_
                simp only [wpS, o_c, o_cl, o_il, o_ll, o_al, o_is, o_ls, o_as, o_inc, o_add, o_sub, o_mul, o_and, o_or, o_xor, o_shl, o_shr, o_div, o_neg, o_ladd, o_lsub, o_lmul, o_ldiv, o_lrem, o_lneg, o_lcmp, o_i2l, o_l2i, o_dup, o_dup2, o_pop, o_go, o_nn, o_sw, swc, o_iret, o_zret, o_lret, o_vret, o_ieq, o_eq0, o_ine, o_ne0, o_ilt, o_lt0, o_ige, o_ge0, o_igt, o_gt0, o_ile, o_le0, o_iald, o_zald, o_lald, o_aald, o_iast, o_zast, o_last, o_aast, o_alen, o_gi, o_gr, o_pi, o_pz, o_pr, o_new, o_newa, o_copy, o_oinit, o_call, o_callV, o_callVc, o_callI, popn, cnO, o_BAD, lgt, lst, isL, kil, st1, st2, entL, List.length_nil, List.length_cons, List.replicate, Nat.reduceAdd, Nat.reduceLeDiff, Nat.reduceSub, true_and, and_true, Nat.zero_le, ne_eq, qk_wi, ql_wi, qr_wi, qj_wi, qt_wi, qk_wj, ql_wj, qr_wj, qi_wj, qt_wj, qk_wr, ql_wr, qi_wr, qj_wr, qt_wr, qi_ws, qj_ws, qr_ws, Int.toNat_natCast, Int.toNat_zero, Int.reduceToNat, not_true_eq_false, not_false_eq_true, false_implies, implies_true, Option.some.injEq, reduceCtorEq, Sp0, true_or, or_true, or_self, wi_wi, wj_wj]
                repeat' (first | (with_reducible refine And.intro ?_ ?_) | (with_reducible intro))
                all_goals (try (first | with_reducible assumption | omega | (unfold inI; omega) | (unfold inL; omega) | exact cz_in _ _))
                exact ih
              · rw [shN_t (yj.2.mp (by omega)), hG] at ih
                simp only [wpS, o_c, o_cl, o_il, o_ll, o_al, o_is, o_ls, o_as, o_inc, o_add, o_sub, o_mul, o_and, o_or, o_xor, o_shl, o_shr, o_div, o_neg, o_ladd, o_lsub, o_lmul, o_ldiv, o_lrem, o_lneg, o_lcmp, o_i2l, o_l2i, o_dup, o_dup2, o_pop, o_go, o_nn, o_sw, swc, o_iret, o_zret, o_lret, o_vret, o_ieq, o_eq0, o_ine, o_ne0, o_ilt, o_lt0, o_ige, o_ge0, o_igt, o_gt0, o_ile, o_le0, o_iald, o_zald, o_lald, o_aald, o_iast, o_zast, o_last, o_aast, o_alen, o_gi, o_gr, o_pi, o_pz, o_pr, o_new, o_newa, o_copy, o_oinit, o_call, o_callV, o_callVc, o_callI, popn, cnO, o_BAD, lgt, lst, isL, kil, st1, st2, entL, List.length_nil, List.length_cons, List.replicate, Nat.reduceAdd, Nat.reduceLeDiff, Nat.reduceSub, true_and, and_true, Nat.zero_le, ne_eq, qk_wi, ql_wi, qr_wi, qj_wi, qt_wi, qk_wj, ql_wj, qr_wj, qi_wj, qt_wj, qk_wr, ql_wr, qi_wr, qj_wr, qt_wr, qi_ws, qj_ws, qr_ws, Int.toNat_natCast, Int.toNat_zero, Int.reduceToNat, not_true_eq_false, not_false_eq_true, false_implies, implies_true, Option.some.injEq, reduceCtorEq, Sp0, true_or, or_true, or_self, wi_wi, wj_wj, k1, r1, k2, l2, c3 M hM]
                repeat' (first | (with_reducible refine And.intro ?_ ?_) | (with_reducible intro))
                all_goals (try (first | with_reducible assumption | omega | (unfold inI; omega) | (unfold inL; omega) | exact cz_in _ _))
                refine c_stepsFor ⟨k1, r1, k2, l2⟩ c1 c2 ⟨by omega, by omega, by unfold inI; omega, by omega, ?_⟩
                simp only [wpS, o_c, o_cl, o_il, o_ll, o_al, o_is, o_ls, o_as, o_inc, o_add, o_sub, o_mul, o_and, o_or, o_xor, o_shl, o_shr, o_div, o_neg, o_ladd, o_lsub, o_lmul, o_ldiv, o_lrem, o_lneg, o_lcmp, o_i2l, o_l2i, o_dup, o_dup2, o_pop, o_go, o_nn, o_sw, swc, o_iret, o_zret, o_lret, o_vret, o_ieq, o_eq0, o_ine, o_ne0, o_ilt, o_lt0, o_ige, o_ge0, o_igt, o_gt0, o_ile, o_le0, o_iald, o_zald, o_lald, o_aald, o_iast, o_zast, o_last, o_aast, o_alen, o_gi, o_gr, o_pi, o_pz, o_pr, o_new, o_newa, o_copy, o_oinit, o_call, o_callV, o_callVc, o_callI, popn, cnO, o_BAD, lgt, lst, isL, kil, st1, st2, entL, List.length_nil, List.length_cons, List.replicate, Nat.reduceAdd, Nat.reduceLeDiff, Nat.reduceSub, true_and, and_true, Nat.zero_le, ne_eq, qk_wi, ql_wi, qr_wi, qj_wi, qt_wi, qk_wj, ql_wj, qr_wj, qi_wj, qt_wj, qk_wr, ql_wr, qi_wr, qj_wr, qt_wr, qi_ws, qj_ws, qr_ws, Int.toNat_natCast, Int.toNat_zero, Int.reduceToNat, not_true_eq_false, not_false_eq_true, false_implies, implies_true, Option.some.injEq, reduceCtorEq, Sp0, true_or, or_true, or_self, wi_wi, wj_wj]
                repeat' (first | (with_reducible refine And.intro ?_ ?_) | (with_reducible intro))
                all_goals (try (first | with_reducible assumption | omega | (unfold inI; omega) | (unfold inL; omega) | exact cz_in _ _))
                refine c_max ⟨by unfold inI; omega, by unfold inI; omega, ?_⟩
                simp only [wpS, o_c, o_cl, o_il, o_ll, o_al, o_is, o_ls, o_as, o_inc, o_add, o_sub, o_mul, o_and, o_or, o_xor, o_shl, o_shr, o_div, o_neg, o_ladd, o_lsub, o_lmul, o_ldiv, o_lrem, o_lneg, o_lcmp, o_i2l, o_l2i, o_dup, o_dup2, o_pop, o_go, o_nn, o_sw, swc, o_iret, o_zret, o_lret, o_vret, o_ieq, o_eq0, o_ine, o_ne0, o_ilt, o_lt0, o_ige, o_ge0, o_igt, o_gt0, o_ile, o_le0, o_iald, o_zald, o_lald, o_aald, o_iast, o_zast, o_last, o_aast, o_alen, o_gi, o_gr, o_pi, o_pz, o_pr, o_new, o_newa, o_copy, o_oinit, o_call, o_callV, o_callVc, o_callI, popn, cnO, o_BAD, lgt, lst, isL, kil, st1, st2, entL, List.length_nil, List.length_cons, List.replicate, Nat.reduceAdd, Nat.reduceLeDiff, Nat.reduceSub, true_and, and_true, Nat.zero_le, ne_eq, qk_wi, ql_wi, qr_wi, qj_wi, qt_wi, qk_wj, ql_wj, qr_wj, qi_wj, qt_wj, qk_wr, ql_wr, qi_wr, qj_wr, qt_wr, qi_ws, qj_ws, qr_ws, Int.toNat_natCast, Int.toNat_zero, Int.reduceToNat, not_true_eq_false, not_false_eq_true, false_implies, implies_true, Option.some.injEq, reduceCtorEq, Sp0, true_or, or_true, or_self, wi_wi, wj_wj]
                repeat' (first | (with_reducible refine And.intro ?_ ?_) | (with_reducible intro))
                all_goals (try (first | with_reducible assumption | omega | (unfold inI; omega) | (unfold inL; omega) | exact cz_in _ _))
                exact ih
          simp only [wpS, o_c, o_cl, o_il, o_ll, o_al, o_is, o_ls, o_as, o_inc, o_add, o_sub, o_mul, o_and, o_or, o_xor, o_shl, o_shr, o_div, o_neg, o_ladd, o_lsub, o_lmul, o_ldiv, o_lrem, o_lneg, o_lcmp, o_i2l, o_l2i, o_dup, o_dup2, o_pop, o_go, o_nn, o_sw, swc, o_iret, o_zret, o_lret, o_vret, o_ieq, o_eq0, o_ine, o_ne0, o_ilt, o_lt0, o_ige, o_ge0, o_igt, o_gt0, o_ile, o_le0, o_iald, o_zald, o_lald, o_aald, o_iast, o_zast, o_last, o_aast, o_alen, o_gi, o_gr, o_pi, o_pz, o_pr, o_new, o_newa, o_copy, o_oinit, o_call, o_callV, o_callVc, o_callI, popn, cnO, o_BAD, lgt, lst, isL, kil, st1, st2, entL, List.length_nil, List.length_cons, List.replicate, Nat.reduceAdd, Nat.reduceLeDiff, Nat.reduceSub, true_and, and_true, Nat.zero_le, ne_eq, qk_wi, ql_wi, qr_wi, qj_wi, qt_wi, qk_wj, ql_wj, qr_wj, qi_wj, qt_wj, qk_wr, ql_wr, qi_wr, qj_wr, qt_wr, qi_ws, qj_ws, qr_ws, Int.toNat_natCast, Int.toNat_zero, Int.reduceToNat, not_true_eq_false, not_false_eq_true, false_implies, implies_true, Option.some.injEq, reduceCtorEq, Sp0, true_or, or_true, or_self, wi_wi, wj_wj, kx2, rx2, hS2.k, hS2.r0, k1]
          repeat' (first | (with_reducible refine And.intro ?_ ?_) | (with_reducible intro))
          all_goals (try (first | with_reducible assumption | omega | (unfold inI; omega) | (unfold inL; omega) | exact cz_in _ _))
          refine c_leastGap hcv2 hS2.ms ?_
          rw [hG]
          simp only [wpS, o_c, o_cl, o_il, o_ll, o_al, o_is, o_ls, o_as, o_inc, o_add, o_sub, o_mul, o_and, o_or, o_xor, o_shl, o_shr, o_div, o_neg, o_ladd, o_lsub, o_lmul, o_ldiv, o_lrem, o_lneg, o_lcmp, o_i2l, o_l2i, o_dup, o_dup2, o_pop, o_go, o_nn, o_sw, swc, o_iret, o_zret, o_lret, o_vret, o_ieq, o_eq0, o_ine, o_ne0, o_ilt, o_lt0, o_ige, o_ge0, o_igt, o_gt0, o_ile, o_le0, o_iald, o_zald, o_lald, o_aald, o_iast, o_zast, o_last, o_aast, o_alen, o_gi, o_gr, o_pi, o_pz, o_pr, o_new, o_newa, o_copy, o_oinit, o_call, o_callV, o_callVc, o_callI, popn, cnO, o_BAD, lgt, lst, isL, kil, st1, st2, entL, List.length_nil, List.length_cons, List.replicate, Nat.reduceAdd, Nat.reduceLeDiff, Nat.reduceSub, true_and, and_true, Nat.zero_le, ne_eq, qk_wi, ql_wi, qr_wi, qj_wi, qt_wi, qk_wj, ql_wj, qr_wj, qi_wj, qt_wj, qk_wr, ql_wr, qi_wr, qj_wr, qt_wr, qi_ws, qj_ws, qr_ws, Int.toNat_natCast, Int.toNat_zero, Int.reduceToNat, not_true_eq_false, not_false_eq_true, false_implies, implies_true, Option.some.injEq, reduceCtorEq, Sp0, true_or, or_true, or_self, wi_wi, wj_wj]
          repeat' (first | (with_reducible refine And.intro ?_ ?_) | (with_reducible intro))
          all_goals (try (first | with_reducible assumption | omega | (unfold inI; omega) | (unfold inL; omega) | exact cz_in _ _))
          exact loop 0 (by omega)
        refine s_X7_shim_27 x ok _ _ _ _ ?_
        simp only [wpS, o_c, o_cl, o_il, o_ll, o_al, o_is, o_ls, o_as, o_inc, o_add, o_sub, o_mul, o_and, o_or, o_xor, o_shl, o_shr, o_div, o_neg, o_ladd, o_lsub, o_lmul, o_ldiv, o_lrem, o_lneg, o_lcmp, o_i2l, o_l2i, o_dup, o_dup2, o_pop, o_go, o_nn, o_sw, swc, o_iret, o_zret, o_lret, o_vret, o_ieq, o_eq0, o_ine, o_ne0, o_ilt, o_lt0, o_ige, o_ge0, o_igt, o_gt0, o_ile, o_le0, o_iald, o_zald, o_lald, o_aald, o_iast, o_zast, o_last, o_aast, o_alen, o_gi, o_gr, o_pi, o_pz, o_pr, o_new, o_newa, o_copy, o_oinit, o_call, o_callV, o_callVc, o_callI, popn, cnO, o_BAD, lgt, lst, isL, kil, st1, st2, entL, List.length_nil, List.length_cons, List.replicate, Nat.reduceAdd, Nat.reduceLeDiff, Nat.reduceSub, true_and, and_true, Nat.zero_le, ne_eq, qk_wi, ql_wi, qr_wi, qj_wi, qt_wi, qk_wj, ql_wj, qr_wj, qi_wj, qt_wj, qk_wr, ql_wr, qi_wr, qj_wr, qt_wr, qi_ws, qj_ws, qr_ws, Int.toNat_natCast, Int.toNat_zero, Int.reduceToNat, not_true_eq_false, not_false_eq_true, false_implies, implies_true, Option.some.injEq, reduceCtorEq, Sp0, true_or, or_true, or_self, wi_wi, wj_wj, kx, rx, hS.k, hS.r0, hS.r1, hS.k2, hS.l2, hS.rc hC, hS.ms.1, hS.ms.2.1, hS.ms.2.2.1 M hM, hmj.1.1, hmj.2.1.1, k1, r1, k2, l2, c3 M hM]
        repeat' (first | (with_reducible refine And.intro ?_ ?_) | (with_reducible intro))
        all_goals (try (first | with_reducible assumption | omega | (unfold inI; omega) | (unfold inL; omega) | exact cz_in _ _))
        all_goals (try (exfalso; omega))
        refine c_abs ⟨by unfold inI; omega, ?_⟩
        simp only [wpS, o_c, o_cl, o_il, o_ll, o_al, o_is, o_ls, o_as, o_inc, o_add, o_sub, o_mul, o_and, o_or, o_xor, o_shl, o_shr, o_div, o_neg, o_ladd, o_lsub, o_lmul, o_ldiv, o_lrem, o_lneg, o_lcmp, o_i2l, o_l2i, o_dup, o_dup2, o_pop, o_go, o_nn, o_sw, swc, o_iret, o_zret, o_lret, o_vret, o_ieq, o_eq0, o_ine, o_ne0, o_ilt, o_lt0, o_ige, o_ge0, o_igt, o_gt0, o_ile, o_le0, o_iald, o_zald, o_lald, o_aald, o_iast, o_zast, o_last, o_aast, o_alen, o_gi, o_gr, o_pi, o_pz, o_pr, o_new, o_newa, o_copy, o_oinit, o_call, o_callV, o_callVc, o_callI, popn, cnO, o_BAD, lgt, lst, isL, kil, st1, st2, entL, List.length_nil, List.length_cons, List.replicate, Nat.reduceAdd, Nat.reduceLeDiff, Nat.reduceSub, true_and, and_true, Nat.zero_le, ne_eq, qk_wi, ql_wi, qr_wi, qj_wi, qt_wi, qk_wj, ql_wj, qr_wj, qi_wj, qt_wj, qk_wr, ql_wr, qi_wr, qj_wr, qt_wr, qi_ws, qj_ws, qr_ws, Int.toNat_natCast, Int.toNat_zero, Int.reduceToNat, not_true_eq_false, not_false_eq_true, false_implies, implies_true, Option.some.injEq, reduceCtorEq, Sp0, true_or, or_true, or_self, wi_wi, wj_wj]
        repeat' (first | (with_reducible refine And.intro ?_ ?_) | (with_reducible intro))
        all_goals (try (first | with_reducible assumption | omega | (unfold inI; omega) | (unfold inL; omega) | exact cz_in _ _))
        all_goals (try (exfalso; omega))
      · have hK := hK1 (fun z => q ⟨by have := z.2.2.2.1; rw [Int.toNat_natCast] at this; exact this, by have := z.2.2.2.2; rw [Int.toNat_natCast, Int.toNat_natCast] at this; exact this⟩)
        refine s_X7_shim_27 x ok _ _ _ _ ?_
        simp only [wpS, o_c, o_cl, o_il, o_ll, o_al, o_is, o_ls, o_as, o_inc, o_add, o_sub, o_mul, o_and, o_or, o_xor, o_shl, o_shr, o_div, o_neg, o_ladd, o_lsub, o_lmul, o_ldiv, o_lrem, o_lneg, o_lcmp, o_i2l, o_l2i, o_dup, o_dup2, o_pop, o_go, o_nn, o_sw, swc, o_iret, o_zret, o_lret, o_vret, o_ieq, o_eq0, o_ine, o_ne0, o_ilt, o_lt0, o_ige, o_ge0, o_igt, o_gt0, o_ile, o_le0, o_iald, o_zald, o_lald, o_aald, o_iast, o_zast, o_last, o_aast, o_alen, o_gi, o_gr, o_pi, o_pz, o_pr, o_new, o_newa, o_copy, o_oinit, o_call, o_callV, o_callVc, o_callI, popn, cnO, o_BAD, lgt, lst, isL, kil, st1, st2, entL, List.length_nil, List.length_cons, List.replicate, Nat.reduceAdd, Nat.reduceLeDiff, Nat.reduceSub, true_and, and_true, Nat.zero_le, ne_eq, qk_wi, ql_wi, qr_wi, qj_wi, qt_wi, qk_wj, ql_wj, qr_wj, qi_wj, qt_wj, qk_wr, ql_wr, qi_wr, qj_wr, qt_wr, qi_ws, qj_ws, qr_ws, Int.toNat_natCast, Int.toNat_zero, Int.reduceToNat, not_true_eq_false, not_false_eq_true, false_implies, implies_true, Option.some.injEq, reduceCtorEq, Sp0, true_or, or_true, or_self, wi_wi, wj_wj, kx, rx, hS.k, hS.r0, hS.r1, hS.k2, hS.l2, hS.rc hC, hS.ms.1, hS.ms.2.1, hS.ms.2.2.1 M hM, hmj.1.1, hmj.2.1.1, k1, r1, k2, l2, c3 M hM]
        repeat' (first | (with_reducible refine And.intro ?_ ?_) | (with_reducible intro))
        all_goals (try (first | with_reducible assumption | omega | (unfold inI; omega) | (unfold inL; omega) | exact cz_in _ _))
        · refine s_X7_shim_68 x ok _ _ _ _ ?_
          simp only [wpS, o_c, o_cl, o_il, o_ll, o_al, o_is, o_ls, o_as, o_inc, o_add, o_sub, o_mul, o_and, o_or, o_xor, o_shl, o_shr, o_div, o_neg, o_ladd, o_lsub, o_lmul, o_ldiv, o_lrem, o_lneg, o_lcmp, o_i2l, o_l2i, o_dup, o_dup2, o_pop, o_go, o_nn, o_sw, swc, o_iret, o_zret, o_lret, o_vret, o_ieq, o_eq0, o_ine, o_ne0, o_ilt, o_lt0, o_ige, o_ge0, o_igt, o_gt0, o_ile, o_le0, o_iald, o_zald, o_lald, o_aald, o_iast, o_zast, o_last, o_aast, o_alen, o_gi, o_gr, o_pi, o_pz, o_pr, o_new, o_newa, o_copy, o_oinit, o_call, o_callV, o_callVc, o_callI, popn, cnO, o_BAD, lgt, lst, isL, kil, st1, st2, entL, List.length_nil, List.length_cons, List.replicate, Nat.reduceAdd, Nat.reduceLeDiff, Nat.reduceSub, true_and, and_true, Nat.zero_le, ne_eq, qk_wi, ql_wi, qr_wi, qj_wi, qt_wi, qk_wj, ql_wj, qr_wj, qi_wj, qt_wj, qk_wr, ql_wr, qi_wr, qj_wr, qt_wr, qi_ws, qj_ws, qr_ws, Int.toNat_natCast, Int.toNat_zero, Int.reduceToNat, not_true_eq_false, not_false_eq_true, false_implies, implies_true, Option.some.injEq, reduceCtorEq, Sp0, true_or, or_true, or_self, wi_wi, wj_wj]
          repeat' (first | (with_reducible refine And.intro ?_ ?_) | (with_reducible intro))
          all_goals (try (first | with_reducible assumption | omega | (unfold inI; omega) | (unfold inL; omega) | exact cz_in _ _))
        · refine c_abs ⟨by unfold inI; omega, ?_⟩
          simp only [wpS, o_c, o_cl, o_il, o_ll, o_al, o_is, o_ls, o_as, o_inc, o_add, o_sub, o_mul, o_and, o_or, o_xor, o_shl, o_shr, o_div, o_neg, o_ladd, o_lsub, o_lmul, o_ldiv, o_lrem, o_lneg, o_lcmp, o_i2l, o_l2i, o_dup, o_dup2, o_pop, o_go, o_nn, o_sw, swc, o_iret, o_zret, o_lret, o_vret, o_ieq, o_eq0, o_ine, o_ne0, o_ilt, o_lt0, o_ige, o_ge0, o_igt, o_gt0, o_ile, o_le0, o_iald, o_zald, o_lald, o_aald, o_iast, o_zast, o_last, o_aast, o_alen, o_gi, o_gr, o_pi, o_pz, o_pr, o_new, o_newa, o_copy, o_oinit, o_call, o_callV, o_callVc, o_callI, popn, cnO, o_BAD, lgt, lst, isL, kil, st1, st2, entL, List.length_nil, List.length_cons, List.replicate, Nat.reduceAdd, Nat.reduceLeDiff, Nat.reduceSub, true_and, and_true, Nat.zero_le, ne_eq, qk_wi, ql_wi, qr_wi, qj_wi, qt_wi, qk_wj, ql_wj, qr_wj, qi_wj, qt_wj, qk_wr, ql_wr, qi_wr, qj_wr, qt_wr, qi_ws, qj_ws, qr_ws, Int.toNat_natCast, Int.toNat_zero, Int.reduceToNat, not_true_eq_false, not_false_eq_true, false_implies, implies_true, Option.some.injEq, reduceCtorEq, Sp0, true_or, or_true, or_self, wi_wi, wj_wj]
          repeat' (first | (with_reducible refine And.intro ?_ ?_) | (with_reducible intro))
          all_goals (try (first | with_reducible assumption | omega | (unfold inI; omega) | (unfold inL; omega) | exact cz_in _ _))
          all_goals (first | exact hK | (exfalso; omega))
    all_goals (try ((first | (refine s_X7_shim_0 x ok _ _ _ _ ?_) | (refine s_X7_shim_25 x ok _ _ _ _ ?_) | (refine s_X7_shim_27 x ok _ _ _ _ ?_) | (refine s_X7_shim_68 x ok _ _ _ _ ?_) | (refine s_X7_shim_70 x ok _ _ _ _ ?_) | (refine s_X7_shim_158 x ok _ _ _ _ ?_) | (refine s_X7_shim_164 x ok _ _ _ _ ?_) | (refine s_X7_shim_177 x ok _ _ _ _ ?_) | (refine s_X7_shim_179 x ok _ _ _ _ ?_)); (try simp only [wpS, o_c, o_cl, o_il, o_ll, o_al, o_is, o_ls, o_as, o_inc, o_add, o_sub, o_mul, o_and, o_or, o_xor, o_shl, o_shr, o_div, o_neg, o_ladd, o_lsub, o_lmul, o_ldiv, o_lrem, o_lneg, o_lcmp, o_i2l, o_l2i, o_dup, o_dup2, o_pop, o_go, o_nn, o_sw, swc, o_iret, o_zret, o_lret, o_vret, o_ieq, o_eq0, o_ine, o_ne0, o_ilt, o_lt0, o_ige, o_ge0, o_igt, o_gt0, o_ile, o_le0, o_iald, o_zald, o_lald, o_aald, o_iast, o_zast, o_last, o_aast, o_alen, o_gi, o_gr, o_pi, o_pz, o_pr, o_new, o_newa, o_copy, o_oinit, o_call, o_callV, o_callVc, o_callI, popn, cnO, o_BAD, lgt, lst, isL, kil, st1, st2, entL, List.length_nil, List.length_cons, List.replicate, Nat.reduceAdd, Nat.reduceLeDiff, Nat.reduceSub, true_and, and_true, Nat.zero_le, ne_eq, qk_wi, ql_wi, qr_wi, qj_wi, qt_wi, qk_wj, ql_wj, qr_wj, qi_wj, qt_wj, qk_wr, ql_wr, qi_wr, qj_wr, qt_wr, qi_ws, qj_ws, qr_ws, Int.toNat_natCast, Int.toNat_zero, Int.reduceToNat, not_true_eq_false, not_false_eq_true, false_implies, implies_true, Option.some.injEq, reduceCtorEq, Sp0, true_or, or_true, or_self, wi_wi, wj_wj]); (repeat' (first | (with_reducible refine And.intro ?_ ?_) | (with_reducible intro))); (all_goals (try (first | assumption | omega | (unfold inI; omega))))))
    refine c_rg ⟨ic, fun _ => ?_, fun z => by omega⟩
    simp only [wpS, o_c, o_cl, o_il, o_ll, o_al, o_is, o_ls, o_as, o_inc, o_add, o_sub, o_mul, o_and, o_or, o_xor, o_shl, o_shr, o_div, o_neg, o_ladd, o_lsub, o_lmul, o_ldiv, o_lrem, o_lneg, o_lcmp, o_i2l, o_l2i, o_dup, o_dup2, o_pop, o_go, o_nn, o_sw, swc, o_iret, o_zret, o_lret, o_vret, o_ieq, o_eq0, o_ine, o_ne0, o_ilt, o_lt0, o_ige, o_ge0, o_igt, o_gt0, o_ile, o_le0, o_iald, o_zald, o_lald, o_aald, o_iast, o_zast, o_last, o_aast, o_alen, o_gi, o_gr, o_pi, o_pz, o_pr, o_new, o_newa, o_copy, o_oinit, o_call, o_callV, o_callVc, o_callI, popn, cnO, o_BAD, lgt, lst, isL, kil, st1, st2, entL, List.length_nil, List.length_cons, List.replicate, Nat.reduceAdd, Nat.reduceLeDiff, Nat.reduceSub, true_and, and_true, Nat.zero_le, ne_eq, qk_wi, ql_wi, qr_wi, qj_wi, qt_wi, qk_wj, ql_wj, qr_wj, qi_wj, qt_wj, qk_wr, ql_wr, qi_wr, qj_wr, qt_wr, qi_ws, qj_ws, qr_ws, Int.toNat_natCast, Int.toNat_zero, Int.reduceToNat, not_true_eq_false, not_false_eq_true, false_implies, implies_true, Option.some.injEq, reduceCtorEq, Sp0, true_or, or_true, or_self, wi_wi, wj_wj]
    repeat' (first | (with_reducible refine And.intro ?_ ?_) | (with_reducible intro))
    all_goals (try (first | with_reducible assumption | omega | (unfold inI; omega) | (unfold inL; omega) | exact cz_in _ _))
    all_goals (try (exfalso; omega))
    refine c_rg ⟨im, fun _ => ?_, fun z => by omega⟩
    simp only [wpS, o_c, o_cl, o_il, o_ll, o_al, o_is, o_ls, o_as, o_inc, o_add, o_sub, o_mul, o_and, o_or, o_xor, o_shl, o_shr, o_div, o_neg, o_ladd, o_lsub, o_lmul, o_ldiv, o_lrem, o_lneg, o_lcmp, o_i2l, o_l2i, o_dup, o_dup2, o_pop, o_go, o_nn, o_sw, swc, o_iret, o_zret, o_lret, o_vret, o_ieq, o_eq0, o_ine, o_ne0, o_ilt, o_lt0, o_ige, o_ge0, o_igt, o_gt0, o_ile, o_le0, o_iald, o_zald, o_lald, o_aald, o_iast, o_zast, o_last, o_aast, o_alen, o_gi, o_gr, o_pi, o_pz, o_pr, o_new, o_newa, o_copy, o_oinit, o_call, o_callV, o_callVc, o_callI, popn, cnO, o_BAD, lgt, lst, isL, kil, st1, st2, entL, List.length_nil, List.length_cons, List.replicate, Nat.reduceAdd, Nat.reduceLeDiff, Nat.reduceSub, true_and, and_true, Nat.zero_le, ne_eq, qk_wi, ql_wi, qr_wi, qj_wi, qt_wi, qk_wj, ql_wj, qr_wj, qi_wj, qt_wj, qk_wr, ql_wr, qi_wr, qj_wr, qt_wr, qi_ws, qj_ws, qr_ws, Int.toNat_natCast, Int.toNat_zero, Int.reduceToNat, not_true_eq_false, not_false_eq_true, false_implies, implies_true, Option.some.injEq, reduceCtorEq, Sp0, true_or, or_true, or_self, wi_wi, wj_wj]
    repeat' (first | (with_reducible refine And.intro ?_ ?_) | (with_reducible intro))
    all_goals (try (first | with_reducible assumption | omega | (unfold inI; omega) | (unfold inL; omega) | exact cz_in _ _))
    all_goals (try (exfalso; omega))
    refine c_within ⟨it, by unfold inI; omega, by unfold inI; omega, fun _ => ?_, fun z => by omega⟩
    simp only [wpS, o_c, o_cl, o_il, o_ll, o_al, o_is, o_ls, o_as, o_inc, o_add, o_sub, o_mul, o_and, o_or, o_xor, o_shl, o_shr, o_div, o_neg, o_ladd, o_lsub, o_lmul, o_ldiv, o_lrem, o_lneg, o_lcmp, o_i2l, o_l2i, o_dup, o_dup2, o_pop, o_go, o_nn, o_sw, swc, o_iret, o_zret, o_lret, o_vret, o_ieq, o_eq0, o_ine, o_ne0, o_ilt, o_lt0, o_ige, o_ge0, o_igt, o_gt0, o_ile, o_le0, o_iald, o_zald, o_lald, o_aald, o_iast, o_zast, o_last, o_aast, o_alen, o_gi, o_gr, o_pi, o_pz, o_pr, o_new, o_newa, o_copy, o_oinit, o_call, o_callV, o_callVc, o_callI, popn, cnO, o_BAD, lgt, lst, isL, kil, st1, st2, entL, List.length_nil, List.length_cons, List.replicate, Nat.reduceAdd, Nat.reduceLeDiff, Nat.reduceSub, true_and, and_true, Nat.zero_le, ne_eq, qk_wi, ql_wi, qr_wi, qj_wi, qt_wi, qk_wj, ql_wj, qr_wj, qi_wj, qt_wj, qk_wr, ql_wr, qi_wr, qj_wr, qt_wr, qi_ws, qj_ws, qr_ws, Int.toNat_natCast, Int.toNat_zero, Int.reduceToNat, not_true_eq_false, not_false_eq_true, false_implies, implies_true, Option.some.injEq, reduceCtorEq, Sp0, true_or, or_true, or_self, wi_wi, wj_wj]
    repeat' (first | (with_reducible refine And.intro ?_ ?_) | (with_reducible intro))
    all_goals (try (first | with_reducible assumption | omega | (unfold inI; omega) | (unfold inL; omega) | exact cz_in _ _))
    all_goals (try (exfalso; omega))
  · have hK1 := hK1 (fun z => qr ⟨z.1, z.2.1, z.2.2.1⟩)
    have h25 : ∀ b, V i_X7_shim x 25 [some (vr (some X)), some (vi c), some (vi m), some (vi t), none, none, none, none] [] h b := fun b => by
      all_goals (try ((first | (refine s_X7_shim_0 x ok _ _ _ _ ?_) | (refine s_X7_shim_25 x ok _ _ _ _ ?_) | (refine s_X7_shim_27 x ok _ _ _ _ ?_) | (refine s_X7_shim_68 x ok _ _ _ _ ?_) | (refine s_X7_shim_70 x ok _ _ _ _ ?_) | (refine s_X7_shim_158 x ok _ _ _ _ ?_) | (refine s_X7_shim_164 x ok _ _ _ _ ?_) | (refine s_X7_shim_177 x ok _ _ _ _ ?_) | (refine s_X7_shim_179 x ok _ _ _ _ ?_)); (try simp only [wpS, o_c, o_cl, o_il, o_ll, o_al, o_is, o_ls, o_as, o_inc, o_add, o_sub, o_mul, o_and, o_or, o_xor, o_shl, o_shr, o_div, o_neg, o_ladd, o_lsub, o_lmul, o_ldiv, o_lrem, o_lneg, o_lcmp, o_i2l, o_l2i, o_dup, o_dup2, o_pop, o_go, o_nn, o_sw, swc, o_iret, o_zret, o_lret, o_vret, o_ieq, o_eq0, o_ine, o_ne0, o_ilt, o_lt0, o_ige, o_ge0, o_igt, o_gt0, o_ile, o_le0, o_iald, o_zald, o_lald, o_aald, o_iast, o_zast, o_last, o_aast, o_alen, o_gi, o_gr, o_pi, o_pz, o_pr, o_new, o_newa, o_copy, o_oinit, o_call, o_callV, o_callVc, o_callI, popn, cnO, o_BAD, lgt, lst, isL, kil, st1, st2, entL, List.length_nil, List.length_cons, List.replicate, Nat.reduceAdd, Nat.reduceLeDiff, Nat.reduceSub, true_and, and_true, Nat.zero_le, ne_eq, qk_wi, ql_wi, qr_wi, qj_wi, qt_wi, qk_wj, ql_wj, qr_wj, qi_wj, qt_wj, qk_wr, ql_wr, qi_wr, qj_wr, qt_wr, qi_ws, qj_ws, qr_ws, Int.toNat_natCast, Int.toNat_zero, Int.reduceToNat, not_true_eq_false, not_false_eq_true, false_implies, implies_true, Option.some.injEq, reduceCtorEq, Sp0, true_or, or_true, or_self, wi_wi, wj_wj]); (repeat' (first | (with_reducible refine And.intro ?_ ?_) | (with_reducible intro))); (all_goals (try (first | assumption | omega | (unfold inI; omega))))))
    refine s_X7_shim_0 x ok _ _ _ _ ?_
    simp only [wpS, o_c, o_cl, o_il, o_ll, o_al, o_is, o_ls, o_as, o_inc, o_add, o_sub, o_mul, o_and, o_or, o_xor, o_shl, o_shr, o_div, o_neg, o_ladd, o_lsub, o_lmul, o_ldiv, o_lrem, o_lneg, o_lcmp, o_i2l, o_l2i, o_dup, o_dup2, o_pop, o_go, o_nn, o_sw, swc, o_iret, o_zret, o_lret, o_vret, o_ieq, o_eq0, o_ine, o_ne0, o_ilt, o_lt0, o_ige, o_ge0, o_igt, o_gt0, o_ile, o_le0, o_iald, o_zald, o_lald, o_aald, o_iast, o_zast, o_last, o_aast, o_alen, o_gi, o_gr, o_pi, o_pz, o_pr, o_new, o_newa, o_copy, o_oinit, o_call, o_callV, o_callVc, o_callI, popn, cnO, o_BAD, lgt, lst, isL, kil, st1, st2, entL, List.length_nil, List.length_cons, List.replicate, Nat.reduceAdd, Nat.reduceLeDiff, Nat.reduceSub, true_and, and_true, Nat.zero_le, ne_eq, qk_wi, ql_wi, qr_wi, qj_wi, qt_wi, qk_wj, ql_wj, qr_wj, qi_wj, qt_wj, qk_wr, ql_wr, qi_wr, qj_wr, qt_wr, qi_ws, qj_ws, qr_ws, Int.toNat_natCast, Int.toNat_zero, Int.reduceToNat, not_true_eq_false, not_false_eq_true, false_implies, implies_true, Option.some.injEq, reduceCtorEq, Sp0, true_or, or_true, or_self, wi_wi, wj_wj]
    repeat' (first | (with_reducible refine And.intro ?_ ?_) | (with_reducible intro))
    all_goals (try (first | with_reducible assumption | omega | (unfold inI; omega) | (unfold inL; omega) | exact cz_in _ _))
    refine c_rg ⟨ic, fun _ => ?_, fun z => ?_⟩
    · simp only [wpS, o_c, o_cl, o_il, o_ll, o_al, o_is, o_ls, o_as, o_inc, o_add, o_sub, o_mul, o_and, o_or, o_xor, o_shl, o_shr, o_div, o_neg, o_ladd, o_lsub, o_lmul, o_ldiv, o_lrem, o_lneg, o_lcmp, o_i2l, o_l2i, o_dup, o_dup2, o_pop, o_go, o_nn, o_sw, swc, o_iret, o_zret, o_lret, o_vret, o_ieq, o_eq0, o_ine, o_ne0, o_ilt, o_lt0, o_ige, o_ge0, o_igt, o_gt0, o_ile, o_le0, o_iald, o_zald, o_lald, o_aald, o_iast, o_zast, o_last, o_aast, o_alen, o_gi, o_gr, o_pi, o_pz, o_pr, o_new, o_newa, o_copy, o_oinit, o_call, o_callV, o_callVc, o_callI, popn, cnO, o_BAD, lgt, lst, isL, kil, st1, st2, entL, List.length_nil, List.length_cons, List.replicate, Nat.reduceAdd, Nat.reduceLeDiff, Nat.reduceSub, true_and, and_true, Nat.zero_le, ne_eq, qk_wi, ql_wi, qr_wi, qj_wi, qt_wi, qk_wj, ql_wj, qr_wj, qi_wj, qt_wj, qk_wr, ql_wr, qi_wr, qj_wr, qt_wr, qi_ws, qj_ws, qr_ws, Int.toNat_natCast, Int.toNat_zero, Int.reduceToNat, not_true_eq_false, not_false_eq_true, false_implies, implies_true, Option.some.injEq, reduceCtorEq, Sp0, true_or, or_true, or_self, wi_wi, wj_wj]
      repeat' (first | (with_reducible refine And.intro ?_ ?_) | (with_reducible intro))
      all_goals (try (first | with_reducible assumption | omega | (unfold inI; omega) | (unfold inL; omega) | exact cz_in _ _))
      all_goals (try (exfalso; omega))
      refine c_rg ⟨im, fun _ => ?_, fun z => ?_⟩
      · simp only [wpS, o_c, o_cl, o_il, o_ll, o_al, o_is, o_ls, o_as, o_inc, o_add, o_sub, o_mul, o_and, o_or, o_xor, o_shl, o_shr, o_div, o_neg, o_ladd, o_lsub, o_lmul, o_ldiv, o_lrem, o_lneg, o_lcmp, o_i2l, o_l2i, o_dup, o_dup2, o_pop, o_go, o_nn, o_sw, swc, o_iret, o_zret, o_lret, o_vret, o_ieq, o_eq0, o_ine, o_ne0, o_ilt, o_lt0, o_ige, o_ge0, o_igt, o_gt0, o_ile, o_le0, o_iald, o_zald, o_lald, o_aald, o_iast, o_zast, o_last, o_aast, o_alen, o_gi, o_gr, o_pi, o_pz, o_pr, o_new, o_newa, o_copy, o_oinit, o_call, o_callV, o_callVc, o_callI, popn, cnO, o_BAD, lgt, lst, isL, kil, st1, st2, entL, List.length_nil, List.length_cons, List.replicate, Nat.reduceAdd, Nat.reduceLeDiff, Nat.reduceSub, true_and, and_true, Nat.zero_le, ne_eq, qk_wi, ql_wi, qr_wi, qj_wi, qt_wi, qk_wj, ql_wj, qr_wj, qi_wj, qt_wj, qk_wr, ql_wr, qi_wr, qj_wr, qt_wr, qi_ws, qj_ws, qr_ws, Int.toNat_natCast, Int.toNat_zero, Int.reduceToNat, not_true_eq_false, not_false_eq_true, false_implies, implies_true, Option.some.injEq, reduceCtorEq, Sp0, true_or, or_true, or_self, wi_wi, wj_wj]
        repeat' (first | (with_reducible refine And.intro ?_ ?_) | (with_reducible intro))
        all_goals (try (first | with_reducible assumption | omega | (unfold inI; omega) | (unfold inL; omega) | exact cz_in _ _))
        all_goals (try (exfalso; omega))
        refine c_within ⟨it, by unfold inI; omega, by unfold inI; omega, fun _ => by omega, fun z => ?_⟩
        simp only [wpS, o_c, o_cl, o_il, o_ll, o_al, o_is, o_ls, o_as, o_inc, o_add, o_sub, o_mul, o_and, o_or, o_xor, o_shl, o_shr, o_div, o_neg, o_ladd, o_lsub, o_lmul, o_ldiv, o_lrem, o_lneg, o_lcmp, o_i2l, o_l2i, o_dup, o_dup2, o_pop, o_go, o_nn, o_sw, swc, o_iret, o_zret, o_lret, o_vret, o_ieq, o_eq0, o_ine, o_ne0, o_ilt, o_lt0, o_ige, o_ge0, o_igt, o_gt0, o_ile, o_le0, o_iald, o_zald, o_lald, o_aald, o_iast, o_zast, o_last, o_aast, o_alen, o_gi, o_gr, o_pi, o_pz, o_pr, o_new, o_newa, o_copy, o_oinit, o_call, o_callV, o_callVc, o_callI, popn, cnO, o_BAD, lgt, lst, isL, kil, st1, st2, entL, List.length_nil, List.length_cons, List.replicate, Nat.reduceAdd, Nat.reduceLeDiff, Nat.reduceSub, true_and, and_true, Nat.zero_le, ne_eq, qk_wi, ql_wi, qr_wi, qj_wi, qt_wi, qk_wj, ql_wj, qr_wj, qi_wj, qt_wj, qk_wr, ql_wr, qi_wr, qj_wr, qt_wr, qi_ws, qj_ws, qr_ws, Int.toNat_natCast, Int.toNat_zero, Int.reduceToNat, not_true_eq_false, not_false_eq_true, false_implies, implies_true, Option.some.injEq, reduceCtorEq, Sp0, true_or, or_true, or_self, wi_wi, wj_wj]
        repeat' (first | (with_reducible refine And.intro ?_ ?_) | (with_reducible intro))
        all_goals (try (first | with_reducible assumption | omega | (unfold inI; omega) | (unfold inL; omega) | exact cz_in _ _))
        all_goals (first | exact hK1 | (exfalso; omega))
      · simp only [wpS, o_c, o_cl, o_il, o_ll, o_al, o_is, o_ls, o_as, o_inc, o_add, o_sub, o_mul, o_and, o_or, o_xor, o_shl, o_shr, o_div, o_neg, o_ladd, o_lsub, o_lmul, o_ldiv, o_lrem, o_lneg, o_lcmp, o_i2l, o_l2i, o_dup, o_dup2, o_pop, o_go, o_nn, o_sw, swc, o_iret, o_zret, o_lret, o_vret, o_ieq, o_eq0, o_ine, o_ne0, o_ilt, o_lt0, o_ige, o_ge0, o_igt, o_gt0, o_ile, o_le0, o_iald, o_zald, o_lald, o_aald, o_iast, o_zast, o_last, o_aast, o_alen, o_gi, o_gr, o_pi, o_pz, o_pr, o_new, o_newa, o_copy, o_oinit, o_call, o_callV, o_callVc, o_callI, popn, cnO, o_BAD, lgt, lst, isL, kil, st1, st2, entL, List.length_nil, List.length_cons, List.replicate, Nat.reduceAdd, Nat.reduceLeDiff, Nat.reduceSub, true_and, and_true, Nat.zero_le, ne_eq, qk_wi, ql_wi, qr_wi, qj_wi, qt_wi, qk_wj, ql_wj, qr_wj, qi_wj, qt_wj, qk_wr, ql_wr, qi_wr, qj_wr, qt_wr, qi_ws, qj_ws, qr_ws, Int.toNat_natCast, Int.toNat_zero, Int.reduceToNat, not_true_eq_false, not_false_eq_true, false_implies, implies_true, Option.some.injEq, reduceCtorEq, Sp0, true_or, or_true, or_self, wi_wi, wj_wj]
        repeat' (first | (with_reducible refine And.intro ?_ ?_) | (with_reducible intro))
        all_goals (try (first | with_reducible assumption | omega | (unfold inI; omega) | (unfold inL; omega) | exact cz_in _ _))
        all_goals (first | exact h25 _ | (exfalso; omega))
    · simp only [wpS, o_c, o_cl, o_il, o_ll, o_al, o_is, o_ls, o_as, o_inc, o_add, o_sub, o_mul, o_and, o_or, o_xor, o_shl, o_shr, o_div, o_neg, o_ladd, o_lsub, o_lmul, o_ldiv, o_lrem, o_lneg, o_lcmp, o_i2l, o_l2i, o_dup, o_dup2, o_pop, o_go, o_nn, o_sw, swc, o_iret, o_zret, o_lret, o_vret, o_ieq, o_eq0, o_ine, o_ne0, o_ilt, o_lt0, o_ige, o_ge0, o_igt, o_gt0, o_ile, o_le0, o_iald, o_zald, o_lald, o_aald, o_iast, o_zast, o_last, o_aast, o_alen, o_gi, o_gr, o_pi, o_pz, o_pr, o_new, o_newa, o_copy, o_oinit, o_call, o_callV, o_callVc, o_callI, popn, cnO, o_BAD, lgt, lst, isL, kil, st1, st2, entL, List.length_nil, List.length_cons, List.replicate, Nat.reduceAdd, Nat.reduceLeDiff, Nat.reduceSub, true_and, and_true, Nat.zero_le, ne_eq, qk_wi, ql_wi, qr_wi, qj_wi, qt_wi, qk_wj, ql_wj, qr_wj, qi_wj, qt_wj, qk_wr, ql_wr, qi_wr, qj_wr, qt_wr, qi_ws, qj_ws, qr_ws, Int.toNat_natCast, Int.toNat_zero, Int.reduceToNat, not_true_eq_false, not_false_eq_true, false_implies, implies_true, Option.some.injEq, reduceCtorEq, Sp0, true_or, or_true, or_self, wi_wi, wj_wj]
      repeat' (first | (with_reducible refine And.intro ?_ ?_) | (with_reducible intro))
      all_goals (try (first | with_reducible assumption | omega | (unfold inI; omega) | (unfold inL; omega) | exact cz_in _ _))
      all_goals (first | exact h25 _ | (exfalso; omega))

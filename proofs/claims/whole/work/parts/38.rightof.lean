/-! ===== FitBench.rightOf, chance, both ===== -/
theorem sg_ext {f : Nat → Int} {x y : Nat} (h : x ≤ y) (hz : ∀ k, x ≤ k → k < y → f k = 0) : sg f x = sg f y := by
  obtain ⟨n, rfl⟩ : ∃ n, y = x + n := ⟨y - x, by omega⟩
  rw [sg_split, sg_z (n := n) (fun k hk => hz (x + k) (by omega) (by omega)), Int.add_zero]
/-- a window of n cells, summed up to x -/
def wnd (f : Nat → Int) (n : Nat) (lo hi le : Int) (x : Nat) : Int := sg (fun k => if k < n ∧ lo ≤ le + k ∧ le + k ≤ hi then f k else 0) x
theorem wnd_end {f : Nat → Int} {n x : Nat} {lo hi le : Int} (h : ∀ k : Nat, x ≤ k → ¬ (k < n ∧ lo ≤ le + k ∧ le + k ≤ hi)) : wnd f n lo hi le x = sg (fun k => if lo ≤ le + k ∧ le + k ≤ hi then f k else 0) n := by
  unfold wnd
  have e1 : sg (fun k => if k < n ∧ lo ≤ le + k ∧ le + k ≤ hi then f k else 0) n = sg (fun k => if lo ≤ le + k ∧ le + k ≤ hi then f k else 0) n := sg_c (fun k hk => by
    by_cases q : lo ≤ le + (k : Int) ∧ le + (k : Int) ≤ hi
    · rw [if_pos ⟨hk, q⟩, if_pos q]
    · rw [if_neg (fun z => q z.2), if_neg q])
  rw [← e1]
  rcases Nat.le_total x n with z | z
  · exact sg_ext z (fun k h1 _ => if_neg (h k h1))
  · exact (sg_ext z (fun k h1 _ => if_neg (by omega))).symm
theorem wnd_start {f : Nat → Int} {n x : Nat} {lo hi le : Int} (h : ∀ k : Nat, k < x → ¬ (k < n ∧ lo ≤ le + k ∧ le + k ≤ hi)) : wnd f n lo hi le x = 0 := sg_z (fun k hk => if_neg (h k hk))
theorem wnd_s {f : Nat → Int} {n x : Nat} {lo hi le : Int} (h : x < n ∧ lo ≤ le + x ∧ le + x ≤ hi) : wnd f n lo hi le (x + 1) = wnd f n lo hi le x + f x := by
  unfold wnd
  rw [sg_s, if_pos h]
noncomputable def rtF (d : Dd) (s t : Nat → Int) (lo hi lo' hi' w : Int) : Int := if 1000000000000 < cpt d s t 12 ∨ 200000 < ((wdG d s).toNat + 1) * ((wdG d t).toNat + 1) then -2 else linF (rgt (lyR d s t ((wdG d t).toNat + 1) 12) ((wdG d s).toNat + 1) ((wdG d t).toNat + 1) lo hi (leG d s) lo' hi' (leG d t)) (cpt d s t 12) w
noncomputable def rtL (d : Dd) (s t : Nat → Int) (l : Nat) : Nat := if 1000000000000 < cpt d s t 12 then l else rwL l (((wdG d s).toNat + 1) * ((wdG d t).toNat + 1))
def Ov (h : Hp) (X : Nat) (R l2 : Nat) (hf : Hp) : Prop := ∃ R', Spr h hf (X + 89) R ∧ isSp hf (X + 89) R' ∧ R' < qt hf ∧ (R' = R ∨ qt h ≤ R') ∧ ql hf R' = l2
theorem Ov.rf {h : Hp} {X R : Nat} {d : Dd} (H : Fbs h X d R) : Ov h X R (ql h R) h := ⟨R, Spr.rf h _ R, H.2.2.2.2.2.1, H.2.2.2.2.2.2.1, .inl rfl, rfl⟩
def B_X7_rightOf : TB := fun as h c K => ∃ (X R p q : Nat) (d : Dd) (s t : Nat → Int) (lo hi lo' hi' w : Int), as = [vr (some X), vr (some p), vr (some q), vi w] ∧ Fbs h X d R ∧ Chv h p s ∧ p + 2 ≤ X + 89 ∧ Chv h q t ∧ q + 2 ≤ X + 89 ∧ (qi h p 1 = lo ∧ qi h p 2 = hi ∧ -100000 ≤ lo ∧ lo ≤ 100000 ∧ -100000 ≤ hi ∧ hi ≤ 100000) ∧ (qi h q 1 = lo' ∧ qi h q 2 = hi' ∧ -100000 ≤ lo' ∧ lo' ≤ 100000 ∧ -100000 ≤ hi' ∧ hi' ≤ 100000) ∧ inI w ∧ (gc (ql h R) (rtL d s t (ql h R))).1 ≤ c.1 ∧ (gc (ql h R) (rtL d s t (ql h R))).2 ≤ c.2 ∧ ∀ hf, Ov h X R (rtL d s t (ql h R)) hf → K (some (vl (rtF d s t lo hi lo' hi' w))) hf
abbrev i_X7_rightOf : MI := (cX7_rightOf, 16, RX7, (some .long), "rightOf", 6)
theorem k_X7_rightOf_0 : Okop i_X7_rightOf 0 (o_al 0) 1 := k_aln (j := 0) (by decide +kernel)
theorem k_X7_rightOf_1 : Okop i_X7_rightOf 1 (o_gr 7 0) 4 := k_gr (idx := 12) fo_7 (by decide) (by decide) gw_255 (by decide +kernel)
theorem k_X7_rightOf_4 : Okop i_X7_rightOf 4 (o_al 1) 5 := k_aln (j := 1) (by decide +kernel)
theorem k_X7_rightOf_5 : Okop i_X7_rightOf 5 (o_al 2) 6 := k_aln (j := 2) (by decide +kernel)
theorem k_X7_rightOf_6 : Okop i_X7_rightOf 6 (o_callV 6 2 T_X6_countParts) 9 := k_callV (idx := 158) (r0 := (RX6, TX6, 4)) m_X6_countParts ⟨gw_425, gw_2, ⟨by decide, by decide, by decide +kernel⟩, by decide, by decide⟩ rfl gw_422 gw_423 gw_424 (by decide +kernel)
theorem k_X7_rightOf_9 : Okop i_X7_rightOf 9 (o_ls 4) 11 := k_ls (by decide +kernel) (by decide)
theorem k_X7_rightOf_11 : Okop i_X7_rightOf 11 (o_ll 4) 13 := k_ll (by decide +kernel)
theorem k_X7_rightOf_13 : Okop i_X7_rightOf 13 (o_cl 1000000000000) 16 := k_ldc2 (idx := 162) (by decide +kernel) gw_428
theorem k_X7_rightOf_16 : Okop i_X7_rightOf 16 (o_lcmp) 17 := k_lcmp (by decide +kernel)
theorem k_X7_rightOf_17 : Okop i_X7_rightOf 17 (o_gt0 39) 20 := k_gt0 (off := 22) (by decide +kernel) (by decide)
theorem k_X7_rightOf_20 : Okop i_X7_rightOf 20 (o_al 0) 21 := k_aln (j := 0) (by decide +kernel)
theorem k_X7_rightOf_21 : Okop i_X7_rightOf 21 (o_gr 7 4) 24 := k_gr (idx := 37) fo_7 (by decide) (by decide) gw_259 (by decide +kernel)
theorem k_X7_rightOf_24 : Okop i_X7_rightOf 24 (o_al 0) 25 := k_aln (j := 0) (by decide +kernel)
theorem k_X7_rightOf_25 : Okop i_X7_rightOf 25 (o_gr 7 0) 28 := k_gr (idx := 12) fo_7 (by decide) (by decide) gw_255 (by decide +kernel)
theorem k_X7_rightOf_28 : Okop i_X7_rightOf 28 (o_gr 6 0) 31 := k_gr (idx := 60) fo_6 (by decide) (by decide) gw_148 (by decide +kernel)
theorem k_X7_rightOf_31 : Okop i_X7_rightOf 31 (o_al 1) 32 := k_aln (j := 1) (by decide +kernel)
theorem k_X7_rightOf_32 : Okop i_X7_rightOf 32 (o_al 2) 33 := k_aln (j := 2) (by decide +kernel)
theorem k_X7_rightOf_33 : Okop i_X7_rightOf 33 (o_callVx 5 3 B_X5_lay) 36 := k_callVx (idx := 175) (r0 := (RX5, TX5, 9)) m_X5_lay ⟨gw_432, gw_8, ⟨by decide, by decide, by decide +kernel⟩, by decide, by decide⟩ rfl gw_429 gw_430 gw_431 (by decide +kernel)
theorem k_X7_rightOf_36 : Okop i_X7_rightOf 36 (o_ne0 43) 39 := k_ne0 (off := 7) (by decide +kernel) (by decide)
theorem k_X7_rightOf_39 : Okop i_X7_rightOf 39 (o_cl (-2)) 42 := k_ldc2 (idx := 259) (by decide +kernel) gw_472
theorem k_X7_rightOf_42 : Okop i_X7_rightOf 42 (o_lret) 43 := k_lret (by decide +kernel) rfl
theorem k_X7_rightOf_43 : Okop i_X7_rightOf 43 (o_al 1) 44 := k_aln (j := 1) (by decide +kernel)
theorem k_X7_rightOf_44 : Okop i_X7_rightOf 44 (o_al 0) 45 := k_aln (j := 0) (by decide +kernel)
theorem k_X7_rightOf_45 : Okop i_X7_rightOf 45 (o_gr 7 0) 48 := k_gr (idx := 12) fo_7 (by decide) (by decide) gw_255 (by decide +kernel)
theorem k_X7_rightOf_48 : Okop i_X7_rightOf 48 (o_gr 6 0) 51 := k_gr (idx := 60) fo_6 (by decide) (by decide) gw_148 (by decide +kernel)
theorem k_X7_rightOf_51 : Okop i_X7_rightOf 51 (o_callV 1 1 T_X1_leastGap) 54 := k_callV (idx := 140) (r0 := (RX1, TX1, 3)) m_X1_leastGap ⟨gw_380, gw_4, ⟨by decide, by decide, by decide +kernel⟩, by decide, by decide⟩ rfl gw_377 gw_378 gw_379 (by decide +kernel)
theorem k_X7_rightOf_54 : Okop i_X7_rightOf 54 (o_is 6) 56 := k_is (by decide +kernel) (by decide)
theorem k_X7_rightOf_56 : Okop i_X7_rightOf 56 (o_al 2) 57 := k_aln (j := 2) (by decide +kernel)
theorem k_X7_rightOf_57 : Okop i_X7_rightOf 57 (o_al 0) 58 := k_aln (j := 0) (by decide +kernel)
theorem k_X7_rightOf_58 : Okop i_X7_rightOf 58 (o_gr 7 0) 61 := k_gr (idx := 12) fo_7 (by decide) (by decide) gw_255 (by decide +kernel)
theorem k_X7_rightOf_61 : Okop i_X7_rightOf 61 (o_gr 6 0) 64 := k_gr (idx := 60) fo_6 (by decide) (by decide) gw_148 (by decide +kernel)
theorem k_X7_rightOf_64 : Okop i_X7_rightOf 64 (o_callV 1 1 T_X1_leastGap) 67 := k_callV (idx := 140) (r0 := (RX1, TX1, 3)) m_X1_leastGap ⟨gw_380, gw_4, ⟨by decide, by decide, by decide +kernel⟩, by decide, by decide⟩ rfl gw_377 gw_378 gw_379 (by decide +kernel)
theorem k_X7_rightOf_67 : Okop i_X7_rightOf 67 (o_is 7) 69 := k_is (by decide +kernel) (by decide)
theorem k_X7_rightOf_69 : Okop i_X7_rightOf 69 (o_c 0) 70 := k_iconst (by decide +kernel)
theorem k_X7_rightOf_70 : Okop i_X7_rightOf 70 (o_al 1) 71 := k_aln (j := 1) (by decide +kernel)
theorem k_X7_rightOf_71 : Okop i_X7_rightOf 71 (o_gi 1 1) 74 := k_gi (idx := 108) fo_1 (by decide) (by decide) gw_116 (by decide +kernel)
theorem k_X7_rightOf_74 : Okop i_X7_rightOf 74 (o_il 6) 76 := k_il (by decide +kernel)
theorem k_X7_rightOf_76 : Okop i_X7_rightOf 76 (o_sub) 77 := k_sub (by decide +kernel)
theorem k_X7_rightOf_77 : Okop i_X7_rightOf 77 (o_call 2 T_J9_max_7cf53) 80 := k_call (idx := 249) m_J9_max_7cf53 ⟨gw_453, gw_12, ⟨by decide, by decide, by decide +kernel⟩, by decide, by decide⟩ gw_473 gw_452 (by decide +kernel)
theorem k_X7_rightOf_80 : Okop i_X7_rightOf 80 (o_is 8) 82 := k_is (by decide +kernel) (by decide)
theorem k_X7_rightOf_82 : Okop i_X7_rightOf 82 (o_al 0) 83 := k_aln (j := 0) (by decide +kernel)
theorem k_X7_rightOf_83 : Okop i_X7_rightOf 83 (o_gr 7 4) 86 := k_gr (idx := 37) fo_7 (by decide) (by decide) gw_259 (by decide +kernel)
theorem k_X7_rightOf_86 : Okop i_X7_rightOf 86 (o_gi 5 0) 89 := k_gi (idx := 238) fo_5 (by decide) (by decide) gw_192 (by decide +kernel)
theorem k_X7_rightOf_89 : Okop i_X7_rightOf 89 (o_c 1) 90 := k_iconst (by decide +kernel)
theorem k_X7_rightOf_90 : Okop i_X7_rightOf 90 (o_sub) 91 := k_sub (by decide +kernel)
theorem k_X7_rightOf_91 : Okop i_X7_rightOf 91 (o_al 1) 92 := k_aln (j := 1) (by decide +kernel)
theorem k_X7_rightOf_92 : Okop i_X7_rightOf 92 (o_gi 1 2) 95 := k_gi (idx := 111) fo_1 (by decide) (by decide) gw_119 (by decide +kernel)
theorem k_X7_rightOf_95 : Okop i_X7_rightOf 95 (o_il 6) 97 := k_il (by decide +kernel)
theorem k_X7_rightOf_97 : Okop i_X7_rightOf 97 (o_sub) 98 := k_sub (by decide +kernel)
theorem k_X7_rightOf_98 : Okop i_X7_rightOf 98 (o_call 2 T_J9_min_7cf53) 101 := k_call (idx := 261) m_J9_min_7cf53 ⟨gw_476, gw_12, ⟨by decide, by decide, by decide +kernel⟩, by decide, by decide⟩ gw_474 gw_475 (by decide +kernel)
theorem k_X7_rightOf_101 : Okop i_X7_rightOf 101 (o_is 9) 103 := k_is (by decide +kernel) (by decide)
theorem k_X7_rightOf_103 : Okop i_X7_rightOf 103 (o_c 0) 104 := k_iconst (by decide +kernel)
theorem k_X7_rightOf_104 : Okop i_X7_rightOf 104 (o_al 2) 105 := k_aln (j := 2) (by decide +kernel)
theorem k_X7_rightOf_105 : Okop i_X7_rightOf 105 (o_gi 1 1) 108 := k_gi (idx := 108) fo_1 (by decide) (by decide) gw_116 (by decide +kernel)
theorem k_X7_rightOf_108 : Okop i_X7_rightOf 108 (o_il 7) 110 := k_il (by decide +kernel)
theorem k_X7_rightOf_110 : Okop i_X7_rightOf 110 (o_sub) 111 := k_sub (by decide +kernel)
theorem k_X7_rightOf_111 : Okop i_X7_rightOf 111 (o_call 2 T_J9_max_7cf53) 114 := k_call (idx := 249) m_J9_max_7cf53 ⟨gw_453, gw_12, ⟨by decide, by decide, by decide +kernel⟩, by decide, by decide⟩ gw_473 gw_452 (by decide +kernel)
theorem k_X7_rightOf_114 : Okop i_X7_rightOf 114 (o_is 10) 116 := k_is (by decide +kernel) (by decide)
theorem k_X7_rightOf_116 : Okop i_X7_rightOf 116 (o_al 0) 117 := k_aln (j := 0) (by decide +kernel)
theorem k_X7_rightOf_117 : Okop i_X7_rightOf 117 (o_gr 7 4) 120 := k_gr (idx := 37) fo_7 (by decide) (by decide) gw_259 (by decide +kernel)
theorem k_X7_rightOf_120 : Okop i_X7_rightOf 120 (o_gi 5 1) 123 := k_gi (idx := 264) fo_5 (by decide) (by decide) gw_194 (by decide +kernel)
theorem k_X7_rightOf_123 : Okop i_X7_rightOf 123 (o_c 1) 124 := k_iconst (by decide +kernel)
theorem k_X7_rightOf_124 : Okop i_X7_rightOf 124 (o_sub) 125 := k_sub (by decide +kernel)
theorem k_X7_rightOf_125 : Okop i_X7_rightOf 125 (o_al 2) 126 := k_aln (j := 2) (by decide +kernel)
theorem k_X7_rightOf_126 : Okop i_X7_rightOf 126 (o_gi 1 2) 129 := k_gi (idx := 111) fo_1 (by decide) (by decide) gw_119 (by decide +kernel)
theorem k_X7_rightOf_129 : Okop i_X7_rightOf 129 (o_il 7) 131 := k_il (by decide +kernel)
theorem k_X7_rightOf_131 : Okop i_X7_rightOf 131 (o_sub) 132 := k_sub (by decide +kernel)
theorem k_X7_rightOf_132 : Okop i_X7_rightOf 132 (o_call 2 T_J9_min_7cf53) 135 := k_call (idx := 261) m_J9_min_7cf53 ⟨gw_476, gw_12, ⟨by decide, by decide, by decide +kernel⟩, by decide, by decide⟩ gw_474 gw_475 (by decide +kernel)
theorem k_X7_rightOf_135 : Okop i_X7_rightOf 135 (o_is 11) 137 := k_is (by decide +kernel) (by decide)
theorem k_X7_rightOf_137 : Okop i_X7_rightOf 137 (o_cl 0) 138 := k_lconst (n := 0) (by decide +kernel) rfl
theorem k_X7_rightOf_138 : Okop i_X7_rightOf 138 (o_ls 12) 140 := k_ls (by decide +kernel) (by decide)
theorem k_X7_rightOf_140 : Okop i_X7_rightOf 140 (o_il 8) 142 := k_il (by decide +kernel)
theorem k_X7_rightOf_142 : Okop i_X7_rightOf 142 (o_is 14) 144 := k_is (by decide +kernel) (by decide)
theorem k_X7_rightOf_144 : Okop i_X7_rightOf 144 (o_il 14) 146 := k_il (by decide +kernel)
theorem k_X7_rightOf_146 : Okop i_X7_rightOf 146 (o_il 9) 148 := k_il (by decide +kernel)
theorem k_X7_rightOf_148 : Okop i_X7_rightOf 148 (o_igt 190) 151 := k_igt (off := 42) (by decide +kernel) (by decide)
theorem k_X7_rightOf_151 : Okop i_X7_rightOf 151 (o_il 10) 153 := k_il (by decide +kernel)
theorem k_X7_rightOf_153 : Okop i_X7_rightOf 153 (o_is 15) 155 := k_is (by decide +kernel) (by decide)
theorem k_X7_rightOf_155 : Okop i_X7_rightOf 155 (o_il 15) 157 := k_il (by decide +kernel)
theorem k_X7_rightOf_157 : Okop i_X7_rightOf 157 (o_il 11) 159 := k_il (by decide +kernel)
theorem k_X7_rightOf_159 : Okop i_X7_rightOf 159 (o_igt 184) 162 := k_igt (off := 25) (by decide +kernel) (by decide)
theorem k_X7_rightOf_162 : Okop i_X7_rightOf 162 (o_ll 12) 164 := k_ll (by decide +kernel)
theorem k_X7_rightOf_164 : Okop i_X7_rightOf 164 (o_al 0) 165 := k_aln (j := 0) (by decide +kernel)
theorem k_X7_rightOf_165 : Okop i_X7_rightOf 165 (o_gr 7 4) 168 := k_gr (idx := 37) fo_7 (by decide) (by decide) gw_259 (by decide +kernel)
theorem k_X7_rightOf_168 : Okop i_X7_rightOf 168 (o_il 14) 170 := k_il (by decide +kernel)
theorem k_X7_rightOf_170 : Okop i_X7_rightOf 170 (o_il 15) 172 := k_il (by decide +kernel)
theorem k_X7_rightOf_172 : Okop i_X7_rightOf 172 (o_callV 5 2 T_X5_at) 175 := k_callV (idx := 241) (r0 := (RX5, TX5, 9)) m_X5_at ⟨gw_480, gw_8, ⟨by decide, by decide, by decide +kernel⟩, by decide, by decide⟩ rfl gw_477 gw_478 gw_479 (by decide +kernel)
theorem k_X7_rightOf_175 : Okop i_X7_rightOf 175 (o_ladd) 176 := k_ladd (by decide +kernel)
theorem k_X7_rightOf_176 : Okop i_X7_rightOf 176 (o_ls 12) 178 := k_ls (by decide +kernel) (by decide)
theorem k_X7_rightOf_178 : Okop i_X7_rightOf 178 (o_inc 15 1) 181 := k_inc (by decide +kernel) (by decide)
theorem k_X7_rightOf_181 : Okop i_X7_rightOf 181 (o_go 155) 184 := k_go (off := -26) (by decide +kernel) (by decide)
theorem k_X7_rightOf_184 : Okop i_X7_rightOf 184 (o_inc 14 1) 187 := k_inc (by decide +kernel) (by decide)
theorem k_X7_rightOf_187 : Okop i_X7_rightOf 187 (o_go 144) 190 := k_go (off := -43) (by decide +kernel) (by decide)
theorem k_X7_rightOf_190 : Okop i_X7_rightOf 190 (o_ll 12) 192 := k_ll (by decide +kernel)
theorem k_X7_rightOf_192 : Okop i_X7_rightOf 192 (o_ll 4) 194 := k_ll (by decide +kernel)
theorem k_X7_rightOf_194 : Okop i_X7_rightOf 194 (o_il 3) 195 := k_iln (j := 3) (by decide +kernel)
theorem k_X7_rightOf_195 : Okop i_X7_rightOf 195 (o_call 3 T_X7_lineOf) 198 := k_call (idx := 171) m_X7_lineOf ⟨gw_483, gw_1, ⟨by decide, by decide, by decide +kernel⟩, by decide, by decide⟩ gw_481 gw_482 (by decide +kernel)
theorem k_X7_rightOf_198 : Okop i_X7_rightOf 198 (o_lret) 199 := k_lret (by decide +kernel) rfl
theorem s_X7_rightOf_0 : Seg i_X7_rightOf 0 [o_al 0, o_gr 7 0, o_al 1, o_al 2, o_callV 6 2 T_X6_countParts, o_ls 4, o_ll 4, o_cl 1000000000000, o_lcmp, o_gt0 39, o_al 0, o_gr 7 4, o_al 0, o_gr 7 0, o_gr 6 0, o_al 1, o_al 2, o_callVx 5 3 B_X5_lay, o_ne0 43, o_cl (-2), o_lret] 43 := Seg.cons k_X7_rightOf_0 (Seg.cons k_X7_rightOf_1 (Seg.cons k_X7_rightOf_4 (Seg.cons k_X7_rightOf_5 (Seg.cons k_X7_rightOf_6 (Seg.cons k_X7_rightOf_9 (Seg.cons k_X7_rightOf_11 (Seg.cons k_X7_rightOf_13 (Seg.cons k_X7_rightOf_16 (Seg.cons k_X7_rightOf_17 (Seg.cons k_X7_rightOf_20 (Seg.cons k_X7_rightOf_21 (Seg.cons k_X7_rightOf_24 (Seg.cons k_X7_rightOf_25 (Seg.cons k_X7_rightOf_28 (Seg.cons k_X7_rightOf_31 (Seg.cons k_X7_rightOf_32 (Seg.cons k_X7_rightOf_33 (Seg.cons k_X7_rightOf_36 (Seg.cons k_X7_rightOf_39 (Seg.cons k_X7_rightOf_42 (Seg.nil)))))))))))))))))))))
theorem s_X7_rightOf_39 : Seg i_X7_rightOf 39 [o_cl (-2), o_lret] 43 := Seg.cons k_X7_rightOf_39 (Seg.cons k_X7_rightOf_42 (Seg.nil))
theorem s_X7_rightOf_43 : Seg i_X7_rightOf 43 [o_al 1, o_al 0, o_gr 7 0, o_gr 6 0, o_callV 1 1 T_X1_leastGap, o_is 6, o_al 2, o_al 0, o_gr 7 0, o_gr 6 0, o_callV 1 1 T_X1_leastGap, o_is 7, o_c 0, o_al 1, o_gi 1 1, o_il 6, o_sub, o_call 2 T_J9_max_7cf53, o_is 8, o_al 0, o_gr 7 4, o_gi 5 0, o_c 1, o_sub, o_al 1, o_gi 1 2, o_il 6, o_sub, o_call 2 T_J9_min_7cf53, o_is 9, o_c 0, o_al 2, o_gi 1 1, o_il 7, o_sub, o_call 2 T_J9_max_7cf53, o_is 10, o_al 0, o_gr 7 4, o_gi 5 1, o_c 1, o_sub, o_al 2, o_gi 1 2, o_il 7, o_sub, o_call 2 T_J9_min_7cf53, o_is 11, o_cl 0, o_ls 12, o_il 8, o_is 14] 144 := Seg.cons k_X7_rightOf_43 (Seg.cons k_X7_rightOf_44 (Seg.cons k_X7_rightOf_45 (Seg.cons k_X7_rightOf_48 (Seg.cons k_X7_rightOf_51 (Seg.cons k_X7_rightOf_54 (Seg.cons k_X7_rightOf_56 (Seg.cons k_X7_rightOf_57 (Seg.cons k_X7_rightOf_58 (Seg.cons k_X7_rightOf_61 (Seg.cons k_X7_rightOf_64 (Seg.cons k_X7_rightOf_67 (Seg.cons k_X7_rightOf_69 (Seg.cons k_X7_rightOf_70 (Seg.cons k_X7_rightOf_71 (Seg.cons k_X7_rightOf_74 (Seg.cons k_X7_rightOf_76 (Seg.cons k_X7_rightOf_77 (Seg.cons k_X7_rightOf_80 (Seg.cons k_X7_rightOf_82 (Seg.cons k_X7_rightOf_83 (Seg.cons k_X7_rightOf_86 (Seg.cons k_X7_rightOf_89 (Seg.cons k_X7_rightOf_90 (Seg.cons k_X7_rightOf_91 (Seg.cons k_X7_rightOf_92 (Seg.cons k_X7_rightOf_95 (Seg.cons k_X7_rightOf_97 (Seg.cons k_X7_rightOf_98 (Seg.cons k_X7_rightOf_101 (Seg.cons k_X7_rightOf_103 (Seg.cons k_X7_rightOf_104 (Seg.cons k_X7_rightOf_105 (Seg.cons k_X7_rightOf_108 (Seg.cons k_X7_rightOf_110 (Seg.cons k_X7_rightOf_111 (Seg.cons k_X7_rightOf_114 (Seg.cons k_X7_rightOf_116 (Seg.cons k_X7_rightOf_117 (Seg.cons k_X7_rightOf_120 (Seg.cons k_X7_rightOf_123 (Seg.cons k_X7_rightOf_124 (Seg.cons k_X7_rightOf_125 (Seg.cons k_X7_rightOf_126 (Seg.cons k_X7_rightOf_129 (Seg.cons k_X7_rightOf_131 (Seg.cons k_X7_rightOf_132 (Seg.cons k_X7_rightOf_135 (Seg.cons k_X7_rightOf_137 (Seg.cons k_X7_rightOf_138 (Seg.cons k_X7_rightOf_140 (Seg.cons k_X7_rightOf_142 (Seg.nil))))))))))))))))))))))))))))))))))))))))))))))))))))
theorem s_X7_rightOf_144 : Seg i_X7_rightOf 144 [o_il 14, o_il 9, o_igt 190, o_il 10, o_is 15] 155 := Seg.cons k_X7_rightOf_144 (Seg.cons k_X7_rightOf_146 (Seg.cons k_X7_rightOf_148 (Seg.cons k_X7_rightOf_151 (Seg.cons k_X7_rightOf_153 (Seg.nil)))))
theorem s_X7_rightOf_155 : Seg i_X7_rightOf 155 [o_il 15, o_il 11, o_igt 184, o_ll 12, o_al 0, o_gr 7 4, o_il 14, o_il 15, o_callV 5 2 T_X5_at, o_ladd, o_ls 12, o_inc 15 1, o_go 155] 184 := Seg.cons k_X7_rightOf_155 (Seg.cons k_X7_rightOf_157 (Seg.cons k_X7_rightOf_159 (Seg.cons k_X7_rightOf_162 (Seg.cons k_X7_rightOf_164 (Seg.cons k_X7_rightOf_165 (Seg.cons k_X7_rightOf_168 (Seg.cons k_X7_rightOf_170 (Seg.cons k_X7_rightOf_172 (Seg.cons k_X7_rightOf_175 (Seg.cons k_X7_rightOf_176 (Seg.cons k_X7_rightOf_178 (Seg.cons k_X7_rightOf_181 (Seg.nil)))))))))))))
theorem s_X7_rightOf_184 : Seg i_X7_rightOf 184 [o_inc 14 1, o_go 144] 190 := Seg.cons k_X7_rightOf_184 (Seg.cons k_X7_rightOf_187 (Seg.nil))
theorem s_X7_rightOf_190 : Seg i_X7_rightOf 190 [o_ll 12, o_ll 4, o_il 3, o_call 3 T_X7_lineOf, o_lret] 199 := Seg.cons k_X7_rightOf_190 (Seg.cons k_X7_rightOf_192 (Seg.cons k_X7_rightOf_194 (Seg.cons k_X7_rightOf_195 (Seg.cons k_X7_rightOf_198 (Seg.nil)))))

theorem m_X7_rightOf : Mthx yX7_rightOf cX7_rightOf 16 (some .long) 6 B_X7_rightOf := by
  refine Mthx.of (by decide) ?_
  rintro x as h c ok ⟨X, R, p, q, d, s, t, lo, hi, lo', hi', w, rfl, hF, hp, hpS, hq, hqS, ⟨p1, p2, b1, b2, b3, b4⟩, ⟨q1, q2, b5, b6, b7, b8⟩, hw, c1, c2, hK⟩
  refine ⟨Nat.le_of_ble_eq_true rfl, ?_⟩
  obtain ⟨⟨kx, rx, hS⟩, rfl2, hfl, hfe, rsp, hSp, hR, hqt⟩ := id hF
  have hI := hS.2.2.1
  have hs := hp.2.2
  have ht := hq.2.2
  have w1 := wdG_rg hI hs
  have w2 := wdG_rg hI ht
  have g1 := leG_rg hI hs
  have g2 := leG_rg hI ht
  have hcp := cpt_bd (s := s) (t := t) hI 12 (Nat.le_refl _)
  have hlt := fun j hj => lyN_cells hI hs ht j hj
  have kS := hS.k
  have r0 := hS.r0
  by_cases hC : 1000000000000 < cpt d s t 12
  · have eF : rtF d s t lo hi lo' hi' w = -2 := by unfold rtF; rw [if_pos (.inl hC)]
    have eL : rtL d s t (ql h R) = ql h R := by unfold rtL; rw [if_pos hC]
    rw [eF, eL] at hK
    refine s_X7_rightOf_0 x ok _ _ _ _ ?_
    simp only [wpS, o_c, o_cl, o_il, o_ll, o_al, o_is, o_ls, o_as, o_inc, o_add, o_sub, o_mul, o_and, o_or, o_xor, o_shl, o_shr, o_div, o_neg, o_ladd, o_lsub, o_lmul, o_ldiv, o_lrem, o_lneg, o_lcmp, o_i2l, o_l2i, o_dup, o_dup2, o_pop, o_go, o_nn, o_sw, swc, o_iret, o_zret, o_lret, o_vret, o_ieq, o_eq0, o_ine, o_ne0, o_ilt, o_lt0, o_ige, o_ge0, o_igt, o_gt0, o_ile, o_le0, o_iald, o_zald, o_lald, o_aald, o_iast, o_zast, o_last, o_aast, o_alen, o_gi, o_gr, o_pi, o_pz, o_pr, o_new, o_newa, o_copy, o_oinit, o_call, o_callV, o_callVc, o_callI, popn, cnO, o_BAD, lgt, lst, isL, kil, st1, st2, entL, List.length_nil, List.length_cons, List.replicate, Nat.reduceAdd, Nat.reduceLeDiff, Nat.reduceSub, true_and, and_true, Nat.zero_le, ne_eq, qk_wi, ql_wi, qr_wi, qj_wi, qt_wi, qk_wj, ql_wj, qr_wj, qi_wj, qt_wj, qk_wr, ql_wr, qi_wr, qj_wr, qt_wr, qi_ws, qj_ws, qr_ws, Int.toNat_natCast, Int.toNat_zero, Int.reduceToNat, not_true_eq_false, not_false_eq_true, false_implies, implies_true, Option.some.injEq, reduceCtorEq, Sp0, true_or, or_true, or_self, wi_wi, wj_wj, kx, rx, kS, o_callVx]
    repeat' (first | (with_reducible refine And.intro ?_ ?_) | (with_reducible intro))
    all_goals (try (first | with_reducible assumption | omega | (unfold inI; omega) | (unfold inL; omega) | exact cz_in _ _))
    refine c_countParts hS hp hq ?_
    simp only [wpS, o_c, o_cl, o_il, o_ll, o_al, o_is, o_ls, o_as, o_inc, o_add, o_sub, o_mul, o_and, o_or, o_xor, o_shl, o_shr, o_div, o_neg, o_ladd, o_lsub, o_lmul, o_ldiv, o_lrem, o_lneg, o_lcmp, o_i2l, o_l2i, o_dup, o_dup2, o_pop, o_go, o_nn, o_sw, swc, o_iret, o_zret, o_lret, o_vret, o_ieq, o_eq0, o_ine, o_ne0, o_ilt, o_lt0, o_ige, o_ge0, o_igt, o_gt0, o_ile, o_le0, o_iald, o_zald, o_lald, o_aald, o_iast, o_zast, o_last, o_aast, o_alen, o_gi, o_gr, o_pi, o_pz, o_pr, o_new, o_newa, o_copy, o_oinit, o_call, o_callV, o_callVc, o_callI, popn, cnO, o_BAD, lgt, lst, isL, kil, st1, st2, entL, List.length_nil, List.length_cons, List.replicate, Nat.reduceAdd, Nat.reduceLeDiff, Nat.reduceSub, true_and, and_true, Nat.zero_le, ne_eq, qk_wi, ql_wi, qr_wi, qj_wi, qt_wi, qk_wj, ql_wj, qr_wj, qi_wj, qt_wj, qk_wr, ql_wr, qi_wr, qj_wr, qt_wr, qi_ws, qj_ws, qr_ws, Int.toNat_natCast, Int.toNat_zero, Int.reduceToNat, not_true_eq_false, not_false_eq_true, false_implies, implies_true, Option.some.injEq, reduceCtorEq, Sp0, true_or, or_true, or_self, wi_wi, wj_wj, kx, rx, kS, cz_gt]
    repeat' (first | (with_reducible refine And.intro ?_ ?_) | (with_reducible intro))
    all_goals (try (first | with_reducible assumption | omega | (unfold inI; omega) | (unfold inL; omega) | exact cz_in _ _))
    · all_goals (try ((first | (refine s_X7_rightOf_0 x ok _ _ _ _ ?_) | (refine s_X7_rightOf_39 x ok _ _ _ _ ?_) | (refine s_X7_rightOf_43 x ok _ _ _ _ ?_) | (refine s_X7_rightOf_184 x ok _ _ _ _ ?_) | (refine s_X7_rightOf_190 x ok _ _ _ _ ?_)); (try simp only [wpS, o_c, o_cl, o_il, o_ll, o_al, o_is, o_ls, o_as, o_inc, o_add, o_sub, o_mul, o_and, o_or, o_xor, o_shl, o_shr, o_div, o_neg, o_ladd, o_lsub, o_lmul, o_ldiv, o_lrem, o_lneg, o_lcmp, o_i2l, o_l2i, o_dup, o_dup2, o_pop, o_go, o_nn, o_sw, swc, o_iret, o_zret, o_lret, o_vret, o_ieq, o_eq0, o_ine, o_ne0, o_ilt, o_lt0, o_ige, o_ge0, o_igt, o_gt0, o_ile, o_le0, o_iald, o_zald, o_lald, o_aald, o_iast, o_zast, o_last, o_aast, o_alen, o_gi, o_gr, o_pi, o_pz, o_pr, o_new, o_newa, o_copy, o_oinit, o_call, o_callV, o_callVc, o_callI, popn, cnO, o_BAD, lgt, lst, isL, kil, st1, st2, entL, List.length_nil, List.length_cons, List.replicate, Nat.reduceAdd, Nat.reduceLeDiff, Nat.reduceSub, true_and, and_true, Nat.zero_le, ne_eq, qk_wi, ql_wi, qr_wi, qj_wi, qt_wi, qk_wj, ql_wj, qr_wj, qi_wj, qt_wj, qk_wr, ql_wr, qi_wr, qj_wr, qt_wr, qi_ws, qj_ws, qr_ws, Int.toNat_natCast, Int.toNat_zero, Int.reduceToNat, not_true_eq_false, not_false_eq_true, false_implies, implies_true, Option.some.injEq, reduceCtorEq, Sp0, true_or, or_true, or_self, wi_wi, wj_wj]); (repeat' (first | (with_reducible refine And.intro ?_ ?_) | (with_reducible intro))); (all_goals (try (first | assumption | omega | (unfold inI; omega))))))
      exact hK h (Ov.rf hF)
  · have hsum := lyR_sum hlt 12 (Nat.le_refl _) (by omega)
    have hrg := rgt_rg (g := lyR d s t ((wdG d t).toNat + 1) 12) ((wdG d s).toNat + 1) ((wdG d t).toNat + 1) lo hi (leG d s) lo' hi' (leG d t) (lyR_nn s t _ hI 12 (Nat.le_refl _))
    rw [hsum] at hrg
    have eL : rtL d s t (ql h R) = rwL (ql h R) (((wdG d s).toNat + 1) * ((wdG d t).toNat + 1)) := by unfold rtL; rw [if_neg hC]
    rw [eL] at hK c1 c2
    refine s_X7_rightOf_0 x ok _ _ _ _ ?_
    simp only [wpS, o_c, o_cl, o_il, o_ll, o_al, o_is, o_ls, o_as, o_inc, o_add, o_sub, o_mul, o_and, o_or, o_xor, o_shl, o_shr, o_div, o_neg, o_ladd, o_lsub, o_lmul, o_ldiv, o_lrem, o_lneg, o_lcmp, o_i2l, o_l2i, o_dup, o_dup2, o_pop, o_go, o_nn, o_sw, swc, o_iret, o_zret, o_lret, o_vret, o_ieq, o_eq0, o_ine, o_ne0, o_ilt, o_lt0, o_ige, o_ge0, o_igt, o_gt0, o_ile, o_le0, o_iald, o_zald, o_lald, o_aald, o_iast, o_zast, o_last, o_aast, o_alen, o_gi, o_gr, o_pi, o_pz, o_pr, o_new, o_newa, o_copy, o_oinit, o_call, o_callV, o_callVc, o_callI, popn, cnO, o_BAD, lgt, lst, isL, kil, st1, st2, entL, List.length_nil, List.length_cons, List.replicate, Nat.reduceAdd, Nat.reduceLeDiff, Nat.reduceSub, true_and, and_true, Nat.zero_le, ne_eq, qk_wi, ql_wi, qr_wi, qj_wi, qt_wi, qk_wj, ql_wj, qr_wj, qi_wj, qt_wj, qk_wr, ql_wr, qi_wr, qj_wr, qt_wr, qi_ws, qj_ws, qr_ws, Int.toNat_natCast, Int.toNat_zero, Int.reduceToNat, not_true_eq_false, not_false_eq_true, false_implies, implies_true, Option.some.injEq, reduceCtorEq, Sp0, true_or, or_true, or_self, wi_wi, wj_wj, kx, rx, kS, o_callVx]
    repeat' (first | (with_reducible refine And.intro ?_ ?_) | (with_reducible intro))
    all_goals (try (first | with_reducible assumption | omega | (unfold inI; omega) | (unfold inL; omega) | exact cz_in _ _))
    refine c_countParts hS hp hq ?_
    simp only [wpS, o_c, o_cl, o_il, o_ll, o_al, o_is, o_ls, o_as, o_inc, o_add, o_sub, o_mul, o_and, o_or, o_xor, o_shl, o_shr, o_div, o_neg, o_ladd, o_lsub, o_lmul, o_ldiv, o_lrem, o_lneg, o_lcmp, o_i2l, o_l2i, o_dup, o_dup2, o_pop, o_go, o_nn, o_sw, swc, o_iret, o_zret, o_lret, o_vret, o_ieq, o_eq0, o_ine, o_ne0, o_ilt, o_lt0, o_ige, o_ge0, o_igt, o_gt0, o_ile, o_le0, o_iald, o_zald, o_lald, o_aald, o_iast, o_zast, o_last, o_aast, o_alen, o_gi, o_gr, o_pi, o_pz, o_pr, o_new, o_newa, o_copy, o_oinit, o_call, o_callV, o_callVc, o_callI, popn, cnO, o_BAD, lgt, lst, isL, kil, st1, st2, entL, List.length_nil, List.length_cons, List.replicate, Nat.reduceAdd, Nat.reduceLeDiff, Nat.reduceSub, true_and, and_true, Nat.zero_le, ne_eq, qk_wi, ql_wi, qr_wi, qj_wi, qt_wi, qk_wj, ql_wj, qr_wj, qi_wj, qt_wj, qk_wr, ql_wr, qi_wr, qj_wr, qt_wr, qi_ws, qj_ws, qr_ws, Int.toNat_natCast, Int.toNat_zero, Int.reduceToNat, not_true_eq_false, not_false_eq_true, false_implies, implies_true, Option.some.injEq, reduceCtorEq, Sp0, true_or, or_true, or_self, wi_wi, wj_wj, kx, rx, kS, cz_gt, rsp, hSp.1, r0, o_callVx]
    repeat' (first | (with_reducible refine And.intro ?_ ?_) | (with_reducible intro))
    all_goals (try (first | with_reducible assumption | omega | (unfold inI; omega) | (unfold inL; omega) | exact cz_in _ _))
    all_goals (try (exfalso; omega))
    refine ⟨c, Nat.le_refl _, Nat.le_refl _, X + 89, R, X + 1 + 1, p, q, d, s, t, rfl, hSp, by omega, hR, hS.ms, by omega, hp, hpS, hq, hqS, c1, c2, fun hN f2 => ?_, fun hN h' R' f2 ca2 cb2 gr u1 u2 u3 u4 u5 u6 u7 u8 => ?_⟩
    · have eF : rtF d s t lo hi lo' hi' w = -2 := by unfold rtF; rw [if_pos (.inr hN)]
      rw [eF] at hK
      simp only [wpS, o_c, o_cl, o_il, o_ll, o_al, o_is, o_ls, o_as, o_inc, o_add, o_sub, o_mul, o_and, o_or, o_xor, o_shl, o_shr, o_div, o_neg, o_ladd, o_lsub, o_lmul, o_ldiv, o_lrem, o_lneg, o_lcmp, o_i2l, o_l2i, o_dup, o_dup2, o_pop, o_go, o_nn, o_sw, swc, o_iret, o_zret, o_lret, o_vret, o_ieq, o_eq0, o_ine, o_ne0, o_ilt, o_lt0, o_ige, o_ge0, o_igt, o_gt0, o_ile, o_le0, o_iald, o_zald, o_lald, o_aald, o_iast, o_zast, o_last, o_aast, o_alen, o_gi, o_gr, o_pi, o_pz, o_pr, o_new, o_newa, o_copy, o_oinit, o_call, o_callV, o_callVc, o_callI, popn, cnO, o_BAD, lgt, lst, isL, kil, st1, st2, entL, List.length_nil, List.length_cons, List.replicate, Nat.reduceAdd, Nat.reduceLeDiff, Nat.reduceSub, true_and, and_true, Nat.zero_le, ne_eq, qk_wi, ql_wi, qr_wi, qj_wi, qt_wi, qk_wj, ql_wj, qr_wj, qi_wj, qt_wj, qk_wr, ql_wr, qi_wr, qj_wr, qt_wr, qi_ws, qj_ws, qr_ws, Int.toNat_natCast, Int.toNat_zero, Int.reduceToNat, not_true_eq_false, not_false_eq_true, false_implies, implies_true, Option.some.injEq, reduceCtorEq, Sp0, true_or, or_true, or_self, wi_wi, wj_wj]
      repeat' (first | (with_reducible refine And.intro ?_ ?_) | (with_reducible intro))
      all_goals (try (first | with_reducible assumption | omega | (unfold inI; omega) | (unfold inL; omega) | exact cz_in _ _))
      all_goals (try (exfalso; omega))
      refine hK _ ⟨R, Spr.wi h _ R f2, hSp, hR, .inl rfl, ?_⟩
      unfold rwL
      rw [if_pos (.inr hN)]
      rfl
    · have eF : rtF d s t lo hi lo' hi' w = linF (rgt (lyR d s t ((wdG d t).toNat + 1) 12) ((wdG d s).toNat + 1) ((wdG d t).toNat + 1) lo hi (leG d s) lo' hi' (leG d t)) (cpt d s t 12) w := by unfold rtF; rw [if_neg (by omega)]
      rw [eF] at hK
      have hspr := u1.spr u4 f2 ca2 cb2 gr
      have hF2 := hF.spr hspr (R' := R') u2 u3
      have eqb := hspr.eqb (by omega)
      have hfin := hK _ ⟨R', hspr, u2, u3, u4, u5⟩
      have hp' := hp.eqb eqb hpS
      have hq' := hq.eqb eqb hqS
      have p1' : qi (ws h' (X + 89) R' f2 ca2 cb2 gr) p 1 = lo := by rw [(eqb p (by omega)).2.2.1]; exact p1
      have p2' : qi (ws h' (X + 89) R' f2 ca2 cb2 gr) p 2 = hi := by rw [(eqb p (by omega)).2.2.1]; exact p2
      have q1' : qi (ws h' (X + 89) R' f2 ca2 cb2 gr) q 1 = lo' := by rw [(eqb q (by omega)).2.2.1]; exact q1
      have q2' : qi (ws h' (X + 89) R' f2 ca2 cb2 gr) q 2 = hi' := by rw [(eqb q (by omega)).2.2.1]; exact q2
      have f0 : qi (ws h' (X + 89) R' f2 ca2 cb2 gr) (X + 89) 0 = (((wdG d s).toNat + 1 : Nat) : Int) := by rw [qsS]; exact u6
      have f1 : qi (ws h' (X + 89) R' f2 ca2 cb2 gr) (X + 89) 1 = (((wdG d t).toNat + 1 : Nat) : Int) := by rw [qsS]; exact u7
      have hrow : ∀ k, k < ((wdG d s).toNat + 1) * ((wdG d t).toNat + 1) → qj (ws h' (X + 89) R' f2 ca2 cb2 gr) R' k = lyR d s t ((wdG d t).toNat + 1) 12 k := fun k hk => by rw [qsR]; exact u8 k hk
      have hlen : ((wdG d s).toNat + 1) * ((wdG d t).toNat + 1) ≤ ql (ws h' (X + 89) R' f2 ca2 cb2 gr) R' := by
        show _ ≤ ql h' R'
        rw [u5]
        unfold rwL
        split
        · omega
        · split <;> omega
      generalize (ws h' (X + 89) R' f2 ca2 cb2 gr) = hf at *
      obtain ⟨⟨kx, rx, hS⟩, -, -, -, rsp, hSp, -, -⟩ := hF2
      have kS := hS.k
      have r0 := hS.r0
      generalize hrr : (wdG d s).toNat + 1 = rr at *
      generalize hcc : (wdG d t).toNat + 1 = cc at *
      generalize hA : cpt d s t 12 = A at *
      generalize hG : lyR d s t cc 12 = G at *
      generalize hl1 : leG d s = le at *
      generalize hl2 : leG d t = le' at *
      have loop : ∀ (fr fc : Nat) (to tc : Int), (fr : Int) = (if 0 < lo - le then lo - le else 0) → to = (if hi - le < (rr : Int) - 1 then hi - le else (rr : Int) - 1) → (fc : Int) = (if 0 < lo' - le' then lo' - le' else 0) → tc = (if hi' - le' < (cc : Int) - 1 then hi' - le' else (cc : Int) - 1) → ∀ (b : Nat × Nat) v15, V i_X7_rightOf x 144 [some (vr (some X)), some (vr (some p)), some (vr (some q)), some (vi w), some (vl A), none, some (vi le), some (vi le'), some (vi fr), some (vi to), some (vi fc), some (vi tc), some (vl 0), none, some (vi fr), v15] [] hf b := by
        intro fr fc to tc hfr hto hfc htc b v15
        have hx : ∀ k : Nat, (k < rr ∧ lo ≤ le + k ∧ le + k ≤ hi) ↔ (fr ≤ k ∧ (k : Int) ≤ to) := fun k => by
          rw [hto]
          constructor
          · intro z
            constructor
            · split at hfr <;> omega
            · split <;> omega
          · intro ⟨z1, z2⟩
            split at hfr <;> split at z2 <;> omega
        have hy : ∀ k : Nat, (k < cc ∧ lo' ≤ le' + k ∧ le' + k ≤ hi') ↔ (fc ≤ k ∧ (k : Int) ≤ tc) := fun k => by
          rw [htc]
          constructor
          · intro z
            constructor
            · split at hfc <;> omega
            · split <;> omega
          · intro ⟨z1, z2⟩
            split at hfc <;> split at z2 <;> omega
        have hfrb : fr ≤ 500000 := by split at hfr <;> omega
        have hfcb : fc ≤ 500000 := by split at hfc <;> omega
        have htob : -500000 ≤ to ∧ to ≤ 3000 := by rw [hto]; split <;> omega
        have htcb : -500000 ≤ tc ∧ tc ≤ 3000 := by rw [htc]; split <;> omega
        have outer : ∀ j, j ≤ max fr (to + 1).toNat → fr ≤ j → ∀ v15, V i_X7_rightOf x 144 [some (vr (some X)), some (vr (some p)), some (vr (some q)), some (vi w), some (vl A), none, some (vi le), some (vi le'), some (vi fr), some (vi to), some (vi fc), some (vi tc), some (vl (wnd (fun k => sg (fun q => if lo' ≤ le' + q ∧ le' + q ≤ hi' then G (k * cc + q) else 0) cc) rr lo hi le j)), none, some (vi j), v15] [] hf b := by
          refine bwd _ ?_ ?_
          · intro hj v15
            rw [wnd_end (fun k hk => by rw [hx]; omega)]
            refine s_X7_rightOf_144 x ok _ _ _ _ ?_
            simp only [wpS, o_c, o_cl, o_il, o_ll, o_al, o_is, o_ls, o_as, o_inc, o_add, o_sub, o_mul, o_and, o_or, o_xor, o_shl, o_shr, o_div, o_neg, o_ladd, o_lsub, o_lmul, o_ldiv, o_lrem, o_lneg, o_lcmp, o_i2l, o_l2i, o_dup, o_dup2, o_pop, o_go, o_nn, o_sw, swc, o_iret, o_zret, o_lret, o_vret, o_ieq, o_eq0, o_ine, o_ne0, o_ilt, o_lt0, o_ige, o_ge0, o_igt, o_gt0, o_ile, o_le0, o_iald, o_zald, o_lald, o_aald, o_iast, o_zast, o_last, o_aast, o_alen, o_gi, o_gr, o_pi, o_pz, o_pr, o_new, o_newa, o_copy, o_oinit, o_call, o_callV, o_callVc, o_callI, popn, cnO, o_BAD, lgt, lst, isL, kil, st1, st2, entL, List.length_nil, List.length_cons, List.replicate, Nat.reduceAdd, Nat.reduceLeDiff, Nat.reduceSub, true_and, and_true, Nat.zero_le, ne_eq, qk_wi, ql_wi, qr_wi, qj_wi, qt_wi, qk_wj, ql_wj, qr_wj, qi_wj, qt_wj, qk_wr, ql_wr, qi_wr, qj_wr, qt_wr, qi_ws, qj_ws, qr_ws, Int.toNat_natCast, Int.toNat_zero, Int.reduceToNat, not_true_eq_false, not_false_eq_true, false_implies, implies_true, Option.some.injEq, reduceCtorEq, Sp0, true_or, or_true, or_self, wi_wi, wj_wj]
            repeat' (first | (with_reducible refine And.intro ?_ ?_) | (with_reducible intro))
            all_goals (try (first | with_reducible assumption | omega | (unfold inI; omega) | (unfold inL; omega) | exact cz_in _ _))
            all_goals (try (exfalso; omega))
            refine s_X7_rightOf_190 x ok _ _ _ _ ?_
            simp only [wpS, o_c, o_cl, o_il, o_ll, o_al, o_is, o_ls, o_as, o_inc, o_add, o_sub, o_mul, o_and, o_or, o_xor, o_shl, o_shr, o_div, o_neg, o_ladd, o_lsub, o_lmul, o_ldiv, o_lrem, o_lneg, o_lcmp, o_i2l, o_l2i, o_dup, o_dup2, o_pop, o_go, o_nn, o_sw, swc, o_iret, o_zret, o_lret, o_vret, o_ieq, o_eq0, o_ine, o_ne0, o_ilt, o_lt0, o_ige, o_ge0, o_igt, o_gt0, o_ile, o_le0, o_iald, o_zald, o_lald, o_aald, o_iast, o_zast, o_last, o_aast, o_alen, o_gi, o_gr, o_pi, o_pz, o_pr, o_new, o_newa, o_copy, o_oinit, o_call, o_callV, o_callVc, o_callI, popn, cnO, o_BAD, lgt, lst, isL, kil, st1, st2, entL, List.length_nil, List.length_cons, List.replicate, Nat.reduceAdd, Nat.reduceLeDiff, Nat.reduceSub, true_and, and_true, Nat.zero_le, ne_eq, qk_wi, ql_wi, qr_wi, qj_wi, qt_wi, qk_wj, ql_wj, qr_wj, qi_wj, qt_wj, qk_wr, ql_wr, qi_wr, qj_wr, qt_wr, qi_ws, qj_ws, qr_ws, Int.toNat_natCast, Int.toNat_zero, Int.reduceToNat, not_true_eq_false, not_false_eq_true, false_implies, implies_true, Option.some.injEq, reduceCtorEq, Sp0, true_or, or_true, or_self, wi_wi, wj_wj]
            repeat' (first | (with_reducible refine And.intro ?_ ?_) | (with_reducible intro))
            all_goals (try (first | with_reducible assumption | omega | (unfold inI; omega) | (unfold inL; omega) | exact cz_in _ _))
            refine c_lineOf ⟨?_, by omega, hw, ?_⟩
            · unfold rgt at hrg; omega
            · simp only [wpS, o_c, o_cl, o_il, o_ll, o_al, o_is, o_ls, o_as, o_inc, o_add, o_sub, o_mul, o_and, o_or, o_xor, o_shl, o_shr, o_div, o_neg, o_ladd, o_lsub, o_lmul, o_ldiv, o_lrem, o_lneg, o_lcmp, o_i2l, o_l2i, o_dup, o_dup2, o_pop, o_go, o_nn, o_sw, swc, o_iret, o_zret, o_lret, o_vret, o_ieq, o_eq0, o_ine, o_ne0, o_ilt, o_lt0, o_ige, o_ge0, o_igt, o_gt0, o_ile, o_le0, o_iald, o_zald, o_lald, o_aald, o_iast, o_zast, o_last, o_aast, o_alen, o_gi, o_gr, o_pi, o_pz, o_pr, o_new, o_newa, o_copy, o_oinit, o_call, o_callV, o_callVc, o_callI, popn, cnO, o_BAD, lgt, lst, isL, kil, st1, st2, entL, List.length_nil, List.length_cons, List.replicate, Nat.reduceAdd, Nat.reduceLeDiff, Nat.reduceSub, true_and, and_true, Nat.zero_le, ne_eq, qk_wi, ql_wi, qr_wi, qj_wi, qt_wi, qk_wj, ql_wj, qr_wj, qi_wj, qt_wj, qk_wr, ql_wr, qi_wr, qj_wr, qt_wr, qi_ws, qj_ws, qr_ws, Int.toNat_natCast, Int.toNat_zero, Int.reduceToNat, not_true_eq_false, not_false_eq_true, false_implies, implies_true, Option.some.injEq, reduceCtorEq, Sp0, true_or, or_true, or_self, wi_wi, wj_wj]
              repeat' (first | (with_reducible refine And.intro ?_ ?_) | (with_reducible intro))
              all_goals (try (first | with_reducible assumption | omega | (unfold inI; omega) | (unfold inL; omega) | exact cz_in _ _))
              exact hfin
          · intro j hj ih hfj v15
            have hin := (hx j).mpr (by omega)
            have inner : ∀ i, i ≤ max fc (tc + 1).toNat → fc ≤ i → V i_X7_rightOf x 155 [some (vr (some X)), some (vr (some p)), some (vr (some q)), some (vi w), some (vl A), none, some (vi le), some (vi le'), some (vi fr), some (vi to), some (vi fc), some (vi tc), some (vl (wnd (fun k => sg (fun q => if lo' ≤ le' + q ∧ le' + q ≤ hi' then G (k * cc + q) else 0) cc) rr lo hi le j + wnd (fun q => G (j * cc + q)) cc lo' hi' le' i)), none, some (vi j), some (vi i)] [] hf b := by
              refine bwd _ ?_ ?_
              · intro hi2
                rw [wnd_end (f := fun q => G (j * cc + q)) (fun k hk => by rw [hy]; omega)]
                rw [wnd_s hin] at ih
                have := ih (by omega)
                refine s_X7_rightOf_155 x ok _ _ _ _ ?_
                simp only [wpS, o_c, o_cl, o_il, o_ll, o_al, o_is, o_ls, o_as, o_inc, o_add, o_sub, o_mul, o_and, o_or, o_xor, o_shl, o_shr, o_div, o_neg, o_ladd, o_lsub, o_lmul, o_ldiv, o_lrem, o_lneg, o_lcmp, o_i2l, o_l2i, o_dup, o_dup2, o_pop, o_go, o_nn, o_sw, swc, o_iret, o_zret, o_lret, o_vret, o_ieq, o_eq0, o_ine, o_ne0, o_ilt, o_lt0, o_ige, o_ge0, o_igt, o_gt0, o_ile, o_le0, o_iald, o_zald, o_lald, o_aald, o_iast, o_zast, o_last, o_aast, o_alen, o_gi, o_gr, o_pi, o_pz, o_pr, o_new, o_newa, o_copy, o_oinit, o_call, o_callV, o_callVc, o_callI, popn, cnO, o_BAD, lgt, lst, isL, kil, st1, st2, entL, List.length_nil, List.length_cons, List.replicate, Nat.reduceAdd, Nat.reduceLeDiff, Nat.reduceSub, true_and, and_true, Nat.zero_le, ne_eq, qk_wi, ql_wi, qr_wi, qj_wi, qt_wi, qk_wj, ql_wj, qr_wj, qi_wj, qt_wj, qk_wr, ql_wr, qi_wr, qj_wr, qt_wr, qi_ws, qj_ws, qr_ws, Int.toNat_natCast, Int.toNat_zero, Int.reduceToNat, not_true_eq_false, not_false_eq_true, false_implies, implies_true, Option.some.injEq, reduceCtorEq, Sp0, true_or, or_true, or_self, wi_wi, wj_wj]
                repeat' (first | (with_reducible refine And.intro ?_ ?_) | (with_reducible intro))
                all_goals (try (first | with_reducible assumption | omega | (unfold inI; omega) | (unfold inL; omega) | exact cz_in _ _))
                all_goals (try (exfalso; omega))
                refine s_X7_rightOf_184 x ok _ _ _ _ ?_
                simp only [wpS, o_c, o_cl, o_il, o_ll, o_al, o_is, o_ls, o_as, o_inc, o_add, o_sub, o_mul, o_and, o_or, o_xor, o_shl, o_shr, o_div, o_neg, o_ladd, o_lsub, o_lmul, o_ldiv, o_lrem, o_lneg, o_lcmp, o_i2l, o_l2i, o_dup, o_dup2, o_pop, o_go, o_nn, o_sw, swc, o_iret, o_zret, o_lret, o_vret, o_ieq, o_eq0, o_ine, o_ne0, o_ilt, o_lt0, o_ige, o_ge0, o_igt, o_gt0, o_ile, o_le0, o_iald, o_zald, o_lald, o_aald, o_iast, o_zast, o_last, o_aast, o_alen, o_gi, o_gr, o_pi, o_pz, o_pr, o_new, o_newa, o_copy, o_oinit, o_call, o_callV, o_callVc, o_callI, popn, cnO, o_BAD, lgt, lst, isL, kil, st1, st2, entL, List.length_nil, List.length_cons, List.replicate, Nat.reduceAdd, Nat.reduceLeDiff, Nat.reduceSub, true_and, and_true, Nat.zero_le, ne_eq, qk_wi, ql_wi, qr_wi, qj_wi, qt_wi, qk_wj, ql_wj, qr_wj, qi_wj, qt_wj, qk_wr, ql_wr, qi_wr, qj_wr, qt_wr, qi_ws, qj_ws, qr_ws, Int.toNat_natCast, Int.toNat_zero, Int.reduceToNat, not_true_eq_false, not_false_eq_true, false_implies, implies_true, Option.some.injEq, reduceCtorEq, Sp0, true_or, or_true, or_self, wi_wi, wj_wj]
                repeat' (first | (with_reducible refine And.intro ?_ ?_) | (with_reducible intro))
                all_goals (try (first | with_reducible assumption | omega | (unfold inI; omega) | (unfold inL; omega) | exact cz_in _ _))
                exact ih (by omega) _
              · intro i hi3 ih2 hfi
                have hin2 := (hy i).mpr (by omega)
                rw [wnd_s hin2, ← Int.add_assoc] at ih2
                have hcell : j * cc + i < rr * cc := by
                  have : (j + 1) * cc ≤ rr * cc := Nat.mul_le_mul_right _ (by omega)
                  rw [Nat.succ_mul] at this
                  omega
                have ecell : (j : Int) * (cc : Int) + (i : Int) = ((j * cc + i : Nat) : Int) := by push_cast; rfl
                refine s_X7_rightOf_155 x ok _ _ _ _ ?_
                simp only [wpS, o_c, o_cl, o_il, o_ll, o_al, o_is, o_ls, o_as, o_inc, o_add, o_sub, o_mul, o_and, o_or, o_xor, o_shl, o_shr, o_div, o_neg, o_ladd, o_lsub, o_lmul, o_ldiv, o_lrem, o_lneg, o_lcmp, o_i2l, o_l2i, o_dup, o_dup2, o_pop, o_go, o_nn, o_sw, swc, o_iret, o_zret, o_lret, o_vret, o_ieq, o_eq0, o_ine, o_ne0, o_ilt, o_lt0, o_ige, o_ge0, o_igt, o_gt0, o_ile, o_le0, o_iald, o_zald, o_lald, o_aald, o_iast, o_zast, o_last, o_aast, o_alen, o_gi, o_gr, o_pi, o_pz, o_pr, o_new, o_newa, o_copy, o_oinit, o_call, o_callV, o_callVc, o_callI, popn, cnO, o_BAD, lgt, lst, isL, kil, st1, st2, entL, List.length_nil, List.length_cons, List.replicate, Nat.reduceAdd, Nat.reduceLeDiff, Nat.reduceSub, true_and, and_true, Nat.zero_le, ne_eq, qk_wi, ql_wi, qr_wi, qj_wi, qt_wi, qk_wj, ql_wj, qr_wj, qi_wj, qt_wj, qk_wr, ql_wr, qi_wr, qj_wr, qt_wr, qi_ws, qj_ws, qr_ws, Int.toNat_natCast, Int.toNat_zero, Int.reduceToNat, not_true_eq_false, not_false_eq_true, false_implies, implies_true, Option.some.injEq, reduceCtorEq, Sp0, true_or, or_true, or_self, wi_wi, wj_wj, kx, rsp, hSp.1]
                repeat' (first | (with_reducible refine And.intro ?_ ?_) | (with_reducible intro))
                all_goals (try (first | with_reducible assumption | omega | (unfold inI; omega) | (unfold inL; omega) | exact cz_in _ _))
                all_goals (try (exfalso; omega))
                refine c_at (R := R') hSp ?_
                rw [f1, ecell]
                refine ⟨by unfold inI; omega, ?_⟩
                rw [if_pos ⟨by omega, by omega⟩, Int.toNat_natCast, hrow _ hcell]
                simp only [wpS, o_c, o_cl, o_il, o_ll, o_al, o_is, o_ls, o_as, o_inc, o_add, o_sub, o_mul, o_and, o_or, o_xor, o_shl, o_shr, o_div, o_neg, o_ladd, o_lsub, o_lmul, o_ldiv, o_lrem, o_lneg, o_lcmp, o_i2l, o_l2i, o_dup, o_dup2, o_pop, o_go, o_nn, o_sw, swc, o_iret, o_zret, o_lret, o_vret, o_ieq, o_eq0, o_ine, o_ne0, o_ilt, o_lt0, o_ige, o_ge0, o_igt, o_gt0, o_ile, o_le0, o_iald, o_zald, o_lald, o_aald, o_iast, o_zast, o_last, o_aast, o_alen, o_gi, o_gr, o_pi, o_pz, o_pr, o_new, o_newa, o_copy, o_oinit, o_call, o_callV, o_callVc, o_callI, popn, cnO, o_BAD, lgt, lst, isL, kil, st1, st2, entL, List.length_nil, List.length_cons, List.replicate, Nat.reduceAdd, Nat.reduceLeDiff, Nat.reduceSub, true_and, and_true, Nat.zero_le, ne_eq, qk_wi, ql_wi, qr_wi, qj_wi, qt_wi, qk_wj, ql_wj, qr_wj, qi_wj, qt_wj, qk_wr, ql_wr, qi_wr, qj_wr, qt_wr, qi_ws, qj_ws, qr_ws, Int.toNat_natCast, Int.toNat_zero, Int.reduceToNat, not_true_eq_false, not_false_eq_true, false_implies, implies_true, Option.some.injEq, reduceCtorEq, Sp0, true_or, or_true, or_self, wi_wi, wj_wj]
                repeat' (first | (with_reducible refine And.intro ?_ ?_) | (with_reducible intro))
                all_goals (try (first | with_reducible assumption | omega | (unfold inI; omega) | (unfold inL; omega) | exact cz_in _ _))
                exact ih2 (by omega)
            have := inner fc (by omega) (Nat.le_refl _)
            rw [wnd_start (f := fun q => G (j * cc + q)) (fun k hk => by rw [hy]; omega), Int.add_zero] at this
            refine s_X7_rightOf_144 x ok _ _ _ _ ?_
            simp only [wpS, o_c, o_cl, o_il, o_ll, o_al, o_is, o_ls, o_as, o_inc, o_add, o_sub, o_mul, o_and, o_or, o_xor, o_shl, o_shr, o_div, o_neg, o_ladd, o_lsub, o_lmul, o_ldiv, o_lrem, o_lneg, o_lcmp, o_i2l, o_l2i, o_dup, o_dup2, o_pop, o_go, o_nn, o_sw, swc, o_iret, o_zret, o_lret, o_vret, o_ieq, o_eq0, o_ine, o_ne0, o_ilt, o_lt0, o_ige, o_ge0, o_igt, o_gt0, o_ile, o_le0, o_iald, o_zald, o_lald, o_aald, o_iast, o_zast, o_last, o_aast, o_alen, o_gi, o_gr, o_pi, o_pz, o_pr, o_new, o_newa, o_copy, o_oinit, o_call, o_callV, o_callVc, o_callI, popn, cnO, o_BAD, lgt, lst, isL, kil, st1, st2, entL, List.length_nil, List.length_cons, List.replicate, Nat.reduceAdd, Nat.reduceLeDiff, Nat.reduceSub, true_and, and_true, Nat.zero_le, ne_eq, qk_wi, ql_wi, qr_wi, qj_wi, qt_wi, qk_wj, ql_wj, qr_wj, qi_wj, qt_wj, qk_wr, ql_wr, qi_wr, qj_wr, qt_wr, qi_ws, qj_ws, qr_ws, Int.toNat_natCast, Int.toNat_zero, Int.reduceToNat, not_true_eq_false, not_false_eq_true, false_implies, implies_true, Option.some.injEq, reduceCtorEq, Sp0, true_or, or_true, or_self, wi_wi, wj_wj]
            repeat' (first | (with_reducible refine And.intro ?_ ?_) | (with_reducible intro))
            all_goals (try (first | with_reducible assumption | omega | (unfold inI; omega) | (unfold inL; omega) | exact cz_in _ _))
            all_goals (try (exfalso; omega))
        have := outer fr (by omega) (Nat.le_refl _) v15
        rw [wnd_start (fun k hk => by rw [hx]; omega)] at this
        exact this
      have kp := hp'.1.1
      have kq := hq'.1.1
      have kSp := hSp.1
      have lr : (rr : Int) - 1 ≤ 2880 ∧ 0 ≤ (rr : Int) - 1 := by omega
      have lc : (cc : Int) - 1 ≤ 2880 ∧ 0 ≤ (cc : Int) - 1 := by omega
      simp only [wpS, o_c, o_cl, o_il, o_ll, o_al, o_is, o_ls, o_as, o_inc, o_add, o_sub, o_mul, o_and, o_or, o_xor, o_shl, o_shr, o_div, o_neg, o_ladd, o_lsub, o_lmul, o_ldiv, o_lrem, o_lneg, o_lcmp, o_i2l, o_l2i, o_dup, o_dup2, o_pop, o_go, o_nn, o_sw, swc, o_iret, o_zret, o_lret, o_vret, o_ieq, o_eq0, o_ine, o_ne0, o_ilt, o_lt0, o_ige, o_ge0, o_igt, o_gt0, o_ile, o_le0, o_iald, o_zald, o_lald, o_aald, o_iast, o_zast, o_last, o_aast, o_alen, o_gi, o_gr, o_pi, o_pz, o_pr, o_new, o_newa, o_copy, o_oinit, o_call, o_callV, o_callVc, o_callI, popn, cnO, o_BAD, lgt, lst, isL, kil, st1, st2, entL, List.length_nil, List.length_cons, List.replicate, Nat.reduceAdd, Nat.reduceLeDiff, Nat.reduceSub, true_and, and_true, Nat.zero_le, ne_eq, qk_wi, ql_wi, qr_wi, qj_wi, qt_wi, qk_wj, ql_wj, qr_wj, qi_wj, qt_wj, qk_wr, ql_wr, qi_wr, qj_wr, qt_wr, qi_ws, qj_ws, qr_ws, Int.toNat_natCast, Int.toNat_zero, Int.reduceToNat, not_true_eq_false, not_false_eq_true, false_implies, implies_true, Option.some.injEq, reduceCtorEq, Sp0, true_or, or_true, or_self, wi_wi, wj_wj]
      repeat' (first | (with_reducible refine And.intro ?_ ?_) | (with_reducible intro))
      all_goals (try (first | with_reducible assumption | omega | (unfold inI; omega) | (unfold inL; omega) | exact cz_in _ _))
      all_goals (try (exfalso; omega))
      refine s_X7_rightOf_43 x ok _ _ _ _ ?_
      simp only [wpS, o_c, o_cl, o_il, o_ll, o_al, o_is, o_ls, o_as, o_inc, o_add, o_sub, o_mul, o_and, o_or, o_xor, o_shl, o_shr, o_div, o_neg, o_ladd, o_lsub, o_lmul, o_ldiv, o_lrem, o_lneg, o_lcmp, o_i2l, o_l2i, o_dup, o_dup2, o_pop, o_go, o_nn, o_sw, swc, o_iret, o_zret, o_lret, o_vret, o_ieq, o_eq0, o_ine, o_ne0, o_ilt, o_lt0, o_ige, o_ge0, o_igt, o_gt0, o_ile, o_le0, o_iald, o_zald, o_lald, o_aald, o_iast, o_zast, o_last, o_aast, o_alen, o_gi, o_gr, o_pi, o_pz, o_pr, o_new, o_newa, o_copy, o_oinit, o_call, o_callV, o_callVc, o_callI, popn, cnO, o_BAD, lgt, lst, isL, kil, st1, st2, entL, List.length_nil, List.length_cons, List.replicate, Nat.reduceAdd, Nat.reduceLeDiff, Nat.reduceSub, true_and, and_true, Nat.zero_le, ne_eq, qk_wi, ql_wi, qr_wi, qj_wi, qt_wi, qk_wj, ql_wj, qr_wj, qi_wj, qt_wj, qk_wr, ql_wr, qi_wr, qj_wr, qt_wr, qi_ws, qj_ws, qr_ws, Int.toNat_natCast, Int.toNat_zero, Int.reduceToNat, not_true_eq_false, not_false_eq_true, false_implies, implies_true, Option.some.injEq, reduceCtorEq, Sp0, true_or, or_true, or_self, wi_wi, wj_wj, kx, rx, kS, r0, kp, kq]
      repeat' (first | (with_reducible refine And.intro ?_ ?_) | (with_reducible intro))
      all_goals (try (first | with_reducible assumption | omega | (unfold inI; omega) | (unfold inL; omega) | exact cz_in _ _))
      refine c_leastGap hp' hS.ms ?_
      rw [hl1]
      simp only [wpS, o_c, o_cl, o_il, o_ll, o_al, o_is, o_ls, o_as, o_inc, o_add, o_sub, o_mul, o_and, o_or, o_xor, o_shl, o_shr, o_div, o_neg, o_ladd, o_lsub, o_lmul, o_ldiv, o_lrem, o_lneg, o_lcmp, o_i2l, o_l2i, o_dup, o_dup2, o_pop, o_go, o_nn, o_sw, swc, o_iret, o_zret, o_lret, o_vret, o_ieq, o_eq0, o_ine, o_ne0, o_ilt, o_lt0, o_ige, o_ge0, o_igt, o_gt0, o_ile, o_le0, o_iald, o_zald, o_lald, o_aald, o_iast, o_zast, o_last, o_aast, o_alen, o_gi, o_gr, o_pi, o_pz, o_pr, o_new, o_newa, o_copy, o_oinit, o_call, o_callV, o_callVc, o_callI, popn, cnO, o_BAD, lgt, lst, isL, kil, st1, st2, entL, List.length_nil, List.length_cons, List.replicate, Nat.reduceAdd, Nat.reduceLeDiff, Nat.reduceSub, true_and, and_true, Nat.zero_le, ne_eq, qk_wi, ql_wi, qr_wi, qj_wi, qt_wi, qk_wj, ql_wj, qr_wj, qi_wj, qt_wj, qk_wr, ql_wr, qi_wr, qj_wr, qt_wr, qi_ws, qj_ws, qr_ws, Int.toNat_natCast, Int.toNat_zero, Int.reduceToNat, not_true_eq_false, not_false_eq_true, false_implies, implies_true, Option.some.injEq, reduceCtorEq, Sp0, true_or, or_true, or_self, wi_wi, wj_wj, kx, rx, kS, r0, kp, kq]
      repeat' (first | (with_reducible refine And.intro ?_ ?_) | (with_reducible intro))
      all_goals (try (first | with_reducible assumption | omega | (unfold inI; omega) | (unfold inL; omega) | exact cz_in _ _))
      refine c_leastGap hq' hS.ms ?_
      rw [hl2]
      simp only [wpS, o_c, o_cl, o_il, o_ll, o_al, o_is, o_ls, o_as, o_inc, o_add, o_sub, o_mul, o_and, o_or, o_xor, o_shl, o_shr, o_div, o_neg, o_ladd, o_lsub, o_lmul, o_ldiv, o_lrem, o_lneg, o_lcmp, o_i2l, o_l2i, o_dup, o_dup2, o_pop, o_go, o_nn, o_sw, swc, o_iret, o_zret, o_lret, o_vret, o_ieq, o_eq0, o_ine, o_ne0, o_ilt, o_lt0, o_ige, o_ge0, o_igt, o_gt0, o_ile, o_le0, o_iald, o_zald, o_lald, o_aald, o_iast, o_zast, o_last, o_aast, o_alen, o_gi, o_gr, o_pi, o_pz, o_pr, o_new, o_newa, o_copy, o_oinit, o_call, o_callV, o_callVc, o_callI, popn, cnO, o_BAD, lgt, lst, isL, kil, st1, st2, entL, List.length_nil, List.length_cons, List.replicate, Nat.reduceAdd, Nat.reduceLeDiff, Nat.reduceSub, true_and, and_true, Nat.zero_le, ne_eq, qk_wi, ql_wi, qr_wi, qj_wi, qt_wi, qk_wj, ql_wj, qr_wj, qi_wj, qt_wj, qk_wr, ql_wr, qi_wr, qj_wr, qt_wr, qi_ws, qj_ws, qr_ws, Int.toNat_natCast, Int.toNat_zero, Int.reduceToNat, not_true_eq_false, not_false_eq_true, false_implies, implies_true, Option.some.injEq, reduceCtorEq, Sp0, true_or, or_true, or_self, wi_wi, wj_wj, kp, p1']
      repeat' (first | (with_reducible refine And.intro ?_ ?_) | (with_reducible intro))
      all_goals (try (first | with_reducible assumption | omega | (unfold inI; omega) | (unfold inL; omega) | exact cz_in _ _))
      refine c_max ⟨by unfold inI; omega, by unfold inI; omega, ?_⟩
      simp only [wpS, o_c, o_cl, o_il, o_ll, o_al, o_is, o_ls, o_as, o_inc, o_add, o_sub, o_mul, o_and, o_or, o_xor, o_shl, o_shr, o_div, o_neg, o_ladd, o_lsub, o_lmul, o_ldiv, o_lrem, o_lneg, o_lcmp, o_i2l, o_l2i, o_dup, o_dup2, o_pop, o_go, o_nn, o_sw, swc, o_iret, o_zret, o_lret, o_vret, o_ieq, o_eq0, o_ine, o_ne0, o_ilt, o_lt0, o_ige, o_ge0, o_igt, o_gt0, o_ile, o_le0, o_iald, o_zald, o_lald, o_aald, o_iast, o_zast, o_last, o_aast, o_alen, o_gi, o_gr, o_pi, o_pz, o_pr, o_new, o_newa, o_copy, o_oinit, o_call, o_callV, o_callVc, o_callI, popn, cnO, o_BAD, lgt, lst, isL, kil, st1, st2, entL, List.length_nil, List.length_cons, List.replicate, Nat.reduceAdd, Nat.reduceLeDiff, Nat.reduceSub, true_and, and_true, Nat.zero_le, ne_eq, qk_wi, ql_wi, qr_wi, qj_wi, qt_wi, qk_wj, ql_wj, qr_wj, qi_wj, qt_wj, qk_wr, ql_wr, qi_wr, qj_wr, qt_wr, qi_ws, qj_ws, qr_ws, Int.toNat_natCast, Int.toNat_zero, Int.reduceToNat, not_true_eq_false, not_false_eq_true, false_implies, implies_true, Option.some.injEq, reduceCtorEq, Sp0, true_or, or_true, or_self, wi_wi, wj_wj, kx, rsp, kSp, f0, kp, p2']
      repeat' (first | (with_reducible refine And.intro ?_ ?_) | (with_reducible intro))
      all_goals (try (first | with_reducible assumption | omega | (unfold inI; omega) | (unfold inL; omega) | exact cz_in _ _))
      refine c_min ⟨by unfold inI; omega, by unfold inI; omega, ?_⟩
      simp only [wpS, o_c, o_cl, o_il, o_ll, o_al, o_is, o_ls, o_as, o_inc, o_add, o_sub, o_mul, o_and, o_or, o_xor, o_shl, o_shr, o_div, o_neg, o_ladd, o_lsub, o_lmul, o_ldiv, o_lrem, o_lneg, o_lcmp, o_i2l, o_l2i, o_dup, o_dup2, o_pop, o_go, o_nn, o_sw, swc, o_iret, o_zret, o_lret, o_vret, o_ieq, o_eq0, o_ine, o_ne0, o_ilt, o_lt0, o_ige, o_ge0, o_igt, o_gt0, o_ile, o_le0, o_iald, o_zald, o_lald, o_aald, o_iast, o_zast, o_last, o_aast, o_alen, o_gi, o_gr, o_pi, o_pz, o_pr, o_new, o_newa, o_copy, o_oinit, o_call, o_callV, o_callVc, o_callI, popn, cnO, o_BAD, lgt, lst, isL, kil, st1, st2, entL, List.length_nil, List.length_cons, List.replicate, Nat.reduceAdd, Nat.reduceLeDiff, Nat.reduceSub, true_and, and_true, Nat.zero_le, ne_eq, qk_wi, ql_wi, qr_wi, qj_wi, qt_wi, qk_wj, ql_wj, qr_wj, qi_wj, qt_wj, qk_wr, ql_wr, qi_wr, qj_wr, qt_wr, qi_ws, qj_ws, qr_ws, Int.toNat_natCast, Int.toNat_zero, Int.reduceToNat, not_true_eq_false, not_false_eq_true, false_implies, implies_true, Option.some.injEq, reduceCtorEq, Sp0, true_or, or_true, or_self, wi_wi, wj_wj, kq, q1']
      repeat' (first | (with_reducible refine And.intro ?_ ?_) | (with_reducible intro))
      all_goals (try (first | with_reducible assumption | omega | (unfold inI; omega) | (unfold inL; omega) | exact cz_in _ _))
      refine c_max ⟨by unfold inI; omega, by unfold inI; omega, ?_⟩
      simp only [wpS, o_c, o_cl, o_il, o_ll, o_al, o_is, o_ls, o_as, o_inc, o_add, o_sub, o_mul, o_and, o_or, o_xor, o_shl, o_shr, o_div, o_neg, o_ladd, o_lsub, o_lmul, o_ldiv, o_lrem, o_lneg, o_lcmp, o_i2l, o_l2i, o_dup, o_dup2, o_pop, o_go, o_nn, o_sw, swc, o_iret, o_zret, o_lret, o_vret, o_ieq, o_eq0, o_ine, o_ne0, o_ilt, o_lt0, o_ige, o_ge0, o_igt, o_gt0, o_ile, o_le0, o_iald, o_zald, o_lald, o_aald, o_iast, o_zast, o_last, o_aast, o_alen, o_gi, o_gr, o_pi, o_pz, o_pr, o_new, o_newa, o_copy, o_oinit, o_call, o_callV, o_callVc, o_callI, popn, cnO, o_BAD, lgt, lst, isL, kil, st1, st2, entL, List.length_nil, List.length_cons, List.replicate, Nat.reduceAdd, Nat.reduceLeDiff, Nat.reduceSub, true_and, and_true, Nat.zero_le, ne_eq, qk_wi, ql_wi, qr_wi, qj_wi, qt_wi, qk_wj, ql_wj, qr_wj, qi_wj, qt_wj, qk_wr, ql_wr, qi_wr, qj_wr, qt_wr, qi_ws, qj_ws, qr_ws, Int.toNat_natCast, Int.toNat_zero, Int.reduceToNat, not_true_eq_false, not_false_eq_true, false_implies, implies_true, Option.some.injEq, reduceCtorEq, Sp0, true_or, or_true, or_self, wi_wi, wj_wj, kx, rsp, kSp, f1, kq, q2']
      repeat' (first | (with_reducible refine And.intro ?_ ?_) | (with_reducible intro))
      all_goals (try (first | with_reducible assumption | omega | (unfold inI; omega) | (unfold inL; omega) | exact cz_in _ _))
      refine c_min ⟨by unfold inI; omega, by unfold inI; omega, ?_⟩
      simp only [wpS, o_c, o_cl, o_il, o_ll, o_al, o_is, o_ls, o_as, o_inc, o_add, o_sub, o_mul, o_and, o_or, o_xor, o_shl, o_shr, o_div, o_neg, o_ladd, o_lsub, o_lmul, o_ldiv, o_lrem, o_lneg, o_lcmp, o_i2l, o_l2i, o_dup, o_dup2, o_pop, o_go, o_nn, o_sw, swc, o_iret, o_zret, o_lret, o_vret, o_ieq, o_eq0, o_ine, o_ne0, o_ilt, o_lt0, o_ige, o_ge0, o_igt, o_gt0, o_ile, o_le0, o_iald, o_zald, o_lald, o_aald, o_iast, o_zast, o_last, o_aast, o_alen, o_gi, o_gr, o_pi, o_pz, o_pr, o_new, o_newa, o_copy, o_oinit, o_call, o_callV, o_callVc, o_callI, popn, cnO, o_BAD, lgt, lst, isL, kil, st1, st2, entL, List.length_nil, List.length_cons, List.replicate, Nat.reduceAdd, Nat.reduceLeDiff, Nat.reduceSub, true_and, and_true, Nat.zero_le, ne_eq, qk_wi, ql_wi, qr_wi, qj_wi, qt_wi, qk_wj, ql_wj, qr_wj, qi_wj, qt_wj, qk_wr, ql_wr, qi_wr, qj_wr, qt_wr, qi_ws, qj_ws, qr_ws, Int.toNat_natCast, Int.toNat_zero, Int.reduceToNat, not_true_eq_false, not_false_eq_true, false_implies, implies_true, Option.some.injEq, reduceCtorEq, Sp0, true_or, or_true, or_self, wi_wi, wj_wj]
      repeat' (first | (with_reducible refine And.intro ?_ ?_) | (with_reducible intro))
      all_goals (try (first | with_reducible assumption | omega | (unfold inI; omega) | (unfold inL; omega) | exact cz_in _ _))
      have n1 : (((if 0 < lo - le then lo - le else 0).toNat : Nat) : Int) = (if 0 < lo - le then lo - le else 0) := Int.toNat_of_nonneg (by split <;> omega)
      have n2 : (((if 0 < lo' - le' then lo' - le' else 0).toNat : Nat) : Int) = (if 0 < lo' - le' then lo' - le' else 0) := Int.toNat_of_nonneg (by split <;> omega)
      have := loop _ _ _ _ n1 rfl n2 rfl (c.1 - c.1, c.2 - c.2) none
      rw [n1, n2] at this
      exact this

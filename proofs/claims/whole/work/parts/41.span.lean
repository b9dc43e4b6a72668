/-! ===== FitBench.span, shim ===== -/
theorem iab_z : iab 0 = 0 := by unfold iab; rw [if_neg (by omega)]
theorem wdG_0 (d : Dd) : wdG d (fun _ => 0) = 0 := sg_z (fun k _ => by rw [iab_z, Int.zero_mul])
theorem enough_c {g g2 : Nat → Int} {N a b : Nat} {W need : Int} (h : ∀ k, k < N → g k = g2 k) (ha : a ≤ N) (hb : b ≤ N) : enough g W need a b ↔ enough g2 W need a b := by
  unfold enough
  rw [sg_c (g := g2) (n := a) (fun k hk => h k (by omega)), sg_c (g := g2) (n := b) (fun k hk => h k (by omega))]
theorem narP_c {g g2 : Nat → Int} {N a b : Nat} {W need : Int} (h : ∀ k, k < N → g k = g2 k) (H : narP g N W need a b) : narP g2 N W need a b := by
  obtain ⟨h1, h2, h3, h4⟩ := H
  refine ⟨h1, h2, (enough_c h (by omega) (by omega)).mp h3, fun a' b' z1 z2 z3 => h4 a' b' z1 z2 ((enough_c h (by omega) (by omega)).mpr z3)⟩
theorem Ov.tr {h : Hp} {X R l : Nat} {hf : Hp} {d : Dd} (H : Ov h X R l hf) (hF : Fbs h X d R) : ∃ R', Fbs hf X d R' ∧ ql hf R' = l := by
  obtain ⟨R', h1, h2, h3, h4, h5⟩ := H
  exact ⟨R', hF.spr h1 h2 h3, h5⟩
def spnOk (c p v w : Int) : Prop := (0 ≤ c ∧ c ≤ 5) ∧ (0 ≤ w ∧ w ≤ 1) ∧ (1 ≤ v ∧ v ≤ 1000) ∧ 0 ≤ p ∧ p < v
def B_X7_span : TB := fun as h _ K => ∃ (X R : Nat) (c p v w : Int) (d : Dd), as = [vr (some X), vi c, vi p, vi v, vi w] ∧ Fbs h X d R ∧ inI c ∧ inI p ∧ inI v ∧ inI w ∧ (¬ spnOk c p v w → K (some (vi (-10000000))) h) ∧ (spnOk c p v w → 1000000000000 < cpt d (dsh d c.toNat) (fun _ => 0) 12 → K (some (vi (-10000000))) h) ∧ (spnOk c p v w → cpt d (dsh d c.toNat) (fun _ => 0) 12 ≤ 1000000000000 → ∀ (a b : Nat) hf, Ov h X R (ql h R) hf → narP (lyR d (dsh d c.toNat) (fun _ => 0) 1 12) ((wdG d (dsh d c.toNat)).toNat + 1) v (cpt d (dsh d c.toNat) (fun _ => 0) 12 * (v - p)) a b → K (some (vi (leG d (dsh d c.toNat) + (if w = 0 then a else b)))) hf)
abbrev i_X7_span : MI := (cX7_span, 8, RX7, (some .int), "span", 6)
theorem k_X7_span_0 : Okop i_X7_span 0 (o_il 1) 1 := k_iln (j := 1) (by decide +kernel)
theorem k_X7_span_1 : Okop i_X7_span 1 (o_call 1 T_X7_isChain) 4 := k_call (idx := 96) m_X7_isChain ⟨gw_319, gw_1, ⟨by decide, by decide, by decide +kernel⟩, by decide, by decide⟩ gw_317 gw_318 (by decide +kernel)
theorem k_X7_span_4 : Okop i_X7_span 4 (o_eq0 37) 7 := k_eq0 (off := 33) (by decide +kernel) (by decide)
theorem k_X7_span_7 : Okop i_X7_span 7 (o_il 4) 9 := k_il (by decide +kernel)
theorem k_X7_span_9 : Okop i_X7_span 9 (o_c 0) 10 := k_iconst (by decide +kernel)
theorem k_X7_span_10 : Okop i_X7_span 10 (o_c 1) 11 := k_iconst (by decide +kernel)
theorem k_X7_span_11 : Okop i_X7_span 11 (o_call 3 T_X7_within) 14 := k_call (idx := 52) m_X7_within ⟨gw_283, gw_1, ⟨by decide, by decide, by decide +kernel⟩, by decide, by decide⟩ gw_281 gw_282 (by decide +kernel)
theorem k_X7_span_14 : Okop i_X7_span 14 (o_eq0 37) 17 := k_eq0 (off := 23) (by decide +kernel) (by decide)
theorem k_X7_span_17 : Okop i_X7_span 17 (o_il 3) 18 := k_iln (j := 3) (by decide +kernel)
theorem k_X7_span_18 : Okop i_X7_span 18 (o_c 1) 19 := k_iconst (by decide +kernel)
theorem k_X7_span_19 : Okop i_X7_span 19 (o_c 1000) 22 := k_sipush (by decide +kernel) rfl
theorem k_X7_span_22 : Okop i_X7_span 22 (o_call 3 T_X7_within) 25 := k_call (idx := 52) m_X7_within ⟨gw_283, gw_1, ⟨by decide, by decide, by decide +kernel⟩, by decide, by decide⟩ gw_281 gw_282 (by decide +kernel)
theorem k_X7_span_25 : Okop i_X7_span 25 (o_eq0 37) 28 := k_eq0 (off := 12) (by decide +kernel) (by decide)
theorem k_X7_span_28 : Okop i_X7_span 28 (o_il 2) 29 := k_iln (j := 2) (by decide +kernel)
theorem k_X7_span_29 : Okop i_X7_span 29 (o_lt0 37) 32 := k_lt0 (off := 8) (by decide +kernel) (by decide)
theorem k_X7_span_32 : Okop i_X7_span 32 (o_il 2) 33 := k_iln (j := 2) (by decide +kernel)
theorem k_X7_span_33 : Okop i_X7_span 33 (o_il 3) 34 := k_iln (j := 3) (by decide +kernel)
theorem k_X7_span_34 : Okop i_X7_span 34 (o_ilt 40) 37 := k_ilt (off := 6) (by decide +kernel) (by decide)
theorem k_X7_span_37 : Okop i_X7_span 37 (o_c (-10000000)) 39 := k_ldc (idx := 139) (by decide +kernel) gw_376
theorem k_X7_span_39 : Okop i_X7_span 39 (o_iret) 40 := k_iret (by decide +kernel) rfl
theorem k_X7_span_40 : Okop i_X7_span 40 (o_al 0) 41 := k_aln (j := 0) (by decide +kernel)
theorem k_X7_span_41 : Okop i_X7_span 41 (o_gr 7 0) 44 := k_gr (idx := 12) fo_7 (by decide) (by decide) gw_255 (by decide +kernel)
theorem k_X7_span_44 : Okop i_X7_span 44 (o_gr 6 1) 47 := k_gr (idx := 99) fo_6 (by decide) (by decide) gw_151 (by decide +kernel)
theorem k_X7_span_47 : Okop i_X7_span 47 (o_il 1) 48 := k_iln (j := 1) (by decide +kernel)
theorem k_X7_span_48 : Okop i_X7_span 48 (o_aald) 49 := k_aald (by decide +kernel)
theorem k_X7_span_49 : Okop i_X7_span 49 (o_as 5) 51 := k_as (by decide +kernel) (by decide)
theorem k_X7_span_51 : Okop i_X7_span 51 (o_al 0) 52 := k_aln (j := 0) (by decide +kernel)
theorem k_X7_span_52 : Okop i_X7_span 52 (o_gr 7 0) 55 := k_gr (idx := 12) fo_7 (by decide) (by decide) gw_255 (by decide +kernel)
theorem k_X7_span_55 : Okop i_X7_span 55 (o_al 5) 57 := k_al (by decide +kernel)
theorem k_X7_span_57 : Okop i_X7_span 57 (o_al 0) 58 := k_aln (j := 0) (by decide +kernel)
theorem k_X7_span_58 : Okop i_X7_span 58 (o_gr 7 2) 61 := k_gr (idx := 23) fo_7 (by decide) (by decide) gw_257 (by decide +kernel)
theorem k_X7_span_61 : Okop i_X7_span 61 (o_callV 6 2 T_X6_countParts) 64 := k_callV (idx := 158) (r0 := (RX6, TX6, 4)) m_X6_countParts ⟨gw_425, gw_2, ⟨by decide, by decide, by decide +kernel⟩, by decide, by decide⟩ rfl gw_422 gw_423 gw_424 (by decide +kernel)
theorem k_X7_span_64 : Okop i_X7_span 64 (o_ls 6) 66 := k_ls (by decide +kernel) (by decide)
theorem k_X7_span_66 : Okop i_X7_span 66 (o_ll 6) 68 := k_ll (by decide +kernel)
theorem k_X7_span_68 : Okop i_X7_span 68 (o_cl 1000000000000) 71 := k_ldc2 (idx := 162) (by decide +kernel) gw_428
theorem k_X7_span_71 : Okop i_X7_span 71 (o_lcmp) 72 := k_lcmp (by decide +kernel)
theorem k_X7_span_72 : Okop i_X7_span 72 (o_gt0 98) 75 := k_gt0 (off := 26) (by decide +kernel) (by decide)
theorem k_X7_span_75 : Okop i_X7_span 75 (o_al 0) 76 := k_aln (j := 0) (by decide +kernel)
theorem k_X7_span_76 : Okop i_X7_span 76 (o_gr 7 4) 79 := k_gr (idx := 37) fo_7 (by decide) (by decide) gw_259 (by decide +kernel)
theorem k_X7_span_79 : Okop i_X7_span 79 (o_al 0) 80 := k_aln (j := 0) (by decide +kernel)
theorem k_X7_span_80 : Okop i_X7_span 80 (o_gr 7 0) 83 := k_gr (idx := 12) fo_7 (by decide) (by decide) gw_255 (by decide +kernel)
theorem k_X7_span_83 : Okop i_X7_span 83 (o_gr 6 0) 86 := k_gr (idx := 60) fo_6 (by decide) (by decide) gw_148 (by decide +kernel)
theorem k_X7_span_86 : Okop i_X7_span 86 (o_al 5) 88 := k_al (by decide +kernel)
theorem k_X7_span_88 : Okop i_X7_span 88 (o_al 0) 89 := k_aln (j := 0) (by decide +kernel)
theorem k_X7_span_89 : Okop i_X7_span 89 (o_gr 7 2) 92 := k_gr (idx := 23) fo_7 (by decide) (by decide) gw_257 (by decide +kernel)
theorem k_X7_span_92 : Okop i_X7_span 92 (o_callVx 5 3 B_X5_lay) 95 := k_callVx (idx := 175) (r0 := (RX5, TX5, 9)) m_X5_lay ⟨gw_432, gw_8, ⟨by decide, by decide, by decide +kernel⟩, by decide, by decide⟩ rfl gw_429 gw_430 gw_431 (by decide +kernel)
theorem k_X7_span_95 : Okop i_X7_span 95 (o_ne0 101) 98 := k_ne0 (off := 6) (by decide +kernel) (by decide)
theorem k_X7_span_98 : Okop i_X7_span 98 (o_c (-10000000)) 100 := k_ldc (idx := 139) (by decide +kernel) gw_376
theorem k_X7_span_100 : Okop i_X7_span 100 (o_iret) 101 := k_iret (by decide +kernel) rfl
theorem k_X7_span_101 : Okop i_X7_span 101 (o_al 0) 102 := k_aln (j := 0) (by decide +kernel)
theorem k_X7_span_102 : Okop i_X7_span 102 (o_gr 7 4) 105 := k_gr (idx := 37) fo_7 (by decide) (by decide) gw_259 (by decide +kernel)
theorem k_X7_span_105 : Okop i_X7_span 105 (o_ll 6) 107 := k_ll (by decide +kernel)
theorem k_X7_span_107 : Okop i_X7_span 107 (o_il 3) 108 := k_iln (j := 3) (by decide +kernel)
theorem k_X7_span_108 : Okop i_X7_span 108 (o_il 2) 109 := k_iln (j := 2) (by decide +kernel)
theorem k_X7_span_109 : Okop i_X7_span 109 (o_sub) 110 := k_sub (by decide +kernel)
theorem k_X7_span_110 : Okop i_X7_span 110 (o_i2l) 111 := k_i2l (by decide +kernel)
theorem k_X7_span_111 : Okop i_X7_span 111 (o_lmul) 112 := k_lmul (by decide +kernel)
theorem k_X7_span_112 : Okop i_X7_span 112 (o_il 3) 113 := k_iln (j := 3) (by decide +kernel)
theorem k_X7_span_113 : Okop i_X7_span 113 (o_callV 5 2 T_X5_seekNarrowest) 116 := k_callV (idx := 179) (r0 := (RX5, TX5, 9)) m_X5_seekNarrowest ⟨gw_510, gw_8, ⟨by decide, by decide, by decide +kernel⟩, by decide, by decide⟩ rfl gw_507 gw_508 gw_509 (by decide +kernel)
theorem k_X7_span_116 : Okop i_X7_span 116 (o_al 5) 118 := k_al (by decide +kernel)
theorem k_X7_span_118 : Okop i_X7_span 118 (o_al 0) 119 := k_aln (j := 0) (by decide +kernel)
theorem k_X7_span_119 : Okop i_X7_span 119 (o_gr 7 0) 122 := k_gr (idx := 12) fo_7 (by decide) (by decide) gw_255 (by decide +kernel)
theorem k_X7_span_122 : Okop i_X7_span 122 (o_gr 6 0) 125 := k_gr (idx := 60) fo_6 (by decide) (by decide) gw_148 (by decide +kernel)
theorem k_X7_span_125 : Okop i_X7_span 125 (o_callV 1 1 T_X1_leastGap) 128 := k_callV (idx := 140) (r0 := (RX1, TX1, 3)) m_X1_leastGap ⟨gw_380, gw_4, ⟨by decide, by decide, by decide +kernel⟩, by decide, by decide⟩ rfl gw_377 gw_378 gw_379 (by decide +kernel)
theorem k_X7_span_128 : Okop i_X7_span 128 (o_il 4) 130 := k_il (by decide +kernel)
theorem k_X7_span_130 : Okop i_X7_span 130 (o_ne0 143) 133 := k_ne0 (off := 13) (by decide +kernel) (by decide)
theorem k_X7_span_133 : Okop i_X7_span 133 (o_al 0) 134 := k_aln (j := 0) (by decide +kernel)
theorem k_X7_span_134 : Okop i_X7_span 134 (o_gr 7 4) 137 := k_gr (idx := 37) fo_7 (by decide) (by decide) gw_259 (by decide +kernel)
theorem k_X7_span_137 : Okop i_X7_span 137 (o_gi 5 2) 140 := k_gi (idx := 183) fo_5 (by decide) (by decide) gw_196 (by decide +kernel)
theorem k_X7_span_140 : Okop i_X7_span 140 (o_go 150) 143 := k_go (off := 10) (by decide +kernel) (by decide)
theorem k_X7_span_143 : Okop i_X7_span 143 (o_al 0) 144 := k_aln (j := 0) (by decide +kernel)
theorem k_X7_span_144 : Okop i_X7_span 144 (o_gr 7 4) 147 := k_gr (idx := 37) fo_7 (by decide) (by decide) gw_259 (by decide +kernel)
theorem k_X7_span_147 : Okop i_X7_span 147 (o_gi 5 3) 150 := k_gi (idx := 186) fo_5 (by decide) (by decide) gw_198 (by decide +kernel)
theorem k_X7_span_150 : Okop i_X7_span 150 (o_add) 151 := k_add (by decide +kernel)
theorem k_X7_span_151 : Okop i_X7_span 151 (o_iret) 152 := k_iret (by decide +kernel) rfl
theorem s_X7_span_0 : Seg i_X7_span 0 [o_il 1, o_call 1 T_X7_isChain, o_eq0 37, o_il 4, o_c 0, o_c 1, o_call 3 T_X7_within, o_eq0 37, o_il 3, o_c 1, o_c 1000, o_call 3 T_X7_within, o_eq0 37, o_il 2, o_lt0 37, o_il 2, o_il 3, o_ilt 40, o_c (-10000000), o_iret] 40 := Seg.cons k_X7_span_0 (Seg.cons k_X7_span_1 (Seg.cons k_X7_span_4 (Seg.cons k_X7_span_7 (Seg.cons k_X7_span_9 (Seg.cons k_X7_span_10 (Seg.cons k_X7_span_11 (Seg.cons k_X7_span_14 (Seg.cons k_X7_span_17 (Seg.cons k_X7_span_18 (Seg.cons k_X7_span_19 (Seg.cons k_X7_span_22 (Seg.cons k_X7_span_25 (Seg.cons k_X7_span_28 (Seg.cons k_X7_span_29 (Seg.cons k_X7_span_32 (Seg.cons k_X7_span_33 (Seg.cons k_X7_span_34 (Seg.cons k_X7_span_37 (Seg.cons k_X7_span_39 (Seg.nil))))))))))))))))))))
theorem s_X7_span_37 : Seg i_X7_span 37 [o_c (-10000000), o_iret] 40 := Seg.cons k_X7_span_37 (Seg.cons k_X7_span_39 (Seg.nil))
theorem s_X7_span_40 : Seg i_X7_span 40 [o_al 0, o_gr 7 0, o_gr 6 1, o_il 1, o_aald, o_as 5, o_al 0, o_gr 7 0, o_al 5, o_al 0, o_gr 7 2, o_callV 6 2 T_X6_countParts, o_ls 6, o_ll 6, o_cl 1000000000000, o_lcmp, o_gt0 98, o_al 0, o_gr 7 4, o_al 0, o_gr 7 0, o_gr 6 0, o_al 5, o_al 0, o_gr 7 2, o_callVx 5 3 B_X5_lay, o_ne0 101, o_c (-10000000), o_iret] 101 := Seg.cons k_X7_span_40 (Seg.cons k_X7_span_41 (Seg.cons k_X7_span_44 (Seg.cons k_X7_span_47 (Seg.cons k_X7_span_48 (Seg.cons k_X7_span_49 (Seg.cons k_X7_span_51 (Seg.cons k_X7_span_52 (Seg.cons k_X7_span_55 (Seg.cons k_X7_span_57 (Seg.cons k_X7_span_58 (Seg.cons k_X7_span_61 (Seg.cons k_X7_span_64 (Seg.cons k_X7_span_66 (Seg.cons k_X7_span_68 (Seg.cons k_X7_span_71 (Seg.cons k_X7_span_72 (Seg.cons k_X7_span_75 (Seg.cons k_X7_span_76 (Seg.cons k_X7_span_79 (Seg.cons k_X7_span_80 (Seg.cons k_X7_span_83 (Seg.cons k_X7_span_86 (Seg.cons k_X7_span_88 (Seg.cons k_X7_span_89 (Seg.cons k_X7_span_92 (Seg.cons k_X7_span_95 (Seg.cons k_X7_span_98 (Seg.cons k_X7_span_100 (Seg.nil)))))))))))))))))))))))))))))
theorem s_X7_span_98 : Seg i_X7_span 98 [o_c (-10000000), o_iret] 101 := Seg.cons k_X7_span_98 (Seg.cons k_X7_span_100 (Seg.nil))
theorem s_X7_span_101 : Seg i_X7_span 101 [o_al 0, o_gr 7 4, o_ll 6, o_il 3, o_il 2, o_sub, o_i2l, o_lmul, o_il 3, o_callV 5 2 T_X5_seekNarrowest, o_al 5, o_al 0, o_gr 7 0, o_gr 6 0, o_callV 1 1 T_X1_leastGap, o_il 4, o_ne0 143, o_al 0, o_gr 7 4, o_gi 5 2, o_go 150] 143 := Seg.cons k_X7_span_101 (Seg.cons k_X7_span_102 (Seg.cons k_X7_span_105 (Seg.cons k_X7_span_107 (Seg.cons k_X7_span_108 (Seg.cons k_X7_span_109 (Seg.cons k_X7_span_110 (Seg.cons k_X7_span_111 (Seg.cons k_X7_span_112 (Seg.cons k_X7_span_113 (Seg.cons k_X7_span_116 (Seg.cons k_X7_span_118 (Seg.cons k_X7_span_119 (Seg.cons k_X7_span_122 (Seg.cons k_X7_span_125 (Seg.cons k_X7_span_128 (Seg.cons k_X7_span_130 (Seg.cons k_X7_span_133 (Seg.cons k_X7_span_134 (Seg.cons k_X7_span_137 (Seg.cons k_X7_span_140 (Seg.nil)))))))))))))))))))))
theorem s_X7_span_143 : Seg i_X7_span 143 [o_al 0, o_gr 7 4, o_gi 5 3, o_add, o_iret] 152 := Seg.cons k_X7_span_143 (Seg.cons k_X7_span_144 (Seg.cons k_X7_span_147 (Seg.cons k_X7_span_150 (Seg.cons k_X7_span_151 (Seg.nil)))))
theorem s_X7_span_150 : Seg i_X7_span 150 [o_add, o_iret] 152 := Seg.cons k_X7_span_150 (Seg.cons k_X7_span_151 (Seg.nil))

theorem m_X7_span : Mthx yX7_span cX7_span 8 (some .int) 6 B_X7_span := by
  refine Mthx.of (by decide) ?_
  rintro x as h bb ok ⟨X, R, c, p, v, w, d, rfl, hF, ic, ip, iv, iw, hK1, hK2, hK3⟩
  refine ⟨Nat.le_of_ble_eq_true rfl, ?_⟩
  obtain ⟨⟨kx, rx, hS⟩, rfl2, hfl, hfe, rsp, hSp, hR, hqt⟩ := id hF
  by_cases q : spnOk c p v w
  · have hK2 := hK2 q
    have hK3 := hK3 q
    obtain ⟨qc, qw, qv, qp⟩ := q
    obtain ⟨C, rfl, hC⟩ : ∃ C : Nat, c = (C : Int) ∧ C < 6 := ⟨c.toNat, by omega, by omega⟩
    rw [Int.toNat_natCast] at hK2 hK3
    obtain ⟨⟨k1, r1, k2, l2⟩, ⟨c1, c2, c3⟩, hI⟩ := hS.ch hC
    have hcv := hS.cv hC
    have hI2 := hS.2.2.1
    have hcp := cpt_bd (s := dsh d C) (t := fun _ => 0) hI2 12 (Nat.le_refl _)
    have hle := leG_rg hI2 hI.1
    have hwd := wdG_rg hI2 hI.1
    have hlt := fun j hj => lyN_cells hI2 hI.1 hfl.2.2 j hj
    have hsum := lyR_sum hlt 12 (Nat.le_refl _)
    have hnn := lyR_nn (dsh d C) (fun _ => 0) ((wdG d (fun _ => 0)).toNat + 1) hI2 12 (Nat.le_refl _)
    rw [wdG_0] at hsum hnn
    simp only [Int.toNat_zero, Nat.zero_add, Nat.mul_one] at hsum hnn
    have h40 : V i_X7_span x 40 [some (vr (some X)), some (vi C), some (vi p), some (vi v), some (vi w), none, none, none] [] h bb := by
      generalize hA : cpt d (dsh d C) (fun _ => 0) 12 = A at *
      refine s_X7_span_40 x ok _ _ _ _ ?_
      simp only [wpS, o_c, o_cl, o_il, o_ll, o_al, o_is, o_ls, o_as, o_inc, o_add, o_sub, o_mul, o_and, o_or, o_xor, o_shl, o_shr, o_div, o_neg, o_ladd, o_lsub, o_lmul, o_ldiv, o_lrem, o_lneg, o_lcmp, o_i2l, o_l2i, o_dup, o_dup2, o_pop, o_go, o_nn, o_sw, swc, o_iret, o_zret, o_lret, o_vret, o_ieq, o_eq0, o_ine, o_ne0, o_ilt, o_lt0, o_ige, o_ge0, o_igt, o_gt0, o_ile, o_le0, o_iald, o_zald, o_lald, o_aald, o_iast, o_zast, o_last, o_aast, o_alen, o_gi, o_gr, o_pi, o_pz, o_pr, o_new, o_newa, o_copy, o_oinit, o_call, o_callV, o_callVc, o_callI, popn, cnO, o_BAD, lgt, lst, isL, kil, st1, st2, entL, List.length_nil, List.length_cons, List.replicate, Nat.reduceAdd, Nat.reduceLeDiff, Nat.reduceSub, true_and, and_true, Nat.zero_le, ne_eq, qk_wi, ql_wi, qr_wi, qj_wi, qt_wi, qk_wj, ql_wj, qr_wj, qi_wj, qt_wj, qk_wr, ql_wr, qi_wr, qj_wr, qt_wr, qi_ws, qj_ws, qr_ws, Int.toNat_natCast, Int.toNat_zero, Int.reduceToNat, not_true_eq_false, not_false_eq_true, false_implies, implies_true, Option.some.injEq, reduceCtorEq, Sp0, true_or, or_true, or_self, wi_wi, wj_wj, kx, rx, hS.k, hS.r1, hS.k2, hS.l2, hS.rc hC, rfl2]
      repeat' (first | (with_reducible refine And.intro ?_ ?_) | (with_reducible intro))
      all_goals (try (first | with_reducible assumption | omega | (unfold inI; omega) | (unfold inL; omega) | exact cz_in _ _))
      refine c_countParts hS hcv hfl ?_
      rw [hA]
      simp only [wpS, o_c, o_cl, o_il, o_ll, o_al, o_is, o_ls, o_as, o_inc, o_add, o_sub, o_mul, o_and, o_or, o_xor, o_shl, o_shr, o_div, o_neg, o_ladd, o_lsub, o_lmul, o_ldiv, o_lrem, o_lneg, o_lcmp, o_i2l, o_l2i, o_dup, o_dup2, o_pop, o_go, o_nn, o_sw, swc, o_iret, o_zret, o_lret, o_vret, o_ieq, o_eq0, o_ine, o_ne0, o_ilt, o_lt0, o_ige, o_ge0, o_igt, o_gt0, o_ile, o_le0, o_iald, o_zald, o_lald, o_aald, o_iast, o_zast, o_last, o_aast, o_alen, o_gi, o_gr, o_pi, o_pz, o_pr, o_new, o_newa, o_copy, o_oinit, o_call, o_callV, o_callVc, o_callI, popn, cnO, o_BAD, lgt, lst, isL, kil, st1, st2, entL, List.length_nil, List.length_cons, List.replicate, Nat.reduceAdd, Nat.reduceLeDiff, Nat.reduceSub, true_and, and_true, Nat.zero_le, ne_eq, qk_wi, ql_wi, qr_wi, qj_wi, qt_wi, qk_wj, ql_wj, qr_wj, qi_wj, qt_wj, qk_wr, ql_wr, qi_wr, qj_wr, qt_wr, qi_ws, qj_ws, qr_ws, Int.toNat_natCast, Int.toNat_zero, Int.reduceToNat, not_true_eq_false, not_false_eq_true, false_implies, implies_true, Option.some.injEq, reduceCtorEq, Sp0, true_or, or_true, or_self, wi_wi, wj_wj, cz_gt, kx, rx, rsp, hSp.1, hS.k, hS.r0, rfl2, o_callVx]
      repeat' (first | (with_reducible refine And.intro ?_ ?_) | (with_reducible intro))
      all_goals (try (first | with_reducible assumption | omega | (unfold inI; omega) | (unfold inL; omega) | exact cz_in _ _))
      · refine s_X7_span_98 x ok _ _ _ _ ?_
        simp only [wpS, o_c, o_cl, o_il, o_ll, o_al, o_is, o_ls, o_as, o_inc, o_add, o_sub, o_mul, o_and, o_or, o_xor, o_shl, o_shr, o_div, o_neg, o_ladd, o_lsub, o_lmul, o_ldiv, o_lrem, o_lneg, o_lcmp, o_i2l, o_l2i, o_dup, o_dup2, o_pop, o_go, o_nn, o_sw, swc, o_iret, o_zret, o_lret, o_vret, o_ieq, o_eq0, o_ine, o_ne0, o_ilt, o_lt0, o_ige, o_ge0, o_igt, o_gt0, o_ile, o_le0, o_iald, o_zald, o_lald, o_aald, o_iast, o_zast, o_last, o_aast, o_alen, o_gi, o_gr, o_pi, o_pz, o_pr, o_new, o_newa, o_copy, o_oinit, o_call, o_callV, o_callVc, o_callI, popn, cnO, o_BAD, lgt, lst, isL, kil, st1, st2, entL, List.length_nil, List.length_cons, List.replicate, Nat.reduceAdd, Nat.reduceLeDiff, Nat.reduceSub, true_and, and_true, Nat.zero_le, ne_eq, qk_wi, ql_wi, qr_wi, qj_wi, qt_wi, qk_wj, ql_wj, qr_wj, qi_wj, qt_wj, qk_wr, ql_wr, qi_wr, qj_wr, qt_wr, qi_ws, qj_ws, qr_ws, Int.toNat_natCast, Int.toNat_zero, Int.reduceToNat, not_true_eq_false, not_false_eq_true, false_implies, implies_true, Option.some.injEq, reduceCtorEq, Sp0, true_or, or_true, or_self, wi_wi, wj_wj]
        repeat' (first | (with_reducible refine And.intro ?_ ?_) | (with_reducible intro))
        all_goals (try (first | with_reducible assumption | omega | (unfold inI; omega) | (unfold inL; omega) | exact cz_in _ _))
        exact hK2 (by omega)
      · have hA2 : A ≤ 1000000000000 := by omega
        have hsum := hsum hA2
        have hN0 : 200000 < ((wdG d (dsh d C)).toNat + 1) * ((wdG d (fun _ => 0)).toNat + 1) → False := by
          rw [wdG_0, Int.toNat_zero, Nat.zero_add, Nat.mul_one]
          omega
        have erw : rwL (ql h R) (((wdG d (dsh d C)).toNat + 1) * ((wdG d (fun _ => 0)).toNat + 1)) = ql h R := by
          rw [wdG_0, Int.toNat_zero, Nat.zero_add, Nat.mul_one]
          unfold rwL
          have := hSp.2.2.2.2.2.2.2.2.2
          rw [if_pos (.inl (by omega))]
        refine ⟨bb, Nat.le_refl _, Nat.le_refl _, X + 89, R, X + 1 + 1, X + 1 + 65 + 2 * C, X + 83, d, dsh d C, fun _ => 0, rfl, hSp, by omega, hR, hS.ms, by omega, hcv, by omega, hfl, by omega, by rw [erw]; unfold gc; rw [if_pos rfl]; omega, by rw [erw]; unfold gc; rw [if_pos rfl]; omega, fun hN f2 => (hN0 hN).elim, fun hN h' R' f2 ca2 cb2 gr u1 u2 u3 u4 u5 u6 u7 u8 => ?_⟩
        rw [erw] at u5
        rw [wdG_0] at u7 u8
        simp only [Int.toNat_zero, Nat.zero_add, Nat.mul_one] at u7 u8
        have hlen : (wdG d (dsh d C)).toNat + 1 ≤ ql h' R' := by
          rw [u5]
          have := hSp.2.2.2.2.2.2.2.2.2
          omega
        generalize hN : (wdG d (dsh d C)).toNat + 1 = N at *
        have hN1 : 1 ≤ N ∧ N ≤ 2881 := by omega
        have hgr : ∀ k, k < N → 0 ≤ gr k := fun k hk => by rw [u8 k hk]; exact hnn k
        have hgs : sg gr N = A := by rw [← hsum]; exact sg_c u8
        have m1 : A * 1 ≤ A * (v - p) := Int.mul_le_mul_of_nonneg_left (by omega) (by omega)
        have m2 : A * (v - p) ≤ A * v := Int.mul_le_mul_of_nonneg_left (by omega) (by omega)
        have hF1 := hF.spr (u1.spr u4 f2 ca2 cb2 gr) (R' := R') u2 u3
        obtain ⟨⟨kx1, rx1, hS1⟩, -, -, -, rsp1, hSp1, -, -⟩ := hF1
        have hk15 := hSp1.1
        simp only [wpS, o_c, o_cl, o_il, o_ll, o_al, o_is, o_ls, o_as, o_inc, o_add, o_sub, o_mul, o_and, o_or, o_xor, o_shl, o_shr, o_div, o_neg, o_ladd, o_lsub, o_lmul, o_ldiv, o_lrem, o_lneg, o_lcmp, o_i2l, o_l2i, o_dup, o_dup2, o_pop, o_go, o_nn, o_sw, swc, o_iret, o_zret, o_lret, o_vret, o_ieq, o_eq0, o_ine, o_ne0, o_ilt, o_lt0, o_ige, o_ge0, o_igt, o_gt0, o_ile, o_le0, o_iald, o_zald, o_lald, o_aald, o_iast, o_zast, o_last, o_aast, o_alen, o_gi, o_gr, o_pi, o_pz, o_pr, o_new, o_newa, o_copy, o_oinit, o_call, o_callV, o_callVc, o_callI, popn, cnO, o_BAD, lgt, lst, isL, kil, st1, st2, entL, List.length_nil, List.length_cons, List.replicate, Nat.reduceAdd, Nat.reduceLeDiff, Nat.reduceSub, true_and, and_true, Nat.zero_le, ne_eq, qk_wi, ql_wi, qr_wi, qj_wi, qt_wi, qk_wj, ql_wj, qr_wj, qi_wj, qt_wj, qk_wr, ql_wr, qi_wr, qj_wr, qt_wr, qi_ws, qj_ws, qr_ws, Int.toNat_natCast, Int.toNat_zero, Int.reduceToNat, not_true_eq_false, not_false_eq_true, false_implies, implies_true, Option.some.injEq, reduceCtorEq, Sp0, true_or, or_true, or_self, wi_wi, wj_wj]
        repeat' (first | (with_reducible refine And.intro ?_ ?_) | (with_reducible intro))
        all_goals (try (first | with_reducible assumption | omega | (unfold inI; omega) | (unfold inL; omega) | exact cz_in _ _))
        all_goals (try (exfalso; omega))
        refine s_X7_span_101 x ok _ _ _ _ ?_
        simp only [wpS, o_c, o_cl, o_il, o_ll, o_al, o_is, o_ls, o_as, o_inc, o_add, o_sub, o_mul, o_and, o_or, o_xor, o_shl, o_shr, o_div, o_neg, o_ladd, o_lsub, o_lmul, o_ldiv, o_lrem, o_lneg, o_lcmp, o_i2l, o_l2i, o_dup, o_dup2, o_pop, o_go, o_nn, o_sw, swc, o_iret, o_zret, o_lret, o_vret, o_ieq, o_eq0, o_ine, o_ne0, o_ilt, o_lt0, o_ige, o_ge0, o_igt, o_gt0, o_ile, o_le0, o_iald, o_zald, o_lald, o_aald, o_iast, o_zast, o_last, o_aast, o_alen, o_gi, o_gr, o_pi, o_pz, o_pr, o_new, o_newa, o_copy, o_oinit, o_call, o_callV, o_callVc, o_callI, popn, cnO, o_BAD, lgt, lst, isL, kil, st1, st2, entL, List.length_nil, List.length_cons, List.replicate, Nat.reduceAdd, Nat.reduceLeDiff, Nat.reduceSub, true_and, and_true, Nat.zero_le, ne_eq, qk_wi, ql_wi, qr_wi, qj_wi, qt_wi, qk_wj, ql_wj, qr_wj, qi_wj, qt_wj, qk_wr, ql_wr, qi_wr, qj_wr, qt_wr, qi_ws, qj_ws, qr_ws, Int.toNat_natCast, Int.toNat_zero, Int.reduceToNat, not_true_eq_false, not_false_eq_true, false_implies, implies_true, Option.some.injEq, reduceCtorEq, Sp0, true_or, or_true, or_self, wi_wi, wj_wj, kx1, rsp1, hk15]
        repeat' (first | (with_reducible refine And.intro ?_ ?_) | (with_reducible intro))
        all_goals (try (first | with_reducible assumption | omega | (unfold inI; omega) | (unfold inL; omega) | exact cz_in _ _))
        refine c_seekNarrowest (N := N) u2 u6 u7 (by omega) hlen hgr (by omega) (by omega) (by omega) (by rw [hgs]; omega) (fun f3 a b z1 z2 z3 => ?_)
        have hspr := u1.spr u4 f3 ca2 cb2 gr
        have hF2 := hF.spr hspr (R' := R') u2 u3
        have hfin := hK3 hA2 a b _ ⟨R', hspr, u2, u3, u4, u5⟩ (narP_c u8 z3)
        have hab : a ≤ b ∧ b < N := ⟨z3.1, z3.2.1⟩
        have hcv2 := hF2.1.2.2.cv hC
        obtain ⟨⟨kx2, rx2, hS2⟩, -, -, -, rsp2, hSp2, -, -⟩ := hF2
        have y2 : qi (ws h' (X + 89) R' f3 ca2 cb2 gr) (X + 89) 2 = (a : Int) := by rw [qsS]; exact z1
        have y3 : qi (ws h' (X + 89) R' f3 ca2 cb2 gr) (X + 89) 3 = (b : Int) := by rw [qsS]; exact z2
        have kS2 := hSp2.1
        generalize (ws h' (X + 89) R' f3 ca2 cb2 gr) = hf at *
        simp only [wpS, o_c, o_cl, o_il, o_ll, o_al, o_is, o_ls, o_as, o_inc, o_add, o_sub, o_mul, o_and, o_or, o_xor, o_shl, o_shr, o_div, o_neg, o_ladd, o_lsub, o_lmul, o_ldiv, o_lrem, o_lneg, o_lcmp, o_i2l, o_l2i, o_dup, o_dup2, o_pop, o_go, o_nn, o_sw, swc, o_iret, o_zret, o_lret, o_vret, o_ieq, o_eq0, o_ine, o_ne0, o_ilt, o_lt0, o_ige, o_ge0, o_igt, o_gt0, o_ile, o_le0, o_iald, o_zald, o_lald, o_aald, o_iast, o_zast, o_last, o_aast, o_alen, o_gi, o_gr, o_pi, o_pz, o_pr, o_new, o_newa, o_copy, o_oinit, o_call, o_callV, o_callVc, o_callI, popn, cnO, o_BAD, lgt, lst, isL, kil, st1, st2, entL, List.length_nil, List.length_cons, List.replicate, Nat.reduceAdd, Nat.reduceLeDiff, Nat.reduceSub, true_and, and_true, Nat.zero_le, ne_eq, qk_wi, ql_wi, qr_wi, qj_wi, qt_wi, qk_wj, ql_wj, qr_wj, qi_wj, qt_wj, qk_wr, ql_wr, qi_wr, qj_wr, qt_wr, qi_ws, qj_ws, qr_ws, Int.toNat_natCast, Int.toNat_zero, Int.reduceToNat, not_true_eq_false, not_false_eq_true, false_implies, implies_true, Option.some.injEq, reduceCtorEq, Sp0, true_or, or_true, or_self, wi_wi, wj_wj, kx2, rx2, hS2.k, hS2.r0, hcv2.1.1]
        repeat' (first | (with_reducible refine And.intro ?_ ?_) | (with_reducible intro))
        all_goals (try (first | with_reducible assumption | omega | (unfold inI; omega) | (unfold inL; omega) | exact cz_in _ _))
        refine c_leastGap hcv2 hS2.ms ?_
        simp only [wpS, o_c, o_cl, o_il, o_ll, o_al, o_is, o_ls, o_as, o_inc, o_add, o_sub, o_mul, o_and, o_or, o_xor, o_shl, o_shr, o_div, o_neg, o_ladd, o_lsub, o_lmul, o_ldiv, o_lrem, o_lneg, o_lcmp, o_i2l, o_l2i, o_dup, o_dup2, o_pop, o_go, o_nn, o_sw, swc, o_iret, o_zret, o_lret, o_vret, o_ieq, o_eq0, o_ine, o_ne0, o_ilt, o_lt0, o_ige, o_ge0, o_igt, o_gt0, o_ile, o_le0, o_iald, o_zald, o_lald, o_aald, o_iast, o_zast, o_last, o_aast, o_alen, o_gi, o_gr, o_pi, o_pz, o_pr, o_new, o_newa, o_copy, o_oinit, o_call, o_callV, o_callVc, o_callI, popn, cnO, o_BAD, lgt, lst, isL, kil, st1, st2, entL, List.length_nil, List.length_cons, List.replicate, Nat.reduceAdd, Nat.reduceLeDiff, Nat.reduceSub, true_and, and_true, Nat.zero_le, ne_eq, qk_wi, ql_wi, qr_wi, qj_wi, qt_wi, qk_wj, ql_wj, qr_wj, qi_wj, qt_wj, qk_wr, ql_wr, qi_wr, qj_wr, qt_wr, qi_ws, qj_ws, qr_ws, Int.toNat_natCast, Int.toNat_zero, Int.reduceToNat, not_true_eq_false, not_false_eq_true, false_implies, implies_true, Option.some.injEq, reduceCtorEq, Sp0, true_or, or_true, or_self, wi_wi, wj_wj, kx2, rsp2, kS2, y2]
        repeat' (first | (with_reducible refine And.intro ?_ ?_) | (with_reducible intro))
        all_goals (try (first | with_reducible assumption | omega | (unfold inI; omega) | (unfold inL; omega) | exact cz_in _ _))
        · refine s_X7_span_143 x ok _ _ _ _ ?_
          simp only [wpS, o_c, o_cl, o_il, o_ll, o_al, o_is, o_ls, o_as, o_inc, o_add, o_sub, o_mul, o_and, o_or, o_xor, o_shl, o_shr, o_div, o_neg, o_ladd, o_lsub, o_lmul, o_ldiv, o_lrem, o_lneg, o_lcmp, o_i2l, o_l2i, o_dup, o_dup2, o_pop, o_go, o_nn, o_sw, swc, o_iret, o_zret, o_lret, o_vret, o_ieq, o_eq0, o_ine, o_ne0, o_ilt, o_lt0, o_ige, o_ge0, o_igt, o_gt0, o_ile, o_le0, o_iald, o_zald, o_lald, o_aald, o_iast, o_zast, o_last, o_aast, o_alen, o_gi, o_gr, o_pi, o_pz, o_pr, o_new, o_newa, o_copy, o_oinit, o_call, o_callV, o_callVc, o_callI, popn, cnO, o_BAD, lgt, lst, isL, kil, st1, st2, entL, List.length_nil, List.length_cons, List.replicate, Nat.reduceAdd, Nat.reduceLeDiff, Nat.reduceSub, true_and, and_true, Nat.zero_le, ne_eq, qk_wi, ql_wi, qr_wi, qj_wi, qt_wi, qk_wj, ql_wj, qr_wj, qi_wj, qt_wj, qk_wr, ql_wr, qi_wr, qj_wr, qt_wr, qi_ws, qj_ws, qr_ws, Int.toNat_natCast, Int.toNat_zero, Int.reduceToNat, not_true_eq_false, not_false_eq_true, false_implies, implies_true, Option.some.injEq, reduceCtorEq, Sp0, true_or, or_true, or_self, wi_wi, wj_wj, kx2, rsp2, kS2, y3]
          repeat' (first | (with_reducible refine And.intro ?_ ?_) | (with_reducible intro))
          all_goals (try (first | with_reducible assumption | omega | (unfold inI; omega) | (unfold inL; omega) | exact cz_in _ _))
          rw [if_neg (by assumption)] at hfin
          exact hfin
        · refine s_X7_span_150 x ok _ _ _ _ ?_
          simp only [wpS, o_c, o_cl, o_il, o_ll, o_al, o_is, o_ls, o_as, o_inc, o_add, o_sub, o_mul, o_and, o_or, o_xor, o_shl, o_shr, o_div, o_neg, o_ladd, o_lsub, o_lmul, o_ldiv, o_lrem, o_lneg, o_lcmp, o_i2l, o_l2i, o_dup, o_dup2, o_pop, o_go, o_nn, o_sw, swc, o_iret, o_zret, o_lret, o_vret, o_ieq, o_eq0, o_ine, o_ne0, o_ilt, o_lt0, o_ige, o_ge0, o_igt, o_gt0, o_ile, o_le0, o_iald, o_zald, o_lald, o_aald, o_iast, o_zast, o_last, o_aast, o_alen, o_gi, o_gr, o_pi, o_pz, o_pr, o_new, o_newa, o_copy, o_oinit, o_call, o_callV, o_callVc, o_callI, popn, cnO, o_BAD, lgt, lst, isL, kil, st1, st2, entL, List.length_nil, List.length_cons, List.replicate, Nat.reduceAdd, Nat.reduceLeDiff, Nat.reduceSub, true_and, and_true, Nat.zero_le, ne_eq, qk_wi, ql_wi, qr_wi, qj_wi, qt_wi, qk_wj, ql_wj, qr_wj, qi_wj, qt_wj, qk_wr, ql_wr, qi_wr, qj_wr, qt_wr, qi_ws, qj_ws, qr_ws, Int.toNat_natCast, Int.toNat_zero, Int.reduceToNat, not_true_eq_false, not_false_eq_true, false_implies, implies_true, Option.some.injEq, reduceCtorEq, Sp0, true_or, or_true, or_self, wi_wi, wj_wj]
          repeat' (first | (with_reducible refine And.intro ?_ ?_) | (with_reducible intro))
          all_goals (try (first | with_reducible assumption | omega | (unfold inI; omega) | (unfold inL; omega) | exact cz_in _ _))
          rw [if_pos (by assumption)] at hfin
          exact hfin
    all_goals (try ((first | (refine s_X7_span_0 x ok _ _ _ _ ?_) | (refine s_X7_span_37 x ok _ _ _ _ ?_) | (refine s_X7_span_40 x ok _ _ _ _ ?_) | (refine s_X7_span_98 x ok _ _ _ _ ?_) | (refine s_X7_span_101 x ok _ _ _ _ ?_) | (refine s_X7_span_143 x ok _ _ _ _ ?_) | (refine s_X7_span_150 x ok _ _ _ _ ?_)); (try simp only [wpS, o_c, o_cl, o_il, o_ll, o_al, o_is, o_ls, o_as, o_inc, o_add, o_sub, o_mul, o_and, o_or, o_xor, o_shl, o_shr, o_div, o_neg, o_ladd, o_lsub, o_lmul, o_ldiv, o_lrem, o_lneg, o_lcmp, o_i2l, o_l2i, o_dup, o_dup2, o_pop, o_go, o_nn, o_sw, swc, o_iret, o_zret, o_lret, o_vret, o_ieq, o_eq0, o_ine, o_ne0, o_ilt, o_lt0, o_ige, o_ge0, o_igt, o_gt0, o_ile, o_le0, o_iald, o_zald, o_lald, o_aald, o_iast, o_zast, o_last, o_aast, o_alen, o_gi, o_gr, o_pi, o_pz, o_pr, o_new, o_newa, o_copy, o_oinit, o_call, o_callV, o_callVc, o_callI, popn, cnO, o_BAD, lgt, lst, isL, kil, st1, st2, entL, List.length_nil, List.length_cons, List.replicate, Nat.reduceAdd, Nat.reduceLeDiff, Nat.reduceSub, true_and, and_true, Nat.zero_le, ne_eq, qk_wi, ql_wi, qr_wi, qj_wi, qt_wi, qk_wj, ql_wj, qr_wj, qi_wj, qt_wj, qk_wr, ql_wr, qi_wr, qj_wr, qt_wr, qi_ws, qj_ws, qr_ws, Int.toNat_natCast, Int.toNat_zero, Int.reduceToNat, not_true_eq_false, not_false_eq_true, false_implies, implies_true, Option.some.injEq, reduceCtorEq, Sp0, true_or, or_true, or_self, wi_wi, wj_wj]); (repeat' (first | (with_reducible refine And.intro ?_ ?_) | (with_reducible intro))); (all_goals (try (first | assumption | omega | (unfold inI; omega))))))
    refine c_rg ⟨ic, fun _ => ?_, fun z => by omega⟩
    simp only [wpS, o_c, o_cl, o_il, o_ll, o_al, o_is, o_ls, o_as, o_inc, o_add, o_sub, o_mul, o_and, o_or, o_xor, o_shl, o_shr, o_div, o_neg, o_ladd, o_lsub, o_lmul, o_ldiv, o_lrem, o_lneg, o_lcmp, o_i2l, o_l2i, o_dup, o_dup2, o_pop, o_go, o_nn, o_sw, swc, o_iret, o_zret, o_lret, o_vret, o_ieq, o_eq0, o_ine, o_ne0, o_ilt, o_lt0, o_ige, o_ge0, o_igt, o_gt0, o_ile, o_le0, o_iald, o_zald, o_lald, o_aald, o_iast, o_zast, o_last, o_aast, o_alen, o_gi, o_gr, o_pi, o_pz, o_pr, o_new, o_newa, o_copy, o_oinit, o_call, o_callV, o_callVc, o_callI, popn, cnO, o_BAD, lgt, lst, isL, kil, st1, st2, entL, List.length_nil, List.length_cons, List.replicate, Nat.reduceAdd, Nat.reduceLeDiff, Nat.reduceSub, true_and, and_true, Nat.zero_le, ne_eq, qk_wi, ql_wi, qr_wi, qj_wi, qt_wi, qk_wj, ql_wj, qr_wj, qi_wj, qt_wj, qk_wr, ql_wr, qi_wr, qj_wr, qt_wr, qi_ws, qj_ws, qr_ws, Int.toNat_natCast, Int.toNat_zero, Int.reduceToNat, not_true_eq_false, not_false_eq_true, false_implies, implies_true, Option.some.injEq, reduceCtorEq, Sp0, true_or, or_true, or_self, wi_wi, wj_wj]
    repeat' (first | (with_reducible refine And.intro ?_ ?_) | (with_reducible intro))
    all_goals (try (first | with_reducible assumption | omega | (unfold inI; omega) | (unfold inL; omega) | exact cz_in _ _))
    all_goals (try (exfalso; omega))
    refine c_within ⟨iw, by unfold inI; omega, by unfold inI; omega, fun _ => ?_, fun z => by omega⟩
    simp only [wpS, o_c, o_cl, o_il, o_ll, o_al, o_is, o_ls, o_as, o_inc, o_add, o_sub, o_mul, o_and, o_or, o_xor, o_shl, o_shr, o_div, o_neg, o_ladd, o_lsub, o_lmul, o_ldiv, o_lrem, o_lneg, o_lcmp, o_i2l, o_l2i, o_dup, o_dup2, o_pop, o_go, o_nn, o_sw, swc, o_iret, o_zret, o_lret, o_vret, o_ieq, o_eq0, o_ine, o_ne0, o_ilt, o_lt0, o_ige, o_ge0, o_igt, o_gt0, o_ile, o_le0, o_iald, o_zald, o_lald, o_aald, o_iast, o_zast, o_last, o_aast, o_alen, o_gi, o_gr, o_pi, o_pz, o_pr, o_new, o_newa, o_copy, o_oinit, o_call, o_callV, o_callVc, o_callI, popn, cnO, o_BAD, lgt, lst, isL, kil, st1, st2, entL, List.length_nil, List.length_cons, List.replicate, Nat.reduceAdd, Nat.reduceLeDiff, Nat.reduceSub, true_and, and_true, Nat.zero_le, ne_eq, qk_wi, ql_wi, qr_wi, qj_wi, qt_wi, qk_wj, ql_wj, qr_wj, qi_wj, qt_wj, qk_wr, ql_wr, qi_wr, qj_wr, qt_wr, qi_ws, qj_ws, qr_ws, Int.toNat_natCast, Int.toNat_zero, Int.reduceToNat, not_true_eq_false, not_false_eq_true, false_implies, implies_true, Option.some.injEq, reduceCtorEq, Sp0, true_or, or_true, or_self, wi_wi, wj_wj]
    repeat' (first | (with_reducible refine And.intro ?_ ?_) | (with_reducible intro))
    all_goals (try (first | with_reducible assumption | omega | (unfold inI; omega) | (unfold inL; omega) | exact cz_in _ _))
    all_goals (try (exfalso; omega))
    refine c_within ⟨iv, by unfold inI; omega, by unfold inI; omega, fun _ => ?_, fun z => by omega⟩
    simp only [wpS, o_c, o_cl, o_il, o_ll, o_al, o_is, o_ls, o_as, o_inc, o_add, o_sub, o_mul, o_and, o_or, o_xor, o_shl, o_shr, o_div, o_neg, o_ladd, o_lsub, o_lmul, o_ldiv, o_lrem, o_lneg, o_lcmp, o_i2l, o_l2i, o_dup, o_dup2, o_pop, o_go, o_nn, o_sw, swc, o_iret, o_zret, o_lret, o_vret, o_ieq, o_eq0, o_ine, o_ne0, o_ilt, o_lt0, o_ige, o_ge0, o_igt, o_gt0, o_ile, o_le0, o_iald, o_zald, o_lald, o_aald, o_iast, o_zast, o_last, o_aast, o_alen, o_gi, o_gr, o_pi, o_pz, o_pr, o_new, o_newa, o_copy, o_oinit, o_call, o_callV, o_callVc, o_callI, popn, cnO, o_BAD, lgt, lst, isL, kil, st1, st2, entL, List.length_nil, List.length_cons, List.replicate, Nat.reduceAdd, Nat.reduceLeDiff, Nat.reduceSub, true_and, and_true, Nat.zero_le, ne_eq, qk_wi, ql_wi, qr_wi, qj_wi, qt_wi, qk_wj, ql_wj, qr_wj, qi_wj, qt_wj, qk_wr, ql_wr, qi_wr, qj_wr, qt_wr, qi_ws, qj_ws, qr_ws, Int.toNat_natCast, Int.toNat_zero, Int.reduceToNat, not_true_eq_false, not_false_eq_true, false_implies, implies_true, Option.some.injEq, reduceCtorEq, Sp0, true_or, or_true, or_self, wi_wi, wj_wj]
    repeat' (first | (with_reducible refine And.intro ?_ ?_) | (with_reducible intro))
    all_goals (try (first | with_reducible assumption | omega | (unfold inI; omega) | (unfold inL; omega) | exact cz_in _ _))
    all_goals (try (exfalso; omega))
  · have hK1 := hK1 q
    unfold spnOk at q
    have h37 : ∀ b, V i_X7_span x 37 [some (vr (some X)), some (vi c), some (vi p), some (vi v), some (vi w), none, none, none] [] h b := fun b => by
      all_goals (try ((first | (refine s_X7_span_0 x ok _ _ _ _ ?_) | (refine s_X7_span_37 x ok _ _ _ _ ?_) | (refine s_X7_span_40 x ok _ _ _ _ ?_) | (refine s_X7_span_98 x ok _ _ _ _ ?_) | (refine s_X7_span_101 x ok _ _ _ _ ?_) | (refine s_X7_span_143 x ok _ _ _ _ ?_) | (refine s_X7_span_150 x ok _ _ _ _ ?_)); (try simp only [wpS, o_c, o_cl, o_il, o_ll, o_al, o_is, o_ls, o_as, o_inc, o_add, o_sub, o_mul, o_and, o_or, o_xor, o_shl, o_shr, o_div, o_neg, o_ladd, o_lsub, o_lmul, o_ldiv, o_lrem, o_lneg, o_lcmp, o_i2l, o_l2i, o_dup, o_dup2, o_pop, o_go, o_nn, o_sw, swc, o_iret, o_zret, o_lret, o_vret, o_ieq, o_eq0, o_ine, o_ne0, o_ilt, o_lt0, o_ige, o_ge0, o_igt, o_gt0, o_ile, o_le0, o_iald, o_zald, o_lald, o_aald, o_iast, o_zast, o_last, o_aast, o_alen, o_gi, o_gr, o_pi, o_pz, o_pr, o_new, o_newa, o_copy, o_oinit, o_call, o_callV, o_callVc, o_callI, popn, cnO, o_BAD, lgt, lst, isL, kil, st1, st2, entL, List.length_nil, List.length_cons, List.replicate, Nat.reduceAdd, Nat.reduceLeDiff, Nat.reduceSub, true_and, and_true, Nat.zero_le, ne_eq, qk_wi, ql_wi, qr_wi, qj_wi, qt_wi, qk_wj, ql_wj, qr_wj, qi_wj, qt_wj, qk_wr, ql_wr, qi_wr, qj_wr, qt_wr, qi_ws, qj_ws, qr_ws, Int.toNat_natCast, Int.toNat_zero, Int.reduceToNat, not_true_eq_false, not_false_eq_true, false_implies, implies_true, Option.some.injEq, reduceCtorEq, Sp0, true_or, or_true, or_self, wi_wi, wj_wj]); (repeat' (first | (with_reducible refine And.intro ?_ ?_) | (with_reducible intro))); (all_goals (try (first | assumption | omega | (unfold inI; omega))))))
    refine s_X7_span_0 x ok _ _ _ _ ?_
    simp only [wpS, o_c, o_cl, o_il, o_ll, o_al, o_is, o_ls, o_as, o_inc, o_add, o_sub, o_mul, o_and, o_or, o_xor, o_shl, o_shr, o_div, o_neg, o_ladd, o_lsub, o_lmul, o_ldiv, o_lrem, o_lneg, o_lcmp, o_i2l, o_l2i, o_dup, o_dup2, o_pop, o_go, o_nn, o_sw, swc, o_iret, o_zret, o_lret, o_vret, o_ieq, o_eq0, o_ine, o_ne0, o_ilt, o_lt0, o_ige, o_ge0, o_igt, o_gt0, o_ile, o_le0, o_iald, o_zald, o_lald, o_aald, o_iast, o_zast, o_last, o_aast, o_alen, o_gi, o_gr, o_pi, o_pz, o_pr, o_new, o_newa, o_copy, o_oinit, o_call, o_callV, o_callVc, o_callI, popn, cnO, o_BAD, lgt, lst, isL, kil, st1, st2, entL, List.length_nil, List.length_cons, List.replicate, Nat.reduceAdd, Nat.reduceLeDiff, Nat.reduceSub, true_and, and_true, Nat.zero_le, ne_eq, qk_wi, ql_wi, qr_wi, qj_wi, qt_wi, qk_wj, ql_wj, qr_wj, qi_wj, qt_wj, qk_wr, ql_wr, qi_wr, qj_wr, qt_wr, qi_ws, qj_ws, qr_ws, Int.toNat_natCast, Int.toNat_zero, Int.reduceToNat, not_true_eq_false, not_false_eq_true, false_implies, implies_true, Option.some.injEq, reduceCtorEq, Sp0, true_or, or_true, or_self, wi_wi, wj_wj]
    repeat' (first | (with_reducible refine And.intro ?_ ?_) | (with_reducible intro))
    all_goals (try (first | with_reducible assumption | omega | (unfold inI; omega) | (unfold inL; omega) | exact cz_in _ _))
    refine c_rg ⟨ic, fun _ => ?_, fun z => ?_⟩
    · simp only [wpS, o_c, o_cl, o_il, o_ll, o_al, o_is, o_ls, o_as, o_inc, o_add, o_sub, o_mul, o_and, o_or, o_xor, o_shl, o_shr, o_div, o_neg, o_ladd, o_lsub, o_lmul, o_ldiv, o_lrem, o_lneg, o_lcmp, o_i2l, o_l2i, o_dup, o_dup2, o_pop, o_go, o_nn, o_sw, swc, o_iret, o_zret, o_lret, o_vret, o_ieq, o_eq0, o_ine, o_ne0, o_ilt, o_lt0, o_ige, o_ge0, o_igt, o_gt0, o_ile, o_le0, o_iald, o_zald, o_lald, o_aald, o_iast, o_zast, o_last, o_aast, o_alen, o_gi, o_gr, o_pi, o_pz, o_pr, o_new, o_newa, o_copy, o_oinit, o_call, o_callV, o_callVc, o_callI, popn, cnO, o_BAD, lgt, lst, isL, kil, st1, st2, entL, List.length_nil, List.length_cons, List.replicate, Nat.reduceAdd, Nat.reduceLeDiff, Nat.reduceSub, true_and, and_true, Nat.zero_le, ne_eq, qk_wi, ql_wi, qr_wi, qj_wi, qt_wi, qk_wj, ql_wj, qr_wj, qi_wj, qt_wj, qk_wr, ql_wr, qi_wr, qj_wr, qt_wr, qi_ws, qj_ws, qr_ws, Int.toNat_natCast, Int.toNat_zero, Int.reduceToNat, not_true_eq_false, not_false_eq_true, false_implies, implies_true, Option.some.injEq, reduceCtorEq, Sp0, true_or, or_true, or_self, wi_wi, wj_wj]
      repeat' (first | (with_reducible refine And.intro ?_ ?_) | (with_reducible intro))
      all_goals (try (first | with_reducible assumption | omega | (unfold inI; omega) | (unfold inL; omega) | exact cz_in _ _))
      all_goals (try (exfalso; omega))
      refine c_within ⟨iw, by unfold inI; omega, by unfold inI; omega, fun _ => ?_, fun z => ?_⟩
      · simp only [wpS, o_c, o_cl, o_il, o_ll, o_al, o_is, o_ls, o_as, o_inc, o_add, o_sub, o_mul, o_and, o_or, o_xor, o_shl, o_shr, o_div, o_neg, o_ladd, o_lsub, o_lmul, o_ldiv, o_lrem, o_lneg, o_lcmp, o_i2l, o_l2i, o_dup, o_dup2, o_pop, o_go, o_nn, o_sw, swc, o_iret, o_zret, o_lret, o_vret, o_ieq, o_eq0, o_ine, o_ne0, o_ilt, o_lt0, o_ige, o_ge0, o_igt, o_gt0, o_ile, o_le0, o_iald, o_zald, o_lald, o_aald, o_iast, o_zast, o_last, o_aast, o_alen, o_gi, o_gr, o_pi, o_pz, o_pr, o_new, o_newa, o_copy, o_oinit, o_call, o_callV, o_callVc, o_callI, popn, cnO, o_BAD, lgt, lst, isL, kil, st1, st2, entL, List.length_nil, List.length_cons, List.replicate, Nat.reduceAdd, Nat.reduceLeDiff, Nat.reduceSub, true_and, and_true, Nat.zero_le, ne_eq, qk_wi, ql_wi, qr_wi, qj_wi, qt_wi, qk_wj, ql_wj, qr_wj, qi_wj, qt_wj, qk_wr, ql_wr, qi_wr, qj_wr, qt_wr, qi_ws, qj_ws, qr_ws, Int.toNat_natCast, Int.toNat_zero, Int.reduceToNat, not_true_eq_false, not_false_eq_true, false_implies, implies_true, Option.some.injEq, reduceCtorEq, Sp0, true_or, or_true, or_self, wi_wi, wj_wj]
        repeat' (first | (with_reducible refine And.intro ?_ ?_) | (with_reducible intro))
        all_goals (try (first | with_reducible assumption | omega | (unfold inI; omega) | (unfold inL; omega) | exact cz_in _ _))
        all_goals (try (exfalso; omega))
        refine c_within ⟨iv, by unfold inI; omega, by unfold inI; omega, fun _ => ?_, fun z => ?_⟩
        · simp only [wpS, o_c, o_cl, o_il, o_ll, o_al, o_is, o_ls, o_as, o_inc, o_add, o_sub, o_mul, o_and, o_or, o_xor, o_shl, o_shr, o_div, o_neg, o_ladd, o_lsub, o_lmul, o_ldiv, o_lrem, o_lneg, o_lcmp, o_i2l, o_l2i, o_dup, o_dup2, o_pop, o_go, o_nn, o_sw, swc, o_iret, o_zret, o_lret, o_vret, o_ieq, o_eq0, o_ine, o_ne0, o_ilt, o_lt0, o_ige, o_ge0, o_igt, o_gt0, o_ile, o_le0, o_iald, o_zald, o_lald, o_aald, o_iast, o_zast, o_last, o_aast, o_alen, o_gi, o_gr, o_pi, o_pz, o_pr, o_new, o_newa, o_copy, o_oinit, o_call, o_callV, o_callVc, o_callI, popn, cnO, o_BAD, lgt, lst, isL, kil, st1, st2, entL, List.length_nil, List.length_cons, List.replicate, Nat.reduceAdd, Nat.reduceLeDiff, Nat.reduceSub, true_and, and_true, Nat.zero_le, ne_eq, qk_wi, ql_wi, qr_wi, qj_wi, qt_wi, qk_wj, ql_wj, qr_wj, qi_wj, qt_wj, qk_wr, ql_wr, qi_wr, qj_wr, qt_wr, qi_ws, qj_ws, qr_ws, Int.toNat_natCast, Int.toNat_zero, Int.reduceToNat, not_true_eq_false, not_false_eq_true, false_implies, implies_true, Option.some.injEq, reduceCtorEq, Sp0, true_or, or_true, or_self, wi_wi, wj_wj]
          repeat' (first | (with_reducible refine And.intro ?_ ?_) | (with_reducible intro))
          all_goals (try (first | with_reducible assumption | omega | (unfold inI; omega) | (unfold inL; omega) | exact cz_in _ _))
          all_goals (first | exact h37 _ | (exfalso; omega) | exact hK1)
        · simp only [wpS, o_c, o_cl, o_il, o_ll, o_al, o_is, o_ls, o_as, o_inc, o_add, o_sub, o_mul, o_and, o_or, o_xor, o_shl, o_shr, o_div, o_neg, o_ladd, o_lsub, o_lmul, o_ldiv, o_lrem, o_lneg, o_lcmp, o_i2l, o_l2i, o_dup, o_dup2, o_pop, o_go, o_nn, o_sw, swc, o_iret, o_zret, o_lret, o_vret, o_ieq, o_eq0, o_ine, o_ne0, o_ilt, o_lt0, o_ige, o_ge0, o_igt, o_gt0, o_ile, o_le0, o_iald, o_zald, o_lald, o_aald, o_iast, o_zast, o_last, o_aast, o_alen, o_gi, o_gr, o_pi, o_pz, o_pr, o_new, o_newa, o_copy, o_oinit, o_call, o_callV, o_callVc, o_callI, popn, cnO, o_BAD, lgt, lst, isL, kil, st1, st2, entL, List.length_nil, List.length_cons, List.replicate, Nat.reduceAdd, Nat.reduceLeDiff, Nat.reduceSub, true_and, and_true, Nat.zero_le, ne_eq, qk_wi, ql_wi, qr_wi, qj_wi, qt_wi, qk_wj, ql_wj, qr_wj, qi_wj, qt_wj, qk_wr, ql_wr, qi_wr, qj_wr, qt_wr, qi_ws, qj_ws, qr_ws, Int.toNat_natCast, Int.toNat_zero, Int.reduceToNat, not_true_eq_false, not_false_eq_true, false_implies, implies_true, Option.some.injEq, reduceCtorEq, Sp0, true_or, or_true, or_self, wi_wi, wj_wj]
          repeat' (first | (with_reducible refine And.intro ?_ ?_) | (with_reducible intro))
          all_goals (try (first | with_reducible assumption | omega | (unfold inI; omega) | (unfold inL; omega) | exact cz_in _ _))
          all_goals (first | exact h37 _ | (exfalso; omega))
      · simp only [wpS, o_c, o_cl, o_il, o_ll, o_al, o_is, o_ls, o_as, o_inc, o_add, o_sub, o_mul, o_and, o_or, o_xor, o_shl, o_shr, o_div, o_neg, o_ladd, o_lsub, o_lmul, o_ldiv, o_lrem, o_lneg, o_lcmp, o_i2l, o_l2i, o_dup, o_dup2, o_pop, o_go, o_nn, o_sw, swc, o_iret, o_zret, o_lret, o_vret, o_ieq, o_eq0, o_ine, o_ne0, o_ilt, o_lt0, o_ige, o_ge0, o_igt, o_gt0, o_ile, o_le0, o_iald, o_zald, o_lald, o_aald, o_iast, o_zast, o_last, o_aast, o_alen, o_gi, o_gr, o_pi, o_pz, o_pr, o_new, o_newa, o_copy, o_oinit, o_call, o_callV, o_callVc, o_callI, popn, cnO, o_BAD, lgt, lst, isL, kil, st1, st2, entL, List.length_nil, List.length_cons, List.replicate, Nat.reduceAdd, Nat.reduceLeDiff, Nat.reduceSub, true_and, and_true, Nat.zero_le, ne_eq, qk_wi, ql_wi, qr_wi, qj_wi, qt_wi, qk_wj, ql_wj, qr_wj, qi_wj, qt_wj, qk_wr, ql_wr, qi_wr, qj_wr, qt_wr, qi_ws, qj_ws, qr_ws, Int.toNat_natCast, Int.toNat_zero, Int.reduceToNat, not_true_eq_false, not_false_eq_true, false_implies, implies_true, Option.some.injEq, reduceCtorEq, Sp0, true_or, or_true, or_self, wi_wi, wj_wj]
        repeat' (first | (with_reducible refine And.intro ?_ ?_) | (with_reducible intro))
        all_goals (try (first | with_reducible assumption | omega | (unfold inI; omega) | (unfold inL; omega) | exact cz_in _ _))
        all_goals (first | exact h37 _ | (exfalso; omega))
    · simp only [wpS, o_c, o_cl, o_il, o_ll, o_al, o_is, o_ls, o_as, o_inc, o_add, o_sub, o_mul, o_and, o_or, o_xor, o_shl, o_shr, o_div, o_neg, o_ladd, o_lsub, o_lmul, o_ldiv, o_lrem, o_lneg, o_lcmp, o_i2l, o_l2i, o_dup, o_dup2, o_pop, o_go, o_nn, o_sw, swc, o_iret, o_zret, o_lret, o_vret, o_ieq, o_eq0, o_ine, o_ne0, o_ilt, o_lt0, o_ige, o_ge0, o_igt, o_gt0, o_ile, o_le0, o_iald, o_zald, o_lald, o_aald, o_iast, o_zast, o_last, o_aast, o_alen, o_gi, o_gr, o_pi, o_pz, o_pr, o_new, o_newa, o_copy, o_oinit, o_call, o_callV, o_callVc, o_callI, popn, cnO, o_BAD, lgt, lst, isL, kil, st1, st2, entL, List.length_nil, List.length_cons, List.replicate, Nat.reduceAdd, Nat.reduceLeDiff, Nat.reduceSub, true_and, and_true, Nat.zero_le, ne_eq, qk_wi, ql_wi, qr_wi, qj_wi, qt_wi, qk_wj, ql_wj, qr_wj, qi_wj, qt_wj, qk_wr, ql_wr, qi_wr, qj_wr, qt_wr, qi_ws, qj_ws, qr_ws, Int.toNat_natCast, Int.toNat_zero, Int.reduceToNat, not_true_eq_false, not_false_eq_true, false_implies, implies_true, Option.some.injEq, reduceCtorEq, Sp0, true_or, or_true, or_self, wi_wi, wj_wj]
      repeat' (first | (with_reducible refine And.intro ?_ ?_) | (with_reducible intro))
      all_goals (try (first | with_reducible assumption | omega | (unfold inI; omega) | (unfold inL; omega) | exact cz_in _ _))
      all_goals (first | exact h37 _ | (exfalso; omega))

/-! ===== FitBench.mean ===== -/
theorem msm_rg {d : Dd} {m : Nat} (hI : InvM d m) : -(40 * lot d m) ≤ msm d m ∧ msm d m ≤ 40 * lot d m := by
  have hb := hI.b
  have ha := hI.a
  have hr := hI.rg
  have key : ∀ n, n ≤ rng d m + 1 → -(40 * sg (fun j => mny d m (db d m + j)) n) ≤ sg (fun j => (db d m + j) * mny d m (db d m + j)) n ∧ sg (fun j => (db d m + j) * mny d m (db d m + j)) n ≤ 40 * sg (fun j => mny d m (db d m + j)) n := by
    intro n
    induction n with
    | zero => intro _; simp [sg_0]
    | succ n ih =>
      intro hn
      have h1 := ih (by omega)
      have h2 := mny_nn hI (j := n) (by omega)
      rw [sg_s, sg_s]
      have h3 : (db d m + n) * mny d m (db d m + n) ≤ 40 * mny d m (db d m + n) := Int.mul_le_mul_of_nonneg_right (by omega) h2
      have h4 : -40 * mny d m (db d m + n) ≤ (db d m + n) * mny d m (db d m + n) := Int.mul_le_mul_of_nonneg_right (by omega) h2
      omega
  exact key _ (Nat.le_refl _)
noncomputable def meaT (d : Dd) (s : Nat → Int) (A : Int) (m : Nat) : Int := if dk d m = 0 ∧ s m ≠ 0 then A.tdiv (lot d m) * msm d m * s m else 0
noncomputable def meaS (d : Dd) (s : Nat → Int) (A : Int) : Int := A * plG d s + sg (meaT d s A) 12
noncomputable def meaF (d : Dd) (c w : Int) : Int := if ¬ (0 ≤ w ∧ w ≤ 1) then -1 else if ¬ (0 ≤ c ∧ c ≤ 5) then 0 else if 1000000000000 < cpt d (dsh d c.toNat) (fun _ => 0) 12 then 0 else linF (meaS d (dsh d c.toNat) (cpt d (dsh d c.toNat) (fun _ => 0) 12)) (cpt d (dsh d c.toNat) (fun _ => 0) 12) w
theorem meaT_rg {d : Dd} {s : Nat → Int} {A : Int} {m : Nat} (hI : InvM d m) (hs : -3 ≤ s m ∧ s m ≤ 3) (hA : 1 ≤ A ∧ A ≤ 1000000000000) : -120000000000000 ≤ meaT d s A m ∧ meaT d s A m ≤ 120000000000000 := by
  have hm := msm_rg hI
  have hl := hI.2.2.2.2.2.2.1
  unfold meaT
  split
  · have e0 : A.tdiv (lot d m) = A / lot d m := Int.tdiv_eq_ediv_of_nonneg (by omega)
    rw [e0]
    have q0 : 0 ≤ A / lot d m := Int.ediv_nonneg (by omega) (by omega)
    have q1 : A / lot d m * lot d m ≤ A := Int.ediv_mul_le A (by omega)
    have p1 : A / lot d m * msm d m ≤ A / lot d m * (40 * lot d m) := Int.mul_le_mul_of_nonneg_left hm.2 q0
    have p2 : A / lot d m * (-(40 * lot d m)) ≤ A / lot d m * msm d m := Int.mul_le_mul_of_nonneg_left hm.1 q0
    have e1 : A / lot d m * (40 * lot d m) = 40 * (A / lot d m * lot d m) := by rw [Int.mul_left_comm]
    rw [Int.mul_neg, e1] at p2
    rw [e1] at p1
    have := mul_rg (x := A / lot d m * msm d m) (a := 40 * 1000000000000) (by omega) (by omega) hs.1 hs.2 (by omega)
    omega
  · omega
def T_X7_mean : TT := fun as h K => ∃ (X R : Nat) (c w : Int) (d : Dd), as = [vr (some X), vi c, vi w] ∧ Fbs h X d R ∧ inI c ∧ inI w ∧ K (some (vl (meaF d c w))) h
abbrev i_X7_mean : MI := (cX7_mean, 12, RX7, (some .long), "mean", 5)
theorem k_X7_mean_0 : Okop i_X7_mean 0 (o_il 2) 1 := k_iln (j := 2) (by decide +kernel)
theorem k_X7_mean_1 : Okop i_X7_mean 1 (o_c 0) 2 := k_iconst (by decide +kernel)
theorem k_X7_mean_2 : Okop i_X7_mean 2 (o_c 1) 3 := k_iconst (by decide +kernel)
theorem k_X7_mean_3 : Okop i_X7_mean 3 (o_call 3 T_X7_within) 6 := k_call (idx := 52) m_X7_within ⟨gw_283, gw_1, ⟨by decide, by decide, by decide +kernel⟩, by decide, by decide⟩ gw_281 gw_282 (by decide +kernel)
theorem k_X7_mean_6 : Okop i_X7_mean 6 (o_ne0 13) 9 := k_ne0 (off := 7) (by decide +kernel) (by decide)
theorem k_X7_mean_9 : Okop i_X7_mean 9 (o_cl (-1)) 12 := k_ldc2 (idx := 152) (by decide +kernel) gw_417
theorem k_X7_mean_12 : Okop i_X7_mean 12 (o_lret) 13 := k_lret (by decide +kernel) rfl
theorem k_X7_mean_13 : Okop i_X7_mean 13 (o_il 1) 14 := k_iln (j := 1) (by decide +kernel)
theorem k_X7_mean_14 : Okop i_X7_mean 14 (o_call 1 T_X7_isChain) 17 := k_call (idx := 96) m_X7_isChain ⟨gw_319, gw_1, ⟨by decide, by decide, by decide +kernel⟩, by decide, by decide⟩ gw_317 gw_318 (by decide +kernel)
theorem k_X7_mean_17 : Okop i_X7_mean 17 (o_ne0 22) 20 := k_ne0 (off := 5) (by decide +kernel) (by decide)
theorem k_X7_mean_20 : Okop i_X7_mean 20 (o_cl 0) 21 := k_lconst (n := 0) (by decide +kernel) rfl
theorem k_X7_mean_21 : Okop i_X7_mean 21 (o_lret) 22 := k_lret (by decide +kernel) rfl
theorem k_X7_mean_22 : Okop i_X7_mean 22 (o_al 0) 23 := k_aln (j := 0) (by decide +kernel)
theorem k_X7_mean_23 : Okop i_X7_mean 23 (o_gr 7 0) 26 := k_gr (idx := 12) fo_7 (by decide) (by decide) gw_255 (by decide +kernel)
theorem k_X7_mean_26 : Okop i_X7_mean 26 (o_gr 6 1) 29 := k_gr (idx := 99) fo_6 (by decide) (by decide) gw_151 (by decide +kernel)
theorem k_X7_mean_29 : Okop i_X7_mean 29 (o_il 1) 30 := k_iln (j := 1) (by decide +kernel)
theorem k_X7_mean_30 : Okop i_X7_mean 30 (o_aald) 31 := k_aald (by decide +kernel)
theorem k_X7_mean_31 : Okop i_X7_mean 31 (o_as 3) 32 := k_asn (j := 3) (by decide +kernel) (by decide)
theorem k_X7_mean_32 : Okop i_X7_mean 32 (o_al 0) 33 := k_aln (j := 0) (by decide +kernel)
theorem k_X7_mean_33 : Okop i_X7_mean 33 (o_gr 7 0) 36 := k_gr (idx := 12) fo_7 (by decide) (by decide) gw_255 (by decide +kernel)
theorem k_X7_mean_36 : Okop i_X7_mean 36 (o_al 3) 37 := k_aln (j := 3) (by decide +kernel)
theorem k_X7_mean_37 : Okop i_X7_mean 37 (o_al 0) 38 := k_aln (j := 0) (by decide +kernel)
theorem k_X7_mean_38 : Okop i_X7_mean 38 (o_gr 7 2) 41 := k_gr (idx := 23) fo_7 (by decide) (by decide) gw_257 (by decide +kernel)
theorem k_X7_mean_41 : Okop i_X7_mean 41 (o_callV 6 2 T_X6_countParts) 44 := k_callV (idx := 158) (r0 := (RX6, TX6, 4)) m_X6_countParts ⟨gw_425, gw_2, ⟨by decide, by decide, by decide +kernel⟩, by decide, by decide⟩ rfl gw_422 gw_423 gw_424 (by decide +kernel)
theorem k_X7_mean_44 : Okop i_X7_mean 44 (o_ls 4) 46 := k_ls (by decide +kernel) (by decide)
theorem k_X7_mean_46 : Okop i_X7_mean 46 (o_ll 4) 48 := k_ll (by decide +kernel)
theorem k_X7_mean_48 : Okop i_X7_mean 48 (o_cl 1000000000000) 51 := k_ldc2 (idx := 162) (by decide +kernel) gw_428
theorem k_X7_mean_51 : Okop i_X7_mean 51 (o_lcmp) 52 := k_lcmp (by decide +kernel)
theorem k_X7_mean_52 : Okop i_X7_mean 52 (o_le0 57) 55 := k_le0 (off := 5) (by decide +kernel) (by decide)
theorem k_X7_mean_55 : Okop i_X7_mean 55 (o_cl 0) 56 := k_lconst (n := 0) (by decide +kernel) rfl
theorem k_X7_mean_56 : Okop i_X7_mean 56 (o_lret) 57 := k_lret (by decide +kernel) rfl
theorem k_X7_mean_57 : Okop i_X7_mean 57 (o_ll 4) 59 := k_ll (by decide +kernel)
theorem k_X7_mean_59 : Okop i_X7_mean 59 (o_al 3) 60 := k_aln (j := 3) (by decide +kernel)
theorem k_X7_mean_60 : Okop i_X7_mean 60 (o_al 0) 61 := k_aln (j := 0) (by decide +kernel)
theorem k_X7_mean_61 : Okop i_X7_mean 61 (o_gr 7 0) 64 := k_gr (idx := 12) fo_7 (by decide) (by decide) gw_255 (by decide +kernel)
theorem k_X7_mean_64 : Okop i_X7_mean 64 (o_gr 6 0) 67 := k_gr (idx := 60) fo_6 (by decide) (by decide) gw_148 (by decide +kernel)
theorem k_X7_mean_67 : Okop i_X7_mean 67 (o_callV 1 1 T_X1_plainGap) 70 := k_callV (idx := 146) (r0 := (RX1, TX1, 3)) m_X1_plainGap ⟨gw_384, gw_4, ⟨by decide, by decide, by decide +kernel⟩, by decide, by decide⟩ rfl gw_403 gw_382 gw_383 (by decide +kernel)
theorem k_X7_mean_70 : Okop i_X7_mean 70 (o_i2l) 71 := k_i2l (by decide +kernel)
theorem k_X7_mean_71 : Okop i_X7_mean 71 (o_lmul) 72 := k_lmul (by decide +kernel)
theorem k_X7_mean_72 : Okop i_X7_mean 72 (o_ls 6) 74 := k_ls (by decide +kernel) (by decide)
theorem k_X7_mean_74 : Okop i_X7_mean 74 (o_c 0) 75 := k_iconst (by decide +kernel)
theorem k_X7_mean_75 : Okop i_X7_mean 75 (o_is 8) 77 := k_is (by decide +kernel) (by decide)
theorem k_X7_mean_77 : Okop i_X7_mean 77 (o_il 8) 79 := k_il (by decide +kernel)
theorem k_X7_mean_79 : Okop i_X7_mean 79 (o_c 12) 81 := k_bipush (by decide +kernel) rfl
theorem k_X7_mean_81 : Okop i_X7_mean 81 (o_ige 161) 84 := k_ige (off := 80) (by decide +kernel) (by decide)
theorem k_X7_mean_84 : Okop i_X7_mean 84 (o_al 0) 85 := k_aln (j := 0) (by decide +kernel)
theorem k_X7_mean_85 : Okop i_X7_mean 85 (o_gr 7 0) 88 := k_gr (idx := 12) fo_7 (by decide) (by decide) gw_255 (by decide +kernel)
theorem k_X7_mean_88 : Okop i_X7_mean 88 (o_gr 6 0) 91 := k_gr (idx := 60) fo_6 (by decide) (by decide) gw_148 (by decide +kernel)
theorem k_X7_mean_91 : Okop i_X7_mean 91 (o_il 8) 93 := k_il (by decide +kernel)
theorem k_X7_mean_93 : Okop i_X7_mean 93 (o_aald) 94 := k_aald (by decide +kernel)
theorem k_X7_mean_94 : Okop i_X7_mean 94 (o_as 9) 96 := k_as (by decide +kernel) (by decide)
theorem k_X7_mean_96 : Okop i_X7_mean 96 (o_al 9) 98 := k_al (by decide +kernel)
theorem k_X7_mean_98 : Okop i_X7_mean 98 (o_callV 4 0 T_X4_lotSize) 101 := k_callV (idx := 164) (r0 := (RX4, TX4, 13)) m_X4_lotSize ⟨gw_298, gw_3, ⟨by decide, by decide, by decide +kernel⟩, by decide, by decide⟩ rfl gw_498 gw_296 gw_297 (by decide +kernel)
theorem k_X7_mean_101 : Okop i_X7_mean 101 (o_i2l) 102 := k_i2l (by decide +kernel)
theorem k_X7_mean_102 : Okop i_X7_mean 102 (o_ls 10) 104 := k_ls (by decide +kernel) (by decide)
theorem k_X7_mean_104 : Okop i_X7_mean 104 (o_al 9) 106 := k_al (by decide +kernel)
theorem k_X7_mean_106 : Okop i_X7_mean 106 (o_gi 4 0) 109 := k_gi (idx := 64) fo_4 (by decide) (by decide) gw_40 (by decide +kernel)
theorem k_X7_mean_109 : Okop i_X7_mean 109 (o_ne0 155) 112 := k_ne0 (off := 46) (by decide +kernel) (by decide)
theorem k_X7_mean_112 : Okop i_X7_mean 112 (o_al 3) 113 := k_aln (j := 3) (by decide +kernel)
theorem k_X7_mean_113 : Okop i_X7_mean 113 (o_gr 1 0) 116 := k_gr (idx := 103) fo_1 (by decide) (by decide) gw_113 (by decide +kernel)
theorem k_X7_mean_116 : Okop i_X7_mean 116 (o_il 8) 118 := k_il (by decide +kernel)
theorem k_X7_mean_118 : Okop i_X7_mean 118 (o_iald) 119 := k_iald (by decide +kernel)
theorem k_X7_mean_119 : Okop i_X7_mean 119 (o_eq0 155) 122 := k_eq0 (off := 36) (by decide +kernel) (by decide)
theorem k_X7_mean_122 : Okop i_X7_mean 122 (o_ll 10) 124 := k_ll (by decide +kernel)
theorem k_X7_mean_124 : Okop i_X7_mean 124 (o_cl 0) 125 := k_lconst (n := 0) (by decide +kernel) rfl
theorem k_X7_mean_125 : Okop i_X7_mean 125 (o_lcmp) 126 := k_lcmp (by decide +kernel)
theorem k_X7_mean_126 : Okop i_X7_mean 126 (o_le0 155) 129 := k_le0 (off := 29) (by decide +kernel) (by decide)
theorem k_X7_mean_129 : Okop i_X7_mean 129 (o_ll 6) 131 := k_ll (by decide +kernel)
theorem k_X7_mean_131 : Okop i_X7_mean 131 (o_ll 4) 133 := k_ll (by decide +kernel)
theorem k_X7_mean_133 : Okop i_X7_mean 133 (o_ll 10) 135 := k_ll (by decide +kernel)
theorem k_X7_mean_135 : Okop i_X7_mean 135 (o_ldiv) 136 := k_ldiv (by decide +kernel)
theorem k_X7_mean_136 : Okop i_X7_mean 136 (o_al 9) 138 := k_al (by decide +kernel)
theorem k_X7_mean_138 : Okop i_X7_mean 138 (o_callV 4 0 T_X4_missSum) 141 := k_callV (idx := 168) (r0 := (RX4, TX4, 13)) m_X4_missSum ⟨gw_502, gw_3, ⟨by decide, by decide, by decide +kernel⟩, by decide, by decide⟩ rfl gw_499 gw_500 gw_501 (by decide +kernel)
theorem k_X7_mean_141 : Okop i_X7_mean 141 (o_i2l) 142 := k_i2l (by decide +kernel)
theorem k_X7_mean_142 : Okop i_X7_mean 142 (o_lmul) 143 := k_lmul (by decide +kernel)
theorem k_X7_mean_143 : Okop i_X7_mean 143 (o_al 3) 144 := k_aln (j := 3) (by decide +kernel)
theorem k_X7_mean_144 : Okop i_X7_mean 144 (o_gr 1 0) 147 := k_gr (idx := 103) fo_1 (by decide) (by decide) gw_113 (by decide +kernel)
theorem k_X7_mean_147 : Okop i_X7_mean 147 (o_il 8) 149 := k_il (by decide +kernel)
theorem k_X7_mean_149 : Okop i_X7_mean 149 (o_iald) 150 := k_iald (by decide +kernel)
theorem k_X7_mean_150 : Okop i_X7_mean 150 (o_i2l) 151 := k_i2l (by decide +kernel)
theorem k_X7_mean_151 : Okop i_X7_mean 151 (o_lmul) 152 := k_lmul (by decide +kernel)
theorem k_X7_mean_152 : Okop i_X7_mean 152 (o_ladd) 153 := k_ladd (by decide +kernel)
theorem k_X7_mean_153 : Okop i_X7_mean 153 (o_ls 6) 155 := k_ls (by decide +kernel) (by decide)
theorem k_X7_mean_155 : Okop i_X7_mean 155 (o_inc 8 1) 158 := k_inc (by decide +kernel) (by decide)
theorem k_X7_mean_158 : Okop i_X7_mean 158 (o_go 77) 161 := k_go (off := -81) (by decide +kernel) (by decide)
theorem k_X7_mean_161 : Okop i_X7_mean 161 (o_ll 6) 163 := k_ll (by decide +kernel)
theorem k_X7_mean_163 : Okop i_X7_mean 163 (o_ll 4) 165 := k_ll (by decide +kernel)
theorem k_X7_mean_165 : Okop i_X7_mean 165 (o_il 2) 166 := k_iln (j := 2) (by decide +kernel)
theorem k_X7_mean_166 : Okop i_X7_mean 166 (o_call 3 T_X7_lineOf) 169 := k_call (idx := 171) m_X7_lineOf ⟨gw_483, gw_1, ⟨by decide, by decide, by decide +kernel⟩, by decide, by decide⟩ gw_481 gw_482 (by decide +kernel)
theorem k_X7_mean_169 : Okop i_X7_mean 169 (o_lret) 170 := k_lret (by decide +kernel) rfl
theorem s_X7_mean_0 : Seg i_X7_mean 0 [o_il 2, o_c 0, o_c 1, o_call 3 T_X7_within, o_ne0 13, o_cl (-1), o_lret] 13 := Seg.cons k_X7_mean_0 (Seg.cons k_X7_mean_1 (Seg.cons k_X7_mean_2 (Seg.cons k_X7_mean_3 (Seg.cons k_X7_mean_6 (Seg.cons k_X7_mean_9 (Seg.cons k_X7_mean_12 (Seg.nil)))))))
theorem s_X7_mean_13 : Seg i_X7_mean 13 [o_il 1, o_call 1 T_X7_isChain, o_ne0 22, o_cl 0, o_lret] 22 := Seg.cons k_X7_mean_13 (Seg.cons k_X7_mean_14 (Seg.cons k_X7_mean_17 (Seg.cons k_X7_mean_20 (Seg.cons k_X7_mean_21 (Seg.nil)))))
theorem s_X7_mean_22 : Seg i_X7_mean 22 [o_al 0, o_gr 7 0, o_gr 6 1, o_il 1, o_aald, o_as 3, o_al 0, o_gr 7 0, o_al 3, o_al 0, o_gr 7 2, o_callV 6 2 T_X6_countParts, o_ls 4, o_ll 4, o_cl 1000000000000, o_lcmp, o_le0 57, o_cl 0, o_lret] 57 := Seg.cons k_X7_mean_22 (Seg.cons k_X7_mean_23 (Seg.cons k_X7_mean_26 (Seg.cons k_X7_mean_29 (Seg.cons k_X7_mean_30 (Seg.cons k_X7_mean_31 (Seg.cons k_X7_mean_32 (Seg.cons k_X7_mean_33 (Seg.cons k_X7_mean_36 (Seg.cons k_X7_mean_37 (Seg.cons k_X7_mean_38 (Seg.cons k_X7_mean_41 (Seg.cons k_X7_mean_44 (Seg.cons k_X7_mean_46 (Seg.cons k_X7_mean_48 (Seg.cons k_X7_mean_51 (Seg.cons k_X7_mean_52 (Seg.cons k_X7_mean_55 (Seg.cons k_X7_mean_56 (Seg.nil)))))))))))))))))))
theorem s_X7_mean_57 : Seg i_X7_mean 57 [o_ll 4, o_al 3, o_al 0, o_gr 7 0, o_gr 6 0, o_callV 1 1 T_X1_plainGap, o_i2l, o_lmul, o_ls 6, o_c 0, o_is 8] 77 := Seg.cons k_X7_mean_57 (Seg.cons k_X7_mean_59 (Seg.cons k_X7_mean_60 (Seg.cons k_X7_mean_61 (Seg.cons k_X7_mean_64 (Seg.cons k_X7_mean_67 (Seg.cons k_X7_mean_70 (Seg.cons k_X7_mean_71 (Seg.cons k_X7_mean_72 (Seg.cons k_X7_mean_74 (Seg.cons k_X7_mean_75 (Seg.nil)))))))))))
theorem s_X7_mean_77 : Seg i_X7_mean 77 [o_il 8, o_c 12, o_ige 161, o_al 0, o_gr 7 0, o_gr 6 0, o_il 8, o_aald, o_as 9, o_al 9, o_callV 4 0 T_X4_lotSize, o_i2l, o_ls 10, o_al 9, o_gi 4 0, o_ne0 155, o_al 3, o_gr 1 0, o_il 8, o_iald, o_eq0 155, o_ll 10, o_cl 0, o_lcmp, o_le0 155, o_ll 6, o_ll 4, o_ll 10, o_ldiv, o_al 9, o_callV 4 0 T_X4_missSum, o_i2l, o_lmul, o_al 3, o_gr 1 0, o_il 8, o_iald, o_i2l, o_lmul, o_ladd, o_ls 6, o_inc 8 1, o_go 77] 161 := Seg.cons k_X7_mean_77 (Seg.cons k_X7_mean_79 (Seg.cons k_X7_mean_81 (Seg.cons k_X7_mean_84 (Seg.cons k_X7_mean_85 (Seg.cons k_X7_mean_88 (Seg.cons k_X7_mean_91 (Seg.cons k_X7_mean_93 (Seg.cons k_X7_mean_94 (Seg.cons k_X7_mean_96 (Seg.cons k_X7_mean_98 (Seg.cons k_X7_mean_101 (Seg.cons k_X7_mean_102 (Seg.cons k_X7_mean_104 (Seg.cons k_X7_mean_106 (Seg.cons k_X7_mean_109 (Seg.cons k_X7_mean_112 (Seg.cons k_X7_mean_113 (Seg.cons k_X7_mean_116 (Seg.cons k_X7_mean_118 (Seg.cons k_X7_mean_119 (Seg.cons k_X7_mean_122 (Seg.cons k_X7_mean_124 (Seg.cons k_X7_mean_125 (Seg.cons k_X7_mean_126 (Seg.cons k_X7_mean_129 (Seg.cons k_X7_mean_131 (Seg.cons k_X7_mean_133 (Seg.cons k_X7_mean_135 (Seg.cons k_X7_mean_136 (Seg.cons k_X7_mean_138 (Seg.cons k_X7_mean_141 (Seg.cons k_X7_mean_142 (Seg.cons k_X7_mean_143 (Seg.cons k_X7_mean_144 (Seg.cons k_X7_mean_147 (Seg.cons k_X7_mean_149 (Seg.cons k_X7_mean_150 (Seg.cons k_X7_mean_151 (Seg.cons k_X7_mean_152 (Seg.cons k_X7_mean_153 (Seg.cons k_X7_mean_155 (Seg.cons k_X7_mean_158 (Seg.nil)))))))))))))))))))))))))))))))))))))))))))
theorem s_X7_mean_155 : Seg i_X7_mean 155 [o_inc 8 1, o_go 77] 161 := Seg.cons k_X7_mean_155 (Seg.cons k_X7_mean_158 (Seg.nil))
theorem s_X7_mean_161 : Seg i_X7_mean 161 [o_ll 6, o_ll 4, o_il 2, o_call 3 T_X7_lineOf, o_lret] 170 := Seg.cons k_X7_mean_161 (Seg.cons k_X7_mean_163 (Seg.cons k_X7_mean_165 (Seg.cons k_X7_mean_166 (Seg.cons k_X7_mean_169 (Seg.nil)))))

theorem m_X7_mean : Mth yX7_mean cX7_mean 12 (some .long) 5 (Sp0 T_X7_mean) := by
  refine Mth.of (by decide) ?_
  rintro x as h ok ⟨X, R, c, w, d, rfl, hF, ic, iw, hK⟩
  refine ⟨Nat.le_of_ble_eq_true rfl, ?_⟩
  obtain ⟨⟨kx, rx, hS⟩, rfl2, hfl, hfe, rsp, hSp, hR, hqt⟩ := id hF
  by_cases hw : 0 ≤ w ∧ w ≤ 1
  · by_cases hc : 0 ≤ c ∧ c ≤ 5
    · obtain ⟨C, rfl, hC⟩ : ∃ C : Nat, c = (C : Int) ∧ C < 6 := ⟨c.toNat, by omega, by omega⟩
      obtain ⟨⟨k1, r1, k2, l2⟩, ⟨c1, c2, c3⟩, hI⟩ := hS.ch hC
      have hcv := hS.cv hC
      have hI2 := hS.2.2.1
      have hcp := cpt_bd (s := dsh d C) (t := fun _ => 0) hI2 12 (Nat.le_refl _)
      have hpl := plG_rg hI2 hI.1
      unfold meaF at hK
      rw [if_neg (by omega), if_neg (by omega), Int.toNat_natCast] at hK
      have h22 : ∀ v3, V i_X7_mean x 22 [some (vr (some X)), some (vi C), some (vi w), v3, none, none, none, none, none, none, none, none] [] h (0, 0) := by
        intro v3
        generalize hA : cpt d (dsh d C) (fun _ => 0) 12 = A at *
        by_cases hb : 1000000000000 < A
        · rw [if_pos hb] at hK
          refine s_X7_mean_22 x ok _ _ _ _ ?_
          simp only [wpS, o_c, o_cl, o_il, o_ll, o_al, o_is, o_ls, o_as, o_inc, o_add, o_sub, o_mul, o_and, o_or, o_xor, o_shl, o_shr, o_div, o_neg, o_ladd, o_lsub, o_lmul, o_ldiv, o_lrem, o_lneg, o_lcmp, o_i2l, o_l2i, o_dup, o_dup2, o_pop, o_go, o_nn, o_sw, swc, o_iret, o_zret, o_lret, o_vret, o_ieq, o_eq0, o_ine, o_ne0, o_ilt, o_lt0, o_ige, o_ge0, o_igt, o_gt0, o_ile, o_le0, o_iald, o_zald, o_lald, o_aald, o_iast, o_zast, o_last, o_aast, o_alen, o_gi, o_gr, o_pi, o_pz, o_pr, o_new, o_newa, o_copy, o_oinit, o_call, o_callV, o_callVc, o_callI, popn, cnO, o_BAD, lgt, lst, isL, kil, st1, st2, entL, List.length_nil, List.length_cons, List.replicate, Nat.reduceAdd, Nat.reduceLeDiff, Nat.reduceSub, true_and, and_true, Nat.zero_le, ne_eq, qk_wi, ql_wi, qr_wi, qj_wi, qt_wi, qk_wj, ql_wj, qr_wj, qi_wj, qt_wj, qk_wr, ql_wr, qi_wr, qj_wr, qt_wr, qi_ws, qj_ws, qr_ws, Int.toNat_natCast, Int.toNat_zero, Int.reduceToNat, not_true_eq_false, not_false_eq_true, false_implies, implies_true, Option.some.injEq, reduceCtorEq, Sp0, true_or, or_true, or_self, wi_wi, wj_wj, kx, rx, hS.k, hS.r1, hS.k2, hS.l2, hS.rc hC, rfl2]
          repeat' (first | (with_reducible refine And.intro ?_ ?_) | (with_reducible intro))
          all_goals (try (first | with_reducible assumption | omega | (unfold inI; omega) | (unfold inL; omega) | exact cz_in _ _))
          refine c_countParts hS hcv hfl ?_
          rw [hA]
          simp only [wpS, o_c, o_cl, o_il, o_ll, o_al, o_is, o_ls, o_as, o_inc, o_add, o_sub, o_mul, o_and, o_or, o_xor, o_shl, o_shr, o_div, o_neg, o_ladd, o_lsub, o_lmul, o_ldiv, o_lrem, o_lneg, o_lcmp, o_i2l, o_l2i, o_dup, o_dup2, o_pop, o_go, o_nn, o_sw, swc, o_iret, o_zret, o_lret, o_vret, o_ieq, o_eq0, o_ine, o_ne0, o_ilt, o_lt0, o_ige, o_ge0, o_igt, o_gt0, o_ile, o_le0, o_iald, o_zald, o_lald, o_aald, o_iast, o_zast, o_last, o_aast, o_alen, o_gi, o_gr, o_pi, o_pz, o_pr, o_new, o_newa, o_copy, o_oinit, o_call, o_callV, o_callVc, o_callI, popn, cnO, o_BAD, lgt, lst, isL, kil, st1, st2, entL, List.length_nil, List.length_cons, List.replicate, Nat.reduceAdd, Nat.reduceLeDiff, Nat.reduceSub, true_and, and_true, Nat.zero_le, ne_eq, qk_wi, ql_wi, qr_wi, qj_wi, qt_wi, qk_wj, ql_wj, qr_wj, qi_wj, qt_wj, qk_wr, ql_wr, qi_wr, qj_wr, qt_wr, qi_ws, qj_ws, qr_ws, Int.toNat_natCast, Int.toNat_zero, Int.reduceToNat, not_true_eq_false, not_false_eq_true, false_implies, implies_true, Option.some.injEq, reduceCtorEq, Sp0, true_or, or_true, or_self, wi_wi, wj_wj, cz_le]
          repeat' (first | (with_reducible refine And.intro ?_ ?_) | (with_reducible intro))
          all_goals (try (first | with_reducible assumption | omega | (unfold inI; omega) | (unfold inL; omega) | exact cz_in _ _))
          all_goals (try (exfalso; omega))
        · rw [if_neg hb] at hK
          have hT := fun m hm => meaT_rg (s := dsh d C) (A := A) (hI2 m hm) (hI.1 m hm) (by omega)
          have loop : ∀ j, j ≤ 12 → ∀ v9 v10, V i_X7_mean x 77 [some (vr (some X)), some (vi C), some (vi w), some (vr (some (X + 1 + 65 + 2 * C))), some (vl A), none, some (vl (A * plG d (dsh d C) + sg (meaT d (dsh d C) A) j)), none, some (vi j), v9, v10, none] [] h (0, 0) := by
            refine bwd _ ?_ ?_
            · intro v9 v10
              have b1 := sg_le (n := 12) (fun k hk => (hT k hk).2)
              have b2 := sg_ge (n := 12) (fun k hk => (hT k hk).1)
              have b3 := mul_rg (x := A) (a := 1000000000000) (by omega) (by omega) hpl.1 hpl.2 (by omega)
              refine s_X7_mean_77 x ok _ _ _ _ ?_
              simp only [wpS, o_c, o_cl, o_il, o_ll, o_al, o_is, o_ls, o_as, o_inc, o_add, o_sub, o_mul, o_and, o_or, o_xor, o_shl, o_shr, o_div, o_neg, o_ladd, o_lsub, o_lmul, o_ldiv, o_lrem, o_lneg, o_lcmp, o_i2l, o_l2i, o_dup, o_dup2, o_pop, o_go, o_nn, o_sw, swc, o_iret, o_zret, o_lret, o_vret, o_ieq, o_eq0, o_ine, o_ne0, o_ilt, o_lt0, o_ige, o_ge0, o_igt, o_gt0, o_ile, o_le0, o_iald, o_zald, o_lald, o_aald, o_iast, o_zast, o_last, o_aast, o_alen, o_gi, o_gr, o_pi, o_pz, o_pr, o_new, o_newa, o_copy, o_oinit, o_call, o_callV, o_callVc, o_callI, popn, cnO, o_BAD, lgt, lst, isL, kil, st1, st2, entL, List.length_nil, List.length_cons, List.replicate, Nat.reduceAdd, Nat.reduceLeDiff, Nat.reduceSub, true_and, and_true, Nat.zero_le, ne_eq, qk_wi, ql_wi, qr_wi, qj_wi, qt_wi, qk_wj, ql_wj, qr_wj, qi_wj, qt_wj, qk_wr, ql_wr, qi_wr, qj_wr, qt_wr, qi_ws, qj_ws, qr_ws, Int.toNat_natCast, Int.toNat_zero, Int.reduceToNat, not_true_eq_false, not_false_eq_true, false_implies, implies_true, Option.some.injEq, reduceCtorEq, Sp0, true_or, or_true, or_self, wi_wi, wj_wj]
              repeat' (first | (with_reducible refine And.intro ?_ ?_) | (with_reducible intro))
              all_goals (try (first | with_reducible assumption | omega | (unfold inI; omega) | (unfold inL; omega) | exact cz_in _ _))
              all_goals (try (exfalso; omega))
              refine s_X7_mean_161 x ok _ _ _ _ ?_
              simp only [wpS, o_c, o_cl, o_il, o_ll, o_al, o_is, o_ls, o_as, o_inc, o_add, o_sub, o_mul, o_and, o_or, o_xor, o_shl, o_shr, o_div, o_neg, o_ladd, o_lsub, o_lmul, o_ldiv, o_lrem, o_lneg, o_lcmp, o_i2l, o_l2i, o_dup, o_dup2, o_pop, o_go, o_nn, o_sw, swc, o_iret, o_zret, o_lret, o_vret, o_ieq, o_eq0, o_ine, o_ne0, o_ilt, o_lt0, o_ige, o_ge0, o_igt, o_gt0, o_ile, o_le0, o_iald, o_zald, o_lald, o_aald, o_iast, o_zast, o_last, o_aast, o_alen, o_gi, o_gr, o_pi, o_pz, o_pr, o_new, o_newa, o_copy, o_oinit, o_call, o_callV, o_callVc, o_callI, popn, cnO, o_BAD, lgt, lst, isL, kil, st1, st2, entL, List.length_nil, List.length_cons, List.replicate, Nat.reduceAdd, Nat.reduceLeDiff, Nat.reduceSub, true_and, and_true, Nat.zero_le, ne_eq, qk_wi, ql_wi, qr_wi, qj_wi, qt_wi, qk_wj, ql_wj, qr_wj, qi_wj, qt_wj, qk_wr, ql_wr, qi_wr, qj_wr, qt_wr, qi_ws, qj_ws, qr_ws, Int.toNat_natCast, Int.toNat_zero, Int.reduceToNat, not_true_eq_false, not_false_eq_true, false_implies, implies_true, Option.some.injEq, reduceCtorEq, Sp0, true_or, or_true, or_self, wi_wi, wj_wj]
              repeat' (first | (with_reducible refine And.intro ?_ ?_) | (with_reducible intro))
              all_goals (try (first | with_reducible assumption | omega | (unfold inI; omega) | (unfold inL; omega) | exact cz_in _ _))
              refine c_lineOf ⟨by omega, by omega, iw, ?_⟩
              simp only [wpS, o_c, o_cl, o_il, o_ll, o_al, o_is, o_ls, o_as, o_inc, o_add, o_sub, o_mul, o_and, o_or, o_xor, o_shl, o_shr, o_div, o_neg, o_ladd, o_lsub, o_lmul, o_ldiv, o_lrem, o_lneg, o_lcmp, o_i2l, o_l2i, o_dup, o_dup2, o_pop, o_go, o_nn, o_sw, swc, o_iret, o_zret, o_lret, o_vret, o_ieq, o_eq0, o_ine, o_ne0, o_ilt, o_lt0, o_ige, o_ge0, o_igt, o_gt0, o_ile, o_le0, o_iald, o_zald, o_lald, o_aald, o_iast, o_zast, o_last, o_aast, o_alen, o_gi, o_gr, o_pi, o_pz, o_pr, o_new, o_newa, o_copy, o_oinit, o_call, o_callV, o_callVc, o_callI, popn, cnO, o_BAD, lgt, lst, isL, kil, st1, st2, entL, List.length_nil, List.length_cons, List.replicate, Nat.reduceAdd, Nat.reduceLeDiff, Nat.reduceSub, true_and, and_true, Nat.zero_le, ne_eq, qk_wi, ql_wi, qr_wi, qj_wi, qt_wi, qk_wj, ql_wj, qr_wj, qi_wj, qt_wj, qk_wr, ql_wr, qi_wr, qj_wr, qt_wr, qi_ws, qj_ws, qr_ws, Int.toNat_natCast, Int.toNat_zero, Int.reduceToNat, not_true_eq_false, not_false_eq_true, false_implies, implies_true, Option.some.injEq, reduceCtorEq, Sp0, true_or, or_true, or_self, wi_wi, wj_wj]
              repeat' (first | (with_reducible refine And.intro ?_ ?_) | (with_reducible intro))
              all_goals (try (first | with_reducible assumption | omega | (unfold inI; omega) | (unfold inL; omega) | exact cz_in _ _))
              exact hK
            · intro j hj ih v9 v10
              have hmj := hS.ms.2.2.2 j hj
              have hIj := hI2 j hj
              have hk := hIj.k
              have hsj := hI.1 j hj
              have hlb := hIj.lt
              have hlb0 := hIj.l
              have hmm := msm_rg hIj
              rw [sg_s, ← Int.add_assoc] at ih
              have hst : ¬ (dk d j = 0 ∧ dsh d C j ≠ 0) → ∀ v9 v10, V i_X7_mean x 155 [some (vr (some X)), some (vi C), some (vi w), some (vr (some (X + 1 + 65 + 2 * C))), some (vl A), none, some (vl (A * plG d (dsh d C) + sg (meaT d (dsh d C) A) j)), none, some (vi j), v9, v10, none] [] h (0, 0) := fun n v9 v10 => by
                have e : meaT d (dsh d C) A j = 0 := if_neg n
                rw [e, Int.add_zero] at ih
                refine s_X7_mean_155 x ok _ _ _ _ ?_
                simp only [wpS, o_c, o_cl, o_il, o_ll, o_al, o_is, o_ls, o_as, o_inc, o_add, o_sub, o_mul, o_and, o_or, o_xor, o_shl, o_shr, o_div, o_neg, o_ladd, o_lsub, o_lmul, o_ldiv, o_lrem, o_lneg, o_lcmp, o_i2l, o_l2i, o_dup, o_dup2, o_pop, o_go, o_nn, o_sw, swc, o_iret, o_zret, o_lret, o_vret, o_ieq, o_eq0, o_ine, o_ne0, o_ilt, o_lt0, o_ige, o_ge0, o_igt, o_gt0, o_ile, o_le0, o_iald, o_zald, o_lald, o_aald, o_iast, o_zast, o_last, o_aast, o_alen, o_gi, o_gr, o_pi, o_pz, o_pr, o_new, o_newa, o_copy, o_oinit, o_call, o_callV, o_callVc, o_callI, popn, cnO, o_BAD, lgt, lst, isL, kil, st1, st2, entL, List.length_nil, List.length_cons, List.replicate, Nat.reduceAdd, Nat.reduceLeDiff, Nat.reduceSub, true_and, and_true, Nat.zero_le, ne_eq, qk_wi, ql_wi, qr_wi, qj_wi, qt_wi, qk_wj, ql_wj, qr_wj, qi_wj, qt_wj, qk_wr, ql_wr, qi_wr, qj_wr, qt_wr, qi_ws, qj_ws, qr_ws, Int.toNat_natCast, Int.toNat_zero, Int.reduceToNat, not_true_eq_false, not_false_eq_true, false_implies, implies_true, Option.some.injEq, reduceCtorEq, Sp0, true_or, or_true, or_self, wi_wi, wj_wj]
                repeat' (first | (with_reducible refine And.intro ?_ ?_) | (with_reducible intro))
                all_goals (try (first | with_reducible assumption | omega | (unfold inI; omega) | (unfold inL; omega) | exact cz_in _ _))
                exact ih _ _
              refine s_X7_mean_77 x ok _ _ _ _ ?_
              simp only [wpS, o_c, o_cl, o_il, o_ll, o_al, o_is, o_ls, o_as, o_inc, o_add, o_sub, o_mul, o_and, o_or, o_xor, o_shl, o_shr, o_div, o_neg, o_ladd, o_lsub, o_lmul, o_ldiv, o_lrem, o_lneg, o_lcmp, o_i2l, o_l2i, o_dup, o_dup2, o_pop, o_go, o_nn, o_sw, swc, o_iret, o_zret, o_lret, o_vret, o_ieq, o_eq0, o_ine, o_ne0, o_ilt, o_lt0, o_ige, o_ge0, o_igt, o_gt0, o_ile, o_le0, o_iald, o_zald, o_lald, o_aald, o_iast, o_zast, o_last, o_aast, o_alen, o_gi, o_gr, o_pi, o_pz, o_pr, o_new, o_newa, o_copy, o_oinit, o_call, o_callV, o_callVc, o_callI, popn, cnO, o_BAD, lgt, lst, isL, kil, st1, st2, entL, List.length_nil, List.length_cons, List.replicate, Nat.reduceAdd, Nat.reduceLeDiff, Nat.reduceSub, true_and, and_true, Nat.zero_le, ne_eq, qk_wi, ql_wi, qr_wi, qj_wi, qt_wi, qk_wj, ql_wj, qr_wj, qi_wj, qt_wj, qk_wr, ql_wr, qi_wr, qj_wr, qt_wr, qi_ws, qj_ws, qr_ws, Int.toNat_natCast, Int.toNat_zero, Int.reduceToNat, not_true_eq_false, not_false_eq_true, false_implies, implies_true, Option.some.injEq, reduceCtorEq, Sp0, true_or, or_true, or_self, wi_wi, wj_wj, kx, rx, hS.k, hS.r0, hS.ms.1, hS.ms.2.1, hS.ms.2.2.1 j hj, hmj.1.1]
              repeat' (first | (with_reducible refine And.intro ?_ ?_) | (with_reducible intro))
              all_goals (try (first | with_reducible assumption | omega | (unfold inI; omega) | (unfold inL; omega) | exact cz_in _ _))
              refine c_lotSize hmj ?_
              simp only [wpS, o_c, o_cl, o_il, o_ll, o_al, o_is, o_ls, o_as, o_inc, o_add, o_sub, o_mul, o_and, o_or, o_xor, o_shl, o_shr, o_div, o_neg, o_ladd, o_lsub, o_lmul, o_ldiv, o_lrem, o_lneg, o_lcmp, o_i2l, o_l2i, o_dup, o_dup2, o_pop, o_go, o_nn, o_sw, swc, o_iret, o_zret, o_lret, o_vret, o_ieq, o_eq0, o_ine, o_ne0, o_ilt, o_lt0, o_ige, o_ge0, o_igt, o_gt0, o_ile, o_le0, o_iald, o_zald, o_lald, o_aald, o_iast, o_zast, o_last, o_aast, o_alen, o_gi, o_gr, o_pi, o_pz, o_pr, o_new, o_newa, o_copy, o_oinit, o_call, o_callV, o_callVc, o_callI, popn, cnO, o_BAD, lgt, lst, isL, kil, st1, st2, entL, List.length_nil, List.length_cons, List.replicate, Nat.reduceAdd, Nat.reduceLeDiff, Nat.reduceSub, true_and, and_true, Nat.zero_le, ne_eq, qk_wi, ql_wi, qr_wi, qj_wi, qt_wi, qk_wj, ql_wj, qr_wj, qi_wj, qt_wj, qk_wr, ql_wr, qi_wr, qj_wr, qt_wr, qi_ws, qj_ws, qr_ws, Int.toNat_natCast, Int.toNat_zero, Int.reduceToNat, not_true_eq_false, not_false_eq_true, false_implies, implies_true, Option.some.injEq, reduceCtorEq, Sp0, true_or, or_true, or_self, wi_wi, wj_wj, hmj.1.1, hmj.2.1.1, k1, r1, k2, l2, c3 j hj, cz_le]
              repeat' (first | (with_reducible refine And.intro ?_ ?_) | (with_reducible intro))
              all_goals (try (first | with_reducible assumption | omega | (unfold inI; omega) | (unfold inL; omega) | exact cz_in _ _))
              all_goals (try (exfalso; omega))
              all_goals (try (exact hst (by omega) _ _))
              refine c_missSum hmj ?_
              simp only [wpS, o_c, o_cl, o_il, o_ll, o_al, o_is, o_ls, o_as, o_inc, o_add, o_sub, o_mul, o_and, o_or, o_xor, o_shl, o_shr, o_div, o_neg, o_ladd, o_lsub, o_lmul, o_ldiv, o_lrem, o_lneg, o_lcmp, o_i2l, o_l2i, o_dup, o_dup2, o_pop, o_go, o_nn, o_sw, swc, o_iret, o_zret, o_lret, o_vret, o_ieq, o_eq0, o_ine, o_ne0, o_ilt, o_lt0, o_ige, o_ge0, o_igt, o_gt0, o_ile, o_le0, o_iald, o_zald, o_lald, o_aald, o_iast, o_zast, o_last, o_aast, o_alen, o_gi, o_gr, o_pi, o_pz, o_pr, o_new, o_newa, o_copy, o_oinit, o_call, o_callV, o_callVc, o_callI, popn, cnO, o_BAD, lgt, lst, isL, kil, st1, st2, entL, List.length_nil, List.length_cons, List.replicate, Nat.reduceAdd, Nat.reduceLeDiff, Nat.reduceSub, true_and, and_true, Nat.zero_le, ne_eq, qk_wi, ql_wi, qr_wi, qj_wi, qt_wi, qk_wj, ql_wj, qr_wj, qi_wj, qt_wj, qk_wr, ql_wr, qi_wr, qj_wr, qt_wr, qi_ws, qj_ws, qr_ws, Int.toNat_natCast, Int.toNat_zero, Int.reduceToNat, not_true_eq_false, not_false_eq_true, false_implies, implies_true, Option.some.injEq, reduceCtorEq, Sp0, true_or, or_true, or_self, wi_wi, wj_wj, k1, r1, k2, l2, c3 j hj]
              repeat' (first | (with_reducible refine And.intro ?_ ?_) | (with_reducible intro))
              all_goals (try (first | with_reducible assumption | omega | (unfold inI; omega) | (unfold inL; omega) | exact cz_in _ _))
              all_goals (try (exfalso; omega))
              have e : meaT d (dsh d C) A j = A.tdiv (lot d j) * msm d j * dsh d C j := if_pos (by omega)
              rw [e] at ih
              exact ih _ _
          refine s_X7_mean_22 x ok _ _ _ _ ?_
          simp only [wpS, o_c, o_cl, o_il, o_ll, o_al, o_is, o_ls, o_as, o_inc, o_add, o_sub, o_mul, o_and, o_or, o_xor, o_shl, o_shr, o_div, o_neg, o_ladd, o_lsub, o_lmul, o_ldiv, o_lrem, o_lneg, o_lcmp, o_i2l, o_l2i, o_dup, o_dup2, o_pop, o_go, o_nn, o_sw, swc, o_iret, o_zret, o_lret, o_vret, o_ieq, o_eq0, o_ine, o_ne0, o_ilt, o_lt0, o_ige, o_ge0, o_igt, o_gt0, o_ile, o_le0, o_iald, o_zald, o_lald, o_aald, o_iast, o_zast, o_last, o_aast, o_alen, o_gi, o_gr, o_pi, o_pz, o_pr, o_new, o_newa, o_copy, o_oinit, o_call, o_callV, o_callVc, o_callI, popn, cnO, o_BAD, lgt, lst, isL, kil, st1, st2, entL, List.length_nil, List.length_cons, List.replicate, Nat.reduceAdd, Nat.reduceLeDiff, Nat.reduceSub, true_and, and_true, Nat.zero_le, ne_eq, qk_wi, ql_wi, qr_wi, qj_wi, qt_wi, qk_wj, ql_wj, qr_wj, qi_wj, qt_wj, qk_wr, ql_wr, qi_wr, qj_wr, qt_wr, qi_ws, qj_ws, qr_ws, Int.toNat_natCast, Int.toNat_zero, Int.reduceToNat, not_true_eq_false, not_false_eq_true, false_implies, implies_true, Option.some.injEq, reduceCtorEq, Sp0, true_or, or_true, or_self, wi_wi, wj_wj, kx, rx, hS.k, hS.r1, hS.k2, hS.l2, hS.rc hC, rfl2]
          repeat' (first | (with_reducible refine And.intro ?_ ?_) | (with_reducible intro))
          all_goals (try (first | with_reducible assumption | omega | (unfold inI; omega) | (unfold inL; omega) | exact cz_in _ _))
          refine c_countParts hS hcv hfl ?_
          rw [hA]
          simp only [wpS, o_c, o_cl, o_il, o_ll, o_al, o_is, o_ls, o_as, o_inc, o_add, o_sub, o_mul, o_and, o_or, o_xor, o_shl, o_shr, o_div, o_neg, o_ladd, o_lsub, o_lmul, o_ldiv, o_lrem, o_lneg, o_lcmp, o_i2l, o_l2i, o_dup, o_dup2, o_pop, o_go, o_nn, o_sw, swc, o_iret, o_zret, o_lret, o_vret, o_ieq, o_eq0, o_ine, o_ne0, o_ilt, o_lt0, o_ige, o_ge0, o_igt, o_gt0, o_ile, o_le0, o_iald, o_zald, o_lald, o_aald, o_iast, o_zast, o_last, o_aast, o_alen, o_gi, o_gr, o_pi, o_pz, o_pr, o_new, o_newa, o_copy, o_oinit, o_call, o_callV, o_callVc, o_callI, popn, cnO, o_BAD, lgt, lst, isL, kil, st1, st2, entL, List.length_nil, List.length_cons, List.replicate, Nat.reduceAdd, Nat.reduceLeDiff, Nat.reduceSub, true_and, and_true, Nat.zero_le, ne_eq, qk_wi, ql_wi, qr_wi, qj_wi, qt_wi, qk_wj, ql_wj, qr_wj, qi_wj, qt_wj, qk_wr, ql_wr, qi_wr, qj_wr, qt_wr, qi_ws, qj_ws, qr_ws, Int.toNat_natCast, Int.toNat_zero, Int.reduceToNat, not_true_eq_false, not_false_eq_true, false_implies, implies_true, Option.some.injEq, reduceCtorEq, Sp0, true_or, or_true, or_self, wi_wi, wj_wj, cz_le]
          repeat' (first | (with_reducible refine And.intro ?_ ?_) | (with_reducible intro))
          all_goals (try (first | with_reducible assumption | omega | (unfold inI; omega) | (unfold inL; omega) | exact cz_in _ _))
          all_goals (try (exfalso; omega))
          refine s_X7_mean_57 x ok _ _ _ _ ?_
          simp only [wpS, o_c, o_cl, o_il, o_ll, o_al, o_is, o_ls, o_as, o_inc, o_add, o_sub, o_mul, o_and, o_or, o_xor, o_shl, o_shr, o_div, o_neg, o_ladd, o_lsub, o_lmul, o_ldiv, o_lrem, o_lneg, o_lcmp, o_i2l, o_l2i, o_dup, o_dup2, o_pop, o_go, o_nn, o_sw, swc, o_iret, o_zret, o_lret, o_vret, o_ieq, o_eq0, o_ine, o_ne0, o_ilt, o_lt0, o_ige, o_ge0, o_igt, o_gt0, o_ile, o_le0, o_iald, o_zald, o_lald, o_aald, o_iast, o_zast, o_last, o_aast, o_alen, o_gi, o_gr, o_pi, o_pz, o_pr, o_new, o_newa, o_copy, o_oinit, o_call, o_callV, o_callVc, o_callI, popn, cnO, o_BAD, lgt, lst, isL, kil, st1, st2, entL, List.length_nil, List.length_cons, List.replicate, Nat.reduceAdd, Nat.reduceLeDiff, Nat.reduceSub, true_and, and_true, Nat.zero_le, ne_eq, qk_wi, ql_wi, qr_wi, qj_wi, qt_wi, qk_wj, ql_wj, qr_wj, qi_wj, qt_wj, qk_wr, ql_wr, qi_wr, qj_wr, qt_wr, qi_ws, qj_ws, qr_ws, Int.toNat_natCast, Int.toNat_zero, Int.reduceToNat, not_true_eq_false, not_false_eq_true, false_implies, implies_true, Option.some.injEq, reduceCtorEq, Sp0, true_or, or_true, or_self, wi_wi, wj_wj, kx, rx, hS.k, hS.r0, k1]
          repeat' (first | (with_reducible refine And.intro ?_ ?_) | (with_reducible intro))
          all_goals (try (first | with_reducible assumption | omega | (unfold inI; omega) | (unfold inL; omega) | exact cz_in _ _))
          refine c_plainGap hcv hS.ms ?_
          simp only [wpS, o_c, o_cl, o_il, o_ll, o_al, o_is, o_ls, o_as, o_inc, o_add, o_sub, o_mul, o_and, o_or, o_xor, o_shl, o_shr, o_div, o_neg, o_ladd, o_lsub, o_lmul, o_ldiv, o_lrem, o_lneg, o_lcmp, o_i2l, o_l2i, o_dup, o_dup2, o_pop, o_go, o_nn, o_sw, swc, o_iret, o_zret, o_lret, o_vret, o_ieq, o_eq0, o_ine, o_ne0, o_ilt, o_lt0, o_ige, o_ge0, o_igt, o_gt0, o_ile, o_le0, o_iald, o_zald, o_lald, o_aald, o_iast, o_zast, o_last, o_aast, o_alen, o_gi, o_gr, o_pi, o_pz, o_pr, o_new, o_newa, o_copy, o_oinit, o_call, o_callV, o_callVc, o_callI, popn, cnO, o_BAD, lgt, lst, isL, kil, st1, st2, entL, List.length_nil, List.length_cons, List.replicate, Nat.reduceAdd, Nat.reduceLeDiff, Nat.reduceSub, true_and, and_true, Nat.zero_le, ne_eq, qk_wi, ql_wi, qr_wi, qj_wi, qt_wi, qk_wj, ql_wj, qr_wj, qi_wj, qt_wj, qk_wr, ql_wr, qi_wr, qj_wr, qt_wr, qi_ws, qj_ws, qr_ws, Int.toNat_natCast, Int.toNat_zero, Int.reduceToNat, not_true_eq_false, not_false_eq_true, false_implies, implies_true, Option.some.injEq, reduceCtorEq, Sp0, true_or, or_true, or_self, wi_wi, wj_wj]
          repeat' (first | (with_reducible refine And.intro ?_ ?_) | (with_reducible intro))
          all_goals (try (first | with_reducible assumption | omega | (unfold inI; omega) | (unfold inL; omega) | exact cz_in _ _))
          have := loop 0 (by omega) none none
          rw [sg_0, Int.add_zero] at this
          exact this
      refine s_X7_mean_0 x ok _ _ _ _ ?_
      simp only [wpS, o_c, o_cl, o_il, o_ll, o_al, o_is, o_ls, o_as, o_inc, o_add, o_sub, o_mul, o_and, o_or, o_xor, o_shl, o_shr, o_div, o_neg, o_ladd, o_lsub, o_lmul, o_ldiv, o_lrem, o_lneg, o_lcmp, o_i2l, o_l2i, o_dup, o_dup2, o_pop, o_go, o_nn, o_sw, swc, o_iret, o_zret, o_lret, o_vret, o_ieq, o_eq0, o_ine, o_ne0, o_ilt, o_lt0, o_ige, o_ge0, o_igt, o_gt0, o_ile, o_le0, o_iald, o_zald, o_lald, o_aald, o_iast, o_zast, o_last, o_aast, o_alen, o_gi, o_gr, o_pi, o_pz, o_pr, o_new, o_newa, o_copy, o_oinit, o_call, o_callV, o_callVc, o_callI, popn, cnO, o_BAD, lgt, lst, isL, kil, st1, st2, entL, List.length_nil, List.length_cons, List.replicate, Nat.reduceAdd, Nat.reduceLeDiff, Nat.reduceSub, true_and, and_true, Nat.zero_le, ne_eq, qk_wi, ql_wi, qr_wi, qj_wi, qt_wi, qk_wj, ql_wj, qr_wj, qi_wj, qt_wj, qk_wr, ql_wr, qi_wr, qj_wr, qt_wr, qi_ws, qj_ws, qr_ws, Int.toNat_natCast, Int.toNat_zero, Int.reduceToNat, not_true_eq_false, not_false_eq_true, false_implies, implies_true, Option.some.injEq, reduceCtorEq, Sp0, true_or, or_true, or_self, wi_wi, wj_wj]
      repeat' (first | (with_reducible refine And.intro ?_ ?_) | (with_reducible intro))
      all_goals (try (first | with_reducible assumption | omega | (unfold inI; omega) | (unfold inL; omega) | exact cz_in _ _))
      refine c_within ⟨iw, by unfold inI; omega, by unfold inI; omega, fun _ => ?_, fun z => by omega⟩
      simp only [wpS, o_c, o_cl, o_il, o_ll, o_al, o_is, o_ls, o_as, o_inc, o_add, o_sub, o_mul, o_and, o_or, o_xor, o_shl, o_shr, o_div, o_neg, o_ladd, o_lsub, o_lmul, o_ldiv, o_lrem, o_lneg, o_lcmp, o_i2l, o_l2i, o_dup, o_dup2, o_pop, o_go, o_nn, o_sw, swc, o_iret, o_zret, o_lret, o_vret, o_ieq, o_eq0, o_ine, o_ne0, o_ilt, o_lt0, o_ige, o_ge0, o_igt, o_gt0, o_ile, o_le0, o_iald, o_zald, o_lald, o_aald, o_iast, o_zast, o_last, o_aast, o_alen, o_gi, o_gr, o_pi, o_pz, o_pr, o_new, o_newa, o_copy, o_oinit, o_call, o_callV, o_callVc, o_callI, popn, cnO, o_BAD, lgt, lst, isL, kil, st1, st2, entL, List.length_nil, List.length_cons, List.replicate, Nat.reduceAdd, Nat.reduceLeDiff, Nat.reduceSub, true_and, and_true, Nat.zero_le, ne_eq, qk_wi, ql_wi, qr_wi, qj_wi, qt_wi, qk_wj, ql_wj, qr_wj, qi_wj, qt_wj, qk_wr, ql_wr, qi_wr, qj_wr, qt_wr, qi_ws, qj_ws, qr_ws, Int.toNat_natCast, Int.toNat_zero, Int.reduceToNat, not_true_eq_false, not_false_eq_true, false_implies, implies_true, Option.some.injEq, reduceCtorEq, Sp0, true_or, or_true, or_self, wi_wi, wj_wj]
      repeat' (first | (with_reducible refine And.intro ?_ ?_) | (with_reducible intro))
      all_goals (try (first | with_reducible assumption | omega | (unfold inI; omega) | (unfold inL; omega) | exact cz_in _ _))
      all_goals (try (exfalso; omega))
      refine s_X7_mean_13 x ok _ _ _ _ ?_
      simp only [wpS, o_c, o_cl, o_il, o_ll, o_al, o_is, o_ls, o_as, o_inc, o_add, o_sub, o_mul, o_and, o_or, o_xor, o_shl, o_shr, o_div, o_neg, o_ladd, o_lsub, o_lmul, o_ldiv, o_lrem, o_lneg, o_lcmp, o_i2l, o_l2i, o_dup, o_dup2, o_pop, o_go, o_nn, o_sw, swc, o_iret, o_zret, o_lret, o_vret, o_ieq, o_eq0, o_ine, o_ne0, o_ilt, o_lt0, o_ige, o_ge0, o_igt, o_gt0, o_ile, o_le0, o_iald, o_zald, o_lald, o_aald, o_iast, o_zast, o_last, o_aast, o_alen, o_gi, o_gr, o_pi, o_pz, o_pr, o_new, o_newa, o_copy, o_oinit, o_call, o_callV, o_callVc, o_callI, popn, cnO, o_BAD, lgt, lst, isL, kil, st1, st2, entL, List.length_nil, List.length_cons, List.replicate, Nat.reduceAdd, Nat.reduceLeDiff, Nat.reduceSub, true_and, and_true, Nat.zero_le, ne_eq, qk_wi, ql_wi, qr_wi, qj_wi, qt_wi, qk_wj, ql_wj, qr_wj, qi_wj, qt_wj, qk_wr, ql_wr, qi_wr, qj_wr, qt_wr, qi_ws, qj_ws, qr_ws, Int.toNat_natCast, Int.toNat_zero, Int.reduceToNat, not_true_eq_false, not_false_eq_true, false_implies, implies_true, Option.some.injEq, reduceCtorEq, Sp0, true_or, or_true, or_self, wi_wi, wj_wj]
      repeat' (first | (with_reducible refine And.intro ?_ ?_) | (with_reducible intro))
      all_goals (try (first | with_reducible assumption | omega | (unfold inI; omega) | (unfold inL; omega) | exact cz_in _ _))
      refine c_rg ⟨ic, fun _ => ?_, fun z => by omega⟩
      simp only [wpS, o_c, o_cl, o_il, o_ll, o_al, o_is, o_ls, o_as, o_inc, o_add, o_sub, o_mul, o_and, o_or, o_xor, o_shl, o_shr, o_div, o_neg, o_ladd, o_lsub, o_lmul, o_ldiv, o_lrem, o_lneg, o_lcmp, o_i2l, o_l2i, o_dup, o_dup2, o_pop, o_go, o_nn, o_sw, swc, o_iret, o_zret, o_lret, o_vret, o_ieq, o_eq0, o_ine, o_ne0, o_ilt, o_lt0, o_ige, o_ge0, o_igt, o_gt0, o_ile, o_le0, o_iald, o_zald, o_lald, o_aald, o_iast, o_zast, o_last, o_aast, o_alen, o_gi, o_gr, o_pi, o_pz, o_pr, o_new, o_newa, o_copy, o_oinit, o_call, o_callV, o_callVc, o_callI, popn, cnO, o_BAD, lgt, lst, isL, kil, st1, st2, entL, List.length_nil, List.length_cons, List.replicate, Nat.reduceAdd, Nat.reduceLeDiff, Nat.reduceSub, true_and, and_true, Nat.zero_le, ne_eq, qk_wi, ql_wi, qr_wi, qj_wi, qt_wi, qk_wj, ql_wj, qr_wj, qi_wj, qt_wj, qk_wr, ql_wr, qi_wr, qj_wr, qt_wr, qi_ws, qj_ws, qr_ws, Int.toNat_natCast, Int.toNat_zero, Int.reduceToNat, not_true_eq_false, not_false_eq_true, false_implies, implies_true, Option.some.injEq, reduceCtorEq, Sp0, true_or, or_true, or_self, wi_wi, wj_wj]
      repeat' (first | (with_reducible refine And.intro ?_ ?_) | (with_reducible intro))
      all_goals (try (first | with_reducible assumption | omega | (unfold inI; omega) | (unfold inL; omega) | exact cz_in _ _))
      all_goals (try (exfalso; omega))
      exact h22 _
    · unfold meaF at hK
      rw [if_neg (by omega), if_pos hc] at hK
      refine s_X7_mean_0 x ok _ _ _ _ ?_
      simp only [wpS, o_c, o_cl, o_il, o_ll, o_al, o_is, o_ls, o_as, o_inc, o_add, o_sub, o_mul, o_and, o_or, o_xor, o_shl, o_shr, o_div, o_neg, o_ladd, o_lsub, o_lmul, o_ldiv, o_lrem, o_lneg, o_lcmp, o_i2l, o_l2i, o_dup, o_dup2, o_pop, o_go, o_nn, o_sw, swc, o_iret, o_zret, o_lret, o_vret, o_ieq, o_eq0, o_ine, o_ne0, o_ilt, o_lt0, o_ige, o_ge0, o_igt, o_gt0, o_ile, o_le0, o_iald, o_zald, o_lald, o_aald, o_iast, o_zast, o_last, o_aast, o_alen, o_gi, o_gr, o_pi, o_pz, o_pr, o_new, o_newa, o_copy, o_oinit, o_call, o_callV, o_callVc, o_callI, popn, cnO, o_BAD, lgt, lst, isL, kil, st1, st2, entL, List.length_nil, List.length_cons, List.replicate, Nat.reduceAdd, Nat.reduceLeDiff, Nat.reduceSub, true_and, and_true, Nat.zero_le, ne_eq, qk_wi, ql_wi, qr_wi, qj_wi, qt_wi, qk_wj, ql_wj, qr_wj, qi_wj, qt_wj, qk_wr, ql_wr, qi_wr, qj_wr, qt_wr, qi_ws, qj_ws, qr_ws, Int.toNat_natCast, Int.toNat_zero, Int.reduceToNat, not_true_eq_false, not_false_eq_true, false_implies, implies_true, Option.some.injEq, reduceCtorEq, Sp0, true_or, or_true, or_self, wi_wi, wj_wj]
      repeat' (first | (with_reducible refine And.intro ?_ ?_) | (with_reducible intro))
      all_goals (try (first | with_reducible assumption | omega | (unfold inI; omega) | (unfold inL; omega) | exact cz_in _ _))
      refine c_within ⟨iw, by unfold inI; omega, by unfold inI; omega, fun _ => ?_, fun z => by omega⟩
      simp only [wpS, o_c, o_cl, o_il, o_ll, o_al, o_is, o_ls, o_as, o_inc, o_add, o_sub, o_mul, o_and, o_or, o_xor, o_shl, o_shr, o_div, o_neg, o_ladd, o_lsub, o_lmul, o_ldiv, o_lrem, o_lneg, o_lcmp, o_i2l, o_l2i, o_dup, o_dup2, o_pop, o_go, o_nn, o_sw, swc, o_iret, o_zret, o_lret, o_vret, o_ieq, o_eq0, o_ine, o_ne0, o_ilt, o_lt0, o_ige, o_ge0, o_igt, o_gt0, o_ile, o_le0, o_iald, o_zald, o_lald, o_aald, o_iast, o_zast, o_last, o_aast, o_alen, o_gi, o_gr, o_pi, o_pz, o_pr, o_new, o_newa, o_copy, o_oinit, o_call, o_callV, o_callVc, o_callI, popn, cnO, o_BAD, lgt, lst, isL, kil, st1, st2, entL, List.length_nil, List.length_cons, List.replicate, Nat.reduceAdd, Nat.reduceLeDiff, Nat.reduceSub, true_and, and_true, Nat.zero_le, ne_eq, qk_wi, ql_wi, qr_wi, qj_wi, qt_wi, qk_wj, ql_wj, qr_wj, qi_wj, qt_wj, qk_wr, ql_wr, qi_wr, qj_wr, qt_wr, qi_ws, qj_ws, qr_ws, Int.toNat_natCast, Int.toNat_zero, Int.reduceToNat, not_true_eq_false, not_false_eq_true, false_implies, implies_true, Option.some.injEq, reduceCtorEq, Sp0, true_or, or_true, or_self, wi_wi, wj_wj]
      repeat' (first | (with_reducible refine And.intro ?_ ?_) | (with_reducible intro))
      all_goals (try (first | with_reducible assumption | omega | (unfold inI; omega) | (unfold inL; omega) | exact cz_in _ _))
      all_goals (try (exfalso; omega))
      refine s_X7_mean_13 x ok _ _ _ _ ?_
      simp only [wpS, o_c, o_cl, o_il, o_ll, o_al, o_is, o_ls, o_as, o_inc, o_add, o_sub, o_mul, o_and, o_or, o_xor, o_shl, o_shr, o_div, o_neg, o_ladd, o_lsub, o_lmul, o_ldiv, o_lrem, o_lneg, o_lcmp, o_i2l, o_l2i, o_dup, o_dup2, o_pop, o_go, o_nn, o_sw, swc, o_iret, o_zret, o_lret, o_vret, o_ieq, o_eq0, o_ine, o_ne0, o_ilt, o_lt0, o_ige, o_ge0, o_igt, o_gt0, o_ile, o_le0, o_iald, o_zald, o_lald, o_aald, o_iast, o_zast, o_last, o_aast, o_alen, o_gi, o_gr, o_pi, o_pz, o_pr, o_new, o_newa, o_copy, o_oinit, o_call, o_callV, o_callVc, o_callI, popn, cnO, o_BAD, lgt, lst, isL, kil, st1, st2, entL, List.length_nil, List.length_cons, List.replicate, Nat.reduceAdd, Nat.reduceLeDiff, Nat.reduceSub, true_and, and_true, Nat.zero_le, ne_eq, qk_wi, ql_wi, qr_wi, qj_wi, qt_wi, qk_wj, ql_wj, qr_wj, qi_wj, qt_wj, qk_wr, ql_wr, qi_wr, qj_wr, qt_wr, qi_ws, qj_ws, qr_ws, Int.toNat_natCast, Int.toNat_zero, Int.reduceToNat, not_true_eq_false, not_false_eq_true, false_implies, implies_true, Option.some.injEq, reduceCtorEq, Sp0, true_or, or_true, or_self, wi_wi, wj_wj]
      repeat' (first | (with_reducible refine And.intro ?_ ?_) | (with_reducible intro))
      all_goals (try (first | with_reducible assumption | omega | (unfold inI; omega) | (unfold inL; omega) | exact cz_in _ _))
      refine c_rg ⟨ic, fun _ => by omega, fun z => ?_⟩
      simp only [wpS, o_c, o_cl, o_il, o_ll, o_al, o_is, o_ls, o_as, o_inc, o_add, o_sub, o_mul, o_and, o_or, o_xor, o_shl, o_shr, o_div, o_neg, o_ladd, o_lsub, o_lmul, o_ldiv, o_lrem, o_lneg, o_lcmp, o_i2l, o_l2i, o_dup, o_dup2, o_pop, o_go, o_nn, o_sw, swc, o_iret, o_zret, o_lret, o_vret, o_ieq, o_eq0, o_ine, o_ne0, o_ilt, o_lt0, o_ige, o_ge0, o_igt, o_gt0, o_ile, o_le0, o_iald, o_zald, o_lald, o_aald, o_iast, o_zast, o_last, o_aast, o_alen, o_gi, o_gr, o_pi, o_pz, o_pr, o_new, o_newa, o_copy, o_oinit, o_call, o_callV, o_callVc, o_callI, popn, cnO, o_BAD, lgt, lst, isL, kil, st1, st2, entL, List.length_nil, List.length_cons, List.replicate, Nat.reduceAdd, Nat.reduceLeDiff, Nat.reduceSub, true_and, and_true, Nat.zero_le, ne_eq, qk_wi, ql_wi, qr_wi, qj_wi, qt_wi, qk_wj, ql_wj, qr_wj, qi_wj, qt_wj, qk_wr, ql_wr, qi_wr, qj_wr, qt_wr, qi_ws, qj_ws, qr_ws, Int.toNat_natCast, Int.toNat_zero, Int.reduceToNat, not_true_eq_false, not_false_eq_true, false_implies, implies_true, Option.some.injEq, reduceCtorEq, Sp0, true_or, or_true, or_self, wi_wi, wj_wj]
      repeat' (first | (with_reducible refine And.intro ?_ ?_) | (with_reducible intro))
      all_goals (try (first | with_reducible assumption | omega | (unfold inI; omega) | (unfold inL; omega) | exact cz_in _ _))
      all_goals (first | (exfalso; omega) | exact hK)
  · unfold meaF at hK
    rw [if_pos hw] at hK
    refine s_X7_mean_0 x ok _ _ _ _ ?_
    simp only [wpS, o_c, o_cl, o_il, o_ll, o_al, o_is, o_ls, o_as, o_inc, o_add, o_sub, o_mul, o_and, o_or, o_xor, o_shl, o_shr, o_div, o_neg, o_ladd, o_lsub, o_lmul, o_ldiv, o_lrem, o_lneg, o_lcmp, o_i2l, o_l2i, o_dup, o_dup2, o_pop, o_go, o_nn, o_sw, swc, o_iret, o_zret, o_lret, o_vret, o_ieq, o_eq0, o_ine, o_ne0, o_ilt, o_lt0, o_ige, o_ge0, o_igt, o_gt0, o_ile, o_le0, o_iald, o_zald, o_lald, o_aald, o_iast, o_zast, o_last, o_aast, o_alen, o_gi, o_gr, o_pi, o_pz, o_pr, o_new, o_newa, o_copy, o_oinit, o_call, o_callV, o_callVc, o_callI, popn, cnO, o_BAD, lgt, lst, isL, kil, st1, st2, entL, List.length_nil, List.length_cons, List.replicate, Nat.reduceAdd, Nat.reduceLeDiff, Nat.reduceSub, true_and, and_true, Nat.zero_le, ne_eq, qk_wi, ql_wi, qr_wi, qj_wi, qt_wi, qk_wj, ql_wj, qr_wj, qi_wj, qt_wj, qk_wr, ql_wr, qi_wr, qj_wr, qt_wr, qi_ws, qj_ws, qr_ws, Int.toNat_natCast, Int.toNat_zero, Int.reduceToNat, not_true_eq_false, not_false_eq_true, false_implies, implies_true, Option.some.injEq, reduceCtorEq, Sp0, true_or, or_true, or_self, wi_wi, wj_wj]
    repeat' (first | (with_reducible refine And.intro ?_ ?_) | (with_reducible intro))
    all_goals (try (first | with_reducible assumption | omega | (unfold inI; omega) | (unfold inL; omega) | exact cz_in _ _))
    refine c_within ⟨iw, by unfold inI; omega, by unfold inI; omega, fun _ => by omega, fun z => ?_⟩
    simp only [wpS, o_c, o_cl, o_il, o_ll, o_al, o_is, o_ls, o_as, o_inc, o_add, o_sub, o_mul, o_and, o_or, o_xor, o_shl, o_shr, o_div, o_neg, o_ladd, o_lsub, o_lmul, o_ldiv, o_lrem, o_lneg, o_lcmp, o_i2l, o_l2i, o_dup, o_dup2, o_pop, o_go, o_nn, o_sw, swc, o_iret, o_zret, o_lret, o_vret, o_ieq, o_eq0, o_ine, o_ne0, o_ilt, o_lt0, o_ige, o_ge0, o_igt, o_gt0, o_ile, o_le0, o_iald, o_zald, o_lald, o_aald, o_iast, o_zast, o_last, o_aast, o_alen, o_gi, o_gr, o_pi, o_pz, o_pr, o_new, o_newa, o_copy, o_oinit, o_call, o_callV, o_callVc, o_callI, popn, cnO, o_BAD, lgt, lst, isL, kil, st1, st2, entL, List.length_nil, List.length_cons, List.replicate, Nat.reduceAdd, Nat.reduceLeDiff, Nat.reduceSub, true_and, and_true, Nat.zero_le, ne_eq, qk_wi, ql_wi, qr_wi, qj_wi, qt_wi, qk_wj, ql_wj, qr_wj, qi_wj, qt_wj, qk_wr, ql_wr, qi_wr, qj_wr, qt_wr, qi_ws, qj_ws, qr_ws, Int.toNat_natCast, Int.toNat_zero, Int.reduceToNat, not_true_eq_false, not_false_eq_true, false_implies, implies_true, Option.some.injEq, reduceCtorEq, Sp0, true_or, or_true, or_self, wi_wi, wj_wj]
    repeat' (first | (with_reducible refine And.intro ?_ ?_) | (with_reducible intro))
    all_goals (try (first | with_reducible assumption | omega | (unfold inI; omega) | (unfold inL; omega) | exact cz_in _ _))
    all_goals (first | (exfalso; omega) | exact hK)

/-! ===== FitBenchModel.counts ===== -/
theorem wj_comm (h : Hp) {a b : Nat} (n : a ≠ b) (f g : Nat → Int) : wj (wj h a f) b g = wj (wj h b g) a f := by
  unfold wj; simp only [fu_comm _ n]
theorem ixmul (a b : Nat) : (a : Int) * (b : Int) = ((a * b : Nat) : Int) := (Int.natCast_mul a b).symm
def wp (d : Dd) (t : Nat → Int) (m : Nat) : Int := sg (fun i => iab (t i) * mrg d i) m
theorem wp_mono {d : Dd} {t : Nat → Int} (hI : ∀ m, m < 12 → InvM d m) {a b : Nat} (h : a ≤ b) (hb : b ≤ 12) : wp d t a ≤ wp d t b := sg_mono (fun k hk => Int.mul_nonneg (iab_0 _) (mrg_rg (hI k hk)).1) h hb
theorem wp_0 {d : Dd} {t : Nat → Int} (hI : ∀ m, m < 12 → InvM d m) {a : Nat} (h : a ≤ 12) : 0 ≤ wp d t a := sg_nn (fun k hk => Int.mul_nonneg (iab_0 _) (mrg_rg (hI k (by omega))).1)
/-- the columns that a row of counts reaches -/
theorem lyR_col {d : Dd} {s t : Nat → Int} {cols : Nat} (hI : ∀ m, m < 12 → InvM d m) (hW : wp d t 12 < cols) : ∀ j, j ≤ 12 → ∀ k, lyR d s t cols j k ≠ 0 → ((k % cols : Nat) : Int) ≤ wp d t j := by
  intro j
  induction j with
  | zero =>
    intro _ k hk
    unfold lyR at hk
    have e : k = 0 := by
      by_cases z : k = 0
      · exact z
      · rw [if_neg z] at hk; exact absurd rfl hk
    rw [e, Nat.zero_mod]
    exact wp_0 hI (by omega)
  | succ j ih =>
    intro hj k hk
    have hm := wp_mono (t := t) hI (show j ≤ j + 1 by omega) hj
    by_cases z : dk d j = 0 ∧ (s j ≠ 0 ∨ t j ≠ 0)
    · have e : lyR d s t cols (j + 1) k = cvl d j cols (s j) (t j) (lyR d s t cols j) k := if_pos z
      rw [e] at hk
      obtain ⟨i, hi, hz⟩ : ∃ i, i < rng d j + 1 ∧ gz (lyR d s t cols j) ((k : Int) - mvf d j cols (s j) (t j) i) ≠ 0 := by
        refine Classical.byContradiction (fun q => hk ?_)
        unfold cvl
        refine sg_z (fun i hi => ?_)
        by_cases u : gz (lyR d s t cols j) ((k : Int) - mvf d j cols (s j) (t j) i) = 0
        · rw [u, Int.mul_zero]
        · exact absurd ⟨i, hi, u⟩ q
      unfold gz at hz
      by_cases hneg : (k : Int) - mvf d j cols (s j) (t j) i < 0
      · rw [if_pos hneg] at hz; exact absurd rfl hz
      · rw [if_neg hneg] at hz
        have h1 := ih (by omega) _ hz
        have u1 := upf_rg (s := s j) (r := rng d j) (j := i) (by omega)
        have u2 := upf_rg (s := t j) (r := rng d j) (j := i) (by omega)
        obtain ⟨U, hU⟩ : ∃ U : Nat, upf (s j) (rng d j) i = (U : Int) := ⟨(upf (s j) (rng d j) i).toNat, by omega⟩
        obtain ⟨T, hT⟩ : ∃ T : Nat, upf (t j) (rng d j) i = (T : Int) := ⟨(upf (t j) (rng d j) i).toNat, by omega⟩
        have emv : mvf d j cols (s j) (t j) i = ((U * cols + T : Nat) : Int) := by
          unfold mvf
          rw [hU, hT]
          push_cast
          rfl
        rw [emv] at h1 hneg
        obtain ⟨k', hk'⟩ : ∃ k' : Nat, k = k' + (U * cols + T) := ⟨k - (U * cols + T), by omega⟩
        have e1 : ((k : Int) - ((U * cols + T : Nat) : Int)).toNat = k' := by omega
        rw [e1] at h1
        have emr : mrg d j = (rng d j : Int) := by
          unfold mrg
          rw [if_pos z.1, (hI j (by omega)).rg.2]
        have e2 : wp d t (j + 1) = wp d t j + iab (t j) * (rng d j : Int) := by
          rw [← emr]
          rfl
        have hW2 := wp_mono (t := t) hI hj (Nat.le_refl 12)
        have e3 : k % cols = k' % cols + T := by
          rw [hk', show k' + (U * cols + T) = (k' + T) + U * cols by omega, Nat.add_mul_mod_self_right, Nat.add_mod]
          rw [Nat.mod_eq_of_lt (show T < cols by omega)]
          exact Nat.mod_eq_of_lt (by omega)
        rw [e3]
        push_cast
        omega
    · have e : lyR d s t cols (j + 1) k = lyR d s t cols j k := if_neg z
      rw [e] at hk
      have := ih (by omega) k hk
      omega
def cH (h : Hp) (y : Nat) (u v : Nat → Int) : Hp := wj (wj h (y + 7) u) (y + 8) v
theorem cH_7 {h : Hp} {y : Nat} {u v : Nat → Int} : qj (cH h y u v) (y + 7) = u := by unfold cH; rw [qj_wn (by omega), qj_ws]
theorem cH_8 {h : Hp} {y : Nat} {u v : Nat → Int} : qj (cH h y u v) (y + 8) = v := by unfold cH; rw [qj_ws]
theorem cW_7 {h : Hp} {y : Nat} {u v w : Nat → Int} : wj (cH h y u v) (y + 7) w = cH h y w v := by
  unfold cH
  rw [wj_comm _ (show y + 8 ≠ y + 7 by omega), wj_wj]
theorem cW_8 {h : Hp} {y : Nat} {u v w : Nat → Int} : wj (cH h y u v) (y + 8) w = cH h y u w := by
  unfold cH
  rw [wj_wj]
theorem cH_k {h : Hp} {y : Nat} {u v : Nat → Int} : qk (cH h y u v) = qk h := rfl
theorem cH_l {h : Hp} {y : Nat} {u v : Nat → Int} : ql (cH h y u v) = ql h := rfl
theorem cH_r {h : Hp} {y : Nat} {u v : Nat → Int} : qr (cH h y u v) = qr h := rfl
theorem cH_i {h : Hp} {y : Nat} {u v : Nat → Int} : qi (cH h y u v) = qi h := rfl
def tw (d : Dd) (e : Nat) (two : Int) : Nat → Int := if two = 1 then dsh d e else fun _ => 0
def T_X8_counts : TT := fun as h K => ∃ (y c e : Nat) (two : Int), as = [vr (some y), vi c, vi e, vi two] ∧ Mo h y ∧ Inv (qi h (y + 1)) ∧ c < 6 ∧ e < 6 ∧ (two = 0 ∨ two = 1) ∧ cpt (qi h (y + 1)) (dsh (qi h (y + 1)) c) (tw (qi h (y + 1)) e two) 12 ≤ 1000000000000 ∧ ((wdG (qi h (y + 1)) (dsh (qi h (y + 1)) c)).toNat + 1) * ((wdG (qi h (y + 1)) (tw (qi h (y + 1)) e two)).toNat + 1) ≤ 200000 ∧ ∀ u v : Nat → Int, (∀ k, k < ((wdG (qi h (y + 1)) (dsh (qi h (y + 1)) c)).toNat + 1) * ((wdG (qi h (y + 1)) (tw (qi h (y + 1)) e two)).toNat + 1) → u k = lyR (qi h (y + 1)) (dsh (qi h (y + 1)) c) (tw (qi h (y + 1)) e two) ((wdG (qi h (y + 1)) (tw (qi h (y + 1)) e two)).toNat + 1) 12 k) → K none (cH h y u v)
abbrev i_X8_counts : MI := (cX8_counts, 15, RX8, none, "counts", 6)
theorem k_X8_counts_0 : Okop i_X8_counts 0 (o_al 0) 1 := k_aln (j := 0) (by decide +kernel)
theorem k_X8_counts_1 : Okop i_X8_counts 1 (o_il 1) 2 := k_iln (j := 1) (by decide +kernel)
theorem k_X8_counts_2 : Okop i_X8_counts 2 (o_callV 8 1 T_X8_wide) 5 := k_callV (idx := 111) (r0 := (RX8, TX8, 14)) m_X8_wide ⟨gw_827, gw_10, ⟨by decide, by decide, by decide +kernel⟩, by decide, by decide⟩ rfl gw_824 gw_826 gs_21 (by decide +kernel)
theorem k_X8_counts_5 : Okop i_X8_counts 5 (o_c 1) 6 := k_iconst (by decide +kernel)
theorem k_X8_counts_6 : Okop i_X8_counts 6 (o_add) 7 := k_add (by decide +kernel)
theorem k_X8_counts_7 : Okop i_X8_counts 7 (o_is 4) 9 := k_is (by decide +kernel) (by decide)
theorem k_X8_counts_9 : Okop i_X8_counts 9 (o_il 3) 10 := k_iln (j := 3) (by decide +kernel)
theorem k_X8_counts_10 : Okop i_X8_counts 10 (o_eq0 23) 13 := k_eq0 (off := 13) (by decide +kernel) (by decide)
theorem k_X8_counts_13 : Okop i_X8_counts 13 (o_al 0) 14 := k_aln (j := 0) (by decide +kernel)
theorem k_X8_counts_14 : Okop i_X8_counts 14 (o_il 2) 15 := k_iln (j := 2) (by decide +kernel)
theorem k_X8_counts_15 : Okop i_X8_counts 15 (o_callV 8 1 T_X8_wide) 18 := k_callV (idx := 111) (r0 := (RX8, TX8, 14)) m_X8_wide ⟨gw_827, gw_10, ⟨by decide, by decide, by decide +kernel⟩, by decide, by decide⟩ rfl gw_824 gw_826 gs_21 (by decide +kernel)
theorem k_X8_counts_18 : Okop i_X8_counts 18 (o_c 1) 19 := k_iconst (by decide +kernel)
theorem k_X8_counts_19 : Okop i_X8_counts 19 (o_add) 20 := k_add (by decide +kernel)
theorem k_X8_counts_20 : Okop i_X8_counts 20 (o_go 24) 23 := k_go (off := 4) (by decide +kernel) (by decide)
theorem k_X8_counts_23 : Okop i_X8_counts 23 (o_c 1) 24 := k_iconst (by decide +kernel)
theorem k_X8_counts_24 : Okop i_X8_counts 24 (o_is 5) 26 := k_is (by decide +kernel) (by decide)
theorem k_X8_counts_26 : Okop i_X8_counts 26 (o_c 0) 27 := k_iconst (by decide +kernel)
theorem k_X8_counts_27 : Okop i_X8_counts 27 (o_is 6) 29 := k_is (by decide +kernel) (by decide)
theorem k_X8_counts_29 : Okop i_X8_counts 29 (o_il 6) 31 := k_il (by decide +kernel)
theorem k_X8_counts_31 : Okop i_X8_counts 31 (o_il 4) 33 := k_il (by decide +kernel)
theorem k_X8_counts_33 : Okop i_X8_counts 33 (o_il 5) 35 := k_il (by decide +kernel)
theorem k_X8_counts_35 : Okop i_X8_counts 35 (o_mul) 36 := k_mul (by decide +kernel)
theorem k_X8_counts_36 : Okop i_X8_counts 36 (o_ige 53) 39 := k_ige (off := 17) (by decide +kernel) (by decide)
theorem k_X8_counts_39 : Okop i_X8_counts 39 (o_al 0) 40 := k_aln (j := 0) (by decide +kernel)
theorem k_X8_counts_40 : Okop i_X8_counts 40 (o_gr 8 6) 43 := k_gr (idx := 30) fo_8 (by decide) (by decide) gw_666 (by decide +kernel)
theorem k_X8_counts_43 : Okop i_X8_counts 43 (o_il 6) 45 := k_il (by decide +kernel)
theorem k_X8_counts_45 : Okop i_X8_counts 45 (o_cl 0) 46 := k_lconst (n := 0) (by decide +kernel) rfl
theorem k_X8_counts_46 : Okop i_X8_counts 46 (o_last) 47 := k_last (by decide +kernel)
theorem k_X8_counts_47 : Okop i_X8_counts 47 (o_inc 6 1) 50 := k_inc (by decide +kernel) (by decide)
theorem k_X8_counts_50 : Okop i_X8_counts 50 (o_go 29) 53 := k_go (off := -21) (by decide +kernel) (by decide)
theorem k_X8_counts_53 : Okop i_X8_counts 53 (o_al 0) 54 := k_aln (j := 0) (by decide +kernel)
theorem k_X8_counts_54 : Okop i_X8_counts 54 (o_gr 8 6) 57 := k_gr (idx := 30) fo_8 (by decide) (by decide) gw_666 (by decide +kernel)
theorem k_X8_counts_57 : Okop i_X8_counts 57 (o_c 0) 58 := k_iconst (by decide +kernel)
theorem k_X8_counts_58 : Okop i_X8_counts 58 (o_cl 1) 59 := k_lconst (n := 1) (by decide +kernel) rfl
theorem k_X8_counts_59 : Okop i_X8_counts 59 (o_last) 60 := k_last (by decide +kernel)
theorem k_X8_counts_60 : Okop i_X8_counts 60 (o_c 0) 61 := k_iconst (by decide +kernel)
theorem k_X8_counts_61 : Okop i_X8_counts 61 (o_is 6) 63 := k_is (by decide +kernel) (by decide)
theorem k_X8_counts_63 : Okop i_X8_counts 63 (o_il 6) 65 := k_il (by decide +kernel)
theorem k_X8_counts_65 : Okop i_X8_counts 65 (o_c 12) 67 := k_bipush (by decide +kernel) rfl
theorem k_X8_counts_67 : Okop i_X8_counts 67 (o_ige 396) 70 := k_ige (off := 329) (by decide +kernel) (by decide)
theorem k_X8_counts_70 : Okop i_X8_counts 70 (o_al 0) 71 := k_aln (j := 0) (by decide +kernel)
theorem k_X8_counts_71 : Okop i_X8_counts 71 (o_il 1) 72 := k_iln (j := 1) (by decide +kernel)
theorem k_X8_counts_72 : Okop i_X8_counts 72 (o_il 6) 74 := k_il (by decide +kernel)
theorem k_X8_counts_74 : Okop i_X8_counts 74 (o_callV 8 2 T_X8_shareOf) 77 := k_callV (idx := 85) (r0 := (RX8, TX8, 14)) m_X8_shareOf ⟨gw_789, gw_10, ⟨by decide, by decide, by decide +kernel⟩, by decide, by decide⟩ rfl gw_786 gw_788 gs_16 (by decide +kernel)
theorem k_X8_counts_77 : Okop i_X8_counts 77 (o_is 7) 79 := k_is (by decide +kernel) (by decide)
theorem k_X8_counts_79 : Okop i_X8_counts 79 (o_il 3) 80 := k_iln (j := 3) (by decide +kernel)
theorem k_X8_counts_80 : Okop i_X8_counts 80 (o_eq0 93) 83 := k_eq0 (off := 13) (by decide +kernel) (by decide)
theorem k_X8_counts_83 : Okop i_X8_counts 83 (o_al 0) 84 := k_aln (j := 0) (by decide +kernel)
theorem k_X8_counts_84 : Okop i_X8_counts 84 (o_il 2) 85 := k_iln (j := 2) (by decide +kernel)
theorem k_X8_counts_85 : Okop i_X8_counts 85 (o_il 6) 87 := k_il (by decide +kernel)
theorem k_X8_counts_87 : Okop i_X8_counts 87 (o_callV 8 2 T_X8_shareOf) 90 := k_callV (idx := 85) (r0 := (RX8, TX8, 14)) m_X8_shareOf ⟨gw_789, gw_10, ⟨by decide, by decide, by decide +kernel⟩, by decide, by decide⟩ rfl gw_786 gw_788 gs_16 (by decide +kernel)
theorem k_X8_counts_90 : Okop i_X8_counts 90 (o_go 94) 93 := k_go (off := 4) (by decide +kernel) (by decide)
theorem k_X8_counts_93 : Okop i_X8_counts 93 (o_c 0) 94 := k_iconst (by decide +kernel)
theorem k_X8_counts_94 : Okop i_X8_counts 94 (o_is 8) 96 := k_is (by decide +kernel) (by decide)
theorem k_X8_counts_96 : Okop i_X8_counts 96 (o_al 0) 97 := k_aln (j := 0) (by decide +kernel)
theorem k_X8_counts_97 : Okop i_X8_counts 97 (o_gr 8 0) 100 := k_gr (idx := 7) fo_8 (by decide) (by decide) gw_660 (by decide +kernel)
theorem k_X8_counts_100 : Okop i_X8_counts 100 (o_c 0) 101 := k_iconst (by decide +kernel)
theorem k_X8_counts_101 : Okop i_X8_counts 101 (o_il 6) 103 := k_il (by decide +kernel)
theorem k_X8_counts_103 : Okop i_X8_counts 103 (o_add) 104 := k_add (by decide +kernel)
theorem k_X8_counts_104 : Okop i_X8_counts 104 (o_iald) 105 := k_iald (by decide +kernel)
theorem k_X8_counts_105 : Okop i_X8_counts 105 (o_ne0 390) 108 := k_ne0 (off := 285) (by decide +kernel) (by decide)
theorem k_X8_counts_108 : Okop i_X8_counts 108 (o_il 7) 110 := k_il (by decide +kernel)
theorem k_X8_counts_110 : Okop i_X8_counts 110 (o_ne0 121) 113 := k_ne0 (off := 11) (by decide +kernel) (by decide)
theorem k_X8_counts_113 : Okop i_X8_counts 113 (o_il 8) 115 := k_il (by decide +kernel)
theorem k_X8_counts_115 : Okop i_X8_counts 115 (o_ne0 121) 118 := k_ne0 (off := 6) (by decide +kernel) (by decide)
theorem k_X8_counts_118 : Okop i_X8_counts 118 (o_go 390) 121 := k_go (off := 272) (by decide +kernel) (by decide)
theorem k_X8_counts_121 : Okop i_X8_counts 121 (o_c 0) 122 := k_iconst (by decide +kernel)
theorem k_X8_counts_122 : Okop i_X8_counts 122 (o_is 9) 124 := k_is (by decide +kernel) (by decide)
theorem k_X8_counts_124 : Okop i_X8_counts 124 (o_il 9) 126 := k_il (by decide +kernel)
theorem k_X8_counts_126 : Okop i_X8_counts 126 (o_il 4) 128 := k_il (by decide +kernel)
theorem k_X8_counts_128 : Okop i_X8_counts 128 (o_il 5) 130 := k_il (by decide +kernel)
theorem k_X8_counts_130 : Okop i_X8_counts 130 (o_mul) 131 := k_mul (by decide +kernel)
theorem k_X8_counts_131 : Okop i_X8_counts 131 (o_ige 148) 134 := k_ige (off := 17) (by decide +kernel) (by decide)
theorem k_X8_counts_134 : Okop i_X8_counts 134 (o_al 0) 135 := k_aln (j := 0) (by decide +kernel)
theorem k_X8_counts_135 : Okop i_X8_counts 135 (o_gr 8 7) 138 := k_gr (idx := 34) fo_8 (by decide) (by decide) gw_667 (by decide +kernel)
theorem k_X8_counts_138 : Okop i_X8_counts 138 (o_il 9) 140 := k_il (by decide +kernel)
theorem k_X8_counts_140 : Okop i_X8_counts 140 (o_cl 0) 141 := k_lconst (n := 0) (by decide +kernel) rfl
theorem k_X8_counts_141 : Okop i_X8_counts 141 (o_last) 142 := k_last (by decide +kernel)
theorem k_X8_counts_142 : Okop i_X8_counts 142 (o_inc 9 1) 145 := k_inc (by decide +kernel) (by decide)
theorem k_X8_counts_145 : Okop i_X8_counts 145 (o_go 124) 148 := k_go (off := -21) (by decide +kernel) (by decide)
theorem k_X8_counts_148 : Okop i_X8_counts 148 (o_al 0) 149 := k_aln (j := 0) (by decide +kernel)
theorem k_X8_counts_149 : Okop i_X8_counts 149 (o_gr 8 0) 152 := k_gr (idx := 7) fo_8 (by decide) (by decide) gw_660 (by decide +kernel)
theorem k_X8_counts_152 : Okop i_X8_counts 152 (o_c 24) 154 := k_bipush (by decide +kernel) rfl
theorem k_X8_counts_154 : Okop i_X8_counts 154 (o_il 6) 156 := k_il (by decide +kernel)
theorem k_X8_counts_156 : Okop i_X8_counts 156 (o_add) 157 := k_add (by decide +kernel)
theorem k_X8_counts_157 : Okop i_X8_counts 157 (o_iald) 158 := k_iald (by decide +kernel)
theorem k_X8_counts_158 : Okop i_X8_counts 158 (o_is 9) 160 := k_is (by decide +kernel) (by decide)
theorem k_X8_counts_160 : Okop i_X8_counts 160 (o_il 9) 162 := k_il (by decide +kernel)
theorem k_X8_counts_162 : Okop i_X8_counts 162 (o_al 0) 163 := k_aln (j := 0) (by decide +kernel)
theorem k_X8_counts_163 : Okop i_X8_counts 163 (o_gr 8 0) 166 := k_gr (idx := 7) fo_8 (by decide) (by decide) gw_660 (by decide +kernel)
theorem k_X8_counts_166 : Okop i_X8_counts 166 (o_c 36) 168 := k_bipush (by decide +kernel) rfl
theorem k_X8_counts_168 : Okop i_X8_counts 168 (o_il 6) 170 := k_il (by decide +kernel)
theorem k_X8_counts_170 : Okop i_X8_counts 170 (o_add) 171 := k_add (by decide +kernel)
theorem k_X8_counts_171 : Okop i_X8_counts 171 (o_iald) 172 := k_iald (by decide +kernel)
theorem k_X8_counts_172 : Okop i_X8_counts 172 (o_igt 357) 175 := k_igt (off := 185) (by decide +kernel) (by decide)
theorem k_X8_counts_175 : Okop i_X8_counts 175 (o_il 7) 177 := k_il (by decide +kernel)
theorem k_X8_counts_177 : Okop i_X8_counts 177 (o_le0 199) 180 := k_le0 (off := 22) (by decide +kernel) (by decide)
theorem k_X8_counts_180 : Okop i_X8_counts 180 (o_il 7) 182 := k_il (by decide +kernel)
theorem k_X8_counts_182 : Okop i_X8_counts 182 (o_il 9) 184 := k_il (by decide +kernel)
theorem k_X8_counts_184 : Okop i_X8_counts 184 (o_al 0) 185 := k_aln (j := 0) (by decide +kernel)
theorem k_X8_counts_185 : Okop i_X8_counts 185 (o_gr 8 0) 188 := k_gr (idx := 7) fo_8 (by decide) (by decide) gw_660 (by decide +kernel)
theorem k_X8_counts_188 : Okop i_X8_counts 188 (o_c 24) 190 := k_bipush (by decide +kernel) rfl
theorem k_X8_counts_190 : Okop i_X8_counts 190 (o_il 6) 192 := k_il (by decide +kernel)
theorem k_X8_counts_192 : Okop i_X8_counts 192 (o_add) 193 := k_add (by decide +kernel)
theorem k_X8_counts_193 : Okop i_X8_counts 193 (o_iald) 194 := k_iald (by decide +kernel)
theorem k_X8_counts_194 : Okop i_X8_counts 194 (o_sub) 195 := k_sub (by decide +kernel)
theorem k_X8_counts_195 : Okop i_X8_counts 195 (o_mul) 196 := k_mul (by decide +kernel)
theorem k_X8_counts_196 : Okop i_X8_counts 196 (o_go 215) 199 := k_go (off := 19) (by decide +kernel) (by decide)
theorem k_X8_counts_199 : Okop i_X8_counts 199 (o_il 7) 201 := k_il (by decide +kernel)
theorem k_X8_counts_201 : Okop i_X8_counts 201 (o_il 9) 203 := k_il (by decide +kernel)
theorem k_X8_counts_203 : Okop i_X8_counts 203 (o_al 0) 204 := k_aln (j := 0) (by decide +kernel)
theorem k_X8_counts_204 : Okop i_X8_counts 204 (o_gr 8 0) 207 := k_gr (idx := 7) fo_8 (by decide) (by decide) gw_660 (by decide +kernel)
theorem k_X8_counts_207 : Okop i_X8_counts 207 (o_c 36) 209 := k_bipush (by decide +kernel) rfl
theorem k_X8_counts_209 : Okop i_X8_counts 209 (o_il 6) 211 := k_il (by decide +kernel)
theorem k_X8_counts_211 : Okop i_X8_counts 211 (o_add) 212 := k_add (by decide +kernel)
theorem k_X8_counts_212 : Okop i_X8_counts 212 (o_iald) 213 := k_iald (by decide +kernel)
theorem k_X8_counts_213 : Okop i_X8_counts 213 (o_sub) 214 := k_sub (by decide +kernel)
theorem k_X8_counts_214 : Okop i_X8_counts 214 (o_mul) 215 := k_mul (by decide +kernel)
theorem k_X8_counts_215 : Okop i_X8_counts 215 (o_is 10) 217 := k_is (by decide +kernel) (by decide)
theorem k_X8_counts_217 : Okop i_X8_counts 217 (o_il 8) 219 := k_il (by decide +kernel)
theorem k_X8_counts_219 : Okop i_X8_counts 219 (o_le0 241) 222 := k_le0 (off := 22) (by decide +kernel) (by decide)
theorem k_X8_counts_222 : Okop i_X8_counts 222 (o_il 8) 224 := k_il (by decide +kernel)
theorem k_X8_counts_224 : Okop i_X8_counts 224 (o_il 9) 226 := k_il (by decide +kernel)
theorem k_X8_counts_226 : Okop i_X8_counts 226 (o_al 0) 227 := k_aln (j := 0) (by decide +kernel)
theorem k_X8_counts_227 : Okop i_X8_counts 227 (o_gr 8 0) 230 := k_gr (idx := 7) fo_8 (by decide) (by decide) gw_660 (by decide +kernel)
theorem k_X8_counts_230 : Okop i_X8_counts 230 (o_c 24) 232 := k_bipush (by decide +kernel) rfl
theorem k_X8_counts_232 : Okop i_X8_counts 232 (o_il 6) 234 := k_il (by decide +kernel)
theorem k_X8_counts_234 : Okop i_X8_counts 234 (o_add) 235 := k_add (by decide +kernel)
theorem k_X8_counts_235 : Okop i_X8_counts 235 (o_iald) 236 := k_iald (by decide +kernel)
theorem k_X8_counts_236 : Okop i_X8_counts 236 (o_sub) 237 := k_sub (by decide +kernel)
theorem k_X8_counts_237 : Okop i_X8_counts 237 (o_mul) 238 := k_mul (by decide +kernel)
theorem k_X8_counts_238 : Okop i_X8_counts 238 (o_go 257) 241 := k_go (off := 19) (by decide +kernel) (by decide)
theorem k_X8_counts_241 : Okop i_X8_counts 241 (o_il 8) 243 := k_il (by decide +kernel)
theorem k_X8_counts_243 : Okop i_X8_counts 243 (o_il 9) 245 := k_il (by decide +kernel)
theorem k_X8_counts_245 : Okop i_X8_counts 245 (o_al 0) 246 := k_aln (j := 0) (by decide +kernel)
theorem k_X8_counts_246 : Okop i_X8_counts 246 (o_gr 8 0) 249 := k_gr (idx := 7) fo_8 (by decide) (by decide) gw_660 (by decide +kernel)
theorem k_X8_counts_249 : Okop i_X8_counts 249 (o_c 36) 251 := k_bipush (by decide +kernel) rfl
theorem k_X8_counts_251 : Okop i_X8_counts 251 (o_il 6) 253 := k_il (by decide +kernel)
theorem k_X8_counts_253 : Okop i_X8_counts 253 (o_add) 254 := k_add (by decide +kernel)
theorem k_X8_counts_254 : Okop i_X8_counts 254 (o_iald) 255 := k_iald (by decide +kernel)
theorem k_X8_counts_255 : Okop i_X8_counts 255 (o_sub) 256 := k_sub (by decide +kernel)
theorem k_X8_counts_256 : Okop i_X8_counts 256 (o_mul) 257 := k_mul (by decide +kernel)
theorem k_X8_counts_257 : Okop i_X8_counts 257 (o_is 11) 259 := k_is (by decide +kernel) (by decide)
theorem k_X8_counts_259 : Okop i_X8_counts 259 (o_al 0) 260 := k_aln (j := 0) (by decide +kernel)
theorem k_X8_counts_260 : Okop i_X8_counts 260 (o_il 6) 262 := k_il (by decide +kernel)
theorem k_X8_counts_262 : Okop i_X8_counts 262 (o_il 9) 264 := k_il (by decide +kernel)
theorem k_X8_counts_264 : Okop i_X8_counts 264 (o_callV 8 2 T_X8_many) 267 := k_callV (idx := 66) (r0 := (RX8, TX8, 14)) m_X8_many ⟨gw_732, gw_10, ⟨by decide, by decide, by decide +kernel⟩, by decide, by decide⟩ rfl gw_729 gw_731 gs_13 (by decide +kernel)
theorem k_X8_counts_267 : Okop i_X8_counts 267 (o_is 12) 269 := k_is (by decide +kernel) (by decide)
theorem k_X8_counts_269 : Okop i_X8_counts 269 (o_c 0) 270 := k_iconst (by decide +kernel)
theorem k_X8_counts_270 : Okop i_X8_counts 270 (o_is 13) 272 := k_is (by decide +kernel) (by decide)
theorem k_X8_counts_272 : Okop i_X8_counts 272 (o_il 13) 274 := k_il (by decide +kernel)
theorem k_X8_counts_274 : Okop i_X8_counts 274 (o_il 10) 276 := k_il (by decide +kernel)
theorem k_X8_counts_276 : Okop i_X8_counts 276 (o_add) 277 := k_add (by decide +kernel)
theorem k_X8_counts_277 : Okop i_X8_counts 277 (o_il 4) 279 := k_il (by decide +kernel)
theorem k_X8_counts_279 : Okop i_X8_counts 279 (o_ige 351) 282 := k_ige (off := 72) (by decide +kernel) (by decide)
theorem k_X8_counts_282 : Okop i_X8_counts 282 (o_il 12) 284 := k_il (by decide +kernel)
theorem k_X8_counts_284 : Okop i_X8_counts 284 (o_le0 351) 287 := k_le0 (off := 67) (by decide +kernel) (by decide)
theorem k_X8_counts_287 : Okop i_X8_counts 287 (o_c 0) 288 := k_iconst (by decide +kernel)
theorem k_X8_counts_288 : Okop i_X8_counts 288 (o_is 14) 290 := k_is (by decide +kernel) (by decide)
theorem k_X8_counts_290 : Okop i_X8_counts 290 (o_il 14) 292 := k_il (by decide +kernel)
theorem k_X8_counts_292 : Okop i_X8_counts 292 (o_il 11) 294 := k_il (by decide +kernel)
theorem k_X8_counts_294 : Okop i_X8_counts 294 (o_add) 295 := k_add (by decide +kernel)
theorem k_X8_counts_295 : Okop i_X8_counts 295 (o_il 5) 297 := k_il (by decide +kernel)
theorem k_X8_counts_297 : Okop i_X8_counts 297 (o_ige 345) 300 := k_ige (off := 48) (by decide +kernel) (by decide)
theorem k_X8_counts_300 : Okop i_X8_counts 300 (o_al 0) 301 := k_aln (j := 0) (by decide +kernel)
theorem k_X8_counts_301 : Okop i_X8_counts 301 (o_gr 8 7) 304 := k_gr (idx := 34) fo_8 (by decide) (by decide) gw_667 (by decide +kernel)
theorem k_X8_counts_304 : Okop i_X8_counts 304 (o_il 13) 306 := k_il (by decide +kernel)
theorem k_X8_counts_306 : Okop i_X8_counts 306 (o_il 10) 308 := k_il (by decide +kernel)
theorem k_X8_counts_308 : Okop i_X8_counts 308 (o_add) 309 := k_add (by decide +kernel)
theorem k_X8_counts_309 : Okop i_X8_counts 309 (o_il 5) 311 := k_il (by decide +kernel)
theorem k_X8_counts_311 : Okop i_X8_counts 311 (o_mul) 312 := k_mul (by decide +kernel)
theorem k_X8_counts_312 : Okop i_X8_counts 312 (o_il 14) 314 := k_il (by decide +kernel)
theorem k_X8_counts_314 : Okop i_X8_counts 314 (o_add) 315 := k_add (by decide +kernel)
theorem k_X8_counts_315 : Okop i_X8_counts 315 (o_il 11) 317 := k_il (by decide +kernel)
theorem k_X8_counts_317 : Okop i_X8_counts 317 (o_add) 318 := k_add (by decide +kernel)
theorem k_X8_counts_318 : Okop i_X8_counts 318 (o_dup2) 319 := k_dup2 (by decide +kernel)
theorem k_X8_counts_319 : Okop i_X8_counts 319 (o_lald) 320 := k_lald (by decide +kernel)
theorem k_X8_counts_320 : Okop i_X8_counts 320 (o_il 12) 322 := k_il (by decide +kernel)
theorem k_X8_counts_322 : Okop i_X8_counts 322 (o_i2l) 323 := k_i2l (by decide +kernel)
theorem k_X8_counts_323 : Okop i_X8_counts 323 (o_al 0) 324 := k_aln (j := 0) (by decide +kernel)
theorem k_X8_counts_324 : Okop i_X8_counts 324 (o_gr 8 6) 327 := k_gr (idx := 30) fo_8 (by decide) (by decide) gw_666 (by decide +kernel)
theorem k_X8_counts_327 : Okop i_X8_counts 327 (o_il 13) 329 := k_il (by decide +kernel)
theorem k_X8_counts_329 : Okop i_X8_counts 329 (o_il 5) 331 := k_il (by decide +kernel)
theorem k_X8_counts_331 : Okop i_X8_counts 331 (o_mul) 332 := k_mul (by decide +kernel)
theorem k_X8_counts_332 : Okop i_X8_counts 332 (o_il 14) 334 := k_il (by decide +kernel)
theorem k_X8_counts_334 : Okop i_X8_counts 334 (o_add) 335 := k_add (by decide +kernel)
theorem k_X8_counts_335 : Okop i_X8_counts 335 (o_lald) 336 := k_lald (by decide +kernel)
theorem k_X8_counts_336 : Okop i_X8_counts 336 (o_lmul) 337 := k_lmul (by decide +kernel)
theorem k_X8_counts_337 : Okop i_X8_counts 337 (o_ladd) 338 := k_ladd (by decide +kernel)
theorem k_X8_counts_338 : Okop i_X8_counts 338 (o_last) 339 := k_last (by decide +kernel)
theorem k_X8_counts_339 : Okop i_X8_counts 339 (o_inc 14 1) 342 := k_inc (by decide +kernel) (by decide)
theorem k_X8_counts_342 : Okop i_X8_counts 342 (o_go 290) 345 := k_go (off := -52) (by decide +kernel) (by decide)
theorem k_X8_counts_345 : Okop i_X8_counts 345 (o_inc 13 1) 348 := k_inc (by decide +kernel) (by decide)
theorem k_X8_counts_348 : Okop i_X8_counts 348 (o_go 272) 351 := k_go (off := -76) (by decide +kernel) (by decide)
theorem k_X8_counts_351 : Okop i_X8_counts 351 (o_inc 9 1) 354 := k_inc (by decide +kernel) (by decide)
theorem k_X8_counts_354 : Okop i_X8_counts 354 (o_go 160) 357 := k_go (off := -194) (by decide +kernel) (by decide)
theorem k_X8_counts_357 : Okop i_X8_counts 357 (o_c 0) 358 := k_iconst (by decide +kernel)
theorem k_X8_counts_358 : Okop i_X8_counts 358 (o_is 9) 360 := k_is (by decide +kernel) (by decide)
theorem k_X8_counts_360 : Okop i_X8_counts 360 (o_il 9) 362 := k_il (by decide +kernel)
theorem k_X8_counts_362 : Okop i_X8_counts 362 (o_il 4) 364 := k_il (by decide +kernel)
theorem k_X8_counts_364 : Okop i_X8_counts 364 (o_il 5) 366 := k_il (by decide +kernel)
theorem k_X8_counts_366 : Okop i_X8_counts 366 (o_mul) 367 := k_mul (by decide +kernel)
theorem k_X8_counts_367 : Okop i_X8_counts 367 (o_ige 390) 370 := k_ige (off := 23) (by decide +kernel) (by decide)
theorem k_X8_counts_370 : Okop i_X8_counts 370 (o_al 0) 371 := k_aln (j := 0) (by decide +kernel)
theorem k_X8_counts_371 : Okop i_X8_counts 371 (o_gr 8 6) 374 := k_gr (idx := 30) fo_8 (by decide) (by decide) gw_666 (by decide +kernel)
theorem k_X8_counts_374 : Okop i_X8_counts 374 (o_il 9) 376 := k_il (by decide +kernel)
theorem k_X8_counts_376 : Okop i_X8_counts 376 (o_al 0) 377 := k_aln (j := 0) (by decide +kernel)
theorem k_X8_counts_377 : Okop i_X8_counts 377 (o_gr 8 7) 380 := k_gr (idx := 34) fo_8 (by decide) (by decide) gw_667 (by decide +kernel)
theorem k_X8_counts_380 : Okop i_X8_counts 380 (o_il 9) 382 := k_il (by decide +kernel)
theorem k_X8_counts_382 : Okop i_X8_counts 382 (o_lald) 383 := k_lald (by decide +kernel)
theorem k_X8_counts_383 : Okop i_X8_counts 383 (o_last) 384 := k_last (by decide +kernel)
theorem k_X8_counts_384 : Okop i_X8_counts 384 (o_inc 9 1) 387 := k_inc (by decide +kernel) (by decide)
theorem k_X8_counts_387 : Okop i_X8_counts 387 (o_go 360) 390 := k_go (off := -27) (by decide +kernel) (by decide)
theorem k_X8_counts_390 : Okop i_X8_counts 390 (o_inc 6 1) 393 := k_inc (by decide +kernel) (by decide)
theorem k_X8_counts_393 : Okop i_X8_counts 393 (o_go 63) 396 := k_go (off := -330) (by decide +kernel) (by decide)
theorem k_X8_counts_396 : Okop i_X8_counts 396 (o_vret) 397 := k_vret (by decide +kernel) rfl
theorem s_X8_counts_0 : Seg i_X8_counts 0 [o_al 0, o_il 1, o_callV 8 1 T_X8_wide, o_c 1, o_add, o_is 4, o_il 3, o_eq0 23, o_al 0, o_il 2, o_callV 8 1 T_X8_wide, o_c 1, o_add, o_go 24] 23 := Seg.cons k_X8_counts_0 (Seg.cons k_X8_counts_1 (Seg.cons k_X8_counts_2 (Seg.cons k_X8_counts_5 (Seg.cons k_X8_counts_6 (Seg.cons k_X8_counts_7 (Seg.cons k_X8_counts_9 (Seg.cons k_X8_counts_10 (Seg.cons k_X8_counts_13 (Seg.cons k_X8_counts_14 (Seg.cons k_X8_counts_15 (Seg.cons k_X8_counts_18 (Seg.cons k_X8_counts_19 (Seg.cons k_X8_counts_20 (Seg.nil))))))))))))))
theorem s_X8_counts_23 : Seg i_X8_counts 23 [o_c 1, o_is 5, o_c 0, o_is 6] 29 := Seg.cons k_X8_counts_23 (Seg.cons k_X8_counts_24 (Seg.cons k_X8_counts_26 (Seg.cons k_X8_counts_27 (Seg.nil))))
theorem s_X8_counts_24 : Seg i_X8_counts 24 [o_is 5, o_c 0, o_is 6] 29 := Seg.cons k_X8_counts_24 (Seg.cons k_X8_counts_26 (Seg.cons k_X8_counts_27 (Seg.nil)))
theorem s_X8_counts_29 : Seg i_X8_counts 29 [o_il 6, o_il 4, o_il 5, o_mul, o_ige 53, o_al 0, o_gr 8 6, o_il 6, o_cl 0, o_last, o_inc 6 1, o_go 29] 53 := Seg.cons k_X8_counts_29 (Seg.cons k_X8_counts_31 (Seg.cons k_X8_counts_33 (Seg.cons k_X8_counts_35 (Seg.cons k_X8_counts_36 (Seg.cons k_X8_counts_39 (Seg.cons k_X8_counts_40 (Seg.cons k_X8_counts_43 (Seg.cons k_X8_counts_45 (Seg.cons k_X8_counts_46 (Seg.cons k_X8_counts_47 (Seg.cons k_X8_counts_50 (Seg.nil))))))))))))
theorem s_X8_counts_53 : Seg i_X8_counts 53 [o_al 0, o_gr 8 6, o_c 0, o_cl 1, o_last, o_c 0, o_is 6] 63 := Seg.cons k_X8_counts_53 (Seg.cons k_X8_counts_54 (Seg.cons k_X8_counts_57 (Seg.cons k_X8_counts_58 (Seg.cons k_X8_counts_59 (Seg.cons k_X8_counts_60 (Seg.cons k_X8_counts_61 (Seg.nil)))))))
theorem s_X8_counts_63 : Seg i_X8_counts 63 [o_il 6, o_c 12, o_ige 396, o_al 0, o_il 1, o_il 6, o_callV 8 2 T_X8_shareOf, o_is 7, o_il 3, o_eq0 93, o_al 0, o_il 2, o_il 6, o_callV 8 2 T_X8_shareOf, o_go 94] 93 := Seg.cons k_X8_counts_63 (Seg.cons k_X8_counts_65 (Seg.cons k_X8_counts_67 (Seg.cons k_X8_counts_70 (Seg.cons k_X8_counts_71 (Seg.cons k_X8_counts_72 (Seg.cons k_X8_counts_74 (Seg.cons k_X8_counts_77 (Seg.cons k_X8_counts_79 (Seg.cons k_X8_counts_80 (Seg.cons k_X8_counts_83 (Seg.cons k_X8_counts_84 (Seg.cons k_X8_counts_85 (Seg.cons k_X8_counts_87 (Seg.cons k_X8_counts_90 (Seg.nil)))))))))))))))
theorem s_X8_counts_93 : Seg i_X8_counts 93 [o_c 0, o_is 8, o_al 0, o_gr 8 0, o_c 0, o_il 6, o_add, o_iald, o_ne0 390, o_il 7, o_ne0 121, o_il 8, o_ne0 121, o_go 390] 121 := Seg.cons k_X8_counts_93 (Seg.cons k_X8_counts_94 (Seg.cons k_X8_counts_96 (Seg.cons k_X8_counts_97 (Seg.cons k_X8_counts_100 (Seg.cons k_X8_counts_101 (Seg.cons k_X8_counts_103 (Seg.cons k_X8_counts_104 (Seg.cons k_X8_counts_105 (Seg.cons k_X8_counts_108 (Seg.cons k_X8_counts_110 (Seg.cons k_X8_counts_113 (Seg.cons k_X8_counts_115 (Seg.cons k_X8_counts_118 (Seg.nil))))))))))))))
theorem s_X8_counts_94 : Seg i_X8_counts 94 [o_is 8, o_al 0, o_gr 8 0, o_c 0, o_il 6, o_add, o_iald, o_ne0 390, o_il 7, o_ne0 121, o_il 8, o_ne0 121, o_go 390] 121 := Seg.cons k_X8_counts_94 (Seg.cons k_X8_counts_96 (Seg.cons k_X8_counts_97 (Seg.cons k_X8_counts_100 (Seg.cons k_X8_counts_101 (Seg.cons k_X8_counts_103 (Seg.cons k_X8_counts_104 (Seg.cons k_X8_counts_105 (Seg.cons k_X8_counts_108 (Seg.cons k_X8_counts_110 (Seg.cons k_X8_counts_113 (Seg.cons k_X8_counts_115 (Seg.cons k_X8_counts_118 (Seg.nil)))))))))))))
theorem s_X8_counts_121 : Seg i_X8_counts 121 [o_c 0, o_is 9] 124 := Seg.cons k_X8_counts_121 (Seg.cons k_X8_counts_122 (Seg.nil))
theorem s_X8_counts_124 : Seg i_X8_counts 124 [o_il 9, o_il 4, o_il 5, o_mul, o_ige 148, o_al 0, o_gr 8 7, o_il 9, o_cl 0, o_last, o_inc 9 1, o_go 124] 148 := Seg.cons k_X8_counts_124 (Seg.cons k_X8_counts_126 (Seg.cons k_X8_counts_128 (Seg.cons k_X8_counts_130 (Seg.cons k_X8_counts_131 (Seg.cons k_X8_counts_134 (Seg.cons k_X8_counts_135 (Seg.cons k_X8_counts_138 (Seg.cons k_X8_counts_140 (Seg.cons k_X8_counts_141 (Seg.cons k_X8_counts_142 (Seg.cons k_X8_counts_145 (Seg.nil))))))))))))
theorem s_X8_counts_148 : Seg i_X8_counts 148 [o_al 0, o_gr 8 0, o_c 24, o_il 6, o_add, o_iald, o_is 9] 160 := Seg.cons k_X8_counts_148 (Seg.cons k_X8_counts_149 (Seg.cons k_X8_counts_152 (Seg.cons k_X8_counts_154 (Seg.cons k_X8_counts_156 (Seg.cons k_X8_counts_157 (Seg.cons k_X8_counts_158 (Seg.nil)))))))
theorem s_X8_counts_160 : Seg i_X8_counts 160 [o_il 9, o_al 0, o_gr 8 0, o_c 36, o_il 6, o_add, o_iald, o_igt 357, o_il 7, o_le0 199, o_il 7, o_il 9, o_al 0, o_gr 8 0, o_c 24, o_il 6, o_add, o_iald, o_sub, o_mul, o_go 215] 199 := Seg.cons k_X8_counts_160 (Seg.cons k_X8_counts_162 (Seg.cons k_X8_counts_163 (Seg.cons k_X8_counts_166 (Seg.cons k_X8_counts_168 (Seg.cons k_X8_counts_170 (Seg.cons k_X8_counts_171 (Seg.cons k_X8_counts_172 (Seg.cons k_X8_counts_175 (Seg.cons k_X8_counts_177 (Seg.cons k_X8_counts_180 (Seg.cons k_X8_counts_182 (Seg.cons k_X8_counts_184 (Seg.cons k_X8_counts_185 (Seg.cons k_X8_counts_188 (Seg.cons k_X8_counts_190 (Seg.cons k_X8_counts_192 (Seg.cons k_X8_counts_193 (Seg.cons k_X8_counts_194 (Seg.cons k_X8_counts_195 (Seg.cons k_X8_counts_196 (Seg.nil)))))))))))))))))))))
theorem s_X8_counts_199 : Seg i_X8_counts 199 [o_il 7, o_il 9, o_al 0, o_gr 8 0, o_c 36, o_il 6, o_add, o_iald, o_sub, o_mul, o_is 10, o_il 8, o_le0 241, o_il 8, o_il 9, o_al 0, o_gr 8 0, o_c 24, o_il 6, o_add, o_iald, o_sub, o_mul, o_go 257] 241 := Seg.cons k_X8_counts_199 (Seg.cons k_X8_counts_201 (Seg.cons k_X8_counts_203 (Seg.cons k_X8_counts_204 (Seg.cons k_X8_counts_207 (Seg.cons k_X8_counts_209 (Seg.cons k_X8_counts_211 (Seg.cons k_X8_counts_212 (Seg.cons k_X8_counts_213 (Seg.cons k_X8_counts_214 (Seg.cons k_X8_counts_215 (Seg.cons k_X8_counts_217 (Seg.cons k_X8_counts_219 (Seg.cons k_X8_counts_222 (Seg.cons k_X8_counts_224 (Seg.cons k_X8_counts_226 (Seg.cons k_X8_counts_227 (Seg.cons k_X8_counts_230 (Seg.cons k_X8_counts_232 (Seg.cons k_X8_counts_234 (Seg.cons k_X8_counts_235 (Seg.cons k_X8_counts_236 (Seg.cons k_X8_counts_237 (Seg.cons k_X8_counts_238 (Seg.nil))))))))))))))))))))))))
theorem s_X8_counts_215 : Seg i_X8_counts 215 [o_is 10, o_il 8, o_le0 241, o_il 8, o_il 9, o_al 0, o_gr 8 0, o_c 24, o_il 6, o_add, o_iald, o_sub, o_mul, o_go 257] 241 := Seg.cons k_X8_counts_215 (Seg.cons k_X8_counts_217 (Seg.cons k_X8_counts_219 (Seg.cons k_X8_counts_222 (Seg.cons k_X8_counts_224 (Seg.cons k_X8_counts_226 (Seg.cons k_X8_counts_227 (Seg.cons k_X8_counts_230 (Seg.cons k_X8_counts_232 (Seg.cons k_X8_counts_234 (Seg.cons k_X8_counts_235 (Seg.cons k_X8_counts_236 (Seg.cons k_X8_counts_237 (Seg.cons k_X8_counts_238 (Seg.nil))))))))))))))
theorem s_X8_counts_241 : Seg i_X8_counts 241 [o_il 8, o_il 9, o_al 0, o_gr 8 0, o_c 36, o_il 6, o_add, o_iald, o_sub, o_mul, o_is 11, o_al 0, o_il 6, o_il 9, o_callV 8 2 T_X8_many, o_is 12, o_c 0, o_is 13] 272 := Seg.cons k_X8_counts_241 (Seg.cons k_X8_counts_243 (Seg.cons k_X8_counts_245 (Seg.cons k_X8_counts_246 (Seg.cons k_X8_counts_249 (Seg.cons k_X8_counts_251 (Seg.cons k_X8_counts_253 (Seg.cons k_X8_counts_254 (Seg.cons k_X8_counts_255 (Seg.cons k_X8_counts_256 (Seg.cons k_X8_counts_257 (Seg.cons k_X8_counts_259 (Seg.cons k_X8_counts_260 (Seg.cons k_X8_counts_262 (Seg.cons k_X8_counts_264 (Seg.cons k_X8_counts_267 (Seg.cons k_X8_counts_269 (Seg.cons k_X8_counts_270 (Seg.nil))))))))))))))))))
theorem s_X8_counts_257 : Seg i_X8_counts 257 [o_is 11, o_al 0, o_il 6, o_il 9, o_callV 8 2 T_X8_many, o_is 12, o_c 0, o_is 13] 272 := Seg.cons k_X8_counts_257 (Seg.cons k_X8_counts_259 (Seg.cons k_X8_counts_260 (Seg.cons k_X8_counts_262 (Seg.cons k_X8_counts_264 (Seg.cons k_X8_counts_267 (Seg.cons k_X8_counts_269 (Seg.cons k_X8_counts_270 (Seg.nil))))))))
theorem s_X8_counts_272 : Seg i_X8_counts 272 [o_il 13, o_il 10, o_add, o_il 4, o_ige 351, o_il 12, o_le0 351, o_c 0, o_is 14] 290 := Seg.cons k_X8_counts_272 (Seg.cons k_X8_counts_274 (Seg.cons k_X8_counts_276 (Seg.cons k_X8_counts_277 (Seg.cons k_X8_counts_279 (Seg.cons k_X8_counts_282 (Seg.cons k_X8_counts_284 (Seg.cons k_X8_counts_287 (Seg.cons k_X8_counts_288 (Seg.nil)))))))))
theorem s_X8_counts_290 : Seg i_X8_counts 290 [o_il 14, o_il 11, o_add, o_il 5, o_ige 345, o_al 0, o_gr 8 7, o_il 13, o_il 10, o_add, o_il 5, o_mul, o_il 14, o_add, o_il 11, o_add, o_dup2, o_lald, o_il 12, o_i2l, o_al 0, o_gr 8 6, o_il 13, o_il 5, o_mul, o_il 14, o_add, o_lald, o_lmul, o_ladd, o_last, o_inc 14 1, o_go 290] 345 := Seg.cons k_X8_counts_290 (Seg.cons k_X8_counts_292 (Seg.cons k_X8_counts_294 (Seg.cons k_X8_counts_295 (Seg.cons k_X8_counts_297 (Seg.cons k_X8_counts_300 (Seg.cons k_X8_counts_301 (Seg.cons k_X8_counts_304 (Seg.cons k_X8_counts_306 (Seg.cons k_X8_counts_308 (Seg.cons k_X8_counts_309 (Seg.cons k_X8_counts_311 (Seg.cons k_X8_counts_312 (Seg.cons k_X8_counts_314 (Seg.cons k_X8_counts_315 (Seg.cons k_X8_counts_317 (Seg.cons k_X8_counts_318 (Seg.cons k_X8_counts_319 (Seg.cons k_X8_counts_320 (Seg.cons k_X8_counts_322 (Seg.cons k_X8_counts_323 (Seg.cons k_X8_counts_324 (Seg.cons k_X8_counts_327 (Seg.cons k_X8_counts_329 (Seg.cons k_X8_counts_331 (Seg.cons k_X8_counts_332 (Seg.cons k_X8_counts_334 (Seg.cons k_X8_counts_335 (Seg.cons k_X8_counts_336 (Seg.cons k_X8_counts_337 (Seg.cons k_X8_counts_338 (Seg.cons k_X8_counts_339 (Seg.cons k_X8_counts_342 (Seg.nil)))))))))))))))))))))))))))))))))
theorem s_X8_counts_345 : Seg i_X8_counts 345 [o_inc 13 1, o_go 272] 351 := Seg.cons k_X8_counts_345 (Seg.cons k_X8_counts_348 (Seg.nil))
theorem s_X8_counts_351 : Seg i_X8_counts 351 [o_inc 9 1, o_go 160] 357 := Seg.cons k_X8_counts_351 (Seg.cons k_X8_counts_354 (Seg.nil))
theorem s_X8_counts_357 : Seg i_X8_counts 357 [o_c 0, o_is 9] 360 := Seg.cons k_X8_counts_357 (Seg.cons k_X8_counts_358 (Seg.nil))
theorem s_X8_counts_360 : Seg i_X8_counts 360 [o_il 9, o_il 4, o_il 5, o_mul, o_ige 390, o_al 0, o_gr 8 6, o_il 9, o_al 0, o_gr 8 7, o_il 9, o_lald, o_last, o_inc 9 1, o_go 360] 390 := Seg.cons k_X8_counts_360 (Seg.cons k_X8_counts_362 (Seg.cons k_X8_counts_364 (Seg.cons k_X8_counts_366 (Seg.cons k_X8_counts_367 (Seg.cons k_X8_counts_370 (Seg.cons k_X8_counts_371 (Seg.cons k_X8_counts_374 (Seg.cons k_X8_counts_376 (Seg.cons k_X8_counts_377 (Seg.cons k_X8_counts_380 (Seg.cons k_X8_counts_382 (Seg.cons k_X8_counts_383 (Seg.cons k_X8_counts_384 (Seg.cons k_X8_counts_387 (Seg.nil)))))))))))))))
theorem s_X8_counts_390 : Seg i_X8_counts 390 [o_inc 6 1, o_go 63] 396 := Seg.cons k_X8_counts_390 (Seg.cons k_X8_counts_393 (Seg.nil))
theorem s_X8_counts_396 : Seg i_X8_counts 396 [o_vret] 397 := Seg.cons k_X8_counts_396 (Seg.nil)

theorem s_X8_counts_199' : Seg i_X8_counts 199 [o_il 7, o_il 9, o_al 0, o_gr 8 0, o_c 36, o_il 6, o_add, o_iald, o_sub, o_mul] 215 := Seg.cons k_X8_counts_199 (Seg.cons k_X8_counts_201 (Seg.cons k_X8_counts_203 (Seg.cons k_X8_counts_204 (Seg.cons k_X8_counts_207 (Seg.cons k_X8_counts_209 (Seg.cons k_X8_counts_211 (Seg.cons k_X8_counts_212 (Seg.cons k_X8_counts_213 (Seg.cons k_X8_counts_214 (Seg.nil))))))))))
theorem s_X8_counts_241' : Seg i_X8_counts 241 [o_il 8, o_il 9, o_al 0, o_gr 8 0, o_c 36, o_il 6, o_add, o_iald, o_sub, o_mul] 257 := Seg.cons k_X8_counts_241 (Seg.cons k_X8_counts_243 (Seg.cons k_X8_counts_245 (Seg.cons k_X8_counts_246 (Seg.cons k_X8_counts_249 (Seg.cons k_X8_counts_251 (Seg.cons k_X8_counts_253 (Seg.cons k_X8_counts_254 (Seg.cons k_X8_counts_255 (Seg.cons k_X8_counts_256 (Seg.nil))))))))))
theorem s_X8_counts_23' : Seg i_X8_counts 23 [o_c 1] 24 := Seg.cons k_X8_counts_23 Seg.nil
theorem s_X8_counts_93' : Seg i_X8_counts 93 [o_c 0] 94 := Seg.cons k_X8_counts_93 Seg.nil
theorem m_X8_counts : Mth yX8_counts cX8_counts 15 none 6 (Sp0 T_X8_counts) := by
  refine Mth.of (by decide) ?_
  rintro x as h ok ⟨y, c, e, two, rfl, hM, hI, hc, he, htwo, hcp, hcell, hK⟩
  refine ⟨Nat.le_of_ble_eq_true rfl, ?_⟩
  have hM2 : ∀ u v : Nat → Int, Mo (cH h y u v) y := fun _ _ => hM
  have hself : cH h y (qj h (y + 7)) (qj h (y + 8)) = h := by unfold cH; rw [wj_self, wj_self]
  have hD2 : ∀ u v : Nat → Int, qi (cH h y u v) (y + 1) = qi h (y + 1) := fun _ _ => rfl
  generalize hD : qi h (y + 1) = D at *
  have hI2 : ∀ u v : Nat → Int, Inv (qi (cH h y u v) (y + 1)) := fun u v => by rw [hD2]; exact hI
  have hs := (hI.2.1 c hc).1
  have ht : ∀ m, m < 12 → -3 ≤ tw D e two m ∧ tw D e two m ≤ 3 := fun m hm => by
    unfold tw
    split
    · exact (hI.2.1 e he).1 m hm
    · show (-3 : Int) ≤ 0 ∧ (0 : Int) ≤ 3
      omega
  have hw1 := wdG_rg hI.1 hs
  have hw2 := wdG_rg hI.1 ht
  have hcells := lyN_cells hI.1 hs ht
  have hcol0 := lyR_col (s := dsh D c) (t := tw D e two) (cols := (wdG D (tw D e two)).toNat + 1) hI.1 (by
    show wdG D (tw D e two) < _
    omega)
  obtain ⟨W2, hW2⟩ : ∃ W : Nat, wdG D (tw D e two) = (W : Int) := ⟨(wdG D (tw D e two)).toNat, by omega⟩
  obtain ⟨W1, hW1⟩ : ∃ W : Nat, wdG D (dsh D c) = (W : Int) := ⟨(wdG D (dsh D c)).toNat, by omega⟩
  have hwp12 : wp D (tw D e two) 12 = (W2 : Int) := hW2
  rw [hW1, hW2, Int.toNat_natCast, Int.toNat_natCast] at hcell hK hcells
  rw [hW2, Int.toNat_natCast] at hcol0
  rw [hW1] at hw1
  rw [hW2] at hw2
  obtain ⟨R, hR⟩ : ∃ R, R = W1 + 1 := ⟨_, rfl⟩
  obtain ⟨Q, hQ⟩ : ∃ Q, Q = W2 + 1 := ⟨_, rfl⟩
  rw [← hR, ← hQ] at hcell hK hcells
  rw [← hQ] at hcol0
  obtain ⟨N, hN⟩ : ∃ N, N = R * Q := ⟨_, rfl⟩
  rw [← hN] at hcell hK hcells
  have hRN : R ≤ N := by rw [hN]; exact Nat.le_mul_of_pos_right R (by omega)
  have hQN : Q ≤ N := by rw [hN]; exact Nat.le_mul_of_pos_left Q (by omega)
  have hcpj : ∀ j, j ≤ 12 → cpt D (dsh D c) (tw D e two) j ≤ 1000000000000 := fun j hj => by
    refine Classical.byContradiction (fun q => ?_)
    have := cpt_stay (d := D) (s := dsh D c) (t := tw D e two) (n := j) (by omega) (12 - j)
    rw [show j + (12 - j) = 12 by omega] at this
    omega
  have hnn := lyR_nn (d := D) (dsh D c) (tw D e two) Q hI.1
  have hle : ∀ j, j ≤ 12 → ∀ k, k < N → lyR D (dsh D c) (tw D e two) Q j k ≤ 1000000000000 := fun j hj k hk => by
    have h1 := lyR_sum (d := D) (s := dsh D c) (t := tw D e two) (cols := Q) (N := N) hcells j hj (hcpj j hj)
    have h2 := sg_pt (f := lyR D (dsh D c) (tw D e two) Q j) (n := N) (fun k _ => hnn j hj k) k hk
    have := hcpj j hj
    omega
  clear hcp hcells
  have main : ∀ m, m ≤ 12 → ∀ u v : Nat → Int, (∀ k, k < N → u k = lyR D (dsh D c) (tw D e two) Q m k) → ∀ v7 v8 v9 v10 v11 v12 v13 v14, V i_X8_counts x 63 [some (vr (some y)), some (vi c), some (vi e), some (vi two), some (vi R), some (vi Q), some (vi m), v7, v8, v9, v10, v11, v12, v13, v14] [] (cH h y u v) (0, 0) := by
    refine bwd _ ?_ ?_
    · intro u v hu v7 v8 v9 v10 v11 v12 v13 v14
      have hk := hK u v hu
      refine s_X8_counts_63 x ok _ _ _ _ ?_
      simp only [wpS, o_c, o_cl, o_il, o_ll, o_al, o_is, o_ls, o_as, o_inc, o_add, o_sub, o_mul, o_and, o_or, o_xor, o_shl, o_shr, o_div, o_neg, o_ladd, o_lsub, o_lmul, o_ldiv, o_lrem, o_lneg, o_lcmp, o_i2l, o_l2i, o_dup, o_dup2, o_pop, o_go, o_nn, o_sw, swc, o_iret, o_zret, o_lret, o_vret, o_ieq, o_eq0, o_ine, o_ne0, o_ilt, o_lt0, o_ige, o_ge0, o_igt, o_gt0, o_ile, o_le0, o_iald, o_zald, o_lald, o_aald, o_iast, o_zast, o_last, o_aast, o_alen, o_gi, o_gr, o_pi, o_pz, o_pr, o_new, o_newa, o_copy, o_oinit, o_call, o_callV, o_callVc, o_callI, popn, cnO, o_BAD, lgt, lst, isL, kil, st1, st2, entL, List.length_nil, List.length_cons, List.replicate, Nat.reduceAdd, Nat.reduceLeDiff, Nat.reduceSub, true_and, and_true, Nat.zero_le, ne_eq, qk_wi, ql_wi, qr_wi, qj_wi, qt_wi, qk_wj, ql_wj, qr_wj, qi_wj, qt_wj, qk_wr, ql_wr, qi_wr, qj_wr, qt_wr, qi_ws, qj_ws, qr_ws, Int.toNat_natCast, Int.toNat_zero, Int.reduceToNat, not_true_eq_false, not_false_eq_true, false_implies, implies_true, Option.some.injEq, reduceCtorEq, Sp0, true_or, or_true, or_self, wi_wi, wj_wj, hM.k]
      repeat' (first | (with_reducible refine And.intro ?_ ?_) | (with_reducible intro))
      all_goals (try (first | with_reducible assumption | omega | (unfold inI; omega) | (unfold inL; omega) | exact cz_in _ _))
      all_goals (try (exfalso; omega))
      refine s_X8_counts_396 x ok _ _ _ _ ?_
      simp only [wpS, o_c, o_cl, o_il, o_ll, o_al, o_is, o_ls, o_as, o_inc, o_add, o_sub, o_mul, o_and, o_or, o_xor, o_shl, o_shr, o_div, o_neg, o_ladd, o_lsub, o_lmul, o_ldiv, o_lrem, o_lneg, o_lcmp, o_i2l, o_l2i, o_dup, o_dup2, o_pop, o_go, o_nn, o_sw, swc, o_iret, o_zret, o_lret, o_vret, o_ieq, o_eq0, o_ine, o_ne0, o_ilt, o_lt0, o_ige, o_ge0, o_igt, o_gt0, o_ile, o_le0, o_iald, o_zald, o_lald, o_aald, o_iast, o_zast, o_last, o_aast, o_alen, o_gi, o_gr, o_pi, o_pz, o_pr, o_new, o_newa, o_copy, o_oinit, o_call, o_callV, o_callVc, o_callI, popn, cnO, o_BAD, lgt, lst, isL, kil, st1, st2, entL, List.length_nil, List.length_cons, List.replicate, Nat.reduceAdd, Nat.reduceLeDiff, Nat.reduceSub, true_and, and_true, Nat.zero_le, ne_eq, qk_wi, ql_wi, qr_wi, qj_wi, qt_wi, qk_wj, ql_wj, qr_wj, qi_wj, qt_wj, qk_wr, ql_wr, qi_wr, qj_wr, qt_wr, qi_ws, qj_ws, qr_ws, Int.toNat_natCast, Int.toNat_zero, Int.reduceToNat, not_true_eq_false, not_false_eq_true, false_implies, implies_true, Option.some.injEq, reduceCtorEq, Sp0, true_or, or_true, or_self, wi_wi, wj_wj, hM.k]
      repeat' (first | (with_reducible refine And.intro ?_ ?_) | (with_reducible intro))
      all_goals (try (first | with_reducible assumption | omega | (unfold inI; omega) | (unfold inL; omega) | exact cz_in _ _))
      all_goals (first | exact hk | skip)
    · intro m hm ih u v hu v7 v8 v9 v10 v11 v12 v13 v14
      have hIm := hI.1 m hm
      have hb := hIm.b
      have ha := hIm.a
      have hkd := hIm.k
      have hrg := hIm.rg
      have hsm := hs m hm
      have htm := ht m hm
      have e0 : D m = dk D m := rfl
      have e24 : D (24 + m) = db D m := rfl
      have e36 : D (36 + m) = da D m := rfl
      have hcol := hcol0 m (by omega)
      have hum : ∀ k, k < N → 0 ≤ u k ∧ u k ≤ 1000000000000 := fun k hk => by rw [hu k hk]; exact ⟨hnn m (by omega) k, hle m (by omega) k hk⟩
      have skip : ¬ (dk D m = 0 ∧ (dsh D c m ≠ 0 ∨ tw D e two m ≠ 0)) → ∀ v7 v8 v9 v10 v11 v12 v13 v14, V i_X8_counts x 390 [some (vr (some y)), some (vi c), some (vi e), some (vi two), some (vi R), some (vi Q), some (vi m), v7, v8, v9, v10, v11, v12, v13, v14] [] (cH h y u v) (0, 0) := by
        intro n v7 v8 v9 v10 v11 v12 v13 v14
        have := ih u v (fun k hk => by
          have el : lyR D (dsh D c) (tw D e two) Q (m + 1) k = lyR D (dsh D c) (tw D e two) Q m k := if_neg n
          rw [el]; exact hu k hk)
        refine s_X8_counts_390 x ok _ _ _ _ ?_
        simp only [wpS, o_c, o_cl, o_il, o_ll, o_al, o_is, o_ls, o_as, o_inc, o_add, o_sub, o_mul, o_and, o_or, o_xor, o_shl, o_shr, o_div, o_neg, o_ladd, o_lsub, o_lmul, o_ldiv, o_lrem, o_lneg, o_lcmp, o_i2l, o_l2i, o_dup, o_dup2, o_pop, o_go, o_nn, o_sw, swc, o_iret, o_zret, o_lret, o_vret, o_ieq, o_eq0, o_ine, o_ne0, o_ilt, o_lt0, o_ige, o_ge0, o_igt, o_gt0, o_ile, o_le0, o_iald, o_zald, o_lald, o_aald, o_iast, o_zast, o_last, o_aast, o_alen, o_gi, o_gr, o_pi, o_pz, o_pr, o_new, o_newa, o_copy, o_oinit, o_call, o_callV, o_callVc, o_callI, popn, cnO, o_BAD, lgt, lst, isL, kil, st1, st2, entL, List.length_nil, List.length_cons, List.replicate, Nat.reduceAdd, Nat.reduceLeDiff, Nat.reduceSub, true_and, and_true, Nat.zero_le, ne_eq, qk_wi, ql_wi, qr_wi, qj_wi, qt_wi, qk_wj, ql_wj, qr_wj, qi_wj, qt_wj, qk_wr, ql_wr, qi_wr, qj_wr, qt_wr, qi_ws, qj_ws, qr_ws, Int.toNat_natCast, Int.toNat_zero, Int.reduceToNat, not_true_eq_false, not_false_eq_true, false_implies, implies_true, Option.some.injEq, reduceCtorEq, Sp0, true_or, or_true, or_self, wi_wi, wj_wj, hM.k]
        repeat' (first | (with_reducible refine And.intro ?_ ?_) | (with_reducible intro))
        all_goals (try (first | with_reducible assumption | omega | (unfold inI; omega) | (unfold inL; omega) | exact cz_in _ _))
        exact this _ _ _ _ _ _ _ _
      have work : (dk D m = 0 ∧ (dsh D c m ≠ 0 ∨ tw D e two m ≠ 0)) → ∀ v9 v10 v11 v12 v13 v14, V i_X8_counts x 121 [some (vr (some y)), some (vi c), some (vi e), some (vi two), some (vi R), some (vi Q), some (vi m), some (vi (dsh D c m)), some (vi (tw D e two m)), v9, v10, v11, v12, v13, v14] [] (cH h y u v) (0, 0) := by
        intro hcond
        have hNc : (R : Int) * (Q : Int) = (N : Int) := by rw [hN]; exact ixmul R Q
        have hl1 : ∀ k, lyR D (dsh D c) (tw D e two) Q (m + 1) k = cvl D m Q (dsh D c m) (tw D e two m) (lyR D (dsh D c) (tw D e two) Q m) k := fun k => if_pos hcond
        obtain ⟨P, hP⟩ : ∃ P : Nat → Nat → Int, P = fun (j k : Nat) => sg (fun i => mny D m (db D m + i) * gz (lyR D (dsh D c) (tw D e two) Q m) ((k : Int) - mvf D m Q (dsh D c m) (tw D e two m) i)) j := ⟨_, rfl⟩
        have hPs : ∀ j k, P (j + 1) k = P j k + mny D m (db D m + j) * gz (lyR D (dsh D c) (tw D e two) Q m) ((k : Int) - mvf D m Q (dsh D c m) (tw D e two m) j) := fun j k => by rw [hP]; rfl
        have hP0 : ∀ k, P 0 k = 0 := fun k => by rw [hP]; rfl
        have hPe : ∀ k, P (rng D m + 1) k = lyR D (dsh D c) (tw D e two) Q (m + 1) k := fun k => by rw [hP, hl1 k]; rfl
        have hgn : ∀ (k i : Nat), 0 ≤ gz (lyR D (dsh D c) (tw D e two) Q m) ((k : Int) - mvf D m Q (dsh D c m) (tw D e two m) i) := fun k i => by
          unfold gz
          split
          · omega
          · exact hnn m (by omega) _
        have hPr : ∀ j, j ≤ rng D m + 1 → ∀ k, k < N → 0 ≤ P j k ∧ P j k ≤ 1000000000000 := fun j hj k hk => by
          have hterm : ∀ i, i < rng D m + 1 → 0 ≤ mny D m (db D m + i) * gz (lyR D (dsh D c) (tw D e two) Q m) ((k : Int) - mvf D m Q (dsh D c m) (tw D e two m) i) := fun i hi => Int.mul_nonneg (mny_nn hIm (by omega)) (hgn k i)
          have h1 := sg_mono hterm hj (Nat.le_refl _)
          have h2 := sg_nn (f := fun i => mny D m (db D m + i) * gz (lyR D (dsh D c) (tw D e two) Q m) ((k : Int) - mvf D m Q (dsh D c m) (tw D e two m) i)) (n := j) (fun i hi => hterm i (by omega))
          have h3 := hle (m + 1) (by omega) k hk
          rw [← hPe k, hP] at h3
          rw [hP]
          exact ⟨h2, Int.le_trans h1 h3⟩
        clear hP
        have copy : ∀ i, i ≤ N → ∀ (u v : Nat → Int) v10 v11 v12 v13 v14, (∀ k, k < N → v k = lyR D (dsh D c) (tw D e two) Q (m + 1) k) → (∀ k, k < i → u k = v k) → V i_X8_counts x 360 [some (vr (some y)), some (vi c), some (vi e), some (vi two), some (vi R), some (vi Q), some (vi m), some (vi (dsh D c m)), some (vi (tw D e two m)), some (vi i), v10, v11, v12, v13, v14] [] (cH h y u v) (0, 0) := by
          refine bwd _ ?_ ?_
          · intro u v v10 v11 v12 v13 v14 hv hc2
            have := ih u v (fun k hk => by rw [hc2 k hk]; exact hv k hk)
            refine s_X8_counts_360 x ok _ _ _ _ ?_
            simp only [wpS, o_c, o_cl, o_il, o_ll, o_al, o_is, o_ls, o_as, o_inc, o_add, o_sub, o_mul, o_and, o_or, o_xor, o_shl, o_shr, o_div, o_neg, o_ladd, o_lsub, o_lmul, o_ldiv, o_lrem, o_lneg, o_lcmp, o_i2l, o_l2i, o_dup, o_dup2, o_pop, o_go, o_nn, o_sw, swc, o_iret, o_zret, o_lret, o_vret, o_ieq, o_eq0, o_ine, o_ne0, o_ilt, o_lt0, o_ige, o_ge0, o_igt, o_gt0, o_ile, o_le0, o_iald, o_zald, o_lald, o_aald, o_iast, o_zast, o_last, o_aast, o_alen, o_gi, o_gr, o_pi, o_pz, o_pr, o_new, o_newa, o_copy, o_oinit, o_call, o_callV, o_callVc, o_callI, popn, cnO, o_BAD, lgt, lst, isL, kil, st1, st2, entL, List.length_nil, List.length_cons, List.replicate, Nat.reduceAdd, Nat.reduceLeDiff, Nat.reduceSub, true_and, and_true, Nat.zero_le, ne_eq, qk_wi, ql_wi, qr_wi, qj_wi, qt_wi, qk_wj, ql_wj, qr_wj, qi_wj, qt_wj, qk_wr, ql_wr, qi_wr, qj_wr, qt_wr, qi_ws, qj_ws, qr_ws, Int.toNat_natCast, Int.toNat_zero, Int.reduceToNat, not_true_eq_false, not_false_eq_true, false_implies, implies_true, Option.some.injEq, reduceCtorEq, Sp0, true_or, or_true, or_self, wi_wi, wj_wj, hM.k, hM.r0, hM.k1, hM.l1, ix0, ix12, ix24, ix36, ix48, ix60, ix1032, ix1044, ix1092, ix1140, ix1188, ix1200, ix1212, ix1284, ix1290, ix1296, ix1298, ix1322, ix1346, ix1358, ixm4, ixm12, ixm24, ixm81, ixm1382, ixadd, Nat.zero_add, cH_k, cH_l, cH_r, cH_i, cH_7, cH_8, cW_7, cW_8, hM.r6, hM.k7, hM.l7, hM.r7, hM.k8, hM.l8, hD, e24, e36, hNc]
            repeat' (first | (with_reducible refine And.intro ?_ ?_) | (with_reducible intro))
            all_goals (try (first | with_reducible assumption | omega | (unfold inI; omega) | (unfold inL; omega) | exact cz_in _ _))
            all_goals (try (exfalso; omega))
            refine s_X8_counts_390 x ok _ _ _ _ ?_
            simp only [wpS, o_c, o_cl, o_il, o_ll, o_al, o_is, o_ls, o_as, o_inc, o_add, o_sub, o_mul, o_and, o_or, o_xor, o_shl, o_shr, o_div, o_neg, o_ladd, o_lsub, o_lmul, o_ldiv, o_lrem, o_lneg, o_lcmp, o_i2l, o_l2i, o_dup, o_dup2, o_pop, o_go, o_nn, o_sw, swc, o_iret, o_zret, o_lret, o_vret, o_ieq, o_eq0, o_ine, o_ne0, o_ilt, o_lt0, o_ige, o_ge0, o_igt, o_gt0, o_ile, o_le0, o_iald, o_zald, o_lald, o_aald, o_iast, o_zast, o_last, o_aast, o_alen, o_gi, o_gr, o_pi, o_pz, o_pr, o_new, o_newa, o_copy, o_oinit, o_call, o_callV, o_callVc, o_callI, popn, cnO, o_BAD, lgt, lst, isL, kil, st1, st2, entL, List.length_nil, List.length_cons, List.replicate, Nat.reduceAdd, Nat.reduceLeDiff, Nat.reduceSub, true_and, and_true, Nat.zero_le, ne_eq, qk_wi, ql_wi, qr_wi, qj_wi, qt_wi, qk_wj, ql_wj, qr_wj, qi_wj, qt_wj, qk_wr, ql_wr, qi_wr, qj_wr, qt_wr, qi_ws, qj_ws, qr_ws, Int.toNat_natCast, Int.toNat_zero, Int.reduceToNat, not_true_eq_false, not_false_eq_true, false_implies, implies_true, Option.some.injEq, reduceCtorEq, Sp0, true_or, or_true, or_self, wi_wi, wj_wj, hM.k]
            repeat' (first | (with_reducible refine And.intro ?_ ?_) | (with_reducible intro))
            all_goals (try (first | with_reducible assumption | omega | (unfold inI; omega) | (unfold inL; omega) | exact cz_in _ _))
            exact this _ _ _ _ _ _ _ _
          · intro i hi ih2 u v v10 v11 v12 v13 v14 hv hc2
            have hvi : 0 ≤ v i ∧ v i ≤ 1000000000000 := by rw [hv i hi]; exact ⟨hnn _ (by omega) _, hle _ (by omega) i hi⟩
            refine s_X8_counts_360 x ok _ _ _ _ ?_
            simp only [wpS, o_c, o_cl, o_il, o_ll, o_al, o_is, o_ls, o_as, o_inc, o_add, o_sub, o_mul, o_and, o_or, o_xor, o_shl, o_shr, o_div, o_neg, o_ladd, o_lsub, o_lmul, o_ldiv, o_lrem, o_lneg, o_lcmp, o_i2l, o_l2i, o_dup, o_dup2, o_pop, o_go, o_nn, o_sw, swc, o_iret, o_zret, o_lret, o_vret, o_ieq, o_eq0, o_ine, o_ne0, o_ilt, o_lt0, o_ige, o_ge0, o_igt, o_gt0, o_ile, o_le0, o_iald, o_zald, o_lald, o_aald, o_iast, o_zast, o_last, o_aast, o_alen, o_gi, o_gr, o_pi, o_pz, o_pr, o_new, o_newa, o_copy, o_oinit, o_call, o_callV, o_callVc, o_callI, popn, cnO, o_BAD, lgt, lst, isL, kil, st1, st2, entL, List.length_nil, List.length_cons, List.replicate, Nat.reduceAdd, Nat.reduceLeDiff, Nat.reduceSub, true_and, and_true, Nat.zero_le, ne_eq, qk_wi, ql_wi, qr_wi, qj_wi, qt_wi, qk_wj, ql_wj, qr_wj, qi_wj, qt_wj, qk_wr, ql_wr, qi_wr, qj_wr, qt_wr, qi_ws, qj_ws, qr_ws, Int.toNat_natCast, Int.toNat_zero, Int.reduceToNat, not_true_eq_false, not_false_eq_true, false_implies, implies_true, Option.some.injEq, reduceCtorEq, Sp0, true_or, or_true, or_self, wi_wi, wj_wj, hM.k, hM.r0, hM.k1, hM.l1, ix0, ix12, ix24, ix36, ix48, ix60, ix1032, ix1044, ix1092, ix1140, ix1188, ix1200, ix1212, ix1284, ix1290, ix1296, ix1298, ix1322, ix1346, ix1358, ixm4, ixm12, ixm24, ixm81, ixm1382, ixadd, Nat.zero_add, cH_k, cH_l, cH_r, cH_i, cH_7, cH_8, cW_7, cW_8, hM.r6, hM.k7, hM.l7, hM.r7, hM.k8, hM.l8, hD, e24, e36, hNc]
            repeat' (first | (with_reducible refine And.intro ?_ ?_) | (with_reducible intro))
            all_goals (try (first | with_reducible assumption | omega | (unfold inI; omega) | (unfold inL; omega) | exact cz_in _ _))
            all_goals (try (exfalso; omega))
            refine ih2 _ v _ _ _ _ _ hv (fun k hk => ?_)
            unfold fu
            by_cases z : k = i
            · rw [if_pos z, z]
            · rw [if_neg z]; exact hc2 k (by omega)
        have miss : ∀ j, j ≤ rng D m + 1 → ∀ (v : Nat → Int) v10 v11 v12 v13 v14, (∀ k, k < N → v k = P j k) → V i_X8_counts x 160 [some (vr (some y)), some (vi c), some (vi e), some (vi two), some (vi R), some (vi Q), some (vi m), some (vi (dsh D c m)), some (vi (tw D e two m)), some (vi (db D m + j)), v10, v11, v12, v13, v14] [] (cH h y u v) (0, 0) := by
          refine bwd _ ?_ ?_
          · intro v v10 v11 v12 v13 v14 hv
            have := copy 0 (by omega) u v
            refine s_X8_counts_160 x ok _ _ _ _ ?_
            simp only [wpS, o_c, o_cl, o_il, o_ll, o_al, o_is, o_ls, o_as, o_inc, o_add, o_sub, o_mul, o_and, o_or, o_xor, o_shl, o_shr, o_div, o_neg, o_ladd, o_lsub, o_lmul, o_ldiv, o_lrem, o_lneg, o_lcmp, o_i2l, o_l2i, o_dup, o_dup2, o_pop, o_go, o_nn, o_sw, swc, o_iret, o_zret, o_lret, o_vret, o_ieq, o_eq0, o_ine, o_ne0, o_ilt, o_lt0, o_ige, o_ge0, o_igt, o_gt0, o_ile, o_le0, o_iald, o_zald, o_lald, o_aald, o_iast, o_zast, o_last, o_aast, o_alen, o_gi, o_gr, o_pi, o_pz, o_pr, o_new, o_newa, o_copy, o_oinit, o_call, o_callV, o_callVc, o_callI, popn, cnO, o_BAD, lgt, lst, isL, kil, st1, st2, entL, List.length_nil, List.length_cons, List.replicate, Nat.reduceAdd, Nat.reduceLeDiff, Nat.reduceSub, true_and, and_true, Nat.zero_le, ne_eq, qk_wi, ql_wi, qr_wi, qj_wi, qt_wi, qk_wj, ql_wj, qr_wj, qi_wj, qt_wj, qk_wr, ql_wr, qi_wr, qj_wr, qt_wr, qi_ws, qj_ws, qr_ws, Int.toNat_natCast, Int.toNat_zero, Int.reduceToNat, not_true_eq_false, not_false_eq_true, false_implies, implies_true, Option.some.injEq, reduceCtorEq, Sp0, true_or, or_true, or_self, wi_wi, wj_wj, hM.k, hM.r0, hM.k1, hM.l1, ix0, ix12, ix24, ix36, ix48, ix60, ix1032, ix1044, ix1092, ix1140, ix1188, ix1200, ix1212, ix1284, ix1290, ix1296, ix1298, ix1322, ix1346, ix1358, ixm4, ixm12, ixm24, ixm81, ixm1382, ixadd, Nat.zero_add, cH_k, cH_l, cH_r, cH_i, cH_7, cH_8, cW_7, cW_8, hM.r6, hM.k7, hM.l7, hM.r7, hM.k8, hM.l8, hD, e24, e36, hNc]
            repeat' (first | (with_reducible refine And.intro ?_ ?_) | (with_reducible intro))
            all_goals (try (first | with_reducible assumption | omega | (unfold inI; omega) | (unfold inL; omega) | exact cz_in _ _))
            all_goals (try (exfalso; omega))
            refine s_X8_counts_357 x ok _ _ _ _ ?_
            simp only [wpS, o_c, o_cl, o_il, o_ll, o_al, o_is, o_ls, o_as, o_inc, o_add, o_sub, o_mul, o_and, o_or, o_xor, o_shl, o_shr, o_div, o_neg, o_ladd, o_lsub, o_lmul, o_ldiv, o_lrem, o_lneg, o_lcmp, o_i2l, o_l2i, o_dup, o_dup2, o_pop, o_go, o_nn, o_sw, swc, o_iret, o_zret, o_lret, o_vret, o_ieq, o_eq0, o_ine, o_ne0, o_ilt, o_lt0, o_ige, o_ge0, o_igt, o_gt0, o_ile, o_le0, o_iald, o_zald, o_lald, o_aald, o_iast, o_zast, o_last, o_aast, o_alen, o_gi, o_gr, o_pi, o_pz, o_pr, o_new, o_newa, o_copy, o_oinit, o_call, o_callV, o_callVc, o_callI, popn, cnO, o_BAD, lgt, lst, isL, kil, st1, st2, entL, List.length_nil, List.length_cons, List.replicate, Nat.reduceAdd, Nat.reduceLeDiff, Nat.reduceSub, true_and, and_true, Nat.zero_le, ne_eq, qk_wi, ql_wi, qr_wi, qj_wi, qt_wi, qk_wj, ql_wj, qr_wj, qi_wj, qt_wj, qk_wr, ql_wr, qi_wr, qj_wr, qt_wr, qi_ws, qj_ws, qr_ws, Int.toNat_natCast, Int.toNat_zero, Int.reduceToNat, not_true_eq_false, not_false_eq_true, false_implies, implies_true, Option.some.injEq, reduceCtorEq, Sp0, true_or, or_true, or_self, wi_wi, wj_wj, hM.k]
            exact this _ _ _ _ _ (fun k hk => by rw [hv k hk]; exact hPe k) (fun k hk => by omega)
          · intro j hj ihj v v10 v11 v12 v13 v14 hv
            have u1 := upf_rg (s := dsh D c m) (r := rng D m) (j := j) (by omega)
            have u2 := upf_rg (s := tw D e two m) (r := rng D m) (j := j) (by omega)
            have i1 := iab_le (b := 3) hsm.1 hsm.2
            have i2 := iab_le (b := 3) htm.1 htm.2
            have m1 : iab (dsh D c m) * (rng D m : Int) ≤ 3 * 80 := Int.mul_le_mul i1.2 (by omega) (by omega) (by omega)
            have m2 : iab (tw D e two m) * (rng D m : Int) ≤ 3 * 80 := Int.mul_le_mul i2.2 (by omega) (by omega) (by omega)
            obtain ⟨U, hU⟩ : ∃ U : Nat, upf (dsh D c m) (rng D m) j = (U : Int) := ⟨(upf (dsh D c m) (rng D m) j).toNat, by omega⟩
            obtain ⟨T, hT⟩ : ∃ T : Nat, upf (tw D e two m) (rng D m) j = (T : Int) := ⟨(upf (tw D e two m) (rng D m) j).toNat, by omega⟩
            have hmv : mvf D m Q (dsh D c m) (tw D e two m) j = ((U * Q + T : Nat) : Int) := by
              unfold mvf
              rw [hU, hT]
              push_cast
              rfl
            have hny := hIm.ny (z := db D m + j) (by omega) (by omega)
            have emr : mrg D m = (rng D m : Int) := by
              unfold mrg
              rw [if_pos hcond.1, hrg.2]
            have ewp : wp D (tw D e two) (m + 1) = wp D (tw D e two) m + iab (tw D e two m) * (rng D m : Int) := by
              rw [← emr]
              rfl
            have ewp2 := wp_mono (t := tw D e two) hI.1 (show m + 1 ≤ 12 by omega) (Nat.le_refl 12)
            have hwp0 := wp_0 (t := tw D e two) hI.1 (show m ≤ 12 by omega)
            have hTQ : wp D (tw D e two) m + (T : Int) < (Q : Int) := by omega
            have hUle : (U : Int) ≤ iab (dsh D c m) * (rng D m : Int) := by rw [← hU]; exact u1.2
            have hUR : U < R := by
              have e1 : wp D (dsh D c) (m + 1) = wp D (dsh D c) m + iab (dsh D c m) * (rng D m : Int) := by
                rw [← emr]
                rfl
              have e2 := wp_mono (t := dsh D c) hI.1 (show m + 1 ≤ 12 by omega) (Nat.le_refl 12)
              have e3 : wp D (dsh D c) 12 = (W1 : Int) := hW1
              have e4 := wp_0 (t := dsh D c) hI.1 (show m ≤ 12 by omega)
              omega
            have hgz : ∀ i : Nat, gz (lyR D (dsh D c) (tw D e two) Q m) (((U * Q + T + i : Nat) : Int) - mvf D m Q (dsh D c m) (tw D e two m) j) = lyR D (dsh D c) (tw D e two) Q m i := fun i => by
              rw [hmv]
              unfold gz
              rw [if_neg (by omega)]
              congr 1
              omega
            have hgz0 : ∀ k : Nat, k < U * Q + T → gz (lyR D (dsh D c) (tw D e two) Q m) ((k : Int) - mvf D m Q (dsh D c m) (tw D e two m) j) = 0 := fun k hk => by
              rw [hmv]
              unfold gz
              rw [if_pos (by omega)]
            have hPsj := hPs j
            generalize hn : mny D m (db D m + j) = n at *
            have h351 : ∀ (v : Nat → Int) v13 v14, (∀ k, k < N → v k = P (j + 1) k) → V i_X8_counts x 351 [some (vr (some y)), some (vi c), some (vi e), some (vi two), some (vi R), some (vi Q), some (vi m), some (vi (dsh D c m)), some (vi (tw D e two m)), some (vi (db D m + j)), some (vi U), some (vi T), some (vi n), v13, v14] [] (cH h y u v) (0, 0) := by
              intro v v13 v14 hv2
              have := ihj v (some (vi U)) (some (vi T)) (some (vi n)) v13 v14 hv2
              have e1 : db D m + ((j + 1 : Nat) : Int) = db D m + (j : Int) + 1 := by push_cast; omega
              rw [e1] at this
              refine s_X8_counts_351 x ok _ _ _ _ ?_
              simp only [wpS, o_c, o_cl, o_il, o_ll, o_al, o_is, o_ls, o_as, o_inc, o_add, o_sub, o_mul, o_and, o_or, o_xor, o_shl, o_shr, o_div, o_neg, o_ladd, o_lsub, o_lmul, o_ldiv, o_lrem, o_lneg, o_lcmp, o_i2l, o_l2i, o_dup, o_dup2, o_pop, o_go, o_nn, o_sw, swc, o_iret, o_zret, o_lret, o_vret, o_ieq, o_eq0, o_ine, o_ne0, o_ilt, o_lt0, o_ige, o_ge0, o_igt, o_gt0, o_ile, o_le0, o_iald, o_zald, o_lald, o_aald, o_iast, o_zast, o_last, o_aast, o_alen, o_gi, o_gr, o_pi, o_pz, o_pr, o_new, o_newa, o_copy, o_oinit, o_call, o_callV, o_callVc, o_callI, popn, cnO, o_BAD, lgt, lst, isL, kil, st1, st2, entL, List.length_nil, List.length_cons, List.replicate, Nat.reduceAdd, Nat.reduceLeDiff, Nat.reduceSub, true_and, and_true, Nat.zero_le, ne_eq, qk_wi, ql_wi, qr_wi, qj_wi, qt_wi, qk_wj, ql_wj, qr_wj, qi_wj, qt_wj, qk_wr, ql_wr, qi_wr, qj_wr, qt_wr, qi_ws, qj_ws, qr_ws, Int.toNat_natCast, Int.toNat_zero, Int.reduceToNat, not_true_eq_false, not_false_eq_true, false_implies, implies_true, Option.some.injEq, reduceCtorEq, Sp0, true_or, or_true, or_self, wi_wi, wj_wj, hM.k]
              repeat' (first | (with_reducible refine And.intro ?_ ?_) | (with_reducible intro))
              all_goals (try (first | with_reducible assumption | omega | (unfold inI; omega) | (unfold inL; omega) | exact cz_in _ _))
              all_goals (first | exact this | skip)
            have rows : ∀ r, r ≤ R - U → ∀ (v : Nat → Int) v14, (∀ k, k < N → v k = P j k + if k < (r + U) * Q + T then n * gz (lyR D (dsh D c) (tw D e two) Q m) ((k : Int) - mvf D m Q (dsh D c m) (tw D e two m) j) else 0) → V i_X8_counts x 272 [some (vr (some y)), some (vi c), some (vi e), some (vi two), some (vi R), some (vi Q), some (vi m), some (vi (dsh D c m)), some (vi (tw D e two m)), some (vi (db D m + j)), some (vi U), some (vi T), some (vi n), some (vi r), v14] [] (cH h y u v) (0, 0) := by
              refine bwd _ ?_ ?_
              · intro v v14 hv2
                have := h351 v (some (vi ((R - U : Nat) : Int))) v14 (fun k hk => by
                  rw [hv2 k hk, hPsj k, if_pos]
                  rw [show R - U + U = R by omega, ← hN]
                  omega)
                refine s_X8_counts_272 x ok _ _ _ _ ?_
                simp only [wpS, o_c, o_cl, o_il, o_ll, o_al, o_is, o_ls, o_as, o_inc, o_add, o_sub, o_mul, o_and, o_or, o_xor, o_shl, o_shr, o_div, o_neg, o_ladd, o_lsub, o_lmul, o_ldiv, o_lrem, o_lneg, o_lcmp, o_i2l, o_l2i, o_dup, o_dup2, o_pop, o_go, o_nn, o_sw, swc, o_iret, o_zret, o_lret, o_vret, o_ieq, o_eq0, o_ine, o_ne0, o_ilt, o_lt0, o_ige, o_ge0, o_igt, o_gt0, o_ile, o_le0, o_iald, o_zald, o_lald, o_aald, o_iast, o_zast, o_last, o_aast, o_alen, o_gi, o_gr, o_pi, o_pz, o_pr, o_new, o_newa, o_copy, o_oinit, o_call, o_callV, o_callVc, o_callI, popn, cnO, o_BAD, lgt, lst, isL, kil, st1, st2, entL, List.length_nil, List.length_cons, List.replicate, Nat.reduceAdd, Nat.reduceLeDiff, Nat.reduceSub, true_and, and_true, Nat.zero_le, ne_eq, qk_wi, ql_wi, qr_wi, qj_wi, qt_wi, qk_wj, ql_wj, qr_wj, qi_wj, qt_wj, qk_wr, ql_wr, qi_wr, qj_wr, qt_wr, qi_ws, qj_ws, qr_ws, Int.toNat_natCast, Int.toNat_zero, Int.reduceToNat, not_true_eq_false, not_false_eq_true, false_implies, implies_true, Option.some.injEq, reduceCtorEq, Sp0, true_or, or_true, or_self, wi_wi, wj_wj, hM.k]
                repeat' (first | (with_reducible refine And.intro ?_ ?_) | (with_reducible intro))
                all_goals (try (first | with_reducible assumption | omega | (unfold inI; omega) | (unfold inL; omega) | exact cz_in _ _))
                all_goals (first | exact this | (exfalso; omega) | skip)
              · intro r hr ihr v v14 hv2
                by_cases hn0 : n = 0
                · have := h351 v (some (vi r)) v14 (fun k hk => by
                    rw [hv2 k hk, hPsj k, hn0, Int.zero_mul]
                    split <;> rfl)
                  refine s_X8_counts_272 x ok _ _ _ _ ?_
                  simp only [wpS, o_c, o_cl, o_il, o_ll, o_al, o_is, o_ls, o_as, o_inc, o_add, o_sub, o_mul, o_and, o_or, o_xor, o_shl, o_shr, o_div, o_neg, o_ladd, o_lsub, o_lmul, o_ldiv, o_lrem, o_lneg, o_lcmp, o_i2l, o_l2i, o_dup, o_dup2, o_pop, o_go, o_nn, o_sw, swc, o_iret, o_zret, o_lret, o_vret, o_ieq, o_eq0, o_ine, o_ne0, o_ilt, o_lt0, o_ige, o_ge0, o_igt, o_gt0, o_ile, o_le0, o_iald, o_zald, o_lald, o_aald, o_iast, o_zast, o_last, o_aast, o_alen, o_gi, o_gr, o_pi, o_pz, o_pr, o_new, o_newa, o_copy, o_oinit, o_call, o_callV, o_callVc, o_callI, popn, cnO, o_BAD, lgt, lst, isL, kil, st1, st2, entL, List.length_nil, List.length_cons, List.replicate, Nat.reduceAdd, Nat.reduceLeDiff, Nat.reduceSub, true_and, and_true, Nat.zero_le, ne_eq, qk_wi, ql_wi, qr_wi, qj_wi, qt_wi, qk_wj, ql_wj, qr_wj, qi_wj, qt_wj, qk_wr, ql_wr, qi_wr, qj_wr, qt_wr, qi_ws, qj_ws, qr_ws, Int.toNat_natCast, Int.toNat_zero, Int.reduceToNat, not_true_eq_false, not_false_eq_true, false_implies, implies_true, Option.some.injEq, reduceCtorEq, Sp0, true_or, or_true, or_self, wi_wi, wj_wj, hM.k]
                  repeat' (first | (with_reducible refine And.intro ?_ ?_) | (with_reducible intro))
                  all_goals (try (first | with_reducible assumption | omega | (unfold inI; omega) | (unfold inL; omega) | exact cz_in _ _))
                  all_goals (first | exact this | (exfalso; omega) | skip)
                · have hA1 : (r + U + 1) * Q ≤ N := by rw [hN]; exact Nat.mul_le_mul_right Q (by omega)
                  have hB1 : (r + 1) * Q ≤ N := by rw [hN]; exact Nat.mul_le_mul_right Q (by omega)
                  rw [Nat.add_mul, Nat.one_mul] at hA1 hB1
                  have hAB : (r + U) * Q = r * Q + U * Q := Nat.add_mul _ _ _
                  have hr1 : (r + 1 + U) * Q = (r + U) * Q + Q := by rw [show r + 1 + U = (r + U) + 1 by omega, Nat.add_mul, Nat.one_mul]
                  rw [hr1] at ihr
                  obtain ⟨A, hA⟩ : ∃ A, (r + U) * Q = A := ⟨_, rfl⟩
                  obtain ⟨B, hB⟩ : ∃ B, r * Q = B := ⟨_, rfl⟩
                  obtain ⟨UQ, hUQ⟩ : ∃ B, U * Q = B := ⟨_, rfl⟩
                  rw [hA] at hA1 hAB ihr hv2
                  rw [hB] at hB1 hAB
                  rw [hUQ] at hAB hgz hgz0
                  have cells : ∀ q, q ≤ Q - T → ∀ v : Nat → Int, (∀ k, k < N → v k = P j k + if k < A + T + q then n * gz (lyR D (dsh D c) (tw D e two) Q m) ((k : Int) - mvf D m Q (dsh D c m) (tw D e two m) j) else 0) → V i_X8_counts x 290 [some (vr (some y)), some (vi c), some (vi e), some (vi two), some (vi R), some (vi Q), some (vi m), some (vi (dsh D c m)), some (vi (tw D e two m)), some (vi (db D m + j)), some (vi U), some (vi T), some (vi n), some (vi r), some (vi q)] [] (cH h y u v) (0, 0) := by
                    refine bwd _ ?_ ?_
                    · intro v hv3
                      have := ihr v (some (vi ((Q - T : Nat) : Int))) (fun k hk => by
                        rw [hv3 k hk]
                        by_cases z1 : k < A + T + (Q - T)
                        · rw [if_pos z1, if_pos (by omega)]
                        · by_cases z2 : k < A + Q + T
                          · rw [if_neg z1, if_pos z2]
                            obtain ⟨i, hi⟩ : ∃ i, k = UQ + T + i := ⟨k - (UQ + T), by omega⟩
                            have hz : lyR D (dsh D c) (tw D e two) Q m i = 0 := by
                              refine Classical.byContradiction (fun w => ?_)
                              have hcc := hcol i w
                              have ei : i = Q * r + (i - B) := by rw [Nat.mul_comm, hB]; omega
                              rw [ei, Nat.mul_add_mod, Nat.mod_eq_of_lt (by omega)] at hcc
                              omega
                            rw [hi, hgz i, hz, Int.mul_zero]
                          · rw [if_neg z1, if_neg z2])
                      refine s_X8_counts_290 x ok _ _ _ _ ?_
                      simp only [wpS, o_c, o_cl, o_il, o_ll, o_al, o_is, o_ls, o_as, o_inc, o_add, o_sub, o_mul, o_and, o_or, o_xor, o_shl, o_shr, o_div, o_neg, o_ladd, o_lsub, o_lmul, o_ldiv, o_lrem, o_lneg, o_lcmp, o_i2l, o_l2i, o_dup, o_dup2, o_pop, o_go, o_nn, o_sw, swc, o_iret, o_zret, o_lret, o_vret, o_ieq, o_eq0, o_ine, o_ne0, o_ilt, o_lt0, o_ige, o_ge0, o_igt, o_gt0, o_ile, o_le0, o_iald, o_zald, o_lald, o_aald, o_iast, o_zast, o_last, o_aast, o_alen, o_gi, o_gr, o_pi, o_pz, o_pr, o_new, o_newa, o_copy, o_oinit, o_call, o_callV, o_callVc, o_callI, popn, cnO, o_BAD, lgt, lst, isL, kil, st1, st2, entL, List.length_nil, List.length_cons, List.replicate, Nat.reduceAdd, Nat.reduceLeDiff, Nat.reduceSub, true_and, and_true, Nat.zero_le, ne_eq, qk_wi, ql_wi, qr_wi, qj_wi, qt_wi, qk_wj, ql_wj, qr_wj, qi_wj, qt_wj, qk_wr, ql_wr, qi_wr, qj_wr, qt_wr, qi_ws, qj_ws, qr_ws, Int.toNat_natCast, Int.toNat_zero, Int.reduceToNat, not_true_eq_false, not_false_eq_true, false_implies, implies_true, Option.some.injEq, reduceCtorEq, Sp0, true_or, or_true, or_self, wi_wi, wj_wj, hM.k]
                      repeat' (first | (with_reducible refine And.intro ?_ ?_) | (with_reducible intro))
                      all_goals (try (first | with_reducible assumption | omega | (unfold inI; omega) | (unfold inL; omega) | exact cz_in _ _))
                      all_goals (try (exfalso; omega))
                      refine s_X8_counts_345 x ok _ _ _ _ ?_
                      simp only [wpS, o_c, o_cl, o_il, o_ll, o_al, o_is, o_ls, o_as, o_inc, o_add, o_sub, o_mul, o_and, o_or, o_xor, o_shl, o_shr, o_div, o_neg, o_ladd, o_lsub, o_lmul, o_ldiv, o_lrem, o_lneg, o_lcmp, o_i2l, o_l2i, o_dup, o_dup2, o_pop, o_go, o_nn, o_sw, swc, o_iret, o_zret, o_lret, o_vret, o_ieq, o_eq0, o_ine, o_ne0, o_ilt, o_lt0, o_ige, o_ge0, o_igt, o_gt0, o_ile, o_le0, o_iald, o_zald, o_lald, o_aald, o_iast, o_zast, o_last, o_aast, o_alen, o_gi, o_gr, o_pi, o_pz, o_pr, o_new, o_newa, o_copy, o_oinit, o_call, o_callV, o_callVc, o_callI, popn, cnO, o_BAD, lgt, lst, isL, kil, st1, st2, entL, List.length_nil, List.length_cons, List.replicate, Nat.reduceAdd, Nat.reduceLeDiff, Nat.reduceSub, true_and, and_true, Nat.zero_le, ne_eq, qk_wi, ql_wi, qr_wi, qj_wi, qt_wi, qk_wj, ql_wj, qr_wj, qi_wj, qt_wj, qk_wr, ql_wr, qi_wr, qj_wr, qt_wr, qi_ws, qj_ws, qr_ws, Int.toNat_natCast, Int.toNat_zero, Int.reduceToNat, not_true_eq_false, not_false_eq_true, false_implies, implies_true, Option.some.injEq, reduceCtorEq, Sp0, true_or, or_true, or_self, wi_wi, wj_wj, hM.k]
                      repeat' (first | (with_reducible refine And.intro ?_ ?_) | (with_reducible intro))
                      all_goals (try (first | with_reducible assumption | omega | (unfold inI; omega) | (unfold inL; omega) | exact cz_in _ _))
                      all_goals (first | exact this | skip)
                    · intro q hq ihq v hv3
                      have hqN : A + q + T < N := by omega
                      have hqB : B + q < N := by omega
                      have hvq := hv3 (A + q + T) hqN
                      rw [if_neg (by omega), Int.add_zero] at hvq
                      have huq := hu (B + q) hqB
                      have hg2 := hgz (B + q)
                      rw [show UQ + T + (B + q) = A + q + T by omega] at hg2
                      have hPq := hPsj (A + q + T)
                      rw [hg2, ← huq] at hPq
                      have b1 := hPr j (by omega) (A + q + T) hqN
                      have b2 := hPr (j + 1) (by omega) (A + q + T) hqN
                      have b3 := hum (B + q) hqB
                      have b4 : 0 ≤ n * u (B + q) := Int.mul_nonneg (by omega) b3.1
                      refine s_X8_counts_290 x ok _ _ _ _ ?_
                      simp only [wpS, o_c, o_cl, o_il, o_ll, o_al, o_is, o_ls, o_as, o_inc, o_add, o_sub, o_mul, o_and, o_or, o_xor, o_shl, o_shr, o_div, o_neg, o_ladd, o_lsub, o_lmul, o_ldiv, o_lrem, o_lneg, o_lcmp, o_i2l, o_l2i, o_dup, o_dup2, o_pop, o_go, o_nn, o_sw, swc, o_iret, o_zret, o_lret, o_vret, o_ieq, o_eq0, o_ine, o_ne0, o_ilt, o_lt0, o_ige, o_ge0, o_igt, o_gt0, o_ile, o_le0, o_iald, o_zald, o_lald, o_aald, o_iast, o_zast, o_last, o_aast, o_alen, o_gi, o_gr, o_pi, o_pz, o_pr, o_new, o_newa, o_copy, o_oinit, o_call, o_callV, o_callVc, o_callI, popn, cnO, o_BAD, lgt, lst, isL, kil, st1, st2, entL, List.length_nil, List.length_cons, List.replicate, Nat.reduceAdd, Nat.reduceLeDiff, Nat.reduceSub, true_and, and_true, Nat.zero_le, ne_eq, qk_wi, ql_wi, qr_wi, qj_wi, qt_wi, qk_wj, ql_wj, qr_wj, qi_wj, qt_wj, qk_wr, ql_wr, qi_wr, qj_wr, qt_wr, qi_ws, qj_ws, qr_ws, Int.toNat_natCast, Int.toNat_zero, Int.reduceToNat, not_true_eq_false, not_false_eq_true, false_implies, implies_true, Option.some.injEq, reduceCtorEq, Sp0, true_or, or_true, or_self, wi_wi, wj_wj, hM.k, hM.r0, hM.k1, hM.l1, ix0, ix12, ix24, ix36, ix48, ix60, ix1032, ix1044, ix1092, ix1140, ix1188, ix1200, ix1212, ix1284, ix1290, ix1296, ix1298, ix1322, ix1346, ix1358, ixm4, ixm12, ixm24, ixm81, ixm1382, ixadd, Nat.zero_add, cH_k, cH_l, cH_r, cH_i, cH_7, cH_8, cW_7, cW_8, hM.r6, hM.k7, hM.l7, hM.r7, hM.k8, hM.l8, hD, e24, e36, hNc, ixadd, ixmul, hA, hB, hvq]
                      repeat' (first | (with_reducible refine And.intro ?_ ?_) | (with_reducible intro))
                      all_goals (try (first | with_reducible assumption | omega | (unfold inI; omega) | (unfold inL; omega) | exact cz_in _ _))
                      all_goals (try (exfalso; omega))
                      refine ihq _ (fun k hk => ?_)
                      unfold fu
                      by_cases z : k = A + q + T
                      · rw [if_pos z, if_pos (by omega), z, hg2, ← huq]
                      · rw [if_neg z, hv3 k hk]
                        by_cases z2 : k < A + T + q
                        · rw [if_pos z2, if_pos (by omega)]
                        · rw [if_neg z2, if_neg (by omega)]
                  have := cells 0 (by omega) v (fun k hk => hv2 k hk)
                  refine s_X8_counts_272 x ok _ _ _ _ ?_
                  simp only [wpS, o_c, o_cl, o_il, o_ll, o_al, o_is, o_ls, o_as, o_inc, o_add, o_sub, o_mul, o_and, o_or, o_xor, o_shl, o_shr, o_div, o_neg, o_ladd, o_lsub, o_lmul, o_ldiv, o_lrem, o_lneg, o_lcmp, o_i2l, o_l2i, o_dup, o_dup2, o_pop, o_go, o_nn, o_sw, swc, o_iret, o_zret, o_lret, o_vret, o_ieq, o_eq0, o_ine, o_ne0, o_ilt, o_lt0, o_ige, o_ge0, o_igt, o_gt0, o_ile, o_le0, o_iald, o_zald, o_lald, o_aald, o_iast, o_zast, o_last, o_aast, o_alen, o_gi, o_gr, o_pi, o_pz, o_pr, o_new, o_newa, o_copy, o_oinit, o_call, o_callV, o_callVc, o_callI, popn, cnO, o_BAD, lgt, lst, isL, kil, st1, st2, entL, List.length_nil, List.length_cons, List.replicate, Nat.reduceAdd, Nat.reduceLeDiff, Nat.reduceSub, true_and, and_true, Nat.zero_le, ne_eq, qk_wi, ql_wi, qr_wi, qj_wi, qt_wi, qk_wj, ql_wj, qr_wj, qi_wj, qt_wj, qk_wr, ql_wr, qi_wr, qj_wr, qt_wr, qi_ws, qj_ws, qr_ws, Int.toNat_natCast, Int.toNat_zero, Int.reduceToNat, not_true_eq_false, not_false_eq_true, false_implies, implies_true, Option.some.injEq, reduceCtorEq, Sp0, true_or, or_true, or_self, wi_wi, wj_wj, hM.k]
                  repeat' (first | (with_reducible refine And.intro ?_ ?_) | (with_reducible intro))
                  all_goals (try (first | with_reducible assumption | omega | (unfold inI; omega) | (unfold inL; omega) | exact cz_in _ _))
                  all_goals (first | exact this | (exfalso; omega) | skip)
            have h257 : ∀ v11 v12 v13 v14, V i_X8_counts x 257 [some (vr (some y)), some (vi c), some (vi e), some (vi two), some (vi R), some (vi Q), some (vi m), some (vi (dsh D c m)), some (vi (tw D e two m)), some (vi (db D m + j)), some (vi U), v11, v12, v13, v14] [vi T] (cH h y u v) (0, 0) := by
              intro v11 v12 v13 v14
              have := rows 0 (by omega) v v14 (fun k hk => by
                rw [hv k hk]
                by_cases z : k < (0 + U) * Q + T
                · rw [if_pos z, hgz0 k (by rw [Nat.zero_add] at z; exact z), Int.mul_zero, Int.add_zero]
                · rw [if_neg z, Int.add_zero])
              refine s_X8_counts_257 x ok _ _ _ _ ?_
              simp only [wpS, o_c, o_cl, o_il, o_ll, o_al, o_is, o_ls, o_as, o_inc, o_add, o_sub, o_mul, o_and, o_or, o_xor, o_shl, o_shr, o_div, o_neg, o_ladd, o_lsub, o_lmul, o_ldiv, o_lrem, o_lneg, o_lcmp, o_i2l, o_l2i, o_dup, o_dup2, o_pop, o_go, o_nn, o_sw, swc, o_iret, o_zret, o_lret, o_vret, o_ieq, o_eq0, o_ine, o_ne0, o_ilt, o_lt0, o_ige, o_ge0, o_igt, o_gt0, o_ile, o_le0, o_iald, o_zald, o_lald, o_aald, o_iast, o_zast, o_last, o_aast, o_alen, o_gi, o_gr, o_pi, o_pz, o_pr, o_new, o_newa, o_copy, o_oinit, o_call, o_callV, o_callVc, o_callI, popn, cnO, o_BAD, lgt, lst, isL, kil, st1, st2, entL, List.length_nil, List.length_cons, List.replicate, Nat.reduceAdd, Nat.reduceLeDiff, Nat.reduceSub, true_and, and_true, Nat.zero_le, ne_eq, qk_wi, ql_wi, qr_wi, qj_wi, qt_wi, qk_wj, ql_wj, qr_wj, qi_wj, qt_wj, qk_wr, ql_wr, qi_wr, qj_wr, qt_wr, qi_ws, qj_ws, qr_ws, Int.toNat_natCast, Int.toNat_zero, Int.reduceToNat, not_true_eq_false, not_false_eq_true, false_implies, implies_true, Option.some.injEq, reduceCtorEq, Sp0, true_or, or_true, or_self, wi_wi, wj_wj, hM.k, cH_k]
              repeat' (first | (with_reducible refine And.intro ?_ ?_) | (with_reducible intro))
              all_goals (try (first | with_reducible assumption | omega | (unfold inI; omega) | (unfold inL; omega) | exact cz_in _ _))
              refine c8_many (hM2 _ _) (hI2 _ _) hm (by omega) ?_
              rw [hD2, hn]
              simp only [wpS, o_c, o_cl, o_il, o_ll, o_al, o_is, o_ls, o_as, o_inc, o_add, o_sub, o_mul, o_and, o_or, o_xor, o_shl, o_shr, o_div, o_neg, o_ladd, o_lsub, o_lmul, o_ldiv, o_lrem, o_lneg, o_lcmp, o_i2l, o_l2i, o_dup, o_dup2, o_pop, o_go, o_nn, o_sw, swc, o_iret, o_zret, o_lret, o_vret, o_ieq, o_eq0, o_ine, o_ne0, o_ilt, o_lt0, o_ige, o_ge0, o_igt, o_gt0, o_ile, o_le0, o_iald, o_zald, o_lald, o_aald, o_iast, o_zast, o_last, o_aast, o_alen, o_gi, o_gr, o_pi, o_pz, o_pr, o_new, o_newa, o_copy, o_oinit, o_call, o_callV, o_callVc, o_callI, popn, cnO, o_BAD, lgt, lst, isL, kil, st1, st2, entL, List.length_nil, List.length_cons, List.replicate, Nat.reduceAdd, Nat.reduceLeDiff, Nat.reduceSub, true_and, and_true, Nat.zero_le, ne_eq, qk_wi, ql_wi, qr_wi, qj_wi, qt_wi, qk_wj, ql_wj, qr_wj, qi_wj, qt_wj, qk_wr, ql_wr, qi_wr, qj_wr, qt_wr, qi_ws, qj_ws, qr_ws, Int.toNat_natCast, Int.toNat_zero, Int.reduceToNat, not_true_eq_false, not_false_eq_true, false_implies, implies_true, Option.some.injEq, reduceCtorEq, Sp0, true_or, or_true, or_self, wi_wi, wj_wj, hM.k]
              repeat' (first | (with_reducible refine And.intro ?_ ?_) | (with_reducible intro))
              all_goals (try (first | with_reducible assumption | omega | (unfold inI; omega) | (unfold inL; omega) | exact cz_in _ _))
              all_goals (first | exact this | skip)
            have h215 : ∀ v10 v11 v12 v13 v14, V i_X8_counts x 215 [some (vr (some y)), some (vi c), some (vi e), some (vi two), some (vi R), some (vi Q), some (vi m), some (vi (dsh D c m)), some (vi (tw D e two m)), some (vi (db D m + j)), v10, v11, v12, v13, v14] [vi U] (cH h y u v) (0, 0) := by
              intro v10 v11 v12 v13 v14
              unfold upf at hT
              by_cases z : 0 < tw D e two m
              · rw [if_pos z] at hT
                have eT : tw D e two m * (db D m + j - db D m) = (T : Int) := by rw [← hT]; congr 1; omega
                refine s_X8_counts_215 x ok _ _ _ _ ?_
                simp only [wpS, o_c, o_cl, o_il, o_ll, o_al, o_is, o_ls, o_as, o_inc, o_add, o_sub, o_mul, o_and, o_or, o_xor, o_shl, o_shr, o_div, o_neg, o_ladd, o_lsub, o_lmul, o_ldiv, o_lrem, o_lneg, o_lcmp, o_i2l, o_l2i, o_dup, o_dup2, o_pop, o_go, o_nn, o_sw, swc, o_iret, o_zret, o_lret, o_vret, o_ieq, o_eq0, o_ine, o_ne0, o_ilt, o_lt0, o_ige, o_ge0, o_igt, o_gt0, o_ile, o_le0, o_iald, o_zald, o_lald, o_aald, o_iast, o_zast, o_last, o_aast, o_alen, o_gi, o_gr, o_pi, o_pz, o_pr, o_new, o_newa, o_copy, o_oinit, o_call, o_callV, o_callVc, o_callI, popn, cnO, o_BAD, lgt, lst, isL, kil, st1, st2, entL, List.length_nil, List.length_cons, List.replicate, Nat.reduceAdd, Nat.reduceLeDiff, Nat.reduceSub, true_and, and_true, Nat.zero_le, ne_eq, qk_wi, ql_wi, qr_wi, qj_wi, qt_wi, qk_wj, ql_wj, qr_wj, qi_wj, qt_wj, qk_wr, ql_wr, qi_wr, qj_wr, qt_wr, qi_ws, qj_ws, qr_ws, Int.toNat_natCast, Int.toNat_zero, Int.reduceToNat, not_true_eq_false, not_false_eq_true, false_implies, implies_true, Option.some.injEq, reduceCtorEq, Sp0, true_or, or_true, or_self, wi_wi, wj_wj, hM.k, hM.r0, hM.k1, hM.l1, ix0, ix12, ix24, ix36, ix48, ix60, ix1032, ix1044, ix1092, ix1140, ix1188, ix1200, ix1212, ix1284, ix1290, ix1296, ix1298, ix1322, ix1346, ix1358, ixm4, ixm12, ixm24, ixm81, ixm1382, ixadd, Nat.zero_add, cH_k, cH_l, cH_r, cH_i, cH_7, cH_8, cW_7, cW_8, hM.r6, hM.k7, hM.l7, hM.r7, hM.k8, hM.l8, hD, e24, e36, hNc, eT]
                repeat' (first | (with_reducible refine And.intro ?_ ?_) | (with_reducible intro))
                all_goals (try (first | with_reducible assumption | omega | (unfold inI; omega) | (unfold inL; omega) | exact cz_in _ _))
                all_goals (first | exact h257 _ _ _ _ | (exfalso; omega) | skip)
              · rw [if_neg z] at hT
                have eT : tw D e two m * (db D m + j - da D m) = (T : Int) := by rw [← hT]; congr 1; omega
                refine s_X8_counts_215 x ok _ _ _ _ ?_
                simp only [wpS, o_c, o_cl, o_il, o_ll, o_al, o_is, o_ls, o_as, o_inc, o_add, o_sub, o_mul, o_and, o_or, o_xor, o_shl, o_shr, o_div, o_neg, o_ladd, o_lsub, o_lmul, o_ldiv, o_lrem, o_lneg, o_lcmp, o_i2l, o_l2i, o_dup, o_dup2, o_pop, o_go, o_nn, o_sw, swc, o_iret, o_zret, o_lret, o_vret, o_ieq, o_eq0, o_ine, o_ne0, o_ilt, o_lt0, o_ige, o_ge0, o_igt, o_gt0, o_ile, o_le0, o_iald, o_zald, o_lald, o_aald, o_iast, o_zast, o_last, o_aast, o_alen, o_gi, o_gr, o_pi, o_pz, o_pr, o_new, o_newa, o_copy, o_oinit, o_call, o_callV, o_callVc, o_callI, popn, cnO, o_BAD, lgt, lst, isL, kil, st1, st2, entL, List.length_nil, List.length_cons, List.replicate, Nat.reduceAdd, Nat.reduceLeDiff, Nat.reduceSub, true_and, and_true, Nat.zero_le, ne_eq, qk_wi, ql_wi, qr_wi, qj_wi, qt_wi, qk_wj, ql_wj, qr_wj, qi_wj, qt_wj, qk_wr, ql_wr, qi_wr, qj_wr, qt_wr, qi_ws, qj_ws, qr_ws, Int.toNat_natCast, Int.toNat_zero, Int.reduceToNat, not_true_eq_false, not_false_eq_true, false_implies, implies_true, Option.some.injEq, reduceCtorEq, Sp0, true_or, or_true, or_self, wi_wi, wj_wj, hM.k, hM.r0, hM.k1, hM.l1, ix0, ix12, ix24, ix36, ix48, ix60, ix1032, ix1044, ix1092, ix1140, ix1188, ix1200, ix1212, ix1284, ix1290, ix1296, ix1298, ix1322, ix1346, ix1358, ixm4, ixm12, ixm24, ixm81, ixm1382, ixadd, Nat.zero_add, cH_k, cH_l, cH_r, cH_i, cH_7, cH_8, cW_7, cW_8, hM.r6, hM.k7, hM.l7, hM.r7, hM.k8, hM.l8, hD, e24, e36, hNc]
                repeat' (first | (with_reducible refine And.intro ?_ ?_) | (with_reducible intro))
                all_goals (try (first | with_reducible assumption | omega | (unfold inI; omega) | (unfold inL; omega) | exact cz_in _ _))
                all_goals (try (exfalso; omega))
                refine s_X8_counts_241' x ok _ _ _ _ ?_
                simp only [wpS, o_c, o_cl, o_il, o_ll, o_al, o_is, o_ls, o_as, o_inc, o_add, o_sub, o_mul, o_and, o_or, o_xor, o_shl, o_shr, o_div, o_neg, o_ladd, o_lsub, o_lmul, o_ldiv, o_lrem, o_lneg, o_lcmp, o_i2l, o_l2i, o_dup, o_dup2, o_pop, o_go, o_nn, o_sw, swc, o_iret, o_zret, o_lret, o_vret, o_ieq, o_eq0, o_ine, o_ne0, o_ilt, o_lt0, o_ige, o_ge0, o_igt, o_gt0, o_ile, o_le0, o_iald, o_zald, o_lald, o_aald, o_iast, o_zast, o_last, o_aast, o_alen, o_gi, o_gr, o_pi, o_pz, o_pr, o_new, o_newa, o_copy, o_oinit, o_call, o_callV, o_callVc, o_callI, popn, cnO, o_BAD, lgt, lst, isL, kil, st1, st2, entL, List.length_nil, List.length_cons, List.replicate, Nat.reduceAdd, Nat.reduceLeDiff, Nat.reduceSub, true_and, and_true, Nat.zero_le, ne_eq, qk_wi, ql_wi, qr_wi, qj_wi, qt_wi, qk_wj, ql_wj, qr_wj, qi_wj, qt_wj, qk_wr, ql_wr, qi_wr, qj_wr, qt_wr, qi_ws, qj_ws, qr_ws, Int.toNat_natCast, Int.toNat_zero, Int.reduceToNat, not_true_eq_false, not_false_eq_true, false_implies, implies_true, Option.some.injEq, reduceCtorEq, Sp0, true_or, or_true, or_self, wi_wi, wj_wj, hM.k, hM.r0, hM.k1, hM.l1, ix0, ix12, ix24, ix36, ix48, ix60, ix1032, ix1044, ix1092, ix1140, ix1188, ix1200, ix1212, ix1284, ix1290, ix1296, ix1298, ix1322, ix1346, ix1358, ixm4, ixm12, ixm24, ixm81, ixm1382, ixadd, Nat.zero_add, cH_k, cH_l, cH_r, cH_i, cH_7, cH_8, cW_7, cW_8, hM.r6, hM.k7, hM.l7, hM.r7, hM.k8, hM.l8, hD, e24, e36, hNc, eT]
                repeat' (first | (with_reducible refine And.intro ?_ ?_) | (with_reducible intro))
                all_goals (try (first | with_reducible assumption | omega | (unfold inI; omega) | (unfold inL; omega) | exact cz_in _ _))
                all_goals (first | exact h257 _ _ _ _ | (exfalso; omega) | skip)
            unfold upf at hU
            by_cases z : 0 < dsh D c m
            · rw [if_pos z] at hU
              have eU : dsh D c m * (db D m + j - db D m) = (U : Int) := by rw [← hU]; congr 1; omega
              refine s_X8_counts_160 x ok _ _ _ _ ?_
              simp only [wpS, o_c, o_cl, o_il, o_ll, o_al, o_is, o_ls, o_as, o_inc, o_add, o_sub, o_mul, o_and, o_or, o_xor, o_shl, o_shr, o_div, o_neg, o_ladd, o_lsub, o_lmul, o_ldiv, o_lrem, o_lneg, o_lcmp, o_i2l, o_l2i, o_dup, o_dup2, o_pop, o_go, o_nn, o_sw, swc, o_iret, o_zret, o_lret, o_vret, o_ieq, o_eq0, o_ine, o_ne0, o_ilt, o_lt0, o_ige, o_ge0, o_igt, o_gt0, o_ile, o_le0, o_iald, o_zald, o_lald, o_aald, o_iast, o_zast, o_last, o_aast, o_alen, o_gi, o_gr, o_pi, o_pz, o_pr, o_new, o_newa, o_copy, o_oinit, o_call, o_callV, o_callVc, o_callI, popn, cnO, o_BAD, lgt, lst, isL, kil, st1, st2, entL, List.length_nil, List.length_cons, List.replicate, Nat.reduceAdd, Nat.reduceLeDiff, Nat.reduceSub, true_and, and_true, Nat.zero_le, ne_eq, qk_wi, ql_wi, qr_wi, qj_wi, qt_wi, qk_wj, ql_wj, qr_wj, qi_wj, qt_wj, qk_wr, ql_wr, qi_wr, qj_wr, qt_wr, qi_ws, qj_ws, qr_ws, Int.toNat_natCast, Int.toNat_zero, Int.reduceToNat, not_true_eq_false, not_false_eq_true, false_implies, implies_true, Option.some.injEq, reduceCtorEq, Sp0, true_or, or_true, or_self, wi_wi, wj_wj, hM.k, hM.r0, hM.k1, hM.l1, ix0, ix12, ix24, ix36, ix48, ix60, ix1032, ix1044, ix1092, ix1140, ix1188, ix1200, ix1212, ix1284, ix1290, ix1296, ix1298, ix1322, ix1346, ix1358, ixm4, ixm12, ixm24, ixm81, ixm1382, ixadd, Nat.zero_add, cH_k, cH_l, cH_r, cH_i, cH_7, cH_8, cW_7, cW_8, hM.r6, hM.k7, hM.l7, hM.r7, hM.k8, hM.l8, hD, e24, e36, hNc, eU]
              repeat' (first | (with_reducible refine And.intro ?_ ?_) | (with_reducible intro))
              all_goals (try (first | with_reducible assumption | omega | (unfold inI; omega) | (unfold inL; omega) | exact cz_in _ _))
              all_goals (first | exact h215 _ _ _ _ _ | (exfalso; omega) | skip)
            · rw [if_neg z] at hU
              have eU : dsh D c m * (db D m + j - da D m) = (U : Int) := by rw [← hU]; congr 1; omega
              refine s_X8_counts_160 x ok _ _ _ _ ?_
              simp only [wpS, o_c, o_cl, o_il, o_ll, o_al, o_is, o_ls, o_as, o_inc, o_add, o_sub, o_mul, o_and, o_or, o_xor, o_shl, o_shr, o_div, o_neg, o_ladd, o_lsub, o_lmul, o_ldiv, o_lrem, o_lneg, o_lcmp, o_i2l, o_l2i, o_dup, o_dup2, o_pop, o_go, o_nn, o_sw, swc, o_iret, o_zret, o_lret, o_vret, o_ieq, o_eq0, o_ine, o_ne0, o_ilt, o_lt0, o_ige, o_ge0, o_igt, o_gt0, o_ile, o_le0, o_iald, o_zald, o_lald, o_aald, o_iast, o_zast, o_last, o_aast, o_alen, o_gi, o_gr, o_pi, o_pz, o_pr, o_new, o_newa, o_copy, o_oinit, o_call, o_callV, o_callVc, o_callI, popn, cnO, o_BAD, lgt, lst, isL, kil, st1, st2, entL, List.length_nil, List.length_cons, List.replicate, Nat.reduceAdd, Nat.reduceLeDiff, Nat.reduceSub, true_and, and_true, Nat.zero_le, ne_eq, qk_wi, ql_wi, qr_wi, qj_wi, qt_wi, qk_wj, ql_wj, qr_wj, qi_wj, qt_wj, qk_wr, ql_wr, qi_wr, qj_wr, qt_wr, qi_ws, qj_ws, qr_ws, Int.toNat_natCast, Int.toNat_zero, Int.reduceToNat, not_true_eq_false, not_false_eq_true, false_implies, implies_true, Option.some.injEq, reduceCtorEq, Sp0, true_or, or_true, or_self, wi_wi, wj_wj, hM.k, hM.r0, hM.k1, hM.l1, ix0, ix12, ix24, ix36, ix48, ix60, ix1032, ix1044, ix1092, ix1140, ix1188, ix1200, ix1212, ix1284, ix1290, ix1296, ix1298, ix1322, ix1346, ix1358, ixm4, ixm12, ixm24, ixm81, ixm1382, ixadd, Nat.zero_add, cH_k, cH_l, cH_r, cH_i, cH_7, cH_8, cW_7, cW_8, hM.r6, hM.k7, hM.l7, hM.r7, hM.k8, hM.l8, hD, e24, e36, hNc]
              repeat' (first | (with_reducible refine And.intro ?_ ?_) | (with_reducible intro))
              all_goals (try (first | with_reducible assumption | omega | (unfold inI; omega) | (unfold inL; omega) | exact cz_in _ _))
              all_goals (try (exfalso; omega))
              refine s_X8_counts_199' x ok _ _ _ _ ?_
              simp only [wpS, o_c, o_cl, o_il, o_ll, o_al, o_is, o_ls, o_as, o_inc, o_add, o_sub, o_mul, o_and, o_or, o_xor, o_shl, o_shr, o_div, o_neg, o_ladd, o_lsub, o_lmul, o_ldiv, o_lrem, o_lneg, o_lcmp, o_i2l, o_l2i, o_dup, o_dup2, o_pop, o_go, o_nn, o_sw, swc, o_iret, o_zret, o_lret, o_vret, o_ieq, o_eq0, o_ine, o_ne0, o_ilt, o_lt0, o_ige, o_ge0, o_igt, o_gt0, o_ile, o_le0, o_iald, o_zald, o_lald, o_aald, o_iast, o_zast, o_last, o_aast, o_alen, o_gi, o_gr, o_pi, o_pz, o_pr, o_new, o_newa, o_copy, o_oinit, o_call, o_callV, o_callVc, o_callI, popn, cnO, o_BAD, lgt, lst, isL, kil, st1, st2, entL, List.length_nil, List.length_cons, List.replicate, Nat.reduceAdd, Nat.reduceLeDiff, Nat.reduceSub, true_and, and_true, Nat.zero_le, ne_eq, qk_wi, ql_wi, qr_wi, qj_wi, qt_wi, qk_wj, ql_wj, qr_wj, qi_wj, qt_wj, qk_wr, ql_wr, qi_wr, qj_wr, qt_wr, qi_ws, qj_ws, qr_ws, Int.toNat_natCast, Int.toNat_zero, Int.reduceToNat, not_true_eq_false, not_false_eq_true, false_implies, implies_true, Option.some.injEq, reduceCtorEq, Sp0, true_or, or_true, or_self, wi_wi, wj_wj, hM.k, hM.r0, hM.k1, hM.l1, ix0, ix12, ix24, ix36, ix48, ix60, ix1032, ix1044, ix1092, ix1140, ix1188, ix1200, ix1212, ix1284, ix1290, ix1296, ix1298, ix1322, ix1346, ix1358, ixm4, ixm12, ixm24, ixm81, ixm1382, ixadd, Nat.zero_add, cH_k, cH_l, cH_r, cH_i, cH_7, cH_8, cW_7, cW_8, hM.r6, hM.k7, hM.l7, hM.r7, hM.k8, hM.l8, hD, e24, e36, hNc, eU]
              repeat' (first | (with_reducible refine And.intro ?_ ?_) | (with_reducible intro))
              all_goals (try (first | with_reducible assumption | omega | (unfold inI; omega) | (unfold inL; omega) | exact cz_in _ _))
              all_goals (first | exact h215 _ _ _ _ _ | (exfalso; omega) | skip)
        have zero : ∀ i, i ≤ N → ∀ (v : Nat → Int) v10 v11 v12 v13 v14, (∀ k, k < i → v k = 0) → V i_X8_counts x 124 [some (vr (some y)), some (vi c), some (vi e), some (vi two), some (vi R), some (vi Q), some (vi m), some (vi (dsh D c m)), some (vi (tw D e two m)), some (vi i), v10, v11, v12, v13, v14] [] (cH h y u v) (0, 0) := by
          refine bwd _ ?_ ?_
          · intro v v10 v11 v12 v13 v14 hv
            have := miss 0 (by omega) v v10 v11 v12 v13 v14 (fun k hk => by rw [hv k hk, hP0])
            have e1 : db D m + ((0 : Nat) : Int) = db D m := Int.add_zero _
            rw [e1] at this
            refine s_X8_counts_124 x ok _ _ _ _ ?_
            simp only [wpS, o_c, o_cl, o_il, o_ll, o_al, o_is, o_ls, o_as, o_inc, o_add, o_sub, o_mul, o_and, o_or, o_xor, o_shl, o_shr, o_div, o_neg, o_ladd, o_lsub, o_lmul, o_ldiv, o_lrem, o_lneg, o_lcmp, o_i2l, o_l2i, o_dup, o_dup2, o_pop, o_go, o_nn, o_sw, swc, o_iret, o_zret, o_lret, o_vret, o_ieq, o_eq0, o_ine, o_ne0, o_ilt, o_lt0, o_ige, o_ge0, o_igt, o_gt0, o_ile, o_le0, o_iald, o_zald, o_lald, o_aald, o_iast, o_zast, o_last, o_aast, o_alen, o_gi, o_gr, o_pi, o_pz, o_pr, o_new, o_newa, o_copy, o_oinit, o_call, o_callV, o_callVc, o_callI, popn, cnO, o_BAD, lgt, lst, isL, kil, st1, st2, entL, List.length_nil, List.length_cons, List.replicate, Nat.reduceAdd, Nat.reduceLeDiff, Nat.reduceSub, true_and, and_true, Nat.zero_le, ne_eq, qk_wi, ql_wi, qr_wi, qj_wi, qt_wi, qk_wj, ql_wj, qr_wj, qi_wj, qt_wj, qk_wr, ql_wr, qi_wr, qj_wr, qt_wr, qi_ws, qj_ws, qr_ws, Int.toNat_natCast, Int.toNat_zero, Int.reduceToNat, not_true_eq_false, not_false_eq_true, false_implies, implies_true, Option.some.injEq, reduceCtorEq, Sp0, true_or, or_true, or_self, wi_wi, wj_wj, hM.k, hM.r0, hM.k1, hM.l1, ix0, ix12, ix24, ix36, ix48, ix60, ix1032, ix1044, ix1092, ix1140, ix1188, ix1200, ix1212, ix1284, ix1290, ix1296, ix1298, ix1322, ix1346, ix1358, ixm4, ixm12, ixm24, ixm81, ixm1382, ixadd, Nat.zero_add, cH_k, cH_l, cH_r, cH_i, cH_7, cH_8, cW_7, cW_8, hM.r6, hM.k7, hM.l7, hM.r7, hM.k8, hM.l8, hD, e24, e36, hNc]
            repeat' (first | (with_reducible refine And.intro ?_ ?_) | (with_reducible intro))
            all_goals (try (first | with_reducible assumption | omega | (unfold inI; omega) | (unfold inL; omega) | exact cz_in _ _))
            all_goals (try (exfalso; omega))
            refine s_X8_counts_148 x ok _ _ _ _ ?_
            simp only [wpS, o_c, o_cl, o_il, o_ll, o_al, o_is, o_ls, o_as, o_inc, o_add, o_sub, o_mul, o_and, o_or, o_xor, o_shl, o_shr, o_div, o_neg, o_ladd, o_lsub, o_lmul, o_ldiv, o_lrem, o_lneg, o_lcmp, o_i2l, o_l2i, o_dup, o_dup2, o_pop, o_go, o_nn, o_sw, swc, o_iret, o_zret, o_lret, o_vret, o_ieq, o_eq0, o_ine, o_ne0, o_ilt, o_lt0, o_ige, o_ge0, o_igt, o_gt0, o_ile, o_le0, o_iald, o_zald, o_lald, o_aald, o_iast, o_zast, o_last, o_aast, o_alen, o_gi, o_gr, o_pi, o_pz, o_pr, o_new, o_newa, o_copy, o_oinit, o_call, o_callV, o_callVc, o_callI, popn, cnO, o_BAD, lgt, lst, isL, kil, st1, st2, entL, List.length_nil, List.length_cons, List.replicate, Nat.reduceAdd, Nat.reduceLeDiff, Nat.reduceSub, true_and, and_true, Nat.zero_le, ne_eq, qk_wi, ql_wi, qr_wi, qj_wi, qt_wi, qk_wj, ql_wj, qr_wj, qi_wj, qt_wj, qk_wr, ql_wr, qi_wr, qj_wr, qt_wr, qi_ws, qj_ws, qr_ws, Int.toNat_natCast, Int.toNat_zero, Int.reduceToNat, not_true_eq_false, not_false_eq_true, false_implies, implies_true, Option.some.injEq, reduceCtorEq, Sp0, true_or, or_true, or_self, wi_wi, wj_wj, hM.k, hM.r0, hM.k1, hM.l1, ix0, ix12, ix24, ix36, ix48, ix60, ix1032, ix1044, ix1092, ix1140, ix1188, ix1200, ix1212, ix1284, ix1290, ix1296, ix1298, ix1322, ix1346, ix1358, ixm4, ixm12, ixm24, ixm81, ixm1382, ixadd, Nat.zero_add, cH_k, cH_l, cH_r, cH_i, cH_7, cH_8, cW_7, cW_8, hM.r6, hM.k7, hM.l7, hM.r7, hM.k8, hM.l8, hD, e24, e36, hNc]
            repeat' (first | (with_reducible refine And.intro ?_ ?_) | (with_reducible intro))
            all_goals (try (first | with_reducible assumption | omega | (unfold inI; omega) | (unfold inL; omega) | exact cz_in _ _))
            all_goals (first | exact this | skip)
          · intro i hi ih2 v v10 v11 v12 v13 v14 hv
            refine s_X8_counts_124 x ok _ _ _ _ ?_
            simp only [wpS, o_c, o_cl, o_il, o_ll, o_al, o_is, o_ls, o_as, o_inc, o_add, o_sub, o_mul, o_and, o_or, o_xor, o_shl, o_shr, o_div, o_neg, o_ladd, o_lsub, o_lmul, o_ldiv, o_lrem, o_lneg, o_lcmp, o_i2l, o_l2i, o_dup, o_dup2, o_pop, o_go, o_nn, o_sw, swc, o_iret, o_zret, o_lret, o_vret, o_ieq, o_eq0, o_ine, o_ne0, o_ilt, o_lt0, o_ige, o_ge0, o_igt, o_gt0, o_ile, o_le0, o_iald, o_zald, o_lald, o_aald, o_iast, o_zast, o_last, o_aast, o_alen, o_gi, o_gr, o_pi, o_pz, o_pr, o_new, o_newa, o_copy, o_oinit, o_call, o_callV, o_callVc, o_callI, popn, cnO, o_BAD, lgt, lst, isL, kil, st1, st2, entL, List.length_nil, List.length_cons, List.replicate, Nat.reduceAdd, Nat.reduceLeDiff, Nat.reduceSub, true_and, and_true, Nat.zero_le, ne_eq, qk_wi, ql_wi, qr_wi, qj_wi, qt_wi, qk_wj, ql_wj, qr_wj, qi_wj, qt_wj, qk_wr, ql_wr, qi_wr, qj_wr, qt_wr, qi_ws, qj_ws, qr_ws, Int.toNat_natCast, Int.toNat_zero, Int.reduceToNat, not_true_eq_false, not_false_eq_true, false_implies, implies_true, Option.some.injEq, reduceCtorEq, Sp0, true_or, or_true, or_self, wi_wi, wj_wj, hM.k, hM.r0, hM.k1, hM.l1, ix0, ix12, ix24, ix36, ix48, ix60, ix1032, ix1044, ix1092, ix1140, ix1188, ix1200, ix1212, ix1284, ix1290, ix1296, ix1298, ix1322, ix1346, ix1358, ixm4, ixm12, ixm24, ixm81, ixm1382, ixadd, Nat.zero_add, cH_k, cH_l, cH_r, cH_i, cH_7, cH_8, cW_7, cW_8, hM.r6, hM.k7, hM.l7, hM.r7, hM.k8, hM.l8, hD, e24, e36, hNc]
            repeat' (first | (with_reducible refine And.intro ?_ ?_) | (with_reducible intro))
            all_goals (try (first | with_reducible assumption | omega | (unfold inI; omega) | (unfold inL; omega) | exact cz_in _ _))
            all_goals (try (exfalso; omega))
            refine ih2 _ _ _ _ _ _ (fun k hk => ?_)
            unfold fu
            by_cases z : k = i
            · rw [if_pos z]
            · rw [if_neg z]; exact hv k (by omega)
        intro v9 v10 v11 v12 v13 v14
        refine s_X8_counts_121 x ok _ _ _ _ ?_
        simp only [wpS, o_c, o_cl, o_il, o_ll, o_al, o_is, o_ls, o_as, o_inc, o_add, o_sub, o_mul, o_and, o_or, o_xor, o_shl, o_shr, o_div, o_neg, o_ladd, o_lsub, o_lmul, o_ldiv, o_lrem, o_lneg, o_lcmp, o_i2l, o_l2i, o_dup, o_dup2, o_pop, o_go, o_nn, o_sw, swc, o_iret, o_zret, o_lret, o_vret, o_ieq, o_eq0, o_ine, o_ne0, o_ilt, o_lt0, o_ige, o_ge0, o_igt, o_gt0, o_ile, o_le0, o_iald, o_zald, o_lald, o_aald, o_iast, o_zast, o_last, o_aast, o_alen, o_gi, o_gr, o_pi, o_pz, o_pr, o_new, o_newa, o_copy, o_oinit, o_call, o_callV, o_callVc, o_callI, popn, cnO, o_BAD, lgt, lst, isL, kil, st1, st2, entL, List.length_nil, List.length_cons, List.replicate, Nat.reduceAdd, Nat.reduceLeDiff, Nat.reduceSub, true_and, and_true, Nat.zero_le, ne_eq, qk_wi, ql_wi, qr_wi, qj_wi, qt_wi, qk_wj, ql_wj, qr_wj, qi_wj, qt_wj, qk_wr, ql_wr, qi_wr, qj_wr, qt_wr, qi_ws, qj_ws, qr_ws, Int.toNat_natCast, Int.toNat_zero, Int.reduceToNat, not_true_eq_false, not_false_eq_true, false_implies, implies_true, Option.some.injEq, reduceCtorEq, Sp0, true_or, or_true, or_self, wi_wi, wj_wj, hM.k]
        exact zero 0 (by omega) v _ _ _ _ _ (fun k hk => by omega)
      have h94 : ∀ v9 v10 v11 v12 v13 v14, V i_X8_counts x 94 [some (vr (some y)), some (vi c), some (vi e), some (vi two), some (vi R), some (vi Q), some (vi m), some (vi (dsh D c m)), v8, v9, v10, v11, v12, v13, v14] [vi (tw D e two m)] (cH h y u v) (0, 0) := by
        intro v9 v10 v11 v12 v13 v14
        refine s_X8_counts_94 x ok _ _ _ _ ?_
        simp only [wpS, o_c, o_cl, o_il, o_ll, o_al, o_is, o_ls, o_as, o_inc, o_add, o_sub, o_mul, o_and, o_or, o_xor, o_shl, o_shr, o_div, o_neg, o_ladd, o_lsub, o_lmul, o_ldiv, o_lrem, o_lneg, o_lcmp, o_i2l, o_l2i, o_dup, o_dup2, o_pop, o_go, o_nn, o_sw, swc, o_iret, o_zret, o_lret, o_vret, o_ieq, o_eq0, o_ine, o_ne0, o_ilt, o_lt0, o_ige, o_ge0, o_igt, o_gt0, o_ile, o_le0, o_iald, o_zald, o_lald, o_aald, o_iast, o_zast, o_last, o_aast, o_alen, o_gi, o_gr, o_pi, o_pz, o_pr, o_new, o_newa, o_copy, o_oinit, o_call, o_callV, o_callVc, o_callI, popn, cnO, o_BAD, lgt, lst, isL, kil, st1, st2, entL, List.length_nil, List.length_cons, List.replicate, Nat.reduceAdd, Nat.reduceLeDiff, Nat.reduceSub, true_and, and_true, Nat.zero_le, ne_eq, qk_wi, ql_wi, qr_wi, qj_wi, qt_wi, qk_wj, ql_wj, qr_wj, qi_wj, qt_wj, qk_wr, ql_wr, qi_wr, qj_wr, qt_wr, qi_ws, qj_ws, qr_ws, Int.toNat_natCast, Int.toNat_zero, Int.reduceToNat, not_true_eq_false, not_false_eq_true, false_implies, implies_true, Option.some.injEq, reduceCtorEq, Sp0, true_or, or_true, or_self, wi_wi, wj_wj, hM.k, hM.r0, hM.k1, hM.l1, ix0, ix12, ix24, ix36, ix48, ix60, ix1032, ix1044, ix1092, ix1140, ix1188, ix1200, ix1212, ix1284, ix1290, ix1296, ix1298, ix1322, ix1346, ix1358, ixm4, ixm12, ixm24, ixm81, ixm1382, ixadd, Nat.zero_add, cH_k, cH_l, cH_r, cH_i, hD, e0]
        repeat' (first | (with_reducible refine And.intro ?_ ?_) | (with_reducible intro))
        all_goals (try (first | with_reducible assumption | omega | (unfold inI; omega) | (unfold inL; omega) | exact cz_in _ _))
        all_goals (first | exact work (by omega) _ _ _ _ _ _ | exact skip (by omega) _ _ _ _ _ _ _ _ | (exfalso; omega) | skip)
      refine s_X8_counts_63 x ok _ _ _ _ ?_
      simp only [wpS, o_c, o_cl, o_il, o_ll, o_al, o_is, o_ls, o_as, o_inc, o_add, o_sub, o_mul, o_and, o_or, o_xor, o_shl, o_shr, o_div, o_neg, o_ladd, o_lsub, o_lmul, o_ldiv, o_lrem, o_lneg, o_lcmp, o_i2l, o_l2i, o_dup, o_dup2, o_pop, o_go, o_nn, o_sw, swc, o_iret, o_zret, o_lret, o_vret, o_ieq, o_eq0, o_ine, o_ne0, o_ilt, o_lt0, o_ige, o_ge0, o_igt, o_gt0, o_ile, o_le0, o_iald, o_zald, o_lald, o_aald, o_iast, o_zast, o_last, o_aast, o_alen, o_gi, o_gr, o_pi, o_pz, o_pr, o_new, o_newa, o_copy, o_oinit, o_call, o_callV, o_callVc, o_callI, popn, cnO, o_BAD, lgt, lst, isL, kil, st1, st2, entL, List.length_nil, List.length_cons, List.replicate, Nat.reduceAdd, Nat.reduceLeDiff, Nat.reduceSub, true_and, and_true, Nat.zero_le, ne_eq, qk_wi, ql_wi, qr_wi, qj_wi, qt_wi, qk_wj, ql_wj, qr_wj, qi_wj, qt_wj, qk_wr, ql_wr, qi_wr, qj_wr, qt_wr, qi_ws, qj_ws, qr_ws, Int.toNat_natCast, Int.toNat_zero, Int.reduceToNat, not_true_eq_false, not_false_eq_true, false_implies, implies_true, Option.some.injEq, reduceCtorEq, Sp0, true_or, or_true, or_self, wi_wi, wj_wj, hM.k, cH_k]
      repeat' (first | (with_reducible refine And.intro ?_ ?_) | (with_reducible intro))
      all_goals (try (first | with_reducible assumption | omega | (unfold inI; omega) | (unfold inL; omega) | exact cz_in _ _))
      all_goals (try (exfalso; omega))
      refine c8_shareOf (hM2 _ _) hc hm ?_
      rw [hD2]
      rcases htwo with z | z
      · have ez : tw D e two m = 0 := by unfold tw; rw [if_neg (by omega)]
        rw [ez] at h94
        subst z
        simp only [wpS, o_c, o_cl, o_il, o_ll, o_al, o_is, o_ls, o_as, o_inc, o_add, o_sub, o_mul, o_and, o_or, o_xor, o_shl, o_shr, o_div, o_neg, o_ladd, o_lsub, o_lmul, o_ldiv, o_lrem, o_lneg, o_lcmp, o_i2l, o_l2i, o_dup, o_dup2, o_pop, o_go, o_nn, o_sw, swc, o_iret, o_zret, o_lret, o_vret, o_ieq, o_eq0, o_ine, o_ne0, o_ilt, o_lt0, o_ige, o_ge0, o_igt, o_gt0, o_ile, o_le0, o_iald, o_zald, o_lald, o_aald, o_iast, o_zast, o_last, o_aast, o_alen, o_gi, o_gr, o_pi, o_pz, o_pr, o_new, o_newa, o_copy, o_oinit, o_call, o_callV, o_callVc, o_callI, popn, cnO, o_BAD, lgt, lst, isL, kil, st1, st2, entL, List.length_nil, List.length_cons, List.replicate, Nat.reduceAdd, Nat.reduceLeDiff, Nat.reduceSub, true_and, and_true, Nat.zero_le, ne_eq, qk_wi, ql_wi, qr_wi, qj_wi, qt_wi, qk_wj, ql_wj, qr_wj, qi_wj, qt_wj, qk_wr, ql_wr, qi_wr, qj_wr, qt_wr, qi_ws, qj_ws, qr_ws, Int.toNat_natCast, Int.toNat_zero, Int.reduceToNat, not_true_eq_false, not_false_eq_true, false_implies, implies_true, Option.some.injEq, reduceCtorEq, Sp0, true_or, or_true, or_self, wi_wi, wj_wj, hM.k, cH_k]
        repeat' (first | (with_reducible refine And.intro ?_ ?_) | (with_reducible intro))
        all_goals (try (first | with_reducible assumption | omega | (unfold inI; omega) | (unfold inL; omega) | exact cz_in _ _))
        all_goals (try (exfalso; omega))
        refine s_X8_counts_93' x ok _ _ _ _ ?_
        simp only [wpS, o_c, o_cl, o_il, o_ll, o_al, o_is, o_ls, o_as, o_inc, o_add, o_sub, o_mul, o_and, o_or, o_xor, o_shl, o_shr, o_div, o_neg, o_ladd, o_lsub, o_lmul, o_ldiv, o_lrem, o_lneg, o_lcmp, o_i2l, o_l2i, o_dup, o_dup2, o_pop, o_go, o_nn, o_sw, swc, o_iret, o_zret, o_lret, o_vret, o_ieq, o_eq0, o_ine, o_ne0, o_ilt, o_lt0, o_ige, o_ge0, o_igt, o_gt0, o_ile, o_le0, o_iald, o_zald, o_lald, o_aald, o_iast, o_zast, o_last, o_aast, o_alen, o_gi, o_gr, o_pi, o_pz, o_pr, o_new, o_newa, o_copy, o_oinit, o_call, o_callV, o_callVc, o_callI, popn, cnO, o_BAD, lgt, lst, isL, kil, st1, st2, entL, List.length_nil, List.length_cons, List.replicate, Nat.reduceAdd, Nat.reduceLeDiff, Nat.reduceSub, true_and, and_true, Nat.zero_le, ne_eq, qk_wi, ql_wi, qr_wi, qj_wi, qt_wi, qk_wj, ql_wj, qr_wj, qi_wj, qt_wj, qk_wr, ql_wr, qi_wr, qj_wr, qt_wr, qi_ws, qj_ws, qr_ws, Int.toNat_natCast, Int.toNat_zero, Int.reduceToNat, not_true_eq_false, not_false_eq_true, false_implies, implies_true, Option.some.injEq, reduceCtorEq, Sp0, true_or, or_true, or_self, wi_wi, wj_wj, hM.k]
        exact h94 _ _ _ _ _ _
      · have ez : tw D e two m = dsh D e m := by unfold tw; rw [if_pos z]
        rw [ez] at h94
        subst z
        simp only [wpS, o_c, o_cl, o_il, o_ll, o_al, o_is, o_ls, o_as, o_inc, o_add, o_sub, o_mul, o_and, o_or, o_xor, o_shl, o_shr, o_div, o_neg, o_ladd, o_lsub, o_lmul, o_ldiv, o_lrem, o_lneg, o_lcmp, o_i2l, o_l2i, o_dup, o_dup2, o_pop, o_go, o_nn, o_sw, swc, o_iret, o_zret, o_lret, o_vret, o_ieq, o_eq0, o_ine, o_ne0, o_ilt, o_lt0, o_ige, o_ge0, o_igt, o_gt0, o_ile, o_le0, o_iald, o_zald, o_lald, o_aald, o_iast, o_zast, o_last, o_aast, o_alen, o_gi, o_gr, o_pi, o_pz, o_pr, o_new, o_newa, o_copy, o_oinit, o_call, o_callV, o_callVc, o_callI, popn, cnO, o_BAD, lgt, lst, isL, kil, st1, st2, entL, List.length_nil, List.length_cons, List.replicate, Nat.reduceAdd, Nat.reduceLeDiff, Nat.reduceSub, true_and, and_true, Nat.zero_le, ne_eq, qk_wi, ql_wi, qr_wi, qj_wi, qt_wi, qk_wj, ql_wj, qr_wj, qi_wj, qt_wj, qk_wr, ql_wr, qi_wr, qj_wr, qt_wr, qi_ws, qj_ws, qr_ws, Int.toNat_natCast, Int.toNat_zero, Int.reduceToNat, not_true_eq_false, not_false_eq_true, false_implies, implies_true, Option.some.injEq, reduceCtorEq, Sp0, true_or, or_true, or_self, wi_wi, wj_wj, hM.k, cH_k]
        repeat' (first | (with_reducible refine And.intro ?_ ?_) | (with_reducible intro))
        all_goals (try (first | with_reducible assumption | omega | (unfold inI; omega) | (unfold inL; omega) | exact cz_in _ _))
        all_goals (try (exfalso; omega))
        refine c8_shareOf (hM2 _ _) he hm ?_
        rw [hD2]
        simp only [wpS, o_c, o_cl, o_il, o_ll, o_al, o_is, o_ls, o_as, o_inc, o_add, o_sub, o_mul, o_and, o_or, o_xor, o_shl, o_shr, o_div, o_neg, o_ladd, o_lsub, o_lmul, o_ldiv, o_lrem, o_lneg, o_lcmp, o_i2l, o_l2i, o_dup, o_dup2, o_pop, o_go, o_nn, o_sw, swc, o_iret, o_zret, o_lret, o_vret, o_ieq, o_eq0, o_ine, o_ne0, o_ilt, o_lt0, o_ige, o_ge0, o_igt, o_gt0, o_ile, o_le0, o_iald, o_zald, o_lald, o_aald, o_iast, o_zast, o_last, o_aast, o_alen, o_gi, o_gr, o_pi, o_pz, o_pr, o_new, o_newa, o_copy, o_oinit, o_call, o_callV, o_callVc, o_callI, popn, cnO, o_BAD, lgt, lst, isL, kil, st1, st2, entL, List.length_nil, List.length_cons, List.replicate, Nat.reduceAdd, Nat.reduceLeDiff, Nat.reduceSub, true_and, and_true, Nat.zero_le, ne_eq, qk_wi, ql_wi, qr_wi, qj_wi, qt_wi, qk_wj, ql_wj, qr_wj, qi_wj, qt_wj, qk_wr, ql_wr, qi_wr, qj_wr, qt_wr, qi_ws, qj_ws, qr_ws, Int.toNat_natCast, Int.toNat_zero, Int.reduceToNat, not_true_eq_false, not_false_eq_true, false_implies, implies_true, Option.some.injEq, reduceCtorEq, Sp0, true_or, or_true, or_self, wi_wi, wj_wj, hM.k]
        exact h94 _ _ _ _ _ _
  have hNc : (R : Int) * (Q : Int) = (N : Int) := by rw [hN]; exact ixmul R Q
  have start : ∀ i, i ≤ N → ∀ u : Nat → Int, (∀ k, k < i → u k = 0) → ∀ v7 v8 v9 v10 v11 v12 v13 v14, V i_X8_counts x 29 [some (vr (some y)), some (vi c), some (vi e), some (vi two), some (vi R), some (vi Q), some (vi i), v7, v8, v9, v10, v11, v12, v13, v14] [] (cH h y u (qj h (y + 8))) (0, 0) := by
    refine bwd _ ?_ ?_
    · intro u hu v7 v8 v9 v10 v11 v12 v13 v14
      have := main 0 (by omega) (fu u 0 1) (qj h (y + 8)) (fun k hk => by
        show fu u 0 1 k = if k = 0 then 1 else 0
        unfold fu
        by_cases z : k = 0
        · rw [if_pos z, if_pos z]
        · rw [if_neg z, if_neg z]; exact hu k hk)
      refine s_X8_counts_29 x ok _ _ _ _ ?_
      simp only [wpS, o_c, o_cl, o_il, o_ll, o_al, o_is, o_ls, o_as, o_inc, o_add, o_sub, o_mul, o_and, o_or, o_xor, o_shl, o_shr, o_div, o_neg, o_ladd, o_lsub, o_lmul, o_ldiv, o_lrem, o_lneg, o_lcmp, o_i2l, o_l2i, o_dup, o_dup2, o_pop, o_go, o_nn, o_sw, swc, o_iret, o_zret, o_lret, o_vret, o_ieq, o_eq0, o_ine, o_ne0, o_ilt, o_lt0, o_ige, o_ge0, o_igt, o_gt0, o_ile, o_le0, o_iald, o_zald, o_lald, o_aald, o_iast, o_zast, o_last, o_aast, o_alen, o_gi, o_gr, o_pi, o_pz, o_pr, o_new, o_newa, o_copy, o_oinit, o_call, o_callV, o_callVc, o_callI, popn, cnO, o_BAD, lgt, lst, isL, kil, st1, st2, entL, List.length_nil, List.length_cons, List.replicate, Nat.reduceAdd, Nat.reduceLeDiff, Nat.reduceSub, true_and, and_true, Nat.zero_le, ne_eq, qk_wi, ql_wi, qr_wi, qj_wi, qt_wi, qk_wj, ql_wj, qr_wj, qi_wj, qt_wj, qk_wr, ql_wr, qi_wr, qj_wr, qt_wr, qi_ws, qj_ws, qr_ws, Int.toNat_natCast, Int.toNat_zero, Int.reduceToNat, not_true_eq_false, not_false_eq_true, false_implies, implies_true, Option.some.injEq, reduceCtorEq, Sp0, true_or, or_true, or_self, wi_wi, wj_wj, hM.k, hM.r0, hM.k1, hM.l1, ix0, ix12, ix24, ix36, ix48, ix60, ix1032, ix1044, ix1092, ix1140, ix1188, ix1200, ix1212, ix1284, ix1290, ix1296, ix1298, ix1322, ix1346, ix1358, ixm4, ixm12, ixm24, ixm81, ixm1382, ixadd, Nat.zero_add, cH_k, cH_l, cH_r, cH_i, cH_7, cH_8, cW_7, cW_8, hM.r6, hM.k7, hM.l7, hM.r7, hM.k8, hM.l8, hNc]
      repeat' (first | (with_reducible refine And.intro ?_ ?_) | (with_reducible intro))
      all_goals (try (first | with_reducible assumption | omega | (unfold inI; omega) | (unfold inL; omega) | exact cz_in _ _))
      all_goals (try (exfalso; omega))
      refine s_X8_counts_53 x ok _ _ _ _ ?_
      simp only [wpS, o_c, o_cl, o_il, o_ll, o_al, o_is, o_ls, o_as, o_inc, o_add, o_sub, o_mul, o_and, o_or, o_xor, o_shl, o_shr, o_div, o_neg, o_ladd, o_lsub, o_lmul, o_ldiv, o_lrem, o_lneg, o_lcmp, o_i2l, o_l2i, o_dup, o_dup2, o_pop, o_go, o_nn, o_sw, swc, o_iret, o_zret, o_lret, o_vret, o_ieq, o_eq0, o_ine, o_ne0, o_ilt, o_lt0, o_ige, o_ge0, o_igt, o_gt0, o_ile, o_le0, o_iald, o_zald, o_lald, o_aald, o_iast, o_zast, o_last, o_aast, o_alen, o_gi, o_gr, o_pi, o_pz, o_pr, o_new, o_newa, o_copy, o_oinit, o_call, o_callV, o_callVc, o_callI, popn, cnO, o_BAD, lgt, lst, isL, kil, st1, st2, entL, List.length_nil, List.length_cons, List.replicate, Nat.reduceAdd, Nat.reduceLeDiff, Nat.reduceSub, true_and, and_true, Nat.zero_le, ne_eq, qk_wi, ql_wi, qr_wi, qj_wi, qt_wi, qk_wj, ql_wj, qr_wj, qi_wj, qt_wj, qk_wr, ql_wr, qi_wr, qj_wr, qt_wr, qi_ws, qj_ws, qr_ws, Int.toNat_natCast, Int.toNat_zero, Int.reduceToNat, not_true_eq_false, not_false_eq_true, false_implies, implies_true, Option.some.injEq, reduceCtorEq, Sp0, true_or, or_true, or_self, wi_wi, wj_wj, hM.k, hM.r0, hM.k1, hM.l1, ix0, ix12, ix24, ix36, ix48, ix60, ix1032, ix1044, ix1092, ix1140, ix1188, ix1200, ix1212, ix1284, ix1290, ix1296, ix1298, ix1322, ix1346, ix1358, ixm4, ixm12, ixm24, ixm81, ixm1382, ixadd, Nat.zero_add, cH_k, cH_l, cH_r, cH_i, cH_7, cH_8, cW_7, cW_8, hM.r6, hM.k7, hM.l7, hM.r7, hM.k8, hM.l8, hNc]
      repeat' (first | (with_reducible refine And.intro ?_ ?_) | (with_reducible intro))
      all_goals (try (first | with_reducible assumption | omega | (unfold inI; omega) | (unfold inL; omega) | exact cz_in _ _))
      all_goals (first | exact this _ _ _ _ _ _ _ _ | skip)
    · intro i hi ih u hu v7 v8 v9 v10 v11 v12 v13 v14
      refine s_X8_counts_29 x ok _ _ _ _ ?_
      simp only [wpS, o_c, o_cl, o_il, o_ll, o_al, o_is, o_ls, o_as, o_inc, o_add, o_sub, o_mul, o_and, o_or, o_xor, o_shl, o_shr, o_div, o_neg, o_ladd, o_lsub, o_lmul, o_ldiv, o_lrem, o_lneg, o_lcmp, o_i2l, o_l2i, o_dup, o_dup2, o_pop, o_go, o_nn, o_sw, swc, o_iret, o_zret, o_lret, o_vret, o_ieq, o_eq0, o_ine, o_ne0, o_ilt, o_lt0, o_ige, o_ge0, o_igt, o_gt0, o_ile, o_le0, o_iald, o_zald, o_lald, o_aald, o_iast, o_zast, o_last, o_aast, o_alen, o_gi, o_gr, o_pi, o_pz, o_pr, o_new, o_newa, o_copy, o_oinit, o_call, o_callV, o_callVc, o_callI, popn, cnO, o_BAD, lgt, lst, isL, kil, st1, st2, entL, List.length_nil, List.length_cons, List.replicate, Nat.reduceAdd, Nat.reduceLeDiff, Nat.reduceSub, true_and, and_true, Nat.zero_le, ne_eq, qk_wi, ql_wi, qr_wi, qj_wi, qt_wi, qk_wj, ql_wj, qr_wj, qi_wj, qt_wj, qk_wr, ql_wr, qi_wr, qj_wr, qt_wr, qi_ws, qj_ws, qr_ws, Int.toNat_natCast, Int.toNat_zero, Int.reduceToNat, not_true_eq_false, not_false_eq_true, false_implies, implies_true, Option.some.injEq, reduceCtorEq, Sp0, true_or, or_true, or_self, wi_wi, wj_wj, hM.k, hM.r0, hM.k1, hM.l1, ix0, ix12, ix24, ix36, ix48, ix60, ix1032, ix1044, ix1092, ix1140, ix1188, ix1200, ix1212, ix1284, ix1290, ix1296, ix1298, ix1322, ix1346, ix1358, ixm4, ixm12, ixm24, ixm81, ixm1382, ixadd, Nat.zero_add, cH_k, cH_l, cH_r, cH_i, cH_7, cH_8, cW_7, cW_8, hM.r6, hM.k7, hM.l7, hM.r7, hM.k8, hM.l8, hNc]
      repeat' (first | (with_reducible refine And.intro ?_ ?_) | (with_reducible intro))
      all_goals (try (first | with_reducible assumption | omega | (unfold inI; omega) | (unfold inL; omega) | exact cz_in _ _))
      all_goals (try (exfalso; omega))
      refine ih _ (fun k hk => ?_) _ _ _ _ _ _ _ _
      unfold fu
      by_cases z : k = i
      · rw [if_pos z]
      · rw [if_neg z]; exact hu k (by omega)
  have h29 := start 0 (by omega) (qj h (y + 7)) (fun k hk => by omega)
  rw [hself] at h29
  have eR : wdG D (dsh D c) + 1 = (R : Int) := by rw [hW1, hR]; rfl
  have h24 : ∀ v7 v8 v9 v10 v11 v12 v13 v14, V i_X8_counts x 24 [some (vr (some y)), some (vi c), some (vi e), some (vi two), some (vi R), none, none, v7, v8, v9, v10, v11, v12, v13, v14] [vi Q] h (0, 0) := by
    intro v7 v8 v9 v10 v11 v12 v13 v14
    refine s_X8_counts_24 x ok _ _ _ _ ?_
    simp only [wpS, o_c, o_cl, o_il, o_ll, o_al, o_is, o_ls, o_as, o_inc, o_add, o_sub, o_mul, o_and, o_or, o_xor, o_shl, o_shr, o_div, o_neg, o_ladd, o_lsub, o_lmul, o_ldiv, o_lrem, o_lneg, o_lcmp, o_i2l, o_l2i, o_dup, o_dup2, o_pop, o_go, o_nn, o_sw, swc, o_iret, o_zret, o_lret, o_vret, o_ieq, o_eq0, o_ine, o_ne0, o_ilt, o_lt0, o_ige, o_ge0, o_igt, o_gt0, o_ile, o_le0, o_iald, o_zald, o_lald, o_aald, o_iast, o_zast, o_last, o_aast, o_alen, o_gi, o_gr, o_pi, o_pz, o_pr, o_new, o_newa, o_copy, o_oinit, o_call, o_callV, o_callVc, o_callI, popn, cnO, o_BAD, lgt, lst, isL, kil, st1, st2, entL, List.length_nil, List.length_cons, List.replicate, Nat.reduceAdd, Nat.reduceLeDiff, Nat.reduceSub, true_and, and_true, Nat.zero_le, ne_eq, qk_wi, ql_wi, qr_wi, qj_wi, qt_wi, qk_wj, ql_wj, qr_wj, qi_wj, qt_wj, qk_wr, ql_wr, qi_wr, qj_wr, qt_wr, qi_ws, qj_ws, qr_ws, Int.toNat_natCast, Int.toNat_zero, Int.reduceToNat, not_true_eq_false, not_false_eq_true, false_implies, implies_true, Option.some.injEq, reduceCtorEq, Sp0, true_or, or_true, or_self, wi_wi, wj_wj, hM.k]
    repeat' (first | (with_reducible refine And.intro ?_ ?_) | (with_reducible intro))
    all_goals (try (first | with_reducible assumption | omega | (unfold inI; omega) | (unfold inL; omega) | exact cz_in _ _))
    all_goals (first | exact h29 _ _ _ _ _ _ _ _ | skip)
  refine s_X8_counts_0 x ok _ _ _ _ ?_
  simp only [wpS, o_c, o_cl, o_il, o_ll, o_al, o_is, o_ls, o_as, o_inc, o_add, o_sub, o_mul, o_and, o_or, o_xor, o_shl, o_shr, o_div, o_neg, o_ladd, o_lsub, o_lmul, o_ldiv, o_lrem, o_lneg, o_lcmp, o_i2l, o_l2i, o_dup, o_dup2, o_pop, o_go, o_nn, o_sw, swc, o_iret, o_zret, o_lret, o_vret, o_ieq, o_eq0, o_ine, o_ne0, o_ilt, o_lt0, o_ige, o_ge0, o_igt, o_gt0, o_ile, o_le0, o_iald, o_zald, o_lald, o_aald, o_iast, o_zast, o_last, o_aast, o_alen, o_gi, o_gr, o_pi, o_pz, o_pr, o_new, o_newa, o_copy, o_oinit, o_call, o_callV, o_callVc, o_callI, popn, cnO, o_BAD, lgt, lst, isL, kil, st1, st2, entL, List.length_nil, List.length_cons, List.replicate, Nat.reduceAdd, Nat.reduceLeDiff, Nat.reduceSub, true_and, and_true, Nat.zero_le, ne_eq, qk_wi, ql_wi, qr_wi, qj_wi, qt_wi, qk_wj, ql_wj, qr_wj, qi_wj, qt_wj, qk_wr, ql_wr, qi_wr, qj_wr, qt_wr, qi_ws, qj_ws, qr_ws, Int.toNat_natCast, Int.toNat_zero, Int.reduceToNat, not_true_eq_false, not_false_eq_true, false_implies, implies_true, Option.some.injEq, reduceCtorEq, Sp0, true_or, or_true, or_self, wi_wi, wj_wj, hM.k]
  repeat' (first | (with_reducible refine And.intro ?_ ?_) | (with_reducible intro))
  all_goals (try (first | with_reducible assumption | omega | (unfold inI; omega) | (unfold inL; omega) | exact cz_in _ _))
  refine c8_wide hM (by rw [hD]; exact hI) hc ?_
  rw [hD]
  rcases htwo with z | z
  · have ez : tw D e two = fun _ => 0 := by unfold tw; rw [if_neg (by omega)]
    have eQ : (Q : Int) = 1 := by
      rw [ez, wdG_0] at hW2
      omega
    rw [eQ] at h24
    subst z
    simp only [wpS, o_c, o_cl, o_il, o_ll, o_al, o_is, o_ls, o_as, o_inc, o_add, o_sub, o_mul, o_and, o_or, o_xor, o_shl, o_shr, o_div, o_neg, o_ladd, o_lsub, o_lmul, o_ldiv, o_lrem, o_lneg, o_lcmp, o_i2l, o_l2i, o_dup, o_dup2, o_pop, o_go, o_nn, o_sw, swc, o_iret, o_zret, o_lret, o_vret, o_ieq, o_eq0, o_ine, o_ne0, o_ilt, o_lt0, o_ige, o_ge0, o_igt, o_gt0, o_ile, o_le0, o_iald, o_zald, o_lald, o_aald, o_iast, o_zast, o_last, o_aast, o_alen, o_gi, o_gr, o_pi, o_pz, o_pr, o_new, o_newa, o_copy, o_oinit, o_call, o_callV, o_callVc, o_callI, popn, cnO, o_BAD, lgt, lst, isL, kil, st1, st2, entL, List.length_nil, List.length_cons, List.replicate, Nat.reduceAdd, Nat.reduceLeDiff, Nat.reduceSub, true_and, and_true, Nat.zero_le, ne_eq, qk_wi, ql_wi, qr_wi, qj_wi, qt_wi, qk_wj, ql_wj, qr_wj, qi_wj, qt_wj, qk_wr, ql_wr, qi_wr, qj_wr, qt_wr, qi_ws, qj_ws, qr_ws, Int.toNat_natCast, Int.toNat_zero, Int.reduceToNat, not_true_eq_false, not_false_eq_true, false_implies, implies_true, Option.some.injEq, reduceCtorEq, Sp0, true_or, or_true, or_self, wi_wi, wj_wj, hM.k, eR]
    repeat' (first | (with_reducible refine And.intro ?_ ?_) | (with_reducible intro))
    all_goals (try (first | with_reducible assumption | omega | (unfold inI; omega) | (unfold inL; omega) | exact cz_in _ _))
    all_goals (try (exfalso; omega))
    refine s_X8_counts_23' x ok _ _ _ _ ?_
    simp only [wpS, o_c, o_cl, o_il, o_ll, o_al, o_is, o_ls, o_as, o_inc, o_add, o_sub, o_mul, o_and, o_or, o_xor, o_shl, o_shr, o_div, o_neg, o_ladd, o_lsub, o_lmul, o_ldiv, o_lrem, o_lneg, o_lcmp, o_i2l, o_l2i, o_dup, o_dup2, o_pop, o_go, o_nn, o_sw, swc, o_iret, o_zret, o_lret, o_vret, o_ieq, o_eq0, o_ine, o_ne0, o_ilt, o_lt0, o_ige, o_ge0, o_igt, o_gt0, o_ile, o_le0, o_iald, o_zald, o_lald, o_aald, o_iast, o_zast, o_last, o_aast, o_alen, o_gi, o_gr, o_pi, o_pz, o_pr, o_new, o_newa, o_copy, o_oinit, o_call, o_callV, o_callVc, o_callI, popn, cnO, o_BAD, lgt, lst, isL, kil, st1, st2, entL, List.length_nil, List.length_cons, List.replicate, Nat.reduceAdd, Nat.reduceLeDiff, Nat.reduceSub, true_and, and_true, Nat.zero_le, ne_eq, qk_wi, ql_wi, qr_wi, qj_wi, qt_wi, qk_wj, ql_wj, qr_wj, qi_wj, qt_wj, qk_wr, ql_wr, qi_wr, qj_wr, qt_wr, qi_ws, qj_ws, qr_ws, Int.toNat_natCast, Int.toNat_zero, Int.reduceToNat, not_true_eq_false, not_false_eq_true, false_implies, implies_true, Option.some.injEq, reduceCtorEq, Sp0, true_or, or_true, or_self, wi_wi, wj_wj, hM.k]
    exact h24 _ _ _ _ _ _ _ _
  · have ez : tw D e two = dsh D e := by unfold tw; rw [if_pos z]
    have eQ : wdG D (dsh D e) + 1 = (Q : Int) := by rw [← ez, hW2, hQ]; rfl
    subst z
    simp only [wpS, o_c, o_cl, o_il, o_ll, o_al, o_is, o_ls, o_as, o_inc, o_add, o_sub, o_mul, o_and, o_or, o_xor, o_shl, o_shr, o_div, o_neg, o_ladd, o_lsub, o_lmul, o_ldiv, o_lrem, o_lneg, o_lcmp, o_i2l, o_l2i, o_dup, o_dup2, o_pop, o_go, o_nn, o_sw, swc, o_iret, o_zret, o_lret, o_vret, o_ieq, o_eq0, o_ine, o_ne0, o_ilt, o_lt0, o_ige, o_ge0, o_igt, o_gt0, o_ile, o_le0, o_iald, o_zald, o_lald, o_aald, o_iast, o_zast, o_last, o_aast, o_alen, o_gi, o_gr, o_pi, o_pz, o_pr, o_new, o_newa, o_copy, o_oinit, o_call, o_callV, o_callVc, o_callI, popn, cnO, o_BAD, lgt, lst, isL, kil, st1, st2, entL, List.length_nil, List.length_cons, List.replicate, Nat.reduceAdd, Nat.reduceLeDiff, Nat.reduceSub, true_and, and_true, Nat.zero_le, ne_eq, qk_wi, ql_wi, qr_wi, qj_wi, qt_wi, qk_wj, ql_wj, qr_wj, qi_wj, qt_wj, qk_wr, ql_wr, qi_wr, qj_wr, qt_wr, qi_ws, qj_ws, qr_ws, Int.toNat_natCast, Int.toNat_zero, Int.reduceToNat, not_true_eq_false, not_false_eq_true, false_implies, implies_true, Option.some.injEq, reduceCtorEq, Sp0, true_or, or_true, or_self, wi_wi, wj_wj, hM.k, eR]
    repeat' (first | (with_reducible refine And.intro ?_ ?_) | (with_reducible intro))
    all_goals (try (first | with_reducible assumption | omega | (unfold inI; omega) | (unfold inL; omega) | exact cz_in _ _))
    all_goals (try (exfalso; omega))
    refine c8_wide hM (by rw [hD]; exact hI) he ?_
    rw [hD]
    simp only [wpS, o_c, o_cl, o_il, o_ll, o_al, o_is, o_ls, o_as, o_inc, o_add, o_sub, o_mul, o_and, o_or, o_xor, o_shl, o_shr, o_div, o_neg, o_ladd, o_lsub, o_lmul, o_ldiv, o_lrem, o_lneg, o_lcmp, o_i2l, o_l2i, o_dup, o_dup2, o_pop, o_go, o_nn, o_sw, swc, o_iret, o_zret, o_lret, o_vret, o_ieq, o_eq0, o_ine, o_ne0, o_ilt, o_lt0, o_ige, o_ge0, o_igt, o_gt0, o_ile, o_le0, o_iald, o_zald, o_lald, o_aald, o_iast, o_zast, o_last, o_aast, o_alen, o_gi, o_gr, o_pi, o_pz, o_pr, o_new, o_newa, o_copy, o_oinit, o_call, o_callV, o_callVc, o_callI, popn, cnO, o_BAD, lgt, lst, isL, kil, st1, st2, entL, List.length_nil, List.length_cons, List.replicate, Nat.reduceAdd, Nat.reduceLeDiff, Nat.reduceSub, true_and, and_true, Nat.zero_le, ne_eq, qk_wi, ql_wi, qr_wi, qj_wi, qt_wi, qk_wj, ql_wj, qr_wj, qi_wj, qt_wj, qk_wr, ql_wr, qi_wr, qj_wr, qt_wr, qi_ws, qj_ws, qr_ws, Int.toNat_natCast, Int.toNat_zero, Int.reduceToNat, not_true_eq_false, not_false_eq_true, false_implies, implies_true, Option.some.injEq, reduceCtorEq, Sp0, true_or, or_true, or_self, wi_wi, wj_wj, hM.k, eQ]
    repeat' (first | (with_reducible refine And.intro ?_ ?_) | (with_reducible intro))
    all_goals (try (first | with_reducible assumption | omega | (unfold inI; omega) | (unfold inL; omega) | exact cz_in _ _))
    all_goals (first | exact h24 _ _ _ _ _ _ _ _ | skip)
theorem c8_counts {h : Hp} {y c e : Nat} {two : Int} {K : RT} (h1 : Mo h y) (h2 : Inv (qi h (y + 1))) (h3 : c < 6) (h4 : e < 6) (h5 : two = 0 ∨ two = 1) (h6 : cpt (qi h (y + 1)) (dsh (qi h (y + 1)) c) (tw (qi h (y + 1)) e two) 12 ≤ 1000000000000) (h7 : ((wdG (qi h (y + 1)) (dsh (qi h (y + 1)) c)).toNat + 1) * ((wdG (qi h (y + 1)) (tw (qi h (y + 1)) e two)).toNat + 1) ≤ 200000) (h8 : ∀ u v : Nat → Int, (∀ k, k < ((wdG (qi h (y + 1)) (dsh (qi h (y + 1)) c)).toNat + 1) * ((wdG (qi h (y + 1)) (tw (qi h (y + 1)) e two)).toNat + 1) → u k = lyR (qi h (y + 1)) (dsh (qi h (y + 1)) c) (tw (qi h (y + 1)) e two) ((wdG (qi h (y + 1)) (tw (qi h (y + 1)) e two)).toNat + 1) 12 k) → K none (cH h y u v)) : T_X8_counts [vr (some y), vi c, vi e, vi two] h K := ⟨y, c, e, two, rfl, h1, h2, h3, h4, h5, h6, h7, h8⟩

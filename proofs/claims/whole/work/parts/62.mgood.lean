/-! ===== FitBenchModel.isGood, goesOn ===== -/
def loM (d : Dd) (a : Nat → Int) (m : Nat) : Int := if gdB d m = true then dlo d m (a m).toNat else lwM d m
def hiM (d : Dd) (a : Nat → Int) (m : Nat) : Int := if gdB d m = true then dup d m (a m).toNat else hgM d m
def gloT (d : Dd) (a : Nat → Int) (c m : Nat) : Int := dsh d c m * (ds d m + (if 0 < dsh d c m then loM d a m else hiM d a m))
def ghiT (d : Dd) (a : Nat → Int) (c m : Nat) : Int := dsh d c m * (ds d m + (if 0 < dsh d c m then hiM d a m else loM d a m))
def gdOk (d : Dd) (a : Nat → Int) (c : Nat) : Prop := ask (dsh d c) → dcl d c ≤ sg (gloT d a c) 12 ∧ sg (ghiT d a c) 12 ≤ dch d c
def good (d : Dd) (a : Nat → Int) : Prop := ∀ c, c < 6 → gdOk d a c
def dgOk (d : Dd) (a : Nat → Int) : Prop := ∀ m, m < 12 → gdB d m = true → 0 ≤ a m ∧ a m < dv d m
theorem loM_rg {d : Dd} {a : Nat → Int} {m : Nat} (hI : InvM d m) (h : gdB d m = true → 0 ≤ a m ∧ a m < dv d m) : (-40 ≤ loM d a m ∧ loM d a m ≤ 0) ∧ (0 ≤ hiM d a m ∧ hiM d a m ≤ 40) := by
  have hb := hI.b
  have ha := hI.a
  have hv := hI.v
  unfold loM hiM lwM hgM
  by_cases z : gdB d m = true
  · have hz := h z
    rw [if_pos z, if_pos z]
    have hw := hI.w (a m).toNat (by omega)
    exact ⟨hw.1, hw.2.1⟩
  · rw [if_neg z, if_neg z]
    split <;> omega
theorem gT_rg {d : Dd} {a : Nat → Int} {c m : Nat} (hI : InvM d m) (h : gdB d m = true → 0 ≤ a m ∧ a m < dv d m) (hs : -3 ≤ dsh d c m ∧ dsh d c m ≤ 3) : (-30120 ≤ gloT d a c m ∧ gloT d a c m ≤ 30120) ∧ (-30120 ≤ ghiT d a c m ∧ ghiT d a c m ≤ 30120) := by
  have h1 := loM_rg hI h
  have h2 := hI.s
  unfold gloT ghiT
  constructor
  · have := mul_rg (x := dsh d c m) (a := 3) (y := ds d m + (if 0 < dsh d c m then loM d a m else hiM d a m)) (b := 10040) hs.1 hs.2 (by split <;> omega) (by split <;> omega) (by omega)
    omega
  · have := mul_rg (x := dsh d c m) (a := 3) (y := ds d m + (if 0 < dsh d c m then hiM d a m else loM d a m)) (b := 10040) hs.1 hs.2 (by split <;> omega) (by split <;> omega) (by omega)
    omega
theorem chs_iff {d : Dd} {m : Nat} : chs d m ↔ gdB d m = true := gdB_iff.symm
def T_X8_isGood : TT := fun as h K => ∃ y : Nat, as = [vr (some y)] ∧ Mo h y ∧ Inv (qi h (y + 1)) ∧ dgOk (qi h (y + 1)) (qi h (y + 9)) ∧ (good (qi h (y + 1)) (qi h (y + 9)) → K (some (vi 1)) h) ∧ (¬ good (qi h (y + 1)) (qi h (y + 9)) → K (some (vi 0)) h)
theorem c8_isGood {h : Hp} {y : Nat} {K : RT} (h1 : Mo h y) (h2 : Inv (qi h (y + 1))) (h3 : dgOk (qi h (y + 1)) (qi h (y + 9))) (h4 : (good (qi h (y + 1)) (qi h (y + 9)) → K (some (vi 1)) h) ∧ (¬ good (qi h (y + 1)) (qi h (y + 9)) → K (some (vi 0)) h)) : T_X8_isGood [vr (some y)] h K := ⟨y, rfl, h1, h2, h3, h4⟩
abbrev i_X8_isGood : MI := (cX8_isGood, 8, RX8, (some .boolean), "isGood", 3)
theorem k_X8_isGood_0 : Okop i_X8_isGood 0 (o_c 0) 1 := k_iconst (by decide +kernel)
theorem k_X8_isGood_1 : Okop i_X8_isGood 1 (o_is 1) 2 := k_isn (j := 1) (by decide +kernel) (by decide)
theorem k_X8_isGood_2 : Okop i_X8_isGood 2 (o_il 1) 3 := k_iln (j := 1) (by decide +kernel)
theorem k_X8_isGood_3 : Okop i_X8_isGood 3 (o_c 6) 5 := k_bipush (by decide +kernel) rfl
theorem k_X8_isGood_5 : Okop i_X8_isGood 5 (o_ige 224) 8 := k_ige (off := 219) (by decide +kernel) (by decide)
theorem k_X8_isGood_8 : Okop i_X8_isGood 8 (o_al 0) 9 := k_aln (j := 0) (by decide +kernel)
theorem k_X8_isGood_9 : Okop i_X8_isGood 9 (o_il 1) 10 := k_iln (j := 1) (by decide +kernel)
theorem k_X8_isGood_10 : Okop i_X8_isGood 10 (o_callV 8 1 T_X8_isAsked) 13 := k_callV (idx := 76) (r0 := (RX8, TX8, 14)) m_X8_isAsked ⟨gw_762, gw_10, ⟨by decide, by decide, by decide +kernel⟩, by decide, by decide⟩ rfl gw_759 gw_761 gs_14 (by decide +kernel)
theorem k_X8_isGood_13 : Okop i_X8_isGood 13 (o_ne0 19) 16 := k_ne0 (off := 6) (by decide +kernel) (by decide)
theorem k_X8_isGood_16 : Okop i_X8_isGood 16 (o_go 218) 19 := k_go (off := 202) (by decide +kernel) (by decide)
theorem k_X8_isGood_19 : Okop i_X8_isGood 19 (o_c 0) 20 := k_iconst (by decide +kernel)
theorem k_X8_isGood_20 : Okop i_X8_isGood 20 (o_is 2) 21 := k_isn (j := 2) (by decide +kernel) (by decide)
theorem k_X8_isGood_21 : Okop i_X8_isGood 21 (o_c 0) 22 := k_iconst (by decide +kernel)
theorem k_X8_isGood_22 : Okop i_X8_isGood 22 (o_is 3) 23 := k_isn (j := 3) (by decide +kernel) (by decide)
theorem k_X8_isGood_23 : Okop i_X8_isGood 23 (o_c 0) 24 := k_iconst (by decide +kernel)
theorem k_X8_isGood_24 : Okop i_X8_isGood 24 (o_is 4) 26 := k_is (by decide +kernel) (by decide)
theorem k_X8_isGood_26 : Okop i_X8_isGood 26 (o_il 4) 28 := k_il (by decide +kernel)
theorem k_X8_isGood_28 : Okop i_X8_isGood 28 (o_c 12) 30 := k_bipush (by decide +kernel) rfl
theorem k_X8_isGood_30 : Okop i_X8_isGood 30 (o_ige 188) 33 := k_ige (off := 158) (by decide +kernel) (by decide)
theorem k_X8_isGood_33 : Okop i_X8_isGood 33 (o_al 0) 34 := k_aln (j := 0) (by decide +kernel)
theorem k_X8_isGood_34 : Okop i_X8_isGood 34 (o_il 1) 35 := k_iln (j := 1) (by decide +kernel)
theorem k_X8_isGood_35 : Okop i_X8_isGood 35 (o_il 4) 37 := k_il (by decide +kernel)
theorem k_X8_isGood_37 : Okop i_X8_isGood 37 (o_callV 8 2 T_X8_shareOf) 40 := k_callV (idx := 85) (r0 := (RX8, TX8, 14)) m_X8_shareOf ⟨gw_789, gw_10, ⟨by decide, by decide, by decide +kernel⟩, by decide, by decide⟩ rfl gw_786 gw_788 gs_16 (by decide +kernel)
theorem k_X8_isGood_40 : Okop i_X8_isGood 40 (o_is 5) 42 := k_is (by decide +kernel) (by decide)
theorem k_X8_isGood_42 : Okop i_X8_isGood 42 (o_al 0) 43 := k_aln (j := 0) (by decide +kernel)
theorem k_X8_isGood_43 : Okop i_X8_isGood 43 (o_il 4) 45 := k_il (by decide +kernel)
theorem k_X8_isGood_45 : Okop i_X8_isGood 45 (o_callV 8 1 T_X8_isChosen) 48 := k_callV (idx := 131) (r0 := (RX8, TX8, 14)) m_X8_isChosen ⟨gw_867, gw_10, ⟨by decide, by decide, by decide +kernel⟩, by decide, by decide⟩ rfl gw_864 gw_866 gs_22 (by decide +kernel)
theorem k_X8_isGood_48 : Okop i_X8_isGood 48 (o_eq0 75) 51 := k_eq0 (off := 27) (by decide +kernel) (by decide)
theorem k_X8_isGood_51 : Okop i_X8_isGood 51 (o_al 0) 52 := k_aln (j := 0) (by decide +kernel)
theorem k_X8_isGood_52 : Okop i_X8_isGood 52 (o_gr 8 0) 55 := k_gr (idx := 7) fo_8 (by decide) (by decide) gw_660 (by decide +kernel)
theorem k_X8_isGood_55 : Okop i_X8_isGood 55 (o_c 1044) 58 := k_sipush (by decide +kernel) rfl
theorem k_X8_isGood_58 : Okop i_X8_isGood 58 (o_c 4) 59 := k_iconst (by decide +kernel)
theorem k_X8_isGood_59 : Okop i_X8_isGood 59 (o_il 4) 61 := k_il (by decide +kernel)
theorem k_X8_isGood_61 : Okop i_X8_isGood 61 (o_mul) 62 := k_mul (by decide +kernel)
theorem k_X8_isGood_62 : Okop i_X8_isGood 62 (o_add) 63 := k_add (by decide +kernel)
theorem k_X8_isGood_63 : Okop i_X8_isGood 63 (o_al 0) 64 := k_aln (j := 0) (by decide +kernel)
theorem k_X8_isGood_64 : Okop i_X8_isGood 64 (o_gr 8 8) 67 := k_gr (idx := 37) fo_8 (by decide) (by decide) gw_668 (by decide +kernel)
theorem k_X8_isGood_67 : Okop i_X8_isGood 67 (o_il 4) 69 := k_il (by decide +kernel)
theorem k_X8_isGood_69 : Okop i_X8_isGood 69 (o_iald) 70 := k_iald (by decide +kernel)
theorem k_X8_isGood_70 : Okop i_X8_isGood 70 (o_add) 71 := k_add (by decide +kernel)
theorem k_X8_isGood_71 : Okop i_X8_isGood 71 (o_iald) 72 := k_iald (by decide +kernel)
theorem k_X8_isGood_72 : Okop i_X8_isGood 72 (o_go 81) 75 := k_go (off := 9) (by decide +kernel) (by decide)
theorem k_X8_isGood_75 : Okop i_X8_isGood 75 (o_al 0) 76 := k_aln (j := 0) (by decide +kernel)
theorem k_X8_isGood_76 : Okop i_X8_isGood 76 (o_il 4) 78 := k_il (by decide +kernel)
theorem k_X8_isGood_78 : Okop i_X8_isGood 78 (o_callV 8 1 T_X8_lowMiss) 81 := k_callV (idx := 88) (r0 := (RX8, TX8, 14)) m_X8_lowMiss ⟨gw_793, gw_10, ⟨by decide, by decide, by decide +kernel⟩, by decide, by decide⟩ rfl gw_790 gw_792 gs_17 (by decide +kernel)
theorem k_X8_isGood_81 : Okop i_X8_isGood 81 (o_is 6) 83 := k_is (by decide +kernel) (by decide)
theorem k_X8_isGood_83 : Okop i_X8_isGood 83 (o_al 0) 84 := k_aln (j := 0) (by decide +kernel)
theorem k_X8_isGood_84 : Okop i_X8_isGood 84 (o_il 4) 86 := k_il (by decide +kernel)
theorem k_X8_isGood_86 : Okop i_X8_isGood 86 (o_callV 8 1 T_X8_isChosen) 89 := k_callV (idx := 131) (r0 := (RX8, TX8, 14)) m_X8_isChosen ⟨gw_867, gw_10, ⟨by decide, by decide, by decide +kernel⟩, by decide, by decide⟩ rfl gw_864 gw_866 gs_22 (by decide +kernel)
theorem k_X8_isGood_89 : Okop i_X8_isGood 89 (o_eq0 116) 92 := k_eq0 (off := 27) (by decide +kernel) (by decide)
theorem k_X8_isGood_92 : Okop i_X8_isGood 92 (o_al 0) 93 := k_aln (j := 0) (by decide +kernel)
theorem k_X8_isGood_93 : Okop i_X8_isGood 93 (o_gr 8 0) 96 := k_gr (idx := 7) fo_8 (by decide) (by decide) gw_660 (by decide +kernel)
theorem k_X8_isGood_96 : Okop i_X8_isGood 96 (o_c 1092) 99 := k_sipush (by decide +kernel) rfl
theorem k_X8_isGood_99 : Okop i_X8_isGood 99 (o_c 4) 100 := k_iconst (by decide +kernel)
theorem k_X8_isGood_100 : Okop i_X8_isGood 100 (o_il 4) 102 := k_il (by decide +kernel)
theorem k_X8_isGood_102 : Okop i_X8_isGood 102 (o_mul) 103 := k_mul (by decide +kernel)
theorem k_X8_isGood_103 : Okop i_X8_isGood 103 (o_add) 104 := k_add (by decide +kernel)
theorem k_X8_isGood_104 : Okop i_X8_isGood 104 (o_al 0) 105 := k_aln (j := 0) (by decide +kernel)
theorem k_X8_isGood_105 : Okop i_X8_isGood 105 (o_gr 8 8) 108 := k_gr (idx := 37) fo_8 (by decide) (by decide) gw_668 (by decide +kernel)
theorem k_X8_isGood_108 : Okop i_X8_isGood 108 (o_il 4) 110 := k_il (by decide +kernel)
theorem k_X8_isGood_110 : Okop i_X8_isGood 110 (o_iald) 111 := k_iald (by decide +kernel)
theorem k_X8_isGood_111 : Okop i_X8_isGood 111 (o_add) 112 := k_add (by decide +kernel)
theorem k_X8_isGood_112 : Okop i_X8_isGood 112 (o_iald) 113 := k_iald (by decide +kernel)
theorem k_X8_isGood_113 : Okop i_X8_isGood 113 (o_go 122) 116 := k_go (off := 9) (by decide +kernel) (by decide)
theorem k_X8_isGood_116 : Okop i_X8_isGood 116 (o_al 0) 117 := k_aln (j := 0) (by decide +kernel)
theorem k_X8_isGood_117 : Okop i_X8_isGood 117 (o_il 4) 119 := k_il (by decide +kernel)
theorem k_X8_isGood_119 : Okop i_X8_isGood 119 (o_callV 8 1 T_X8_highMiss) 122 := k_callV (idx := 92) (r0 := (RX8, TX8, 14)) m_X8_highMiss ⟨gw_797, gw_10, ⟨by decide, by decide, by decide +kernel⟩, by decide, by decide⟩ rfl gw_794 gw_796 gs_18 (by decide +kernel)
theorem k_X8_isGood_122 : Okop i_X8_isGood 122 (o_is 7) 124 := k_is (by decide +kernel) (by decide)
theorem k_X8_isGood_124 : Okop i_X8_isGood 124 (o_il 2) 125 := k_iln (j := 2) (by decide +kernel)
theorem k_X8_isGood_125 : Okop i_X8_isGood 125 (o_il 5) 127 := k_il (by decide +kernel)
theorem k_X8_isGood_127 : Okop i_X8_isGood 127 (o_al 0) 128 := k_aln (j := 0) (by decide +kernel)
theorem k_X8_isGood_128 : Okop i_X8_isGood 128 (o_gr 8 0) 131 := k_gr (idx := 7) fo_8 (by decide) (by decide) gw_660 (by decide +kernel)
theorem k_X8_isGood_131 : Okop i_X8_isGood 131 (o_c 12) 133 := k_bipush (by decide +kernel) rfl
theorem k_X8_isGood_133 : Okop i_X8_isGood 133 (o_il 4) 135 := k_il (by decide +kernel)
theorem k_X8_isGood_135 : Okop i_X8_isGood 135 (o_add) 136 := k_add (by decide +kernel)
theorem k_X8_isGood_136 : Okop i_X8_isGood 136 (o_iald) 137 := k_iald (by decide +kernel)
theorem k_X8_isGood_137 : Okop i_X8_isGood 137 (o_il 5) 139 := k_il (by decide +kernel)
theorem k_X8_isGood_139 : Okop i_X8_isGood 139 (o_le0 147) 142 := k_le0 (off := 8) (by decide +kernel) (by decide)
theorem k_X8_isGood_142 : Okop i_X8_isGood 142 (o_il 6) 144 := k_il (by decide +kernel)
theorem k_X8_isGood_144 : Okop i_X8_isGood 144 (o_go 149) 147 := k_go (off := 5) (by decide +kernel) (by decide)
theorem k_X8_isGood_147 : Okop i_X8_isGood 147 (o_il 7) 149 := k_il (by decide +kernel)
theorem k_X8_isGood_149 : Okop i_X8_isGood 149 (o_add) 150 := k_add (by decide +kernel)
theorem k_X8_isGood_150 : Okop i_X8_isGood 150 (o_mul) 151 := k_mul (by decide +kernel)
theorem k_X8_isGood_151 : Okop i_X8_isGood 151 (o_add) 152 := k_add (by decide +kernel)
theorem k_X8_isGood_152 : Okop i_X8_isGood 152 (o_is 2) 153 := k_isn (j := 2) (by decide +kernel) (by decide)
theorem k_X8_isGood_153 : Okop i_X8_isGood 153 (o_il 3) 154 := k_iln (j := 3) (by decide +kernel)
theorem k_X8_isGood_154 : Okop i_X8_isGood 154 (o_il 5) 156 := k_il (by decide +kernel)
theorem k_X8_isGood_156 : Okop i_X8_isGood 156 (o_al 0) 157 := k_aln (j := 0) (by decide +kernel)
theorem k_X8_isGood_157 : Okop i_X8_isGood 157 (o_gr 8 0) 160 := k_gr (idx := 7) fo_8 (by decide) (by decide) gw_660 (by decide +kernel)
theorem k_X8_isGood_160 : Okop i_X8_isGood 160 (o_c 12) 162 := k_bipush (by decide +kernel) rfl
theorem k_X8_isGood_162 : Okop i_X8_isGood 162 (o_il 4) 164 := k_il (by decide +kernel)
theorem k_X8_isGood_164 : Okop i_X8_isGood 164 (o_add) 165 := k_add (by decide +kernel)
theorem k_X8_isGood_165 : Okop i_X8_isGood 165 (o_iald) 166 := k_iald (by decide +kernel)
theorem k_X8_isGood_166 : Okop i_X8_isGood 166 (o_il 5) 168 := k_il (by decide +kernel)
theorem k_X8_isGood_168 : Okop i_X8_isGood 168 (o_le0 176) 171 := k_le0 (off := 8) (by decide +kernel) (by decide)
theorem k_X8_isGood_171 : Okop i_X8_isGood 171 (o_il 7) 173 := k_il (by decide +kernel)
theorem k_X8_isGood_173 : Okop i_X8_isGood 173 (o_go 178) 176 := k_go (off := 5) (by decide +kernel) (by decide)
theorem k_X8_isGood_176 : Okop i_X8_isGood 176 (o_il 6) 178 := k_il (by decide +kernel)
theorem k_X8_isGood_178 : Okop i_X8_isGood 178 (o_add) 179 := k_add (by decide +kernel)
theorem k_X8_isGood_179 : Okop i_X8_isGood 179 (o_mul) 180 := k_mul (by decide +kernel)
theorem k_X8_isGood_180 : Okop i_X8_isGood 180 (o_add) 181 := k_add (by decide +kernel)
theorem k_X8_isGood_181 : Okop i_X8_isGood 181 (o_is 3) 182 := k_isn (j := 3) (by decide +kernel) (by decide)
theorem k_X8_isGood_182 : Okop i_X8_isGood 182 (o_inc 4 1) 185 := k_inc (by decide +kernel) (by decide)
theorem k_X8_isGood_185 : Okop i_X8_isGood 185 (o_go 26) 188 := k_go (off := -159) (by decide +kernel) (by decide)
theorem k_X8_isGood_188 : Okop i_X8_isGood 188 (o_il 2) 189 := k_iln (j := 2) (by decide +kernel)
theorem k_X8_isGood_189 : Okop i_X8_isGood 189 (o_al 0) 190 := k_aln (j := 0) (by decide +kernel)
theorem k_X8_isGood_190 : Okop i_X8_isGood 190 (o_gr 8 0) 193 := k_gr (idx := 7) fo_8 (by decide) (by decide) gw_660 (by decide +kernel)
theorem k_X8_isGood_193 : Okop i_X8_isGood 193 (o_c 1284) 196 := k_sipush (by decide +kernel) rfl
theorem k_X8_isGood_196 : Okop i_X8_isGood 196 (o_il 1) 197 := k_iln (j := 1) (by decide +kernel)
theorem k_X8_isGood_197 : Okop i_X8_isGood 197 (o_add) 198 := k_add (by decide +kernel)
theorem k_X8_isGood_198 : Okop i_X8_isGood 198 (o_iald) 199 := k_iald (by decide +kernel)
theorem k_X8_isGood_199 : Okop i_X8_isGood 199 (o_ilt 216) 202 := k_ilt (off := 17) (by decide +kernel) (by decide)
theorem k_X8_isGood_202 : Okop i_X8_isGood 202 (o_il 3) 203 := k_iln (j := 3) (by decide +kernel)
theorem k_X8_isGood_203 : Okop i_X8_isGood 203 (o_al 0) 204 := k_aln (j := 0) (by decide +kernel)
theorem k_X8_isGood_204 : Okop i_X8_isGood 204 (o_gr 8 0) 207 := k_gr (idx := 7) fo_8 (by decide) (by decide) gw_660 (by decide +kernel)
theorem k_X8_isGood_207 : Okop i_X8_isGood 207 (o_c 1290) 210 := k_sipush (by decide +kernel) rfl
theorem k_X8_isGood_210 : Okop i_X8_isGood 210 (o_il 1) 211 := k_iln (j := 1) (by decide +kernel)
theorem k_X8_isGood_211 : Okop i_X8_isGood 211 (o_add) 212 := k_add (by decide +kernel)
theorem k_X8_isGood_212 : Okop i_X8_isGood 212 (o_iald) 213 := k_iald (by decide +kernel)
theorem k_X8_isGood_213 : Okop i_X8_isGood 213 (o_ile 218) 216 := k_ile (off := 5) (by decide +kernel) (by decide)
theorem k_X8_isGood_216 : Okop i_X8_isGood 216 (o_c 0) 217 := k_iconst (by decide +kernel)
theorem k_X8_isGood_217 : Okop i_X8_isGood 217 (o_zret) 218 := k_zret (by decide +kernel) rfl
theorem k_X8_isGood_218 : Okop i_X8_isGood 218 (o_inc 1 1) 221 := k_inc (by decide +kernel) (by decide)
theorem k_X8_isGood_221 : Okop i_X8_isGood 221 (o_go 2) 224 := k_go (off := -219) (by decide +kernel) (by decide)
theorem k_X8_isGood_224 : Okop i_X8_isGood 224 (o_c 1) 225 := k_iconst (by decide +kernel)
theorem k_X8_isGood_225 : Okop i_X8_isGood 225 (o_zret) 226 := k_zret (by decide +kernel) rfl
theorem s_X8_isGood_0 : Seg i_X8_isGood 0 [o_c 0, o_is 1] 2 := Seg.cons k_X8_isGood_0 (Seg.cons k_X8_isGood_1 (Seg.nil))
theorem s_X8_isGood_2 : Seg i_X8_isGood 2 [o_il 1, o_c 6, o_ige 224, o_al 0, o_il 1, o_callV 8 1 T_X8_isAsked, o_ne0 19, o_go 218] 19 := Seg.cons k_X8_isGood_2 (Seg.cons k_X8_isGood_3 (Seg.cons k_X8_isGood_5 (Seg.cons k_X8_isGood_8 (Seg.cons k_X8_isGood_9 (Seg.cons k_X8_isGood_10 (Seg.cons k_X8_isGood_13 (Seg.cons k_X8_isGood_16 (Seg.nil))))))))
theorem s_X8_isGood_19 : Seg i_X8_isGood 19 [o_c 0, o_is 2, o_c 0, o_is 3, o_c 0, o_is 4] 26 := Seg.cons k_X8_isGood_19 (Seg.cons k_X8_isGood_20 (Seg.cons k_X8_isGood_21 (Seg.cons k_X8_isGood_22 (Seg.cons k_X8_isGood_23 (Seg.cons k_X8_isGood_24 (Seg.nil))))))
theorem s_X8_isGood_26 : Seg i_X8_isGood 26 [o_il 4, o_c 12, o_ige 188, o_al 0, o_il 1, o_il 4, o_callV 8 2 T_X8_shareOf, o_is 5, o_al 0, o_il 4, o_callV 8 1 T_X8_isChosen, o_eq0 75, o_al 0, o_gr 8 0, o_c 1044, o_c 4, o_il 4, o_mul, o_add, o_al 0, o_gr 8 8, o_il 4, o_iald, o_add, o_iald, o_go 81] 75 := Seg.cons k_X8_isGood_26 (Seg.cons k_X8_isGood_28 (Seg.cons k_X8_isGood_30 (Seg.cons k_X8_isGood_33 (Seg.cons k_X8_isGood_34 (Seg.cons k_X8_isGood_35 (Seg.cons k_X8_isGood_37 (Seg.cons k_X8_isGood_40 (Seg.cons k_X8_isGood_42 (Seg.cons k_X8_isGood_43 (Seg.cons k_X8_isGood_45 (Seg.cons k_X8_isGood_48 (Seg.cons k_X8_isGood_51 (Seg.cons k_X8_isGood_52 (Seg.cons k_X8_isGood_55 (Seg.cons k_X8_isGood_58 (Seg.cons k_X8_isGood_59 (Seg.cons k_X8_isGood_61 (Seg.cons k_X8_isGood_62 (Seg.cons k_X8_isGood_63 (Seg.cons k_X8_isGood_64 (Seg.cons k_X8_isGood_67 (Seg.cons k_X8_isGood_69 (Seg.cons k_X8_isGood_70 (Seg.cons k_X8_isGood_71 (Seg.cons k_X8_isGood_72 (Seg.nil))))))))))))))))))))))))))
theorem s_X8_isGood_75 : Seg i_X8_isGood 75 [o_al 0, o_il 4, o_callV 8 1 T_X8_lowMiss, o_is 6, o_al 0, o_il 4, o_callV 8 1 T_X8_isChosen, o_eq0 116, o_al 0, o_gr 8 0, o_c 1092, o_c 4, o_il 4, o_mul, o_add, o_al 0, o_gr 8 8, o_il 4, o_iald, o_add, o_iald, o_go 122] 116 := Seg.cons k_X8_isGood_75 (Seg.cons k_X8_isGood_76 (Seg.cons k_X8_isGood_78 (Seg.cons k_X8_isGood_81 (Seg.cons k_X8_isGood_83 (Seg.cons k_X8_isGood_84 (Seg.cons k_X8_isGood_86 (Seg.cons k_X8_isGood_89 (Seg.cons k_X8_isGood_92 (Seg.cons k_X8_isGood_93 (Seg.cons k_X8_isGood_96 (Seg.cons k_X8_isGood_99 (Seg.cons k_X8_isGood_100 (Seg.cons k_X8_isGood_102 (Seg.cons k_X8_isGood_103 (Seg.cons k_X8_isGood_104 (Seg.cons k_X8_isGood_105 (Seg.cons k_X8_isGood_108 (Seg.cons k_X8_isGood_110 (Seg.cons k_X8_isGood_111 (Seg.cons k_X8_isGood_112 (Seg.cons k_X8_isGood_113 (Seg.nil))))))))))))))))))))))
theorem s_X8_isGood_81 : Seg i_X8_isGood 81 [o_is 6, o_al 0, o_il 4, o_callV 8 1 T_X8_isChosen, o_eq0 116, o_al 0, o_gr 8 0, o_c 1092, o_c 4, o_il 4, o_mul, o_add, o_al 0, o_gr 8 8, o_il 4, o_iald, o_add, o_iald, o_go 122] 116 := Seg.cons k_X8_isGood_81 (Seg.cons k_X8_isGood_83 (Seg.cons k_X8_isGood_84 (Seg.cons k_X8_isGood_86 (Seg.cons k_X8_isGood_89 (Seg.cons k_X8_isGood_92 (Seg.cons k_X8_isGood_93 (Seg.cons k_X8_isGood_96 (Seg.cons k_X8_isGood_99 (Seg.cons k_X8_isGood_100 (Seg.cons k_X8_isGood_102 (Seg.cons k_X8_isGood_103 (Seg.cons k_X8_isGood_104 (Seg.cons k_X8_isGood_105 (Seg.cons k_X8_isGood_108 (Seg.cons k_X8_isGood_110 (Seg.cons k_X8_isGood_111 (Seg.cons k_X8_isGood_112 (Seg.cons k_X8_isGood_113 (Seg.nil)))))))))))))))))))
theorem s_X8_isGood_116 : Seg i_X8_isGood 116 [o_al 0, o_il 4, o_callV 8 1 T_X8_highMiss, o_is 7, o_il 2, o_il 5, o_al 0, o_gr 8 0, o_c 12, o_il 4, o_add, o_iald, o_il 5, o_le0 147, o_il 6, o_go 149] 147 := Seg.cons k_X8_isGood_116 (Seg.cons k_X8_isGood_117 (Seg.cons k_X8_isGood_119 (Seg.cons k_X8_isGood_122 (Seg.cons k_X8_isGood_124 (Seg.cons k_X8_isGood_125 (Seg.cons k_X8_isGood_127 (Seg.cons k_X8_isGood_128 (Seg.cons k_X8_isGood_131 (Seg.cons k_X8_isGood_133 (Seg.cons k_X8_isGood_135 (Seg.cons k_X8_isGood_136 (Seg.cons k_X8_isGood_137 (Seg.cons k_X8_isGood_139 (Seg.cons k_X8_isGood_142 (Seg.cons k_X8_isGood_144 (Seg.nil))))))))))))))))
theorem s_X8_isGood_122 : Seg i_X8_isGood 122 [o_is 7, o_il 2, o_il 5, o_al 0, o_gr 8 0, o_c 12, o_il 4, o_add, o_iald, o_il 5, o_le0 147, o_il 6, o_go 149] 147 := Seg.cons k_X8_isGood_122 (Seg.cons k_X8_isGood_124 (Seg.cons k_X8_isGood_125 (Seg.cons k_X8_isGood_127 (Seg.cons k_X8_isGood_128 (Seg.cons k_X8_isGood_131 (Seg.cons k_X8_isGood_133 (Seg.cons k_X8_isGood_135 (Seg.cons k_X8_isGood_136 (Seg.cons k_X8_isGood_137 (Seg.cons k_X8_isGood_139 (Seg.cons k_X8_isGood_142 (Seg.cons k_X8_isGood_144 (Seg.nil)))))))))))))
theorem s_X8_isGood_147 : Seg i_X8_isGood 147 [o_il 7, o_add, o_mul, o_add, o_is 2, o_il 3, o_il 5, o_al 0, o_gr 8 0, o_c 12, o_il 4, o_add, o_iald, o_il 5, o_le0 176, o_il 7, o_go 178] 176 := Seg.cons k_X8_isGood_147 (Seg.cons k_X8_isGood_149 (Seg.cons k_X8_isGood_150 (Seg.cons k_X8_isGood_151 (Seg.cons k_X8_isGood_152 (Seg.cons k_X8_isGood_153 (Seg.cons k_X8_isGood_154 (Seg.cons k_X8_isGood_156 (Seg.cons k_X8_isGood_157 (Seg.cons k_X8_isGood_160 (Seg.cons k_X8_isGood_162 (Seg.cons k_X8_isGood_164 (Seg.cons k_X8_isGood_165 (Seg.cons k_X8_isGood_166 (Seg.cons k_X8_isGood_168 (Seg.cons k_X8_isGood_171 (Seg.cons k_X8_isGood_173 (Seg.nil)))))))))))))))))
theorem s_X8_isGood_149 : Seg i_X8_isGood 149 [o_add, o_mul, o_add, o_is 2, o_il 3, o_il 5, o_al 0, o_gr 8 0, o_c 12, o_il 4, o_add, o_iald, o_il 5, o_le0 176, o_il 7, o_go 178] 176 := Seg.cons k_X8_isGood_149 (Seg.cons k_X8_isGood_150 (Seg.cons k_X8_isGood_151 (Seg.cons k_X8_isGood_152 (Seg.cons k_X8_isGood_153 (Seg.cons k_X8_isGood_154 (Seg.cons k_X8_isGood_156 (Seg.cons k_X8_isGood_157 (Seg.cons k_X8_isGood_160 (Seg.cons k_X8_isGood_162 (Seg.cons k_X8_isGood_164 (Seg.cons k_X8_isGood_165 (Seg.cons k_X8_isGood_166 (Seg.cons k_X8_isGood_168 (Seg.cons k_X8_isGood_171 (Seg.cons k_X8_isGood_173 (Seg.nil))))))))))))))))
theorem s_X8_isGood_176 : Seg i_X8_isGood 176 [o_il 6, o_add, o_mul, o_add, o_is 3, o_inc 4 1, o_go 26] 188 := Seg.cons k_X8_isGood_176 (Seg.cons k_X8_isGood_178 (Seg.cons k_X8_isGood_179 (Seg.cons k_X8_isGood_180 (Seg.cons k_X8_isGood_181 (Seg.cons k_X8_isGood_182 (Seg.cons k_X8_isGood_185 (Seg.nil)))))))
theorem s_X8_isGood_178 : Seg i_X8_isGood 178 [o_add, o_mul, o_add, o_is 3, o_inc 4 1, o_go 26] 188 := Seg.cons k_X8_isGood_178 (Seg.cons k_X8_isGood_179 (Seg.cons k_X8_isGood_180 (Seg.cons k_X8_isGood_181 (Seg.cons k_X8_isGood_182 (Seg.cons k_X8_isGood_185 (Seg.nil))))))
theorem s_X8_isGood_188 : Seg i_X8_isGood 188 [o_il 2, o_al 0, o_gr 8 0, o_c 1284, o_il 1, o_add, o_iald, o_ilt 216, o_il 3, o_al 0, o_gr 8 0, o_c 1290, o_il 1, o_add, o_iald, o_ile 218, o_c 0, o_zret] 218 := Seg.cons k_X8_isGood_188 (Seg.cons k_X8_isGood_189 (Seg.cons k_X8_isGood_190 (Seg.cons k_X8_isGood_193 (Seg.cons k_X8_isGood_196 (Seg.cons k_X8_isGood_197 (Seg.cons k_X8_isGood_198 (Seg.cons k_X8_isGood_199 (Seg.cons k_X8_isGood_202 (Seg.cons k_X8_isGood_203 (Seg.cons k_X8_isGood_204 (Seg.cons k_X8_isGood_207 (Seg.cons k_X8_isGood_210 (Seg.cons k_X8_isGood_211 (Seg.cons k_X8_isGood_212 (Seg.cons k_X8_isGood_213 (Seg.cons k_X8_isGood_216 (Seg.cons k_X8_isGood_217 (Seg.nil))))))))))))))))))
theorem s_X8_isGood_216 : Seg i_X8_isGood 216 [o_c 0, o_zret] 218 := Seg.cons k_X8_isGood_216 (Seg.cons k_X8_isGood_217 (Seg.nil))
theorem s_X8_isGood_218 : Seg i_X8_isGood 218 [o_inc 1 1, o_go 2] 224 := Seg.cons k_X8_isGood_218 (Seg.cons k_X8_isGood_221 (Seg.nil))
theorem s_X8_isGood_224 : Seg i_X8_isGood 224 [o_c 1, o_zret] 226 := Seg.cons k_X8_isGood_224 (Seg.cons k_X8_isGood_225 (Seg.nil))

theorem s_X8_isGood_116' : Seg i_X8_isGood 116 [o_al 0, o_il 4, o_callV 8 1 T_X8_highMiss] 122 := Seg.cons k_X8_isGood_116 (Seg.cons k_X8_isGood_117 (Seg.cons k_X8_isGood_119 Seg.nil))
theorem m_X8_isGood : Mth yX8_isGood cX8_isGood 8 (some .boolean) 3 (Sp0 T_X8_isGood) := by
  refine Mth.of (by decide) ?_
  rintro x as h ok ⟨y, rfl, hM, hI, hdg, hK1, hK0⟩
  refine ⟨Nat.le_of_ble_eq_true rfl, ?_⟩
  have loop : ∀ c, c ≤ 6 → (∀ e, e < c → gdOk (qi h (y + 1)) (qi h (y + 9)) e) → ∀ v2 v3 v4 v5 v6 v7, V i_X8_isGood x 2 [some (vr (some y)), some (vi c), v2, v3, v4, v5, v6, v7] [] h (0, 0) := by
    refine bwd _ ?_ ?_
    · intro hall v2 v3 v4 v5 v6 v7
      refine s_X8_isGood_2 x ok _ _ _ _ ?_
      simp only [wpS, o_c, o_cl, o_il, o_ll, o_al, o_is, o_ls, o_as, o_inc, o_add, o_sub, o_mul, o_and, o_or, o_xor, o_shl, o_shr, o_div, o_neg, o_ladd, o_lsub, o_lmul, o_ldiv, o_lrem, o_lneg, o_lcmp, o_i2l, o_l2i, o_dup, o_dup2, o_pop, o_go, o_nn, o_sw, swc, o_iret, o_zret, o_lret, o_vret, o_ieq, o_eq0, o_ine, o_ne0, o_ilt, o_lt0, o_ige, o_ge0, o_igt, o_gt0, o_ile, o_le0, o_iald, o_zald, o_lald, o_aald, o_iast, o_zast, o_last, o_aast, o_alen, o_gi, o_gr, o_pi, o_pz, o_pr, o_new, o_newa, o_copy, o_oinit, o_call, o_callV, o_callVc, o_callI, popn, cnO, o_BAD, lgt, lst, isL, kil, st1, st2, entL, List.length_nil, List.length_cons, List.replicate, Nat.reduceAdd, Nat.reduceLeDiff, Nat.reduceSub, true_and, and_true, Nat.zero_le, ne_eq, qk_wi, ql_wi, qr_wi, qj_wi, qt_wi, qk_wj, ql_wj, qr_wj, qi_wj, qt_wj, qk_wr, ql_wr, qi_wr, qj_wr, qt_wr, qi_ws, qj_ws, qr_ws, Int.toNat_natCast, Int.toNat_zero, Int.reduceToNat, not_true_eq_false, not_false_eq_true, false_implies, implies_true, Option.some.injEq, reduceCtorEq, Sp0, true_or, or_true, or_self, wi_wi, wj_wj, hM.k]
      repeat' (first | (with_reducible refine And.intro ?_ ?_) | (with_reducible intro))
      all_goals (try (first | with_reducible assumption | omega | (unfold inI; omega) | (unfold inL; omega) | exact cz_in _ _))
      all_goals (try (exfalso; omega))
      refine s_X8_isGood_224 x ok _ _ _ _ ?_
      simp only [wpS, o_c, o_cl, o_il, o_ll, o_al, o_is, o_ls, o_as, o_inc, o_add, o_sub, o_mul, o_and, o_or, o_xor, o_shl, o_shr, o_div, o_neg, o_ladd, o_lsub, o_lmul, o_ldiv, o_lrem, o_lneg, o_lcmp, o_i2l, o_l2i, o_dup, o_dup2, o_pop, o_go, o_nn, o_sw, swc, o_iret, o_zret, o_lret, o_vret, o_ieq, o_eq0, o_ine, o_ne0, o_ilt, o_lt0, o_ige, o_ge0, o_igt, o_gt0, o_ile, o_le0, o_iald, o_zald, o_lald, o_aald, o_iast, o_zast, o_last, o_aast, o_alen, o_gi, o_gr, o_pi, o_pz, o_pr, o_new, o_newa, o_copy, o_oinit, o_call, o_callV, o_callVc, o_callI, popn, cnO, o_BAD, lgt, lst, isL, kil, st1, st2, entL, List.length_nil, List.length_cons, List.replicate, Nat.reduceAdd, Nat.reduceLeDiff, Nat.reduceSub, true_and, and_true, Nat.zero_le, ne_eq, qk_wi, ql_wi, qr_wi, qj_wi, qt_wi, qk_wj, ql_wj, qr_wj, qi_wj, qt_wj, qk_wr, ql_wr, qi_wr, qj_wr, qt_wr, qi_ws, qj_ws, qr_ws, Int.toNat_natCast, Int.toNat_zero, Int.reduceToNat, not_true_eq_false, not_false_eq_true, false_implies, implies_true, Option.some.injEq, reduceCtorEq, Sp0, true_or, or_true, or_self, wi_wi, wj_wj, hM.k]
      repeat' (first | (with_reducible refine And.intro ?_ ?_) | (with_reducible intro))
      all_goals (try (first | with_reducible assumption | omega | (unfold inI; omega) | (unfold inL; omega) | exact cz_in _ _))
      exact hK1 hall
    · intro c hc ih hall v2 v3 v4 v5 v6 v7
      have hCc := hI.2.1 c hc
      have hCe := hCc.2
      have e84 : qi h (y + 1) (1284 + c) = dcl (qi h (y + 1)) c := rfl
      have e90 : qi h (y + 1) (1290 + c) = dch (qi h (y + 1)) c := rfl
      have next : gdOk (qi h (y + 1)) (qi h (y + 9)) c → ∀ v2 v3 v4 v5 v6 v7, V i_X8_isGood x 218 [some (vr (some y)), some (vi c), v2, v3, v4, v5, v6, v7] [] h (0, 0) := by
        intro hg v2 v3 v4 v5 v6 v7
        refine s_X8_isGood_218 x ok _ _ _ _ ?_
        simp only [wpS, o_c, o_cl, o_il, o_ll, o_al, o_is, o_ls, o_as, o_inc, o_add, o_sub, o_mul, o_and, o_or, o_xor, o_shl, o_shr, o_div, o_neg, o_ladd, o_lsub, o_lmul, o_ldiv, o_lrem, o_lneg, o_lcmp, o_i2l, o_l2i, o_dup, o_dup2, o_pop, o_go, o_nn, o_sw, swc, o_iret, o_zret, o_lret, o_vret, o_ieq, o_eq0, o_ine, o_ne0, o_ilt, o_lt0, o_ige, o_ge0, o_igt, o_gt0, o_ile, o_le0, o_iald, o_zald, o_lald, o_aald, o_iast, o_zast, o_last, o_aast, o_alen, o_gi, o_gr, o_pi, o_pz, o_pr, o_new, o_newa, o_copy, o_oinit, o_call, o_callV, o_callVc, o_callI, popn, cnO, o_BAD, lgt, lst, isL, kil, st1, st2, entL, List.length_nil, List.length_cons, List.replicate, Nat.reduceAdd, Nat.reduceLeDiff, Nat.reduceSub, true_and, and_true, Nat.zero_le, ne_eq, qk_wi, ql_wi, qr_wi, qj_wi, qt_wi, qk_wj, ql_wj, qr_wj, qi_wj, qt_wj, qk_wr, ql_wr, qi_wr, qj_wr, qt_wr, qi_ws, qj_ws, qr_ws, Int.toNat_natCast, Int.toNat_zero, Int.reduceToNat, not_true_eq_false, not_false_eq_true, false_implies, implies_true, Option.some.injEq, reduceCtorEq, Sp0, true_or, or_true, or_self, wi_wi, wj_wj, hM.k]
        repeat' (first | (with_reducible refine And.intro ?_ ?_) | (with_reducible intro))
        all_goals (try (first | with_reducible assumption | omega | (unfold inI; omega) | (unfold inL; omega) | exact cz_in _ _))
        refine ih (fun e he => ?_) _ _ _ _ _ _
        by_cases z : e = c
        · rw [z]; exact hg
        · exact hall e (by omega)
      have in1 : ask (dsh (qi h (y + 1)) c) → ∀ m, m ≤ 12 → ∀ v5 v6 v7, V i_X8_isGood x 26 [some (vr (some y)), some (vi c), some (vi (sg (gloT (qi h (y + 1)) (qi h (y + 9)) c) m)), some (vi (sg (ghiT (qi h (y + 1)) (qi h (y + 9)) c) m)), some (vi m), v5, v6, v7] [] h (0, 0) := by
        intro hask
        have hr1 : ∀ m, m ≤ 12 → (-400000 ≤ sg (gloT (qi h (y + 1)) (qi h (y + 9)) c) m ∧ sg (gloT (qi h (y + 1)) (qi h (y + 9)) c) m ≤ 400000) ∧ (-400000 ≤ sg (ghiT (qi h (y + 1)) (qi h (y + 9)) c) m ∧ sg (ghiT (qi h (y + 1)) (qi h (y + 9)) c) m ≤ 400000) := fun m hm => by
          have r := fun k (hk : k < m) => gT_rg (c := c) (hI.1 k (by omega)) (hdg k (by omega)) (hCc.1 k (by omega))
          have a1 := sg_ge (fun k hk => (r k hk).1.1)
          have a2 := sg_le (fun k hk => (r k hk).1.2)
          have a3 := sg_ge (fun k hk => (r k hk).2.1)
          have a4 := sg_le (fun k hk => (r k hk).2.2)
          omega
        refine bwd _ ?_ ?_
        · intro v5 v6 v7
          have b := hr1 12 (by omega)
          refine s_X8_isGood_26 x ok _ _ _ _ ?_
          simp only [wpS, o_c, o_cl, o_il, o_ll, o_al, o_is, o_ls, o_as, o_inc, o_add, o_sub, o_mul, o_and, o_or, o_xor, o_shl, o_shr, o_div, o_neg, o_ladd, o_lsub, o_lmul, o_ldiv, o_lrem, o_lneg, o_lcmp, o_i2l, o_l2i, o_dup, o_dup2, o_pop, o_go, o_nn, o_sw, swc, o_iret, o_zret, o_lret, o_vret, o_ieq, o_eq0, o_ine, o_ne0, o_ilt, o_lt0, o_ige, o_ge0, o_igt, o_gt0, o_ile, o_le0, o_iald, o_zald, o_lald, o_aald, o_iast, o_zast, o_last, o_aast, o_alen, o_gi, o_gr, o_pi, o_pz, o_pr, o_new, o_newa, o_copy, o_oinit, o_call, o_callV, o_callVc, o_callI, popn, cnO, o_BAD, lgt, lst, isL, kil, st1, st2, entL, List.length_nil, List.length_cons, List.replicate, Nat.reduceAdd, Nat.reduceLeDiff, Nat.reduceSub, true_and, and_true, Nat.zero_le, ne_eq, qk_wi, ql_wi, qr_wi, qj_wi, qt_wi, qk_wj, ql_wj, qr_wj, qi_wj, qt_wj, qk_wr, ql_wr, qi_wr, qj_wr, qt_wr, qi_ws, qj_ws, qr_ws, Int.toNat_natCast, Int.toNat_zero, Int.reduceToNat, not_true_eq_false, not_false_eq_true, false_implies, implies_true, Option.some.injEq, reduceCtorEq, Sp0, true_or, or_true, or_self, wi_wi, wj_wj, hM.k]
          repeat' (first | (with_reducible refine And.intro ?_ ?_) | (with_reducible intro))
          all_goals (try (first | with_reducible assumption | omega | (unfold inI; omega) | (unfold inL; omega) | exact cz_in _ _))
          all_goals (try (exfalso; omega))
          refine s_X8_isGood_188 x ok _ _ _ _ ?_
          simp only [wpS, o_c, o_cl, o_il, o_ll, o_al, o_is, o_ls, o_as, o_inc, o_add, o_sub, o_mul, o_and, o_or, o_xor, o_shl, o_shr, o_div, o_neg, o_ladd, o_lsub, o_lmul, o_ldiv, o_lrem, o_lneg, o_lcmp, o_i2l, o_l2i, o_dup, o_dup2, o_pop, o_go, o_nn, o_sw, swc, o_iret, o_zret, o_lret, o_vret, o_ieq, o_eq0, o_ine, o_ne0, o_ilt, o_lt0, o_ige, o_ge0, o_igt, o_gt0, o_ile, o_le0, o_iald, o_zald, o_lald, o_aald, o_iast, o_zast, o_last, o_aast, o_alen, o_gi, o_gr, o_pi, o_pz, o_pr, o_new, o_newa, o_copy, o_oinit, o_call, o_callV, o_callVc, o_callI, popn, cnO, o_BAD, lgt, lst, isL, kil, st1, st2, entL, List.length_nil, List.length_cons, List.replicate, Nat.reduceAdd, Nat.reduceLeDiff, Nat.reduceSub, true_and, and_true, Nat.zero_le, ne_eq, qk_wi, ql_wi, qr_wi, qj_wi, qt_wi, qk_wj, ql_wj, qr_wj, qi_wj, qt_wj, qk_wr, ql_wr, qi_wr, qj_wr, qt_wr, qi_ws, qj_ws, qr_ws, Int.toNat_natCast, Int.toNat_zero, Int.reduceToNat, not_true_eq_false, not_false_eq_true, false_implies, implies_true, Option.some.injEq, reduceCtorEq, Sp0, true_or, or_true, or_self, wi_wi, wj_wj, hM.k, hM.r0, hM.k1, hM.l1, ix0, ix12, ix24, ix36, ix48, ix60, ix1032, ix1044, ix1092, ix1140, ix1188, ix1200, ix1212, ix1284, ix1290, ix1296, ix1298, ix1322, ix1346, ix1358, ixm4, ixm12, ixm24, ixm81, ixm1382, ixadd, Nat.zero_add, e84, e90]
          repeat' (first | (with_reducible refine And.intro ?_ ?_) | (with_reducible intro))
          all_goals (try (first | with_reducible assumption | omega | (unfold inI; omega) | (unfold inL; omega) | exact cz_in _ _))
          all_goals (first | exact next (fun _ => ⟨by omega, by omega⟩) _ _ _ _ _ _ | skip)
          all_goals (try (all_goals (try ((first | (refine s_X8_isGood_0 x ok _ _ _ _ ?_) | (refine s_X8_isGood_19 x ok _ _ _ _ ?_) | (refine s_X8_isGood_75 x ok _ _ _ _ ?_) | (refine s_X8_isGood_81 x ok _ _ _ _ ?_) | (refine s_X8_isGood_116 x ok _ _ _ _ ?_) | (refine s_X8_isGood_122 x ok _ _ _ _ ?_) | (refine s_X8_isGood_147 x ok _ _ _ _ ?_) | (refine s_X8_isGood_149 x ok _ _ _ _ ?_) | (refine s_X8_isGood_176 x ok _ _ _ _ ?_) | (refine s_X8_isGood_178 x ok _ _ _ _ ?_) | (refine s_X8_isGood_188 x ok _ _ _ _ ?_) | (refine s_X8_isGood_216 x ok _ _ _ _ ?_) | (refine s_X8_isGood_218 x ok _ _ _ _ ?_) | (refine s_X8_isGood_224 x ok _ _ _ _ ?_)); (try simp only [wpS, o_c, o_cl, o_il, o_ll, o_al, o_is, o_ls, o_as, o_inc, o_add, o_sub, o_mul, o_and, o_or, o_xor, o_shl, o_shr, o_div, o_neg, o_ladd, o_lsub, o_lmul, o_ldiv, o_lrem, o_lneg, o_lcmp, o_i2l, o_l2i, o_dup, o_dup2, o_pop, o_go, o_nn, o_sw, swc, o_iret, o_zret, o_lret, o_vret, o_ieq, o_eq0, o_ine, o_ne0, o_ilt, o_lt0, o_ige, o_ge0, o_igt, o_gt0, o_ile, o_le0, o_iald, o_zald, o_lald, o_aald, o_iast, o_zast, o_last, o_aast, o_alen, o_gi, o_gr, o_pi, o_pz, o_pr, o_new, o_newa, o_copy, o_oinit, o_call, o_callV, o_callVc, o_callI, popn, cnO, o_BAD, lgt, lst, isL, kil, st1, st2, entL, List.length_nil, List.length_cons, List.replicate, Nat.reduceAdd, Nat.reduceLeDiff, Nat.reduceSub, true_and, and_true, Nat.zero_le, ne_eq, qk_wi, ql_wi, qr_wi, qj_wi, qt_wi, qk_wj, ql_wj, qr_wj, qi_wj, qt_wj, qk_wr, ql_wr, qi_wr, qj_wr, qt_wr, qi_ws, qj_ws, qr_ws, Int.toNat_natCast, Int.toNat_zero, Int.reduceToNat, not_true_eq_false, not_false_eq_true, false_implies, implies_true, Option.some.injEq, reduceCtorEq, Sp0, true_or, or_true, or_self, wi_wi, wj_wj]); (repeat' (first | (with_reducible refine And.intro ?_ ?_) | (with_reducible intro))); (all_goals (try (first | with_reducible assumption | omega | (unfold inI; omega) | (unfold inL; omega) | exact cz_in _ _)))))))
          all_goals (
            refine hK0 (fun w => ?_)
            have := w c hc hask
            omega)
        · intro m hm ih2 v5 v6 v7
          have b := hr1 m (by omega)
          have b2 := gT_rg (c := c) (hI.1 m hm) (hdg m hm) (hCc.1 m hm)
          have b3 := loM_rg (hI.1 m hm) (hdg m hm)
          have b4 := (hI.1 m hm).s
          have bs := hCc.1 m hm
          have e12 : qi h (y + 1) (12 + m) = ds (qi h (y + 1)) m := rfl
          rw [sg_s, sg_s] at ih2
          have h122 : ∀ v7, V i_X8_isGood x 122 [some (vr (some y)), some (vi c), some (vi (sg (gloT (qi h (y + 1)) (qi h (y + 9)) c) m)), some (vi (sg (ghiT (qi h (y + 1)) (qi h (y + 9)) c) m)), some (vi m), some (vi (dsh (qi h (y + 1)) c m)), some (vi (loM (qi h (y + 1)) (qi h (y + 9)) m)), v7] [vi (hiM (qi h (y + 1)) (qi h (y + 9)) m)] h (0, 0) := by
            intro v7
            unfold gloT ghiT at b2 ih2
            by_cases z : 0 < dsh (qi h (y + 1)) c m
            · rw [if_pos z, if_pos z] at b2 ih2
              unfold gloT ghiT at b
              unfold gloT ghiT
              refine s_X8_isGood_122 x ok _ _ _ _ ?_
              simp only [wpS, o_c, o_cl, o_il, o_ll, o_al, o_is, o_ls, o_as, o_inc, o_add, o_sub, o_mul, o_and, o_or, o_xor, o_shl, o_shr, o_div, o_neg, o_ladd, o_lsub, o_lmul, o_ldiv, o_lrem, o_lneg, o_lcmp, o_i2l, o_l2i, o_dup, o_dup2, o_pop, o_go, o_nn, o_sw, swc, o_iret, o_zret, o_lret, o_vret, o_ieq, o_eq0, o_ine, o_ne0, o_ilt, o_lt0, o_ige, o_ge0, o_igt, o_gt0, o_ile, o_le0, o_iald, o_zald, o_lald, o_aald, o_iast, o_zast, o_last, o_aast, o_alen, o_gi, o_gr, o_pi, o_pz, o_pr, o_new, o_newa, o_copy, o_oinit, o_call, o_callV, o_callVc, o_callI, popn, cnO, o_BAD, lgt, lst, isL, kil, st1, st2, entL, List.length_nil, List.length_cons, List.replicate, Nat.reduceAdd, Nat.reduceLeDiff, Nat.reduceSub, true_and, and_true, Nat.zero_le, ne_eq, qk_wi, ql_wi, qr_wi, qj_wi, qt_wi, qk_wj, ql_wj, qr_wj, qi_wj, qt_wj, qk_wr, ql_wr, qi_wr, qj_wr, qt_wr, qi_ws, qj_ws, qr_ws, Int.toNat_natCast, Int.toNat_zero, Int.reduceToNat, not_true_eq_false, not_false_eq_true, false_implies, implies_true, Option.some.injEq, reduceCtorEq, Sp0, true_or, or_true, or_self, wi_wi, wj_wj, hM.k, hM.r0, hM.k1, hM.l1, ix0, ix12, ix24, ix36, ix48, ix60, ix1032, ix1044, ix1092, ix1140, ix1188, ix1200, ix1212, ix1284, ix1290, ix1296, ix1298, ix1322, ix1346, ix1358, ixm4, ixm12, ixm24, ixm81, ixm1382, ixadd, Nat.zero_add, e12]
              repeat' (first | (with_reducible refine And.intro ?_ ?_) | (with_reducible intro))
              all_goals (try (first | with_reducible assumption | omega | (unfold inI; omega) | (unfold inL; omega) | exact cz_in _ _))
              all_goals (try (exfalso; omega))
              refine s_X8_isGood_149 x ok _ _ _ _ ?_
              simp only [wpS, o_c, o_cl, o_il, o_ll, o_al, o_is, o_ls, o_as, o_inc, o_add, o_sub, o_mul, o_and, o_or, o_xor, o_shl, o_shr, o_div, o_neg, o_ladd, o_lsub, o_lmul, o_ldiv, o_lrem, o_lneg, o_lcmp, o_i2l, o_l2i, o_dup, o_dup2, o_pop, o_go, o_nn, o_sw, swc, o_iret, o_zret, o_lret, o_vret, o_ieq, o_eq0, o_ine, o_ne0, o_ilt, o_lt0, o_ige, o_ge0, o_igt, o_gt0, o_ile, o_le0, o_iald, o_zald, o_lald, o_aald, o_iast, o_zast, o_last, o_aast, o_alen, o_gi, o_gr, o_pi, o_pz, o_pr, o_new, o_newa, o_copy, o_oinit, o_call, o_callV, o_callVc, o_callI, popn, cnO, o_BAD, lgt, lst, isL, kil, st1, st2, entL, List.length_nil, List.length_cons, List.replicate, Nat.reduceAdd, Nat.reduceLeDiff, Nat.reduceSub, true_and, and_true, Nat.zero_le, ne_eq, qk_wi, ql_wi, qr_wi, qj_wi, qt_wi, qk_wj, ql_wj, qr_wj, qi_wj, qt_wj, qk_wr, ql_wr, qi_wr, qj_wr, qt_wr, qi_ws, qj_ws, qr_ws, Int.toNat_natCast, Int.toNat_zero, Int.reduceToNat, not_true_eq_false, not_false_eq_true, false_implies, implies_true, Option.some.injEq, reduceCtorEq, Sp0, true_or, or_true, or_self, wi_wi, wj_wj, hM.k, hM.r0, hM.k1, hM.l1, ix0, ix12, ix24, ix36, ix48, ix60, ix1032, ix1044, ix1092, ix1140, ix1188, ix1200, ix1212, ix1284, ix1290, ix1296, ix1298, ix1322, ix1346, ix1358, ixm4, ixm12, ixm24, ixm81, ixm1382, ixadd, Nat.zero_add, e12]
              repeat' (first | (with_reducible refine And.intro ?_ ?_) | (with_reducible intro))
              all_goals (try (first | with_reducible assumption | omega | (unfold inI; omega) | (unfold inL; omega) | exact cz_in _ _))
              all_goals (try (exfalso; omega))
              refine s_X8_isGood_178 x ok _ _ _ _ ?_
              simp only [wpS, o_c, o_cl, o_il, o_ll, o_al, o_is, o_ls, o_as, o_inc, o_add, o_sub, o_mul, o_and, o_or, o_xor, o_shl, o_shr, o_div, o_neg, o_ladd, o_lsub, o_lmul, o_ldiv, o_lrem, o_lneg, o_lcmp, o_i2l, o_l2i, o_dup, o_dup2, o_pop, o_go, o_nn, o_sw, swc, o_iret, o_zret, o_lret, o_vret, o_ieq, o_eq0, o_ine, o_ne0, o_ilt, o_lt0, o_ige, o_ge0, o_igt, o_gt0, o_ile, o_le0, o_iald, o_zald, o_lald, o_aald, o_iast, o_zast, o_last, o_aast, o_alen, o_gi, o_gr, o_pi, o_pz, o_pr, o_new, o_newa, o_copy, o_oinit, o_call, o_callV, o_callVc, o_callI, popn, cnO, o_BAD, lgt, lst, isL, kil, st1, st2, entL, List.length_nil, List.length_cons, List.replicate, Nat.reduceAdd, Nat.reduceLeDiff, Nat.reduceSub, true_and, and_true, Nat.zero_le, ne_eq, qk_wi, ql_wi, qr_wi, qj_wi, qt_wi, qk_wj, ql_wj, qr_wj, qi_wj, qt_wj, qk_wr, ql_wr, qi_wr, qj_wr, qt_wr, qi_ws, qj_ws, qr_ws, Int.toNat_natCast, Int.toNat_zero, Int.reduceToNat, not_true_eq_false, not_false_eq_true, false_implies, implies_true, Option.some.injEq, reduceCtorEq, Sp0, true_or, or_true, or_self, wi_wi, wj_wj, hM.k, hM.r0, hM.k1, hM.l1, ix0, ix12, ix24, ix36, ix48, ix60, ix1032, ix1044, ix1092, ix1140, ix1188, ix1200, ix1212, ix1284, ix1290, ix1296, ix1298, ix1322, ix1346, ix1358, ixm4, ixm12, ixm24, ixm81, ixm1382, ixadd, Nat.zero_add, e12]
              repeat' (first | (with_reducible refine And.intro ?_ ?_) | (with_reducible intro))
              all_goals (try (first | with_reducible assumption | omega | (unfold inI; omega) | (unfold inL; omega) | exact cz_in _ _))
              exact ih2 _ _ _
            · rw [if_neg z, if_neg z] at b2 ih2
              unfold gloT ghiT at b
              unfold gloT ghiT
              refine s_X8_isGood_122 x ok _ _ _ _ ?_
              simp only [wpS, o_c, o_cl, o_il, o_ll, o_al, o_is, o_ls, o_as, o_inc, o_add, o_sub, o_mul, o_and, o_or, o_xor, o_shl, o_shr, o_div, o_neg, o_ladd, o_lsub, o_lmul, o_ldiv, o_lrem, o_lneg, o_lcmp, o_i2l, o_l2i, o_dup, o_dup2, o_pop, o_go, o_nn, o_sw, swc, o_iret, o_zret, o_lret, o_vret, o_ieq, o_eq0, o_ine, o_ne0, o_ilt, o_lt0, o_ige, o_ge0, o_igt, o_gt0, o_ile, o_le0, o_iald, o_zald, o_lald, o_aald, o_iast, o_zast, o_last, o_aast, o_alen, o_gi, o_gr, o_pi, o_pz, o_pr, o_new, o_newa, o_copy, o_oinit, o_call, o_callV, o_callVc, o_callI, popn, cnO, o_BAD, lgt, lst, isL, kil, st1, st2, entL, List.length_nil, List.length_cons, List.replicate, Nat.reduceAdd, Nat.reduceLeDiff, Nat.reduceSub, true_and, and_true, Nat.zero_le, ne_eq, qk_wi, ql_wi, qr_wi, qj_wi, qt_wi, qk_wj, ql_wj, qr_wj, qi_wj, qt_wj, qk_wr, ql_wr, qi_wr, qj_wr, qt_wr, qi_ws, qj_ws, qr_ws, Int.toNat_natCast, Int.toNat_zero, Int.reduceToNat, not_true_eq_false, not_false_eq_true, false_implies, implies_true, Option.some.injEq, reduceCtorEq, Sp0, true_or, or_true, or_self, wi_wi, wj_wj, hM.k, hM.r0, hM.k1, hM.l1, ix0, ix12, ix24, ix36, ix48, ix60, ix1032, ix1044, ix1092, ix1140, ix1188, ix1200, ix1212, ix1284, ix1290, ix1296, ix1298, ix1322, ix1346, ix1358, ixm4, ixm12, ixm24, ixm81, ixm1382, ixadd, Nat.zero_add, e12]
              repeat' (first | (with_reducible refine And.intro ?_ ?_) | (with_reducible intro))
              all_goals (try (first | with_reducible assumption | omega | (unfold inI; omega) | (unfold inL; omega) | exact cz_in _ _))
              all_goals (try (exfalso; omega))
              refine s_X8_isGood_147 x ok _ _ _ _ ?_
              simp only [wpS, o_c, o_cl, o_il, o_ll, o_al, o_is, o_ls, o_as, o_inc, o_add, o_sub, o_mul, o_and, o_or, o_xor, o_shl, o_shr, o_div, o_neg, o_ladd, o_lsub, o_lmul, o_ldiv, o_lrem, o_lneg, o_lcmp, o_i2l, o_l2i, o_dup, o_dup2, o_pop, o_go, o_nn, o_sw, swc, o_iret, o_zret, o_lret, o_vret, o_ieq, o_eq0, o_ine, o_ne0, o_ilt, o_lt0, o_ige, o_ge0, o_igt, o_gt0, o_ile, o_le0, o_iald, o_zald, o_lald, o_aald, o_iast, o_zast, o_last, o_aast, o_alen, o_gi, o_gr, o_pi, o_pz, o_pr, o_new, o_newa, o_copy, o_oinit, o_call, o_callV, o_callVc, o_callI, popn, cnO, o_BAD, lgt, lst, isL, kil, st1, st2, entL, List.length_nil, List.length_cons, List.replicate, Nat.reduceAdd, Nat.reduceLeDiff, Nat.reduceSub, true_and, and_true, Nat.zero_le, ne_eq, qk_wi, ql_wi, qr_wi, qj_wi, qt_wi, qk_wj, ql_wj, qr_wj, qi_wj, qt_wj, qk_wr, ql_wr, qi_wr, qj_wr, qt_wr, qi_ws, qj_ws, qr_ws, Int.toNat_natCast, Int.toNat_zero, Int.reduceToNat, not_true_eq_false, not_false_eq_true, false_implies, implies_true, Option.some.injEq, reduceCtorEq, Sp0, true_or, or_true, or_self, wi_wi, wj_wj, hM.k, hM.r0, hM.k1, hM.l1, ix0, ix12, ix24, ix36, ix48, ix60, ix1032, ix1044, ix1092, ix1140, ix1188, ix1200, ix1212, ix1284, ix1290, ix1296, ix1298, ix1322, ix1346, ix1358, ixm4, ixm12, ixm24, ixm81, ixm1382, ixadd, Nat.zero_add, e12]
              repeat' (first | (with_reducible refine And.intro ?_ ?_) | (with_reducible intro))
              all_goals (try (first | with_reducible assumption | omega | (unfold inI; omega) | (unfold inL; omega) | exact cz_in _ _))
              all_goals (try (exfalso; omega))
              refine s_X8_isGood_176 x ok _ _ _ _ ?_
              simp only [wpS, o_c, o_cl, o_il, o_ll, o_al, o_is, o_ls, o_as, o_inc, o_add, o_sub, o_mul, o_and, o_or, o_xor, o_shl, o_shr, o_div, o_neg, o_ladd, o_lsub, o_lmul, o_ldiv, o_lrem, o_lneg, o_lcmp, o_i2l, o_l2i, o_dup, o_dup2, o_pop, o_go, o_nn, o_sw, swc, o_iret, o_zret, o_lret, o_vret, o_ieq, o_eq0, o_ine, o_ne0, o_ilt, o_lt0, o_ige, o_ge0, o_igt, o_gt0, o_ile, o_le0, o_iald, o_zald, o_lald, o_aald, o_iast, o_zast, o_last, o_aast, o_alen, o_gi, o_gr, o_pi, o_pz, o_pr, o_new, o_newa, o_copy, o_oinit, o_call, o_callV, o_callVc, o_callI, popn, cnO, o_BAD, lgt, lst, isL, kil, st1, st2, entL, List.length_nil, List.length_cons, List.replicate, Nat.reduceAdd, Nat.reduceLeDiff, Nat.reduceSub, true_and, and_true, Nat.zero_le, ne_eq, qk_wi, ql_wi, qr_wi, qj_wi, qt_wi, qk_wj, ql_wj, qr_wj, qi_wj, qt_wj, qk_wr, ql_wr, qi_wr, qj_wr, qt_wr, qi_ws, qj_ws, qr_ws, Int.toNat_natCast, Int.toNat_zero, Int.reduceToNat, not_true_eq_false, not_false_eq_true, false_implies, implies_true, Option.some.injEq, reduceCtorEq, Sp0, true_or, or_true, or_self, wi_wi, wj_wj, hM.k, hM.r0, hM.k1, hM.l1, ix0, ix12, ix24, ix36, ix48, ix60, ix1032, ix1044, ix1092, ix1140, ix1188, ix1200, ix1212, ix1284, ix1290, ix1296, ix1298, ix1322, ix1346, ix1358, ixm4, ixm12, ixm24, ixm81, ixm1382, ixadd, Nat.zero_add, e12]
              repeat' (first | (with_reducible refine And.intro ?_ ?_) | (with_reducible intro))
              all_goals (try (first | with_reducible assumption | omega | (unfold inI; omega) | (unfold inL; omega) | exact cz_in _ _))
              exact ih2 _ _ _
          by_cases z : gdB (qi h (y + 1)) m = true
          · have hz := hdg m hm z
            obtain ⟨A, hA⟩ : ∃ A : Nat, qi h (y + 9) m = (A : Int) := ⟨(qi h (y + 9) m).toNat, by omega⟩
            have hv := (hI.1 m hm).v
            have e44 : qi h (y + 1) (1044 + 4 * m + A) = loM (qi h (y + 1)) (qi h (y + 9)) m := by
              unfold loM
              rw [if_pos z, hA, Int.toNat_natCast]
              rfl
            have e92 : qi h (y + 1) (1092 + 4 * m + A) = hiM (qi h (y + 1)) (qi h (y + 9)) m := by
              unfold hiM
              rw [if_pos z, hA, Int.toNat_natCast]
              rfl
            refine s_X8_isGood_26 x ok _ _ _ _ ?_
            simp only [wpS, o_c, o_cl, o_il, o_ll, o_al, o_is, o_ls, o_as, o_inc, o_add, o_sub, o_mul, o_and, o_or, o_xor, o_shl, o_shr, o_div, o_neg, o_ladd, o_lsub, o_lmul, o_ldiv, o_lrem, o_lneg, o_lcmp, o_i2l, o_l2i, o_dup, o_dup2, o_pop, o_go, o_nn, o_sw, swc, o_iret, o_zret, o_lret, o_vret, o_ieq, o_eq0, o_ine, o_ne0, o_ilt, o_lt0, o_ige, o_ge0, o_igt, o_gt0, o_ile, o_le0, o_iald, o_zald, o_lald, o_aald, o_iast, o_zast, o_last, o_aast, o_alen, o_gi, o_gr, o_pi, o_pz, o_pr, o_new, o_newa, o_copy, o_oinit, o_call, o_callV, o_callVc, o_callI, popn, cnO, o_BAD, lgt, lst, isL, kil, st1, st2, entL, List.length_nil, List.length_cons, List.replicate, Nat.reduceAdd, Nat.reduceLeDiff, Nat.reduceSub, true_and, and_true, Nat.zero_le, ne_eq, qk_wi, ql_wi, qr_wi, qj_wi, qt_wi, qk_wj, ql_wj, qr_wj, qi_wj, qt_wj, qk_wr, ql_wr, qi_wr, qj_wr, qt_wr, qi_ws, qj_ws, qr_ws, Int.toNat_natCast, Int.toNat_zero, Int.reduceToNat, not_true_eq_false, not_false_eq_true, false_implies, implies_true, Option.some.injEq, reduceCtorEq, Sp0, true_or, or_true, or_self, wi_wi, wj_wj, hM.k]
            repeat' (first | (with_reducible refine And.intro ?_ ?_) | (with_reducible intro))
            all_goals (try (first | with_reducible assumption | omega | (unfold inI; omega) | (unfold inL; omega) | exact cz_in _ _))
            all_goals (try (exfalso; omega))
            refine c8_shareOf hM hc hm ?_
            simp only [wpS, o_c, o_cl, o_il, o_ll, o_al, o_is, o_ls, o_as, o_inc, o_add, o_sub, o_mul, o_and, o_or, o_xor, o_shl, o_shr, o_div, o_neg, o_ladd, o_lsub, o_lmul, o_ldiv, o_lrem, o_lneg, o_lcmp, o_i2l, o_l2i, o_dup, o_dup2, o_pop, o_go, o_nn, o_sw, swc, o_iret, o_zret, o_lret, o_vret, o_ieq, o_eq0, o_ine, o_ne0, o_ilt, o_lt0, o_ige, o_ge0, o_igt, o_gt0, o_ile, o_le0, o_iald, o_zald, o_lald, o_aald, o_iast, o_zast, o_last, o_aast, o_alen, o_gi, o_gr, o_pi, o_pz, o_pr, o_new, o_newa, o_copy, o_oinit, o_call, o_callV, o_callVc, o_callI, popn, cnO, o_BAD, lgt, lst, isL, kil, st1, st2, entL, List.length_nil, List.length_cons, List.replicate, Nat.reduceAdd, Nat.reduceLeDiff, Nat.reduceSub, true_and, and_true, Nat.zero_le, ne_eq, qk_wi, ql_wi, qr_wi, qj_wi, qt_wi, qk_wj, ql_wj, qr_wj, qi_wj, qt_wj, qk_wr, ql_wr, qi_wr, qj_wr, qt_wr, qi_ws, qj_ws, qr_ws, Int.toNat_natCast, Int.toNat_zero, Int.reduceToNat, not_true_eq_false, not_false_eq_true, false_implies, implies_true, Option.some.injEq, reduceCtorEq, Sp0, true_or, or_true, or_self, wi_wi, wj_wj, hM.k]
            repeat' (first | (with_reducible refine And.intro ?_ ?_) | (with_reducible intro))
            all_goals (try (first | with_reducible assumption | omega | (unfold inI; omega) | (unfold inL; omega) | exact cz_in _ _))
            refine c8_isChosen hM hI hm ⟨fun _ => ?_, fun q => absurd (chs_iff.mpr z) q⟩
            simp only [wpS, o_c, o_cl, o_il, o_ll, o_al, o_is, o_ls, o_as, o_inc, o_add, o_sub, o_mul, o_and, o_or, o_xor, o_shl, o_shr, o_div, o_neg, o_ladd, o_lsub, o_lmul, o_ldiv, o_lrem, o_lneg, o_lcmp, o_i2l, o_l2i, o_dup, o_dup2, o_pop, o_go, o_nn, o_sw, swc, o_iret, o_zret, o_lret, o_vret, o_ieq, o_eq0, o_ine, o_ne0, o_ilt, o_lt0, o_ige, o_ge0, o_igt, o_gt0, o_ile, o_le0, o_iald, o_zald, o_lald, o_aald, o_iast, o_zast, o_last, o_aast, o_alen, o_gi, o_gr, o_pi, o_pz, o_pr, o_new, o_newa, o_copy, o_oinit, o_call, o_callV, o_callVc, o_callI, popn, cnO, o_BAD, lgt, lst, isL, kil, st1, st2, entL, List.length_nil, List.length_cons, List.replicate, Nat.reduceAdd, Nat.reduceLeDiff, Nat.reduceSub, true_and, and_true, Nat.zero_le, ne_eq, qk_wi, ql_wi, qr_wi, qj_wi, qt_wi, qk_wj, ql_wj, qr_wj, qi_wj, qt_wj, qk_wr, ql_wr, qi_wr, qj_wr, qt_wr, qi_ws, qj_ws, qr_ws, Int.toNat_natCast, Int.toNat_zero, Int.reduceToNat, not_true_eq_false, not_false_eq_true, false_implies, implies_true, Option.some.injEq, reduceCtorEq, Sp0, true_or, or_true, or_self, wi_wi, wj_wj, hM.k, hM.r0, hM.k1, hM.l1, ix0, ix12, ix24, ix36, ix48, ix60, ix1032, ix1044, ix1092, ix1140, ix1188, ix1200, ix1212, ix1284, ix1290, ix1296, ix1298, ix1322, ix1346, ix1358, ixm4, ixm12, ixm24, ixm81, ixm1382, ixadd, Nat.zero_add, hM.r8, hM.k9, hM.l9, hA, e44]
            repeat' (first | (with_reducible refine And.intro ?_ ?_) | (with_reducible intro))
            all_goals (try (first | with_reducible assumption | omega | (unfold inI; omega) | (unfold inL; omega) | exact cz_in _ _))
            all_goals (try (exfalso; omega))
            refine s_X8_isGood_81 x ok _ _ _ _ ?_
            simp only [wpS, o_c, o_cl, o_il, o_ll, o_al, o_is, o_ls, o_as, o_inc, o_add, o_sub, o_mul, o_and, o_or, o_xor, o_shl, o_shr, o_div, o_neg, o_ladd, o_lsub, o_lmul, o_ldiv, o_lrem, o_lneg, o_lcmp, o_i2l, o_l2i, o_dup, o_dup2, o_pop, o_go, o_nn, o_sw, swc, o_iret, o_zret, o_lret, o_vret, o_ieq, o_eq0, o_ine, o_ne0, o_ilt, o_lt0, o_ige, o_ge0, o_igt, o_gt0, o_ile, o_le0, o_iald, o_zald, o_lald, o_aald, o_iast, o_zast, o_last, o_aast, o_alen, o_gi, o_gr, o_pi, o_pz, o_pr, o_new, o_newa, o_copy, o_oinit, o_call, o_callV, o_callVc, o_callI, popn, cnO, o_BAD, lgt, lst, isL, kil, st1, st2, entL, List.length_nil, List.length_cons, List.replicate, Nat.reduceAdd, Nat.reduceLeDiff, Nat.reduceSub, true_and, and_true, Nat.zero_le, ne_eq, qk_wi, ql_wi, qr_wi, qj_wi, qt_wi, qk_wj, ql_wj, qr_wj, qi_wj, qt_wj, qk_wr, ql_wr, qi_wr, qj_wr, qt_wr, qi_ws, qj_ws, qr_ws, Int.toNat_natCast, Int.toNat_zero, Int.reduceToNat, not_true_eq_false, not_false_eq_true, false_implies, implies_true, Option.some.injEq, reduceCtorEq, Sp0, true_or, or_true, or_self, wi_wi, wj_wj, hM.k]
            repeat' (first | (with_reducible refine And.intro ?_ ?_) | (with_reducible intro))
            all_goals (try (first | with_reducible assumption | omega | (unfold inI; omega) | (unfold inL; omega) | exact cz_in _ _))
            refine c8_isChosen hM hI hm ⟨fun _ => ?_, fun q => absurd (chs_iff.mpr z) q⟩
            simp only [wpS, o_c, o_cl, o_il, o_ll, o_al, o_is, o_ls, o_as, o_inc, o_add, o_sub, o_mul, o_and, o_or, o_xor, o_shl, o_shr, o_div, o_neg, o_ladd, o_lsub, o_lmul, o_ldiv, o_lrem, o_lneg, o_lcmp, o_i2l, o_l2i, o_dup, o_dup2, o_pop, o_go, o_nn, o_sw, swc, o_iret, o_zret, o_lret, o_vret, o_ieq, o_eq0, o_ine, o_ne0, o_ilt, o_lt0, o_ige, o_ge0, o_igt, o_gt0, o_ile, o_le0, o_iald, o_zald, o_lald, o_aald, o_iast, o_zast, o_last, o_aast, o_alen, o_gi, o_gr, o_pi, o_pz, o_pr, o_new, o_newa, o_copy, o_oinit, o_call, o_callV, o_callVc, o_callI, popn, cnO, o_BAD, lgt, lst, isL, kil, st1, st2, entL, List.length_nil, List.length_cons, List.replicate, Nat.reduceAdd, Nat.reduceLeDiff, Nat.reduceSub, true_and, and_true, Nat.zero_le, ne_eq, qk_wi, ql_wi, qr_wi, qj_wi, qt_wi, qk_wj, ql_wj, qr_wj, qi_wj, qt_wj, qk_wr, ql_wr, qi_wr, qj_wr, qt_wr, qi_ws, qj_ws, qr_ws, Int.toNat_natCast, Int.toNat_zero, Int.reduceToNat, not_true_eq_false, not_false_eq_true, false_implies, implies_true, Option.some.injEq, reduceCtorEq, Sp0, true_or, or_true, or_self, wi_wi, wj_wj, hM.k, hM.r0, hM.k1, hM.l1, ix0, ix12, ix24, ix36, ix48, ix60, ix1032, ix1044, ix1092, ix1140, ix1188, ix1200, ix1212, ix1284, ix1290, ix1296, ix1298, ix1322, ix1346, ix1358, ixm4, ixm12, ixm24, ixm81, ixm1382, ixadd, Nat.zero_add, hM.r8, hM.k9, hM.l9, hA, e92]
            repeat' (first | (with_reducible refine And.intro ?_ ?_) | (with_reducible intro))
            all_goals (try (first | with_reducible assumption | omega | (unfold inI; omega) | (unfold inL; omega) | exact cz_in _ _))
            all_goals (try (exfalso; omega))
            exact h122 _
          · have e44 : lwM (qi h (y + 1)) m = loM (qi h (y + 1)) (qi h (y + 9)) m := by
              unfold loM
              rw [if_neg z]
            have e92 : hgM (qi h (y + 1)) m = hiM (qi h (y + 1)) (qi h (y + 9)) m := by
              unfold hiM
              rw [if_neg z]
            refine s_X8_isGood_26 x ok _ _ _ _ ?_
            simp only [wpS, o_c, o_cl, o_il, o_ll, o_al, o_is, o_ls, o_as, o_inc, o_add, o_sub, o_mul, o_and, o_or, o_xor, o_shl, o_shr, o_div, o_neg, o_ladd, o_lsub, o_lmul, o_ldiv, o_lrem, o_lneg, o_lcmp, o_i2l, o_l2i, o_dup, o_dup2, o_pop, o_go, o_nn, o_sw, swc, o_iret, o_zret, o_lret, o_vret, o_ieq, o_eq0, o_ine, o_ne0, o_ilt, o_lt0, o_ige, o_ge0, o_igt, o_gt0, o_ile, o_le0, o_iald, o_zald, o_lald, o_aald, o_iast, o_zast, o_last, o_aast, o_alen, o_gi, o_gr, o_pi, o_pz, o_pr, o_new, o_newa, o_copy, o_oinit, o_call, o_callV, o_callVc, o_callI, popn, cnO, o_BAD, lgt, lst, isL, kil, st1, st2, entL, List.length_nil, List.length_cons, List.replicate, Nat.reduceAdd, Nat.reduceLeDiff, Nat.reduceSub, true_and, and_true, Nat.zero_le, ne_eq, qk_wi, ql_wi, qr_wi, qj_wi, qt_wi, qk_wj, ql_wj, qr_wj, qi_wj, qt_wj, qk_wr, ql_wr, qi_wr, qj_wr, qt_wr, qi_ws, qj_ws, qr_ws, Int.toNat_natCast, Int.toNat_zero, Int.reduceToNat, not_true_eq_false, not_false_eq_true, false_implies, implies_true, Option.some.injEq, reduceCtorEq, Sp0, true_or, or_true, or_self, wi_wi, wj_wj, hM.k]
            repeat' (first | (with_reducible refine And.intro ?_ ?_) | (with_reducible intro))
            all_goals (try (first | with_reducible assumption | omega | (unfold inI; omega) | (unfold inL; omega) | exact cz_in _ _))
            all_goals (try (exfalso; omega))
            refine c8_shareOf hM hc hm ?_
            simp only [wpS, o_c, o_cl, o_il, o_ll, o_al, o_is, o_ls, o_as, o_inc, o_add, o_sub, o_mul, o_and, o_or, o_xor, o_shl, o_shr, o_div, o_neg, o_ladd, o_lsub, o_lmul, o_ldiv, o_lrem, o_lneg, o_lcmp, o_i2l, o_l2i, o_dup, o_dup2, o_pop, o_go, o_nn, o_sw, swc, o_iret, o_zret, o_lret, o_vret, o_ieq, o_eq0, o_ine, o_ne0, o_ilt, o_lt0, o_ige, o_ge0, o_igt, o_gt0, o_ile, o_le0, o_iald, o_zald, o_lald, o_aald, o_iast, o_zast, o_last, o_aast, o_alen, o_gi, o_gr, o_pi, o_pz, o_pr, o_new, o_newa, o_copy, o_oinit, o_call, o_callV, o_callVc, o_callI, popn, cnO, o_BAD, lgt, lst, isL, kil, st1, st2, entL, List.length_nil, List.length_cons, List.replicate, Nat.reduceAdd, Nat.reduceLeDiff, Nat.reduceSub, true_and, and_true, Nat.zero_le, ne_eq, qk_wi, ql_wi, qr_wi, qj_wi, qt_wi, qk_wj, ql_wj, qr_wj, qi_wj, qt_wj, qk_wr, ql_wr, qi_wr, qj_wr, qt_wr, qi_ws, qj_ws, qr_ws, Int.toNat_natCast, Int.toNat_zero, Int.reduceToNat, not_true_eq_false, not_false_eq_true, false_implies, implies_true, Option.some.injEq, reduceCtorEq, Sp0, true_or, or_true, or_self, wi_wi, wj_wj, hM.k]
            repeat' (first | (with_reducible refine And.intro ?_ ?_) | (with_reducible intro))
            all_goals (try (first | with_reducible assumption | omega | (unfold inI; omega) | (unfold inL; omega) | exact cz_in _ _))
            refine c8_isChosen hM hI hm ⟨fun q => absurd (chs_iff.mp q) z, fun _ => ?_⟩
            simp only [wpS, o_c, o_cl, o_il, o_ll, o_al, o_is, o_ls, o_as, o_inc, o_add, o_sub, o_mul, o_and, o_or, o_xor, o_shl, o_shr, o_div, o_neg, o_ladd, o_lsub, o_lmul, o_ldiv, o_lrem, o_lneg, o_lcmp, o_i2l, o_l2i, o_dup, o_dup2, o_pop, o_go, o_nn, o_sw, swc, o_iret, o_zret, o_lret, o_vret, o_ieq, o_eq0, o_ine, o_ne0, o_ilt, o_lt0, o_ige, o_ge0, o_igt, o_gt0, o_ile, o_le0, o_iald, o_zald, o_lald, o_aald, o_iast, o_zast, o_last, o_aast, o_alen, o_gi, o_gr, o_pi, o_pz, o_pr, o_new, o_newa, o_copy, o_oinit, o_call, o_callV, o_callVc, o_callI, popn, cnO, o_BAD, lgt, lst, isL, kil, st1, st2, entL, List.length_nil, List.length_cons, List.replicate, Nat.reduceAdd, Nat.reduceLeDiff, Nat.reduceSub, true_and, and_true, Nat.zero_le, ne_eq, qk_wi, ql_wi, qr_wi, qj_wi, qt_wi, qk_wj, ql_wj, qr_wj, qi_wj, qt_wj, qk_wr, ql_wr, qi_wr, qj_wr, qt_wr, qi_ws, qj_ws, qr_ws, Int.toNat_natCast, Int.toNat_zero, Int.reduceToNat, not_true_eq_false, not_false_eq_true, false_implies, implies_true, Option.some.injEq, reduceCtorEq, Sp0, true_or, or_true, or_self, wi_wi, wj_wj, hM.k]
            repeat' (first | (with_reducible refine And.intro ?_ ?_) | (with_reducible intro))
            all_goals (try (first | with_reducible assumption | omega | (unfold inI; omega) | (unfold inL; omega) | exact cz_in _ _))
            all_goals (try (exfalso; omega))
            refine s_X8_isGood_75 x ok _ _ _ _ ?_
            simp only [wpS, o_c, o_cl, o_il, o_ll, o_al, o_is, o_ls, o_as, o_inc, o_add, o_sub, o_mul, o_and, o_or, o_xor, o_shl, o_shr, o_div, o_neg, o_ladd, o_lsub, o_lmul, o_ldiv, o_lrem, o_lneg, o_lcmp, o_i2l, o_l2i, o_dup, o_dup2, o_pop, o_go, o_nn, o_sw, swc, o_iret, o_zret, o_lret, o_vret, o_ieq, o_eq0, o_ine, o_ne0, o_ilt, o_lt0, o_ige, o_ge0, o_igt, o_gt0, o_ile, o_le0, o_iald, o_zald, o_lald, o_aald, o_iast, o_zast, o_last, o_aast, o_alen, o_gi, o_gr, o_pi, o_pz, o_pr, o_new, o_newa, o_copy, o_oinit, o_call, o_callV, o_callVc, o_callI, popn, cnO, o_BAD, lgt, lst, isL, kil, st1, st2, entL, List.length_nil, List.length_cons, List.replicate, Nat.reduceAdd, Nat.reduceLeDiff, Nat.reduceSub, true_and, and_true, Nat.zero_le, ne_eq, qk_wi, ql_wi, qr_wi, qj_wi, qt_wi, qk_wj, ql_wj, qr_wj, qi_wj, qt_wj, qk_wr, ql_wr, qi_wr, qj_wr, qt_wr, qi_ws, qj_ws, qr_ws, Int.toNat_natCast, Int.toNat_zero, Int.reduceToNat, not_true_eq_false, not_false_eq_true, false_implies, implies_true, Option.some.injEq, reduceCtorEq, Sp0, true_or, or_true, or_self, wi_wi, wj_wj, hM.k]
            repeat' (first | (with_reducible refine And.intro ?_ ?_) | (with_reducible intro))
            all_goals (try (first | with_reducible assumption | omega | (unfold inI; omega) | (unfold inL; omega) | exact cz_in _ _))
            refine c8_lowMiss hM hI hm ?_
            rw [e44]
            simp only [wpS, o_c, o_cl, o_il, o_ll, o_al, o_is, o_ls, o_as, o_inc, o_add, o_sub, o_mul, o_and, o_or, o_xor, o_shl, o_shr, o_div, o_neg, o_ladd, o_lsub, o_lmul, o_ldiv, o_lrem, o_lneg, o_lcmp, o_i2l, o_l2i, o_dup, o_dup2, o_pop, o_go, o_nn, o_sw, swc, o_iret, o_zret, o_lret, o_vret, o_ieq, o_eq0, o_ine, o_ne0, o_ilt, o_lt0, o_ige, o_ge0, o_igt, o_gt0, o_ile, o_le0, o_iald, o_zald, o_lald, o_aald, o_iast, o_zast, o_last, o_aast, o_alen, o_gi, o_gr, o_pi, o_pz, o_pr, o_new, o_newa, o_copy, o_oinit, o_call, o_callV, o_callVc, o_callI, popn, cnO, o_BAD, lgt, lst, isL, kil, st1, st2, entL, List.length_nil, List.length_cons, List.replicate, Nat.reduceAdd, Nat.reduceLeDiff, Nat.reduceSub, true_and, and_true, Nat.zero_le, ne_eq, qk_wi, ql_wi, qr_wi, qj_wi, qt_wi, qk_wj, ql_wj, qr_wj, qi_wj, qt_wj, qk_wr, ql_wr, qi_wr, qj_wr, qt_wr, qi_ws, qj_ws, qr_ws, Int.toNat_natCast, Int.toNat_zero, Int.reduceToNat, not_true_eq_false, not_false_eq_true, false_implies, implies_true, Option.some.injEq, reduceCtorEq, Sp0, true_or, or_true, or_self, wi_wi, wj_wj, hM.k]
            repeat' (first | (with_reducible refine And.intro ?_ ?_) | (with_reducible intro))
            all_goals (try (first | with_reducible assumption | omega | (unfold inI; omega) | (unfold inL; omega) | exact cz_in _ _))
            refine c8_isChosen hM hI hm ⟨fun q => absurd (chs_iff.mp q) z, fun _ => ?_⟩
            simp only [wpS, o_c, o_cl, o_il, o_ll, o_al, o_is, o_ls, o_as, o_inc, o_add, o_sub, o_mul, o_and, o_or, o_xor, o_shl, o_shr, o_div, o_neg, o_ladd, o_lsub, o_lmul, o_ldiv, o_lrem, o_lneg, o_lcmp, o_i2l, o_l2i, o_dup, o_dup2, o_pop, o_go, o_nn, o_sw, swc, o_iret, o_zret, o_lret, o_vret, o_ieq, o_eq0, o_ine, o_ne0, o_ilt, o_lt0, o_ige, o_ge0, o_igt, o_gt0, o_ile, o_le0, o_iald, o_zald, o_lald, o_aald, o_iast, o_zast, o_last, o_aast, o_alen, o_gi, o_gr, o_pi, o_pz, o_pr, o_new, o_newa, o_copy, o_oinit, o_call, o_callV, o_callVc, o_callI, popn, cnO, o_BAD, lgt, lst, isL, kil, st1, st2, entL, List.length_nil, List.length_cons, List.replicate, Nat.reduceAdd, Nat.reduceLeDiff, Nat.reduceSub, true_and, and_true, Nat.zero_le, ne_eq, qk_wi, ql_wi, qr_wi, qj_wi, qt_wi, qk_wj, ql_wj, qr_wj, qi_wj, qt_wj, qk_wr, ql_wr, qi_wr, qj_wr, qt_wr, qi_ws, qj_ws, qr_ws, Int.toNat_natCast, Int.toNat_zero, Int.reduceToNat, not_true_eq_false, not_false_eq_true, false_implies, implies_true, Option.some.injEq, reduceCtorEq, Sp0, true_or, or_true, or_self, wi_wi, wj_wj, hM.k]
            repeat' (first | (with_reducible refine And.intro ?_ ?_) | (with_reducible intro))
            all_goals (try (first | with_reducible assumption | omega | (unfold inI; omega) | (unfold inL; omega) | exact cz_in _ _))
            all_goals (try (exfalso; omega))
            refine s_X8_isGood_116' x ok _ _ _ _ ?_
            simp only [wpS, o_c, o_cl, o_il, o_ll, o_al, o_is, o_ls, o_as, o_inc, o_add, o_sub, o_mul, o_and, o_or, o_xor, o_shl, o_shr, o_div, o_neg, o_ladd, o_lsub, o_lmul, o_ldiv, o_lrem, o_lneg, o_lcmp, o_i2l, o_l2i, o_dup, o_dup2, o_pop, o_go, o_nn, o_sw, swc, o_iret, o_zret, o_lret, o_vret, o_ieq, o_eq0, o_ine, o_ne0, o_ilt, o_lt0, o_ige, o_ge0, o_igt, o_gt0, o_ile, o_le0, o_iald, o_zald, o_lald, o_aald, o_iast, o_zast, o_last, o_aast, o_alen, o_gi, o_gr, o_pi, o_pz, o_pr, o_new, o_newa, o_copy, o_oinit, o_call, o_callV, o_callVc, o_callI, popn, cnO, o_BAD, lgt, lst, isL, kil, st1, st2, entL, List.length_nil, List.length_cons, List.replicate, Nat.reduceAdd, Nat.reduceLeDiff, Nat.reduceSub, true_and, and_true, Nat.zero_le, ne_eq, qk_wi, ql_wi, qr_wi, qj_wi, qt_wi, qk_wj, ql_wj, qr_wj, qi_wj, qt_wj, qk_wr, ql_wr, qi_wr, qj_wr, qt_wr, qi_ws, qj_ws, qr_ws, Int.toNat_natCast, Int.toNat_zero, Int.reduceToNat, not_true_eq_false, not_false_eq_true, false_implies, implies_true, Option.some.injEq, reduceCtorEq, Sp0, true_or, or_true, or_self, wi_wi, wj_wj, hM.k]
            repeat' (first | (with_reducible refine And.intro ?_ ?_) | (with_reducible intro))
            all_goals (try (first | with_reducible assumption | omega | (unfold inI; omega) | (unfold inL; omega) | exact cz_in _ _))
            refine c8_highMiss hM hI hm ?_
            rw [e92]
            simp only [wpS, o_c, o_cl, o_il, o_ll, o_al, o_is, o_ls, o_as, o_inc, o_add, o_sub, o_mul, o_and, o_or, o_xor, o_shl, o_shr, o_div, o_neg, o_ladd, o_lsub, o_lmul, o_ldiv, o_lrem, o_lneg, o_lcmp, o_i2l, o_l2i, o_dup, o_dup2, o_pop, o_go, o_nn, o_sw, swc, o_iret, o_zret, o_lret, o_vret, o_ieq, o_eq0, o_ine, o_ne0, o_ilt, o_lt0, o_ige, o_ge0, o_igt, o_gt0, o_ile, o_le0, o_iald, o_zald, o_lald, o_aald, o_iast, o_zast, o_last, o_aast, o_alen, o_gi, o_gr, o_pi, o_pz, o_pr, o_new, o_newa, o_copy, o_oinit, o_call, o_callV, o_callVc, o_callI, popn, cnO, o_BAD, lgt, lst, isL, kil, st1, st2, entL, List.length_nil, List.length_cons, List.replicate, Nat.reduceAdd, Nat.reduceLeDiff, Nat.reduceSub, true_and, and_true, Nat.zero_le, ne_eq, qk_wi, ql_wi, qr_wi, qj_wi, qt_wi, qk_wj, ql_wj, qr_wj, qi_wj, qt_wj, qk_wr, ql_wr, qi_wr, qj_wr, qt_wr, qi_ws, qj_ws, qr_ws, Int.toNat_natCast, Int.toNat_zero, Int.reduceToNat, not_true_eq_false, not_false_eq_true, false_implies, implies_true, Option.some.injEq, reduceCtorEq, Sp0, true_or, or_true, or_self, wi_wi, wj_wj, hM.k]
            exact h122 _
      refine s_X8_isGood_2 x ok _ _ _ _ ?_
      simp only [wpS, o_c, o_cl, o_il, o_ll, o_al, o_is, o_ls, o_as, o_inc, o_add, o_sub, o_mul, o_and, o_or, o_xor, o_shl, o_shr, o_div, o_neg, o_ladd, o_lsub, o_lmul, o_ldiv, o_lrem, o_lneg, o_lcmp, o_i2l, o_l2i, o_dup, o_dup2, o_pop, o_go, o_nn, o_sw, swc, o_iret, o_zret, o_lret, o_vret, o_ieq, o_eq0, o_ine, o_ne0, o_ilt, o_lt0, o_ige, o_ge0, o_igt, o_gt0, o_ile, o_le0, o_iald, o_zald, o_lald, o_aald, o_iast, o_zast, o_last, o_aast, o_alen, o_gi, o_gr, o_pi, o_pz, o_pr, o_new, o_newa, o_copy, o_oinit, o_call, o_callV, o_callVc, o_callI, popn, cnO, o_BAD, lgt, lst, isL, kil, st1, st2, entL, List.length_nil, List.length_cons, List.replicate, Nat.reduceAdd, Nat.reduceLeDiff, Nat.reduceSub, true_and, and_true, Nat.zero_le, ne_eq, qk_wi, ql_wi, qr_wi, qj_wi, qt_wi, qk_wj, ql_wj, qr_wj, qi_wj, qt_wj, qk_wr, ql_wr, qi_wr, qj_wr, qt_wr, qi_ws, qj_ws, qr_ws, Int.toNat_natCast, Int.toNat_zero, Int.reduceToNat, not_true_eq_false, not_false_eq_true, false_implies, implies_true, Option.some.injEq, reduceCtorEq, Sp0, true_or, or_true, or_self, wi_wi, wj_wj, hM.k]
      repeat' (first | (with_reducible refine And.intro ?_ ?_) | (with_reducible intro))
      all_goals (try (first | with_reducible assumption | omega | (unfold inI; omega) | (unfold inL; omega) | exact cz_in _ _))
      all_goals (try (exfalso; omega))
      refine c8_isAsked hM hI hc ⟨fun q => ?_, fun q => ?_⟩
      · simp only [wpS, o_c, o_cl, o_il, o_ll, o_al, o_is, o_ls, o_as, o_inc, o_add, o_sub, o_mul, o_and, o_or, o_xor, o_shl, o_shr, o_div, o_neg, o_ladd, o_lsub, o_lmul, o_ldiv, o_lrem, o_lneg, o_lcmp, o_i2l, o_l2i, o_dup, o_dup2, o_pop, o_go, o_nn, o_sw, swc, o_iret, o_zret, o_lret, o_vret, o_ieq, o_eq0, o_ine, o_ne0, o_ilt, o_lt0, o_ige, o_ge0, o_igt, o_gt0, o_ile, o_le0, o_iald, o_zald, o_lald, o_aald, o_iast, o_zast, o_last, o_aast, o_alen, o_gi, o_gr, o_pi, o_pz, o_pr, o_new, o_newa, o_copy, o_oinit, o_call, o_callV, o_callVc, o_callI, popn, cnO, o_BAD, lgt, lst, isL, kil, st1, st2, entL, List.length_nil, List.length_cons, List.replicate, Nat.reduceAdd, Nat.reduceLeDiff, Nat.reduceSub, true_and, and_true, Nat.zero_le, ne_eq, qk_wi, ql_wi, qr_wi, qj_wi, qt_wi, qk_wj, ql_wj, qr_wj, qi_wj, qt_wj, qk_wr, ql_wr, qi_wr, qj_wr, qt_wr, qi_ws, qj_ws, qr_ws, Int.toNat_natCast, Int.toNat_zero, Int.reduceToNat, not_true_eq_false, not_false_eq_true, false_implies, implies_true, Option.some.injEq, reduceCtorEq, Sp0, true_or, or_true, or_self, wi_wi, wj_wj, hM.k]
        repeat' (first | (with_reducible refine And.intro ?_ ?_) | (with_reducible intro))
        all_goals (try (first | with_reducible assumption | omega | (unfold inI; omega) | (unfold inL; omega) | exact cz_in _ _))
        all_goals (try (exfalso; omega))
        refine s_X8_isGood_19 x ok _ _ _ _ ?_
        simp only [wpS, o_c, o_cl, o_il, o_ll, o_al, o_is, o_ls, o_as, o_inc, o_add, o_sub, o_mul, o_and, o_or, o_xor, o_shl, o_shr, o_div, o_neg, o_ladd, o_lsub, o_lmul, o_ldiv, o_lrem, o_lneg, o_lcmp, o_i2l, o_l2i, o_dup, o_dup2, o_pop, o_go, o_nn, o_sw, swc, o_iret, o_zret, o_lret, o_vret, o_ieq, o_eq0, o_ine, o_ne0, o_ilt, o_lt0, o_ige, o_ge0, o_igt, o_gt0, o_ile, o_le0, o_iald, o_zald, o_lald, o_aald, o_iast, o_zast, o_last, o_aast, o_alen, o_gi, o_gr, o_pi, o_pz, o_pr, o_new, o_newa, o_copy, o_oinit, o_call, o_callV, o_callVc, o_callI, popn, cnO, o_BAD, lgt, lst, isL, kil, st1, st2, entL, List.length_nil, List.length_cons, List.replicate, Nat.reduceAdd, Nat.reduceLeDiff, Nat.reduceSub, true_and, and_true, Nat.zero_le, ne_eq, qk_wi, ql_wi, qr_wi, qj_wi, qt_wi, qk_wj, ql_wj, qr_wj, qi_wj, qt_wj, qk_wr, ql_wr, qi_wr, qj_wr, qt_wr, qi_ws, qj_ws, qr_ws, Int.toNat_natCast, Int.toNat_zero, Int.reduceToNat, not_true_eq_false, not_false_eq_true, false_implies, implies_true, Option.some.injEq, reduceCtorEq, Sp0, true_or, or_true, or_self, wi_wi, wj_wj, hM.k]
        exact in1 q 0 (by omega) _ _ _
      · simp only [wpS, o_c, o_cl, o_il, o_ll, o_al, o_is, o_ls, o_as, o_inc, o_add, o_sub, o_mul, o_and, o_or, o_xor, o_shl, o_shr, o_div, o_neg, o_ladd, o_lsub, o_lmul, o_ldiv, o_lrem, o_lneg, o_lcmp, o_i2l, o_l2i, o_dup, o_dup2, o_pop, o_go, o_nn, o_sw, swc, o_iret, o_zret, o_lret, o_vret, o_ieq, o_eq0, o_ine, o_ne0, o_ilt, o_lt0, o_ige, o_ge0, o_igt, o_gt0, o_ile, o_le0, o_iald, o_zald, o_lald, o_aald, o_iast, o_zast, o_last, o_aast, o_alen, o_gi, o_gr, o_pi, o_pz, o_pr, o_new, o_newa, o_copy, o_oinit, o_call, o_callV, o_callVc, o_callI, popn, cnO, o_BAD, lgt, lst, isL, kil, st1, st2, entL, List.length_nil, List.length_cons, List.replicate, Nat.reduceAdd, Nat.reduceLeDiff, Nat.reduceSub, true_and, and_true, Nat.zero_le, ne_eq, qk_wi, ql_wi, qr_wi, qj_wi, qt_wi, qk_wj, ql_wj, qr_wj, qi_wj, qt_wj, qk_wr, ql_wr, qi_wr, qj_wr, qt_wr, qi_ws, qj_ws, qr_ws, Int.toNat_natCast, Int.toNat_zero, Int.reduceToNat, not_true_eq_false, not_false_eq_true, false_implies, implies_true, Option.some.injEq, reduceCtorEq, Sp0, true_or, or_true, or_self, wi_wi, wj_wj, hM.k]
        repeat' (first | (with_reducible refine And.intro ?_ ?_) | (with_reducible intro))
        all_goals (try (first | with_reducible assumption | omega | (unfold inI; omega) | (unfold inL; omega) | exact cz_in _ _))
        all_goals (try (exfalso; omega))
        exact next (fun w => absurd w q) _ _ _ _ _ _
  all_goals (try ((first | (refine s_X8_isGood_0 x ok _ _ _ _ ?_) | (refine s_X8_isGood_19 x ok _ _ _ _ ?_) | (refine s_X8_isGood_75 x ok _ _ _ _ ?_) | (refine s_X8_isGood_81 x ok _ _ _ _ ?_) | (refine s_X8_isGood_116 x ok _ _ _ _ ?_) | (refine s_X8_isGood_122 x ok _ _ _ _ ?_) | (refine s_X8_isGood_147 x ok _ _ _ _ ?_) | (refine s_X8_isGood_149 x ok _ _ _ _ ?_) | (refine s_X8_isGood_176 x ok _ _ _ _ ?_) | (refine s_X8_isGood_178 x ok _ _ _ _ ?_) | (refine s_X8_isGood_188 x ok _ _ _ _ ?_) | (refine s_X8_isGood_216 x ok _ _ _ _ ?_) | (refine s_X8_isGood_218 x ok _ _ _ _ ?_) | (refine s_X8_isGood_224 x ok _ _ _ _ ?_)); (try simp only [wpS, o_c, o_cl, o_il, o_ll, o_al, o_is, o_ls, o_as, o_inc, o_add, o_sub, o_mul, o_and, o_or, o_xor, o_shl, o_shr, o_div, o_neg, o_ladd, o_lsub, o_lmul, o_ldiv, o_lrem, o_lneg, o_lcmp, o_i2l, o_l2i, o_dup, o_dup2, o_pop, o_go, o_nn, o_sw, swc, o_iret, o_zret, o_lret, o_vret, o_ieq, o_eq0, o_ine, o_ne0, o_ilt, o_lt0, o_ige, o_ge0, o_igt, o_gt0, o_ile, o_le0, o_iald, o_zald, o_lald, o_aald, o_iast, o_zast, o_last, o_aast, o_alen, o_gi, o_gr, o_pi, o_pz, o_pr, o_new, o_newa, o_copy, o_oinit, o_call, o_callV, o_callVc, o_callI, popn, cnO, o_BAD, lgt, lst, isL, kil, st1, st2, entL, List.length_nil, List.length_cons, List.replicate, Nat.reduceAdd, Nat.reduceLeDiff, Nat.reduceSub, true_and, and_true, Nat.zero_le, ne_eq, qk_wi, ql_wi, qr_wi, qj_wi, qt_wi, qk_wj, ql_wj, qr_wj, qi_wj, qt_wj, qk_wr, ql_wr, qi_wr, qj_wr, qt_wr, qi_ws, qj_ws, qr_ws, Int.toNat_natCast, Int.toNat_zero, Int.reduceToNat, not_true_eq_false, not_false_eq_true, false_implies, implies_true, Option.some.injEq, reduceCtorEq, Sp0, true_or, or_true, or_self, wi_wi, wj_wj]); (repeat' (first | (with_reducible refine And.intro ?_ ?_) | (with_reducible intro))); (all_goals (try (first | with_reducible assumption | omega | (unfold inI; omega) | (unfold inL; omega) | exact cz_in _ _)))))
  exact loop 0 (by omega) (fun e he => by omega) _ _ _ _ _ _
/-- the next choice of levels; false: none was left -/
def goN (d : Dd) : Nat → (Nat → Int) → (Nat → Int) × Bool
  | 0, a => (a, false)
  | m + 1, a => if gdB d m = true then (if a m + 1 < dv d m then (fu a m (a m + 1), true) else goN d m (fu a m 0)) else goN d m a
def T_X8_goesOn : TT := fun as h K => ∃ y : Nat, as = [vr (some y)] ∧ Mo h y ∧ Inv (qi h (y + 1)) ∧ dgOk (qi h (y + 1)) (qi h (y + 9)) ∧ K (some (vi (if (goN (qi h (y + 1)) 12 (qi h (y + 9))).2 = true then 1 else 0))) (wi h (y + 9) (goN (qi h (y + 1)) 12 (qi h (y + 9))).1)
theorem c8_goesOn {h : Hp} {y : Nat} {K : RT} (h1 : Mo h y) (h2 : Inv (qi h (y + 1))) (h3 : dgOk (qi h (y + 1)) (qi h (y + 9))) (h4 : K (some (vi (if (goN (qi h (y + 1)) 12 (qi h (y + 9))).2 = true then 1 else 0))) (wi h (y + 9) (goN (qi h (y + 1)) 12 (qi h (y + 9))).1)) : T_X8_goesOn [vr (some y)] h K := ⟨y, rfl, h1, h2, h3, h4⟩
abbrev i_X8_goesOn : MI := (cX8_goesOn, 2, RX8, (some .boolean), "goesOn", 3)
theorem k_X8_goesOn_0 : Okop i_X8_goesOn 0 (o_c 11) 2 := k_bipush (by decide +kernel) rfl
theorem k_X8_goesOn_2 : Okop i_X8_goesOn 2 (o_is 1) 3 := k_isn (j := 1) (by decide +kernel) (by decide)
theorem k_X8_goesOn_3 : Okop i_X8_goesOn 3 (o_il 1) 4 := k_iln (j := 1) (by decide +kernel)
theorem k_X8_goesOn_4 : Okop i_X8_goesOn 4 (o_lt0 62) 7 := k_lt0 (off := 58) (by decide +kernel) (by decide)
theorem k_X8_goesOn_7 : Okop i_X8_goesOn 7 (o_al 0) 8 := k_aln (j := 0) (by decide +kernel)
theorem k_X8_goesOn_8 : Okop i_X8_goesOn 8 (o_il 1) 9 := k_iln (j := 1) (by decide +kernel)
theorem k_X8_goesOn_9 : Okop i_X8_goesOn 9 (o_callV 8 1 T_X8_isChosen) 12 := k_callV (idx := 131) (r0 := (RX8, TX8, 14)) m_X8_isChosen ⟨gw_867, gw_10, ⟨by decide, by decide, by decide +kernel⟩, by decide, by decide⟩ rfl gw_864 gw_866 gs_22 (by decide +kernel)
theorem k_X8_goesOn_12 : Okop i_X8_goesOn 12 (o_ne0 18) 15 := k_ne0 (off := 6) (by decide +kernel) (by decide)
theorem k_X8_goesOn_15 : Okop i_X8_goesOn 15 (o_go 56) 18 := k_go (off := 41) (by decide +kernel) (by decide)
theorem k_X8_goesOn_18 : Okop i_X8_goesOn 18 (o_al 0) 19 := k_aln (j := 0) (by decide +kernel)
theorem k_X8_goesOn_19 : Okop i_X8_goesOn 19 (o_gr 8 8) 22 := k_gr (idx := 37) fo_8 (by decide) (by decide) gw_668 (by decide +kernel)
theorem k_X8_goesOn_22 : Okop i_X8_goesOn 22 (o_il 1) 23 := k_iln (j := 1) (by decide +kernel)
theorem k_X8_goesOn_23 : Okop i_X8_goesOn 23 (o_dup2) 24 := k_dup2 (by decide +kernel)
theorem k_X8_goesOn_24 : Okop i_X8_goesOn 24 (o_iald) 25 := k_iald (by decide +kernel)
theorem k_X8_goesOn_25 : Okop i_X8_goesOn 25 (o_c 1) 26 := k_iconst (by decide +kernel)
theorem k_X8_goesOn_26 : Okop i_X8_goesOn 26 (o_add) 27 := k_add (by decide +kernel)
theorem k_X8_goesOn_27 : Okop i_X8_goesOn 27 (o_iast) 28 := k_iast (by decide +kernel)
theorem k_X8_goesOn_28 : Okop i_X8_goesOn 28 (o_al 0) 29 := k_aln (j := 0) (by decide +kernel)
theorem k_X8_goesOn_29 : Okop i_X8_goesOn 29 (o_gr 8 8) 32 := k_gr (idx := 37) fo_8 (by decide) (by decide) gw_668 (by decide +kernel)
theorem k_X8_goesOn_32 : Okop i_X8_goesOn 32 (o_il 1) 33 := k_iln (j := 1) (by decide +kernel)
theorem k_X8_goesOn_33 : Okop i_X8_goesOn 33 (o_iald) 34 := k_iald (by decide +kernel)
theorem k_X8_goesOn_34 : Okop i_X8_goesOn 34 (o_al 0) 35 := k_aln (j := 0) (by decide +kernel)
theorem k_X8_goesOn_35 : Okop i_X8_goesOn 35 (o_gr 8 0) 38 := k_gr (idx := 7) fo_8 (by decide) (by decide) gw_660 (by decide +kernel)
theorem k_X8_goesOn_38 : Okop i_X8_goesOn 38 (o_c 1032) 41 := k_sipush (by decide +kernel) rfl
theorem k_X8_goesOn_41 : Okop i_X8_goesOn 41 (o_il 1) 42 := k_iln (j := 1) (by decide +kernel)
theorem k_X8_goesOn_42 : Okop i_X8_goesOn 42 (o_add) 43 := k_add (by decide +kernel)
theorem k_X8_goesOn_43 : Okop i_X8_goesOn 43 (o_iald) 44 := k_iald (by decide +kernel)
theorem k_X8_goesOn_44 : Okop i_X8_goesOn 44 (o_ige 49) 47 := k_ige (off := 5) (by decide +kernel) (by decide)
theorem k_X8_goesOn_47 : Okop i_X8_goesOn 47 (o_c 1) 48 := k_iconst (by decide +kernel)
theorem k_X8_goesOn_48 : Okop i_X8_goesOn 48 (o_zret) 49 := k_zret (by decide +kernel) rfl
theorem k_X8_goesOn_49 : Okop i_X8_goesOn 49 (o_al 0) 50 := k_aln (j := 0) (by decide +kernel)
theorem k_X8_goesOn_50 : Okop i_X8_goesOn 50 (o_gr 8 8) 53 := k_gr (idx := 37) fo_8 (by decide) (by decide) gw_668 (by decide +kernel)
theorem k_X8_goesOn_53 : Okop i_X8_goesOn 53 (o_il 1) 54 := k_iln (j := 1) (by decide +kernel)
theorem k_X8_goesOn_54 : Okop i_X8_goesOn 54 (o_c 0) 55 := k_iconst (by decide +kernel)
theorem k_X8_goesOn_55 : Okop i_X8_goesOn 55 (o_iast) 56 := k_iast (by decide +kernel)
theorem k_X8_goesOn_56 : Okop i_X8_goesOn 56 (o_inc 1 (-1)) 59 := k_inc (by decide +kernel) (by decide)
theorem k_X8_goesOn_59 : Okop i_X8_goesOn 59 (o_go 3) 62 := k_go (off := -56) (by decide +kernel) (by decide)
theorem k_X8_goesOn_62 : Okop i_X8_goesOn 62 (o_c 0) 63 := k_iconst (by decide +kernel)
theorem k_X8_goesOn_63 : Okop i_X8_goesOn 63 (o_zret) 64 := k_zret (by decide +kernel) rfl
theorem s_X8_goesOn_0 : Seg i_X8_goesOn 0 [o_c 11, o_is 1] 3 := Seg.cons k_X8_goesOn_0 (Seg.cons k_X8_goesOn_2 (Seg.nil))
theorem s_X8_goesOn_3 : Seg i_X8_goesOn 3 [o_il 1, o_lt0 62, o_al 0, o_il 1, o_callV 8 1 T_X8_isChosen, o_ne0 18, o_go 56] 18 := Seg.cons k_X8_goesOn_3 (Seg.cons k_X8_goesOn_4 (Seg.cons k_X8_goesOn_7 (Seg.cons k_X8_goesOn_8 (Seg.cons k_X8_goesOn_9 (Seg.cons k_X8_goesOn_12 (Seg.cons k_X8_goesOn_15 (Seg.nil)))))))
theorem s_X8_goesOn_18 : Seg i_X8_goesOn 18 [o_al 0, o_gr 8 8, o_il 1, o_dup2, o_iald, o_c 1, o_add, o_iast, o_al 0, o_gr 8 8, o_il 1, o_iald, o_al 0, o_gr 8 0, o_c 1032, o_il 1, o_add, o_iald, o_ige 49, o_c 1, o_zret] 49 := Seg.cons k_X8_goesOn_18 (Seg.cons k_X8_goesOn_19 (Seg.cons k_X8_goesOn_22 (Seg.cons k_X8_goesOn_23 (Seg.cons k_X8_goesOn_24 (Seg.cons k_X8_goesOn_25 (Seg.cons k_X8_goesOn_26 (Seg.cons k_X8_goesOn_27 (Seg.cons k_X8_goesOn_28 (Seg.cons k_X8_goesOn_29 (Seg.cons k_X8_goesOn_32 (Seg.cons k_X8_goesOn_33 (Seg.cons k_X8_goesOn_34 (Seg.cons k_X8_goesOn_35 (Seg.cons k_X8_goesOn_38 (Seg.cons k_X8_goesOn_41 (Seg.cons k_X8_goesOn_42 (Seg.cons k_X8_goesOn_43 (Seg.cons k_X8_goesOn_44 (Seg.cons k_X8_goesOn_47 (Seg.cons k_X8_goesOn_48 (Seg.nil)))))))))))))))))))))
theorem s_X8_goesOn_49 : Seg i_X8_goesOn 49 [o_al 0, o_gr 8 8, o_il 1, o_c 0, o_iast, o_inc 1 (-1), o_go 3] 62 := Seg.cons k_X8_goesOn_49 (Seg.cons k_X8_goesOn_50 (Seg.cons k_X8_goesOn_53 (Seg.cons k_X8_goesOn_54 (Seg.cons k_X8_goesOn_55 (Seg.cons k_X8_goesOn_56 (Seg.cons k_X8_goesOn_59 (Seg.nil)))))))
theorem s_X8_goesOn_56 : Seg i_X8_goesOn 56 [o_inc 1 (-1), o_go 3] 62 := Seg.cons k_X8_goesOn_56 (Seg.cons k_X8_goesOn_59 (Seg.nil))
theorem s_X8_goesOn_62 : Seg i_X8_goesOn 62 [o_c 0, o_zret] 64 := Seg.cons k_X8_goesOn_62 (Seg.cons k_X8_goesOn_63 (Seg.nil))

theorem m_X8_goesOn : Mth yX8_goesOn cX8_goesOn 2 (some .boolean) 3 (Sp0 T_X8_goesOn) := by
  refine Mth.of (by decide) ?_
  rintro x as h ok ⟨y, rfl, hM, hI, hdg, hK⟩
  refine ⟨Nat.le_of_ble_eq_true rfl, ?_⟩
  have n1 : y + 1 ≠ y + 9 := by omega
  have loop : ∀ n, n ≤ 12 → ∀ a : Nat → Int, dgOk (qi h (y + 1)) a → xR x (some (vi (if (goN (qi h (y + 1)) n a).2 = true then 1 else 0))) (wi h (y + 9) (goN (qi h (y + 1)) n a).1) → V i_X8_goesOn x 3 [some (vr (some y)), some (vi ((n : Int) - 1))] [] (wi h (y + 9) a) (0, 0) := by
    intro n
    induction n with
    | zero =>
      intro _ a ha hk
      refine s_X8_goesOn_3 x ok _ _ _ _ ?_
      simp only [wpS, o_c, o_cl, o_il, o_ll, o_al, o_is, o_ls, o_as, o_inc, o_add, o_sub, o_mul, o_and, o_or, o_xor, o_shl, o_shr, o_div, o_neg, o_ladd, o_lsub, o_lmul, o_ldiv, o_lrem, o_lneg, o_lcmp, o_i2l, o_l2i, o_dup, o_dup2, o_pop, o_go, o_nn, o_sw, swc, o_iret, o_zret, o_lret, o_vret, o_ieq, o_eq0, o_ine, o_ne0, o_ilt, o_lt0, o_ige, o_ge0, o_igt, o_gt0, o_ile, o_le0, o_iald, o_zald, o_lald, o_aald, o_iast, o_zast, o_last, o_aast, o_alen, o_gi, o_gr, o_pi, o_pz, o_pr, o_new, o_newa, o_copy, o_oinit, o_call, o_callV, o_callVc, o_callI, popn, cnO, o_BAD, lgt, lst, isL, kil, st1, st2, entL, List.length_nil, List.length_cons, List.replicate, Nat.reduceAdd, Nat.reduceLeDiff, Nat.reduceSub, true_and, and_true, Nat.zero_le, ne_eq, qk_wi, ql_wi, qr_wi, qj_wi, qt_wi, qk_wj, ql_wj, qr_wj, qi_wj, qt_wj, qk_wr, ql_wr, qi_wr, qj_wr, qt_wr, qi_ws, qj_ws, qr_ws, Int.toNat_natCast, Int.toNat_zero, Int.reduceToNat, not_true_eq_false, not_false_eq_true, false_implies, implies_true, Option.some.injEq, reduceCtorEq, Sp0, true_or, or_true, or_self, wi_wi, wj_wj, hM.k]
      repeat' (first | (with_reducible refine And.intro ?_ ?_) | (with_reducible intro))
      all_goals (try (first | with_reducible assumption | omega | (unfold inI; omega) | (unfold inL; omega) | exact cz_in _ _))
      all_goals (try (exfalso; omega))
      refine s_X8_goesOn_62 x ok _ _ _ _ ?_
      simp only [wpS, o_c, o_cl, o_il, o_ll, o_al, o_is, o_ls, o_as, o_inc, o_add, o_sub, o_mul, o_and, o_or, o_xor, o_shl, o_shr, o_div, o_neg, o_ladd, o_lsub, o_lmul, o_ldiv, o_lrem, o_lneg, o_lcmp, o_i2l, o_l2i, o_dup, o_dup2, o_pop, o_go, o_nn, o_sw, swc, o_iret, o_zret, o_lret, o_vret, o_ieq, o_eq0, o_ine, o_ne0, o_ilt, o_lt0, o_ige, o_ge0, o_igt, o_gt0, o_ile, o_le0, o_iald, o_zald, o_lald, o_aald, o_iast, o_zast, o_last, o_aast, o_alen, o_gi, o_gr, o_pi, o_pz, o_pr, o_new, o_newa, o_copy, o_oinit, o_call, o_callV, o_callVc, o_callI, popn, cnO, o_BAD, lgt, lst, isL, kil, st1, st2, entL, List.length_nil, List.length_cons, List.replicate, Nat.reduceAdd, Nat.reduceLeDiff, Nat.reduceSub, true_and, and_true, Nat.zero_le, ne_eq, qk_wi, ql_wi, qr_wi, qj_wi, qt_wi, qk_wj, ql_wj, qr_wj, qi_wj, qt_wj, qk_wr, ql_wr, qi_wr, qj_wr, qt_wr, qi_ws, qj_ws, qr_ws, Int.toNat_natCast, Int.toNat_zero, Int.reduceToNat, not_true_eq_false, not_false_eq_true, false_implies, implies_true, Option.some.injEq, reduceCtorEq, Sp0, true_or, or_true, or_self, wi_wi, wj_wj, hM.k]
      repeat' (first | (with_reducible refine And.intro ?_ ?_) | (with_reducible intro))
      all_goals (try (first | with_reducible assumption | omega | (unfold inI; omega) | (unfold inL; omega) | exact cz_in _ _))
      exact hk
    | succ n ih =>
      intro hn a ha hk
      have en : (((n + 1 : Nat) : Int) - 1) = (n : Int) := by omega
      rw [en]
      have hv := (hI.1 n (by omega)).v
      have e32 : qi h (y + 1) (1032 + n) = dv (qi h (y + 1)) n := rfl
      have hqd : qi (wi h (y + 9) a) (y + 1) = qi h (y + 1) := by rw [qi_wn n1]
      have hqd2 : ∀ b, qi (wi h (y + 9) b) (y + 1) = qi h (y + 1) := fun b => by rw [qi_wn n1]
      have hMa : Mo (wi h (y + 9) a) y := hM
      refine s_X8_goesOn_3 x ok _ _ _ _ ?_
      simp only [wpS, o_c, o_cl, o_il, o_ll, o_al, o_is, o_ls, o_as, o_inc, o_add, o_sub, o_mul, o_and, o_or, o_xor, o_shl, o_shr, o_div, o_neg, o_ladd, o_lsub, o_lmul, o_ldiv, o_lrem, o_lneg, o_lcmp, o_i2l, o_l2i, o_dup, o_dup2, o_pop, o_go, o_nn, o_sw, swc, o_iret, o_zret, o_lret, o_vret, o_ieq, o_eq0, o_ine, o_ne0, o_ilt, o_lt0, o_ige, o_ge0, o_igt, o_gt0, o_ile, o_le0, o_iald, o_zald, o_lald, o_aald, o_iast, o_zast, o_last, o_aast, o_alen, o_gi, o_gr, o_pi, o_pz, o_pr, o_new, o_newa, o_copy, o_oinit, o_call, o_callV, o_callVc, o_callI, popn, cnO, o_BAD, lgt, lst, isL, kil, st1, st2, entL, List.length_nil, List.length_cons, List.replicate, Nat.reduceAdd, Nat.reduceLeDiff, Nat.reduceSub, true_and, and_true, Nat.zero_le, ne_eq, qk_wi, ql_wi, qr_wi, qj_wi, qt_wi, qk_wj, ql_wj, qr_wj, qi_wj, qt_wj, qk_wr, ql_wr, qi_wr, qj_wr, qt_wr, qi_ws, qj_ws, qr_ws, Int.toNat_natCast, Int.toNat_zero, Int.reduceToNat, not_true_eq_false, not_false_eq_true, false_implies, implies_true, Option.some.injEq, reduceCtorEq, Sp0, true_or, or_true, or_self, wi_wi, wj_wj, hM.k]
      repeat' (first | (with_reducible refine And.intro ?_ ?_) | (with_reducible intro))
      all_goals (try (first | with_reducible assumption | omega | (unfold inI; omega) | (unfold inL; omega) | exact cz_in _ _))
      all_goals (try (exfalso; omega))
      refine c8_isChosen hMa (by rw [hqd]; exact hI) (by omega) ⟨fun q => ?_, fun q => ?_⟩
      · rw [hqd] at q
        have z := chs_iff.mp q
        have haz := ha n (by omega) z
        simp only [wpS, o_c, o_cl, o_il, o_ll, o_al, o_is, o_ls, o_as, o_inc, o_add, o_sub, o_mul, o_and, o_or, o_xor, o_shl, o_shr, o_div, o_neg, o_ladd, o_lsub, o_lmul, o_ldiv, o_lrem, o_lneg, o_lcmp, o_i2l, o_l2i, o_dup, o_dup2, o_pop, o_go, o_nn, o_sw, swc, o_iret, o_zret, o_lret, o_vret, o_ieq, o_eq0, o_ine, o_ne0, o_ilt, o_lt0, o_ige, o_ge0, o_igt, o_gt0, o_ile, o_le0, o_iald, o_zald, o_lald, o_aald, o_iast, o_zast, o_last, o_aast, o_alen, o_gi, o_gr, o_pi, o_pz, o_pr, o_new, o_newa, o_copy, o_oinit, o_call, o_callV, o_callVc, o_callI, popn, cnO, o_BAD, lgt, lst, isL, kil, st1, st2, entL, List.length_nil, List.length_cons, List.replicate, Nat.reduceAdd, Nat.reduceLeDiff, Nat.reduceSub, true_and, and_true, Nat.zero_le, ne_eq, qk_wi, ql_wi, qr_wi, qj_wi, qt_wi, qk_wj, ql_wj, qr_wj, qi_wj, qt_wj, qk_wr, ql_wr, qi_wr, qj_wr, qt_wr, qi_ws, qj_ws, qr_ws, Int.toNat_natCast, Int.toNat_zero, Int.reduceToNat, not_true_eq_false, not_false_eq_true, false_implies, implies_true, Option.some.injEq, reduceCtorEq, Sp0, true_or, or_true, or_self, wi_wi, wj_wj, hM.k]
        repeat' (first | (with_reducible refine And.intro ?_ ?_) | (with_reducible intro))
        all_goals (try (first | with_reducible assumption | omega | (unfold inI; omega) | (unfold inL; omega) | exact cz_in _ _))
        all_goals (try (exfalso; omega))
        by_cases z2 : a n + 1 < dv (qi h (y + 1)) n
        · have e : goN (qi h (y + 1)) (n + 1) a = (fu a n (a n + 1), true) := by
            conv => lhs; unfold goN
            rw [if_pos z, if_pos z2]
          rw [e] at hk
          refine s_X8_goesOn_18 x ok _ _ _ _ ?_
          simp only [wpS, o_c, o_cl, o_il, o_ll, o_al, o_is, o_ls, o_as, o_inc, o_add, o_sub, o_mul, o_and, o_or, o_xor, o_shl, o_shr, o_div, o_neg, o_ladd, o_lsub, o_lmul, o_ldiv, o_lrem, o_lneg, o_lcmp, o_i2l, o_l2i, o_dup, o_dup2, o_pop, o_go, o_nn, o_sw, swc, o_iret, o_zret, o_lret, o_vret, o_ieq, o_eq0, o_ine, o_ne0, o_ilt, o_lt0, o_ige, o_ge0, o_igt, o_gt0, o_ile, o_le0, o_iald, o_zald, o_lald, o_aald, o_iast, o_zast, o_last, o_aast, o_alen, o_gi, o_gr, o_pi, o_pz, o_pr, o_new, o_newa, o_copy, o_oinit, o_call, o_callV, o_callVc, o_callI, popn, cnO, o_BAD, lgt, lst, isL, kil, st1, st2, entL, List.length_nil, List.length_cons, List.replicate, Nat.reduceAdd, Nat.reduceLeDiff, Nat.reduceSub, true_and, and_true, Nat.zero_le, ne_eq, qk_wi, ql_wi, qr_wi, qj_wi, qt_wi, qk_wj, ql_wj, qr_wj, qi_wj, qt_wj, qk_wr, ql_wr, qi_wr, qj_wr, qt_wr, qi_ws, qj_ws, qr_ws, Int.toNat_natCast, Int.toNat_zero, Int.reduceToNat, not_true_eq_false, not_false_eq_true, false_implies, implies_true, Option.some.injEq, reduceCtorEq, Sp0, true_or, or_true, or_self, wi_wi, wj_wj, hM.k, hM.r0, hM.k1, hM.l1, ix0, ix12, ix24, ix36, ix48, ix60, ix1032, ix1044, ix1092, ix1140, ix1188, ix1200, ix1212, ix1284, ix1290, ix1296, ix1298, ix1322, ix1346, ix1358, ixm4, ixm12, ixm24, ixm81, ixm1382, ixadd, Nat.zero_add, hM.r8, hM.k9, hM.l9, hqd, hqd2, fu_s, e32]
          repeat' (first | (with_reducible refine And.intro ?_ ?_) | (with_reducible intro))
          all_goals (try (first | with_reducible assumption | omega | (unfold inI; omega) | (unfold inL; omega) | exact cz_in _ _))
          all_goals (first | exact hk | (exfalso; omega) | skip)
        · have e : goN (qi h (y + 1)) (n + 1) a = goN (qi h (y + 1)) n (fu a n 0) := by
            conv => lhs; unfold goN
            rw [if_pos z, if_neg z2]
          rw [e] at hk
          have := ih (by omega) (fu a n 0) (fun m hm hg => by
            unfold fu
            by_cases u : m = n
            · rw [if_pos u, u]; omega
            · rw [if_neg u]; exact ha m hm hg) hk
          refine s_X8_goesOn_18 x ok _ _ _ _ ?_
          simp only [wpS, o_c, o_cl, o_il, o_ll, o_al, o_is, o_ls, o_as, o_inc, o_add, o_sub, o_mul, o_and, o_or, o_xor, o_shl, o_shr, o_div, o_neg, o_ladd, o_lsub, o_lmul, o_ldiv, o_lrem, o_lneg, o_lcmp, o_i2l, o_l2i, o_dup, o_dup2, o_pop, o_go, o_nn, o_sw, swc, o_iret, o_zret, o_lret, o_vret, o_ieq, o_eq0, o_ine, o_ne0, o_ilt, o_lt0, o_ige, o_ge0, o_igt, o_gt0, o_ile, o_le0, o_iald, o_zald, o_lald, o_aald, o_iast, o_zast, o_last, o_aast, o_alen, o_gi, o_gr, o_pi, o_pz, o_pr, o_new, o_newa, o_copy, o_oinit, o_call, o_callV, o_callVc, o_callI, popn, cnO, o_BAD, lgt, lst, isL, kil, st1, st2, entL, List.length_nil, List.length_cons, List.replicate, Nat.reduceAdd, Nat.reduceLeDiff, Nat.reduceSub, true_and, and_true, Nat.zero_le, ne_eq, qk_wi, ql_wi, qr_wi, qj_wi, qt_wi, qk_wj, ql_wj, qr_wj, qi_wj, qt_wj, qk_wr, ql_wr, qi_wr, qj_wr, qt_wr, qi_ws, qj_ws, qr_ws, Int.toNat_natCast, Int.toNat_zero, Int.reduceToNat, not_true_eq_false, not_false_eq_true, false_implies, implies_true, Option.some.injEq, reduceCtorEq, Sp0, true_or, or_true, or_self, wi_wi, wj_wj, hM.k, hM.r0, hM.k1, hM.l1, ix0, ix12, ix24, ix36, ix48, ix60, ix1032, ix1044, ix1092, ix1140, ix1188, ix1200, ix1212, ix1284, ix1290, ix1296, ix1298, ix1322, ix1346, ix1358, ixm4, ixm12, ixm24, ixm81, ixm1382, ixadd, Nat.zero_add, hM.r8, hM.k9, hM.l9, hqd, hqd2, fu_s, e32]
          repeat' (first | (with_reducible refine And.intro ?_ ?_) | (with_reducible intro))
          all_goals (try (first | with_reducible assumption | omega | (unfold inI; omega) | (unfold inL; omega) | exact cz_in _ _))
          all_goals (try (exfalso; omega))
          refine s_X8_goesOn_49 x ok _ _ _ _ ?_
          simp only [wpS, o_c, o_cl, o_il, o_ll, o_al, o_is, o_ls, o_as, o_inc, o_add, o_sub, o_mul, o_and, o_or, o_xor, o_shl, o_shr, o_div, o_neg, o_ladd, o_lsub, o_lmul, o_ldiv, o_lrem, o_lneg, o_lcmp, o_i2l, o_l2i, o_dup, o_dup2, o_pop, o_go, o_nn, o_sw, swc, o_iret, o_zret, o_lret, o_vret, o_ieq, o_eq0, o_ine, o_ne0, o_ilt, o_lt0, o_ige, o_ge0, o_igt, o_gt0, o_ile, o_le0, o_iald, o_zald, o_lald, o_aald, o_iast, o_zast, o_last, o_aast, o_alen, o_gi, o_gr, o_pi, o_pz, o_pr, o_new, o_newa, o_copy, o_oinit, o_call, o_callV, o_callVc, o_callI, popn, cnO, o_BAD, lgt, lst, isL, kil, st1, st2, entL, List.length_nil, List.length_cons, List.replicate, Nat.reduceAdd, Nat.reduceLeDiff, Nat.reduceSub, true_and, and_true, Nat.zero_le, ne_eq, qk_wi, ql_wi, qr_wi, qj_wi, qt_wi, qk_wj, ql_wj, qr_wj, qi_wj, qt_wj, qk_wr, ql_wr, qi_wr, qj_wr, qt_wr, qi_ws, qj_ws, qr_ws, Int.toNat_natCast, Int.toNat_zero, Int.reduceToNat, not_true_eq_false, not_false_eq_true, false_implies, implies_true, Option.some.injEq, reduceCtorEq, Sp0, true_or, or_true, or_self, wi_wi, wj_wj, hM.k, hM.r0, hM.k1, hM.l1, ix0, ix12, ix24, ix36, ix48, ix60, ix1032, ix1044, ix1092, ix1140, ix1188, ix1200, ix1212, ix1284, ix1290, ix1296, ix1298, ix1322, ix1346, ix1358, ixm4, ixm12, ixm24, ixm81, ixm1382, ixadd, Nat.zero_add, hM.r8, hM.k9, hM.l9, hqd, fu_s, fu_uu]
          repeat' (first | (with_reducible refine And.intro ?_ ?_) | (with_reducible intro))
          all_goals (try (first | with_reducible assumption | omega | (unfold inI; omega) | (unfold inL; omega) | exact cz_in _ _))
          exact this
      · rw [hqd] at q
        have z : ¬ gdB (qi h (y + 1)) n = true := fun w => q (chs_iff.mpr w)
        have e : goN (qi h (y + 1)) (n + 1) a = goN (qi h (y + 1)) n a := by
          conv => lhs; unfold goN
          rw [if_neg z]
        rw [e] at hk
        have := ih (by omega) a ha hk
        simp only [wpS, o_c, o_cl, o_il, o_ll, o_al, o_is, o_ls, o_as, o_inc, o_add, o_sub, o_mul, o_and, o_or, o_xor, o_shl, o_shr, o_div, o_neg, o_ladd, o_lsub, o_lmul, o_ldiv, o_lrem, o_lneg, o_lcmp, o_i2l, o_l2i, o_dup, o_dup2, o_pop, o_go, o_nn, o_sw, swc, o_iret, o_zret, o_lret, o_vret, o_ieq, o_eq0, o_ine, o_ne0, o_ilt, o_lt0, o_ige, o_ge0, o_igt, o_gt0, o_ile, o_le0, o_iald, o_zald, o_lald, o_aald, o_iast, o_zast, o_last, o_aast, o_alen, o_gi, o_gr, o_pi, o_pz, o_pr, o_new, o_newa, o_copy, o_oinit, o_call, o_callV, o_callVc, o_callI, popn, cnO, o_BAD, lgt, lst, isL, kil, st1, st2, entL, List.length_nil, List.length_cons, List.replicate, Nat.reduceAdd, Nat.reduceLeDiff, Nat.reduceSub, true_and, and_true, Nat.zero_le, ne_eq, qk_wi, ql_wi, qr_wi, qj_wi, qt_wi, qk_wj, ql_wj, qr_wj, qi_wj, qt_wj, qk_wr, ql_wr, qi_wr, qj_wr, qt_wr, qi_ws, qj_ws, qr_ws, Int.toNat_natCast, Int.toNat_zero, Int.reduceToNat, not_true_eq_false, not_false_eq_true, false_implies, implies_true, Option.some.injEq, reduceCtorEq, Sp0, true_or, or_true, or_self, wi_wi, wj_wj, hM.k]
        repeat' (first | (with_reducible refine And.intro ?_ ?_) | (with_reducible intro))
        all_goals (try (first | with_reducible assumption | omega | (unfold inI; omega) | (unfold inL; omega) | exact cz_in _ _))
        all_goals (try (exfalso; omega))
        refine s_X8_goesOn_56 x ok _ _ _ _ ?_
        simp only [wpS, o_c, o_cl, o_il, o_ll, o_al, o_is, o_ls, o_as, o_inc, o_add, o_sub, o_mul, o_and, o_or, o_xor, o_shl, o_shr, o_div, o_neg, o_ladd, o_lsub, o_lmul, o_ldiv, o_lrem, o_lneg, o_lcmp, o_i2l, o_l2i, o_dup, o_dup2, o_pop, o_go, o_nn, o_sw, swc, o_iret, o_zret, o_lret, o_vret, o_ieq, o_eq0, o_ine, o_ne0, o_ilt, o_lt0, o_ige, o_ge0, o_igt, o_gt0, o_ile, o_le0, o_iald, o_zald, o_lald, o_aald, o_iast, o_zast, o_last, o_aast, o_alen, o_gi, o_gr, o_pi, o_pz, o_pr, o_new, o_newa, o_copy, o_oinit, o_call, o_callV, o_callVc, o_callI, popn, cnO, o_BAD, lgt, lst, isL, kil, st1, st2, entL, List.length_nil, List.length_cons, List.replicate, Nat.reduceAdd, Nat.reduceLeDiff, Nat.reduceSub, true_and, and_true, Nat.zero_le, ne_eq, qk_wi, ql_wi, qr_wi, qj_wi, qt_wi, qk_wj, ql_wj, qr_wj, qi_wj, qt_wj, qk_wr, ql_wr, qi_wr, qj_wr, qt_wr, qi_ws, qj_ws, qr_ws, Int.toNat_natCast, Int.toNat_zero, Int.reduceToNat, not_true_eq_false, not_false_eq_true, false_implies, implies_true, Option.some.injEq, reduceCtorEq, Sp0, true_or, or_true, or_self, wi_wi, wj_wj, hM.k]
        repeat' (first | (with_reducible refine And.intro ?_ ?_) | (with_reducible intro))
        all_goals (try (first | with_reducible assumption | omega | (unfold inI; omega) | (unfold inL; omega) | exact cz_in _ _))
        exact this
  have := loop 12 (by omega) (qi h (y + 9)) hdg hK
  have e11 : (((12 : Nat) : Int) - 1) = 11 := rfl
  rw [wi_self, e11] at this
  all_goals (try ((first | (refine s_X8_goesOn_0 x ok _ _ _ _ ?_) | (refine s_X8_goesOn_18 x ok _ _ _ _ ?_) | (refine s_X8_goesOn_49 x ok _ _ _ _ ?_) | (refine s_X8_goesOn_56 x ok _ _ _ _ ?_) | (refine s_X8_goesOn_62 x ok _ _ _ _ ?_)); (try simp only [wpS, o_c, o_cl, o_il, o_ll, o_al, o_is, o_ls, o_as, o_inc, o_add, o_sub, o_mul, o_and, o_or, o_xor, o_shl, o_shr, o_div, o_neg, o_ladd, o_lsub, o_lmul, o_ldiv, o_lrem, o_lneg, o_lcmp, o_i2l, o_l2i, o_dup, o_dup2, o_pop, o_go, o_nn, o_sw, swc, o_iret, o_zret, o_lret, o_vret, o_ieq, o_eq0, o_ine, o_ne0, o_ilt, o_lt0, o_ige, o_ge0, o_igt, o_gt0, o_ile, o_le0, o_iald, o_zald, o_lald, o_aald, o_iast, o_zast, o_last, o_aast, o_alen, o_gi, o_gr, o_pi, o_pz, o_pr, o_new, o_newa, o_copy, o_oinit, o_call, o_callV, o_callVc, o_callI, popn, cnO, o_BAD, lgt, lst, isL, kil, st1, st2, entL, List.length_nil, List.length_cons, List.replicate, Nat.reduceAdd, Nat.reduceLeDiff, Nat.reduceSub, true_and, and_true, Nat.zero_le, ne_eq, qk_wi, ql_wi, qr_wi, qj_wi, qt_wi, qk_wj, ql_wj, qr_wj, qi_wj, qt_wj, qk_wr, ql_wr, qi_wr, qj_wr, qt_wr, qi_ws, qj_ws, qr_ws, Int.toNat_natCast, Int.toNat_zero, Int.reduceToNat, not_true_eq_false, not_false_eq_true, false_implies, implies_true, Option.some.injEq, reduceCtorEq, Sp0, true_or, or_true, or_self, wi_wi, wj_wj]); (repeat' (first | (with_reducible refine And.intro ?_ ?_) | (with_reducible intro))); (all_goals (try (first | with_reducible assumption | omega | (unfold inI; omega) | (unfold inL; omega) | exact cz_in _ _)))))

/-! ===== FitBenchModel.span ===== -/
theorem first_nz {g : Nat → Int} : ∀ N, (∃ k, k < N ∧ g k ≠ 0) → ∃ L, L < N ∧ g L ≠ 0 ∧ ∀ k, k < L → g k = 0
  | 0, h => by obtain ⟨k, hk, _⟩ := h; omega
  | N + 1, h => by
    by_cases z : ∃ k, k < N ∧ g k ≠ 0
    · obtain ⟨L, h1, h2, h3⟩ := first_nz N z
      exact ⟨L, by omega, h2, h3⟩
    · obtain ⟨k, hk, hg⟩ := h
      have hz : ∀ k, k < N → g k = 0 := fun k hk => by
        by_cases u : g k = 0
        · exact u
        · exact absurd ⟨k, hk, u⟩ z
      have : k = N := by
        rcases Nat.lt_or_ge k N with u | u
        · exact absurd (hz k u) hg
        · omega
      subst this
      exact ⟨k, by omega, hg, hz⟩
theorem last_nz {g : Nat → Int} : ∀ N, (∃ k, k < N ∧ g k ≠ 0) → ∃ H, H < N ∧ g H ≠ 0 ∧ ∀ k, H < k → k < N → g k = 0
  | 0, h => by obtain ⟨k, hk, _⟩ := h; omega
  | N + 1, h => by
    by_cases z : g N = 0
    · obtain ⟨k, hk, hg⟩ := h
      have hk2 : k < N := by
        rcases Nat.lt_or_ge k N with u | u
        · exact u
        · rw [show k = N by omega] at hg; exact absurd z hg
      obtain ⟨H, h1, h2, h3⟩ := last_nz N ⟨k, hk2, hg⟩
      refine ⟨H, by omega, h2, fun k h4 h5 => ?_⟩
      by_cases u : k = N
      · rw [u]; exact z
      · exact h3 k h4 (by omega)
    · exact ⟨N, by omega, z, fun k h1 h2 => by omega⟩
/-- a run that holds something, without the empty cells at its ends -/
theorem trim {g : Nat → Int} {a b : Nat} (hab : a ≤ b) (hs : 0 < sg g (b + 1) - sg g a) : ∃ a' b', a ≤ a' ∧ a' ≤ b' ∧ b' ≤ b ∧ g a' ≠ 0 ∧ g b' ≠ 0 ∧ sg g (b' + 1) - sg g a' = sg g (b + 1) - sg g a := by
  have hex : ∃ k, k < b + 1 - a ∧ (fun k => g (a + k)) k ≠ 0 := by
    refine Classical.byContradiction (fun q => ?_)
    have e := sg_split g a (b + 1 - a)
    rw [show a + (b + 1 - a) = b + 1 by omega, sg_z (f := fun k => g (a + k)) (fun k hk => by
      by_cases u : g (a + k) = 0
      · exact u
      · exact absurd ⟨k, hk, u⟩ q)] at e
    omega
  obtain ⟨L, l1, l2, l3⟩ := first_nz _ hex
  obtain ⟨H, h1, h2, h3⟩ := last_nz _ hex
  have hLH : L ≤ H := by
    rcases Nat.lt_or_ge H L with u | u
    · exact absurd (l3 H u) h2
    · exact u
  refine ⟨a + L, a + H, by omega, by omega, by omega, l2, h2, ?_⟩
  have e1 : sg g a = sg g (a + L) := sg_ext (by omega) (fun k k1 k2 => by
    have := l3 (k - a) (by omega)
    rw [show a + (k - a) = k by omega] at this
    exact this)
  have e2 : sg g (a + H + 1) = sg g (b + 1) := sg_ext (by omega) (fun k k1 k2 => by
    have := h3 (k - a) (by omega) (by omega)
    rw [show a + (k - a) = k by omega] at this
    exact this)
  rw [e1, e2]
def bet (f t a b : Nat) : Prop := t - f < b - a ∨ (t - f = b - a ∧ f ≤ a)
/-- the best of all runs that start before a and have no empty end -/
def spI (g : Nat → Int) (N : Nat) (v need : Int) (L H a f t : Nat) : Prop := f ≤ t ∧ t ≤ H ∧ f ≤ a ∧ enough g v need f (t + 1) ∧ ∀ a' b', a' ≤ b' → b' < N → g a' ≠ 0 → g b' ≠ 0 → enough g v need a' (b' + 1) → a' < a → bet f t a' b'
theorem spI_nar {g : Nat → Int} {N : Nat} {v need : Int} {L H f t : Nat} (h : spI g N v need L H (H + 1) f t) (hH : H < N) (hz : ∀ k, H < k → k < N → g k = 0) (hv : 0 < v) (hn : 0 < need) : narP g N v need f t := by
  obtain ⟨h1, h2, h3, h4, h5⟩ := h
  refine ⟨h1, by omega, h4, fun a' b' z1 z2 z3 => ?_⟩
  have hpos : 0 < sg g (b' + 1) - sg g a' := by
    unfold enough at z3
    refine Classical.byContradiction (fun q => ?_)
    have := Int.mul_le_mul_of_nonneg_right (show sg g (b' + 1) - sg g a' ≤ 0 by omega) (show 0 ≤ v by omega)
    rw [Int.zero_mul] at this
    omega
  obtain ⟨a2, b2, t1, t2, t3, t4, t5, t6⟩ := trim z1 hpos
  have ha2 : a2 < H + 1 := by
    rcases Nat.lt_or_ge a2 (H + 1) with u | u
    · exact u
    · exact absurd (hz a2 (by omega) (by omega)) t4
  have := h5 a2 b2 t2 (by omega) t4 t5 (by unfold enough at z3 ⊢; rw [t6]; exact z3) ha2
  unfold bet at this
  omega
def T_X8_span : TT := fun as h K => ∃ (y : Nat) (c p v w : Int), as = [vr (some y), vi c, vi p, vi v, vi w] ∧ Mo h y ∧ Inv (qi h (y + 1)) ∧ inI c ∧ inI p ∧ inI v ∧ inI w ∧ (¬ spnOk c p v w → K (some (vi (-10000000))) h) ∧ (spnOk c p v w → 1000000000000 < cpt (qi h (y + 1)) (dsh (qi h (y + 1)) c.toNat) (fun _ => 0) 12 → K (some (vi (-10000000))) h) ∧ (spnOk c p v w → cpt (qi h (y + 1)) (dsh (qi h (y + 1)) c.toNat) (fun _ => 0) 12 ≤ 1000000000000 → ∀ (a b : Nat) (u z : Nat → Int), narP (lyR (qi h (y + 1)) (dsh (qi h (y + 1)) c.toNat) (fun _ => 0) 1 12) ((wdG (qi h (y + 1)) (dsh (qi h (y + 1)) c.toNat)).toNat + 1) v (cpt (qi h (y + 1)) (dsh (qi h (y + 1)) c.toNat) (fun _ => 0) 12 * (v - p)) a b → K (some (vi (leG (qi h (y + 1)) (dsh (qi h (y + 1)) c.toNat) + (if w = 0 then a else b)))) (cH h y u z))
abbrev i_X8_span : MI := (cX8_span, 16, RX8, (some .int), "span", 7)
theorem k_X8_span_0 : Okop i_X8_span 0 (o_il 1) 1 := k_iln (j := 1) (by decide +kernel)
theorem k_X8_span_1 : Okop i_X8_span 1 (o_call 1 T_X8_isChain) 4 := k_call (idx := 71) m_X8_isChain ⟨gw_748, gw_10, ⟨by decide, by decide, by decide +kernel⟩, by decide, by decide⟩ gw_746 gw_747 (by decide +kernel)
theorem k_X8_span_4 : Okop i_X8_span 4 (o_eq0 46) 7 := k_eq0 (off := 42) (by decide +kernel) (by decide)
theorem k_X8_span_7 : Okop i_X8_span 7 (o_il 2) 8 := k_iln (j := 2) (by decide +kernel)
theorem k_X8_span_8 : Okop i_X8_span 8 (o_lt0 46) 11 := k_lt0 (off := 38) (by decide +kernel) (by decide)
theorem k_X8_span_11 : Okop i_X8_span 11 (o_il 2) 12 := k_iln (j := 2) (by decide +kernel)
theorem k_X8_span_12 : Okop i_X8_span 12 (o_c 1000) 15 := k_sipush (by decide +kernel) rfl
theorem k_X8_span_15 : Okop i_X8_span 15 (o_igt 46) 18 := k_igt (off := 31) (by decide +kernel) (by decide)
theorem k_X8_span_18 : Okop i_X8_span 18 (o_il 3) 19 := k_iln (j := 3) (by decide +kernel)
theorem k_X8_span_19 : Okop i_X8_span 19 (o_c 1) 20 := k_iconst (by decide +kernel)
theorem k_X8_span_20 : Okop i_X8_span 20 (o_ilt 46) 23 := k_ilt (off := 26) (by decide +kernel) (by decide)
theorem k_X8_span_23 : Okop i_X8_span 23 (o_il 3) 24 := k_iln (j := 3) (by decide +kernel)
theorem k_X8_span_24 : Okop i_X8_span 24 (o_c 1000) 27 := k_sipush (by decide +kernel) rfl
theorem k_X8_span_27 : Okop i_X8_span 27 (o_igt 46) 30 := k_igt (off := 19) (by decide +kernel) (by decide)
theorem k_X8_span_30 : Okop i_X8_span 30 (o_il 2) 31 := k_iln (j := 2) (by decide +kernel)
theorem k_X8_span_31 : Okop i_X8_span 31 (o_il 3) 32 := k_iln (j := 3) (by decide +kernel)
theorem k_X8_span_32 : Okop i_X8_span 32 (o_ige 46) 35 := k_ige (off := 14) (by decide +kernel) (by decide)
theorem k_X8_span_35 : Okop i_X8_span 35 (o_il 4) 37 := k_il (by decide +kernel)
theorem k_X8_span_37 : Okop i_X8_span 37 (o_eq0 49) 40 := k_eq0 (off := 12) (by decide +kernel) (by decide)
theorem k_X8_span_40 : Okop i_X8_span 40 (o_il 4) 42 := k_il (by decide +kernel)
theorem k_X8_span_42 : Okop i_X8_span 42 (o_c 1) 43 := k_iconst (by decide +kernel)
theorem k_X8_span_43 : Okop i_X8_span 43 (o_ieq 49) 46 := k_ieq (off := 6) (by decide +kernel) (by decide)
theorem k_X8_span_46 : Okop i_X8_span 46 (o_c (-10000000)) 48 := k_ldc (idx := 95) (by decide +kernel) gw_802
theorem k_X8_span_48 : Okop i_X8_span 48 (o_iret) 49 := k_iret (by decide +kernel) rfl
theorem k_X8_span_49 : Okop i_X8_span 49 (o_al 0) 50 := k_aln (j := 0) (by decide +kernel)
theorem k_X8_span_50 : Okop i_X8_span 50 (o_il 1) 51 := k_iln (j := 1) (by decide +kernel)
theorem k_X8_span_51 : Okop i_X8_span 51 (o_il 1) 52 := k_iln (j := 1) (by decide +kernel)
theorem k_X8_span_52 : Okop i_X8_span 52 (o_callV 8 2 T_X8_parts) 55 := k_callV (idx := 114) (r0 := (RX8, TX8, 14)) m_X8_parts ⟨gw_817, gw_10, ⟨by decide, by decide, by decide +kernel⟩, by decide, by decide⟩ rfl gw_814 gw_816 gs_19 (by decide +kernel)
theorem k_X8_span_55 : Okop i_X8_span 55 (o_ls 5) 57 := k_ls (by decide +kernel) (by decide)
theorem k_X8_span_57 : Okop i_X8_span 57 (o_ll 5) 59 := k_ll (by decide +kernel)
theorem k_X8_span_59 : Okop i_X8_span 59 (o_cl (-1)) 62 := k_ldc2 (idx := 105) (by decide +kernel) gw_813
theorem k_X8_span_62 : Okop i_X8_span 62 (o_lcmp) 63 := k_lcmp (by decide +kernel)
theorem k_X8_span_63 : Okop i_X8_span 63 (o_ne0 69) 66 := k_ne0 (off := 6) (by decide +kernel) (by decide)
theorem k_X8_span_66 : Okop i_X8_span 66 (o_c (-10000000)) 68 := k_ldc (idx := 95) (by decide +kernel) gw_802
theorem k_X8_span_68 : Okop i_X8_span 68 (o_iret) 69 := k_iret (by decide +kernel) rfl
theorem k_X8_span_69 : Okop i_X8_span 69 (o_al 0) 70 := k_aln (j := 0) (by decide +kernel)
theorem k_X8_span_70 : Okop i_X8_span 70 (o_il 1) 71 := k_iln (j := 1) (by decide +kernel)
theorem k_X8_span_71 : Okop i_X8_span 71 (o_il 1) 72 := k_iln (j := 1) (by decide +kernel)
theorem k_X8_span_72 : Okop i_X8_span 72 (o_c 0) 73 := k_iconst (by decide +kernel)
theorem k_X8_span_73 : Okop i_X8_span 73 (o_callV 8 3 T_X8_counts) 76 := k_callV (idx := 120) (r0 := (RX8, TX8, 14)) m_X8_counts ⟨gw_823, gw_10, ⟨by decide, by decide, by decide +kernel⟩, by decide, by decide⟩ rfl gw_820 gw_822 gs_20 (by decide +kernel)
theorem k_X8_span_76 : Okop i_X8_span 76 (o_al 0) 77 := k_aln (j := 0) (by decide +kernel)
theorem k_X8_span_77 : Okop i_X8_span 77 (o_il 1) 78 := k_iln (j := 1) (by decide +kernel)
theorem k_X8_span_78 : Okop i_X8_span 78 (o_callV 8 1 T_X8_wide) 81 := k_callV (idx := 111) (r0 := (RX8, TX8, 14)) m_X8_wide ⟨gw_827, gw_10, ⟨by decide, by decide, by decide +kernel⟩, by decide, by decide⟩ rfl gw_824 gw_826 gs_21 (by decide +kernel)
theorem k_X8_span_81 : Okop i_X8_span 81 (o_is 7) 83 := k_is (by decide +kernel) (by decide)
theorem k_X8_span_83 : Okop i_X8_span 83 (o_c 0) 84 := k_iconst (by decide +kernel)
theorem k_X8_span_84 : Okop i_X8_span 84 (o_is 8) 86 := k_is (by decide +kernel) (by decide)
theorem k_X8_span_86 : Okop i_X8_span 86 (o_il 7) 88 := k_il (by decide +kernel)
theorem k_X8_span_88 : Okop i_X8_span 88 (o_is 9) 90 := k_is (by decide +kernel) (by decide)
theorem k_X8_span_90 : Okop i_X8_span 90 (o_al 0) 91 := k_aln (j := 0) (by decide +kernel)
theorem k_X8_span_91 : Okop i_X8_span 91 (o_gr 8 6) 94 := k_gr (idx := 30) fo_8 (by decide) (by decide) gw_666 (by decide +kernel)
theorem k_X8_span_94 : Okop i_X8_span 94 (o_il 8) 96 := k_il (by decide +kernel)
theorem k_X8_span_96 : Okop i_X8_span 96 (o_lald) 97 := k_lald (by decide +kernel)
theorem k_X8_span_97 : Okop i_X8_span 97 (o_cl 0) 98 := k_lconst (n := 0) (by decide +kernel) rfl
theorem k_X8_span_98 : Okop i_X8_span 98 (o_lcmp) 99 := k_lcmp (by decide +kernel)
theorem k_X8_span_99 : Okop i_X8_span 99 (o_ne0 108) 102 := k_ne0 (off := 9) (by decide +kernel) (by decide)
theorem k_X8_span_102 : Okop i_X8_span 102 (o_inc 8 1) 105 := k_inc (by decide +kernel) (by decide)
theorem k_X8_span_105 : Okop i_X8_span 105 (o_go 90) 108 := k_go (off := -15) (by decide +kernel) (by decide)
theorem k_X8_span_108 : Okop i_X8_span 108 (o_al 0) 109 := k_aln (j := 0) (by decide +kernel)
theorem k_X8_span_109 : Okop i_X8_span 109 (o_gr 8 6) 112 := k_gr (idx := 30) fo_8 (by decide) (by decide) gw_666 (by decide +kernel)
theorem k_X8_span_112 : Okop i_X8_span 112 (o_il 9) 114 := k_il (by decide +kernel)
theorem k_X8_span_114 : Okop i_X8_span 114 (o_lald) 115 := k_lald (by decide +kernel)
theorem k_X8_span_115 : Okop i_X8_span 115 (o_cl 0) 116 := k_lconst (n := 0) (by decide +kernel) rfl
theorem k_X8_span_116 : Okop i_X8_span 116 (o_lcmp) 117 := k_lcmp (by decide +kernel)
theorem k_X8_span_117 : Okop i_X8_span 117 (o_ne0 126) 120 := k_ne0 (off := 9) (by decide +kernel) (by decide)
theorem k_X8_span_120 : Okop i_X8_span 120 (o_inc 9 (-1)) 123 := k_inc (by decide +kernel) (by decide)
theorem k_X8_span_123 : Okop i_X8_span 123 (o_go 108) 126 := k_go (off := -15) (by decide +kernel) (by decide)
theorem k_X8_span_126 : Okop i_X8_span 126 (o_il 8) 128 := k_il (by decide +kernel)
theorem k_X8_span_128 : Okop i_X8_span 128 (o_is 10) 130 := k_is (by decide +kernel) (by decide)
theorem k_X8_span_130 : Okop i_X8_span 130 (o_il 9) 132 := k_il (by decide +kernel)
theorem k_X8_span_132 : Okop i_X8_span 132 (o_is 11) 134 := k_is (by decide +kernel) (by decide)
theorem k_X8_span_134 : Okop i_X8_span 134 (o_il 8) 136 := k_il (by decide +kernel)
theorem k_X8_span_136 : Okop i_X8_span 136 (o_is 12) 138 := k_is (by decide +kernel) (by decide)
theorem k_X8_span_138 : Okop i_X8_span 138 (o_il 12) 140 := k_il (by decide +kernel)
theorem k_X8_span_140 : Okop i_X8_span 140 (o_il 9) 142 := k_il (by decide +kernel)
theorem k_X8_span_142 : Okop i_X8_span 142 (o_igt 251) 145 := k_igt (off := 109) (by decide +kernel) (by decide)
theorem k_X8_span_145 : Okop i_X8_span 145 (o_al 0) 146 := k_aln (j := 0) (by decide +kernel)
theorem k_X8_span_146 : Okop i_X8_span 146 (o_gr 8 6) 149 := k_gr (idx := 30) fo_8 (by decide) (by decide) gw_666 (by decide +kernel)
theorem k_X8_span_149 : Okop i_X8_span 149 (o_il 12) 151 := k_il (by decide +kernel)
theorem k_X8_span_151 : Okop i_X8_span 151 (o_lald) 152 := k_lald (by decide +kernel)
theorem k_X8_span_152 : Okop i_X8_span 152 (o_cl 0) 153 := k_lconst (n := 0) (by decide +kernel) rfl
theorem k_X8_span_153 : Okop i_X8_span 153 (o_lcmp) 154 := k_lcmp (by decide +kernel)
theorem k_X8_span_154 : Okop i_X8_span 154 (o_ne0 160) 157 := k_ne0 (off := 6) (by decide +kernel) (by decide)
theorem k_X8_span_157 : Okop i_X8_span 157 (o_go 245) 160 := k_go (off := 88) (by decide +kernel) (by decide)
theorem k_X8_span_160 : Okop i_X8_span 160 (o_cl 0) 161 := k_lconst (n := 0) (by decide +kernel) rfl
theorem k_X8_span_161 : Okop i_X8_span 161 (o_ls 13) 163 := k_ls (by decide +kernel) (by decide)
theorem k_X8_span_163 : Okop i_X8_span 163 (o_il 12) 165 := k_il (by decide +kernel)
theorem k_X8_span_165 : Okop i_X8_span 165 (o_is 15) 167 := k_is (by decide +kernel) (by decide)
theorem k_X8_span_167 : Okop i_X8_span 167 (o_il 15) 169 := k_il (by decide +kernel)
theorem k_X8_span_169 : Okop i_X8_span 169 (o_il 9) 171 := k_il (by decide +kernel)
theorem k_X8_span_171 : Okop i_X8_span 171 (o_igt 245) 174 := k_igt (off := 74) (by decide +kernel) (by decide)
theorem k_X8_span_174 : Okop i_X8_span 174 (o_il 15) 176 := k_il (by decide +kernel)
theorem k_X8_span_176 : Okop i_X8_span 176 (o_il 12) 178 := k_il (by decide +kernel)
theorem k_X8_span_178 : Okop i_X8_span 178 (o_sub) 179 := k_sub (by decide +kernel)
theorem k_X8_span_179 : Okop i_X8_span 179 (o_il 11) 181 := k_il (by decide +kernel)
theorem k_X8_span_181 : Okop i_X8_span 181 (o_il 10) 183 := k_il (by decide +kernel)
theorem k_X8_span_183 : Okop i_X8_span 183 (o_sub) 184 := k_sub (by decide +kernel)
theorem k_X8_span_184 : Okop i_X8_span 184 (o_ige 245) 187 := k_ige (off := 61) (by decide +kernel) (by decide)
theorem k_X8_span_187 : Okop i_X8_span 187 (o_ll 13) 189 := k_ll (by decide +kernel)
theorem k_X8_span_189 : Okop i_X8_span 189 (o_al 0) 190 := k_aln (j := 0) (by decide +kernel)
theorem k_X8_span_190 : Okop i_X8_span 190 (o_gr 8 6) 193 := k_gr (idx := 30) fo_8 (by decide) (by decide) gw_666 (by decide +kernel)
theorem k_X8_span_193 : Okop i_X8_span 193 (o_il 15) 195 := k_il (by decide +kernel)
theorem k_X8_span_195 : Okop i_X8_span 195 (o_lald) 196 := k_lald (by decide +kernel)
theorem k_X8_span_196 : Okop i_X8_span 196 (o_ladd) 197 := k_ladd (by decide +kernel)
theorem k_X8_span_197 : Okop i_X8_span 197 (o_ls 13) 199 := k_ls (by decide +kernel) (by decide)
theorem k_X8_span_199 : Okop i_X8_span 199 (o_al 0) 200 := k_aln (j := 0) (by decide +kernel)
theorem k_X8_span_200 : Okop i_X8_span 200 (o_gr 8 6) 203 := k_gr (idx := 30) fo_8 (by decide) (by decide) gw_666 (by decide +kernel)
theorem k_X8_span_203 : Okop i_X8_span 203 (o_il 15) 205 := k_il (by decide +kernel)
theorem k_X8_span_205 : Okop i_X8_span 205 (o_lald) 206 := k_lald (by decide +kernel)
theorem k_X8_span_206 : Okop i_X8_span 206 (o_cl 0) 207 := k_lconst (n := 0) (by decide +kernel) rfl
theorem k_X8_span_207 : Okop i_X8_span 207 (o_lcmp) 208 := k_lcmp (by decide +kernel)
theorem k_X8_span_208 : Okop i_X8_span 208 (o_eq0 239) 211 := k_eq0 (off := 31) (by decide +kernel) (by decide)
theorem k_X8_span_211 : Okop i_X8_span 211 (o_ll 5) 213 := k_ll (by decide +kernel)
theorem k_X8_span_213 : Okop i_X8_span 213 (o_ll 13) 215 := k_ll (by decide +kernel)
theorem k_X8_span_215 : Okop i_X8_span 215 (o_lsub) 216 := k_lsub (by decide +kernel)
theorem k_X8_span_216 : Okop i_X8_span 216 (o_il 3) 217 := k_iln (j := 3) (by decide +kernel)
theorem k_X8_span_217 : Okop i_X8_span 217 (o_i2l) 218 := k_i2l (by decide +kernel)
theorem k_X8_span_218 : Okop i_X8_span 218 (o_lmul) 219 := k_lmul (by decide +kernel)
theorem k_X8_span_219 : Okop i_X8_span 219 (o_il 2) 220 := k_iln (j := 2) (by decide +kernel)
theorem k_X8_span_220 : Okop i_X8_span 220 (o_i2l) 221 := k_i2l (by decide +kernel)
theorem k_X8_span_221 : Okop i_X8_span 221 (o_ll 5) 223 := k_ll (by decide +kernel)
theorem k_X8_span_223 : Okop i_X8_span 223 (o_lmul) 224 := k_lmul (by decide +kernel)
theorem k_X8_span_224 : Okop i_X8_span 224 (o_lcmp) 225 := k_lcmp (by decide +kernel)
theorem k_X8_span_225 : Okop i_X8_span 225 (o_le0 231) 228 := k_le0 (off := 6) (by decide +kernel) (by decide)
theorem k_X8_span_228 : Okop i_X8_span 228 (o_go 239) 231 := k_go (off := 11) (by decide +kernel) (by decide)
theorem k_X8_span_231 : Okop i_X8_span 231 (o_il 12) 233 := k_il (by decide +kernel)
theorem k_X8_span_233 : Okop i_X8_span 233 (o_is 10) 235 := k_is (by decide +kernel) (by decide)
theorem k_X8_span_235 : Okop i_X8_span 235 (o_il 15) 237 := k_il (by decide +kernel)
theorem k_X8_span_237 : Okop i_X8_span 237 (o_is 11) 239 := k_is (by decide +kernel) (by decide)
theorem k_X8_span_239 : Okop i_X8_span 239 (o_inc 15 1) 242 := k_inc (by decide +kernel) (by decide)
theorem k_X8_span_242 : Okop i_X8_span 242 (o_go 167) 245 := k_go (off := -75) (by decide +kernel) (by decide)
theorem k_X8_span_245 : Okop i_X8_span 245 (o_inc 12 1) 248 := k_inc (by decide +kernel) (by decide)
theorem k_X8_span_248 : Okop i_X8_span 248 (o_go 138) 251 := k_go (off := -110) (by decide +kernel) (by decide)
theorem k_X8_span_251 : Okop i_X8_span 251 (o_al 0) 252 := k_aln (j := 0) (by decide +kernel)
theorem k_X8_span_252 : Okop i_X8_span 252 (o_il 1) 253 := k_iln (j := 1) (by decide +kernel)
theorem k_X8_span_253 : Okop i_X8_span 253 (o_c 0) 254 := k_iconst (by decide +kernel)
theorem k_X8_span_254 : Okop i_X8_span 254 (o_callV 8 2 T_X8_worst) 257 := k_callV (idx := 100) (r0 := (RX8, TX8, 14)) m_X8_worst ⟨gw_801, gw_10, ⟨by decide, by decide, by decide +kernel⟩, by decide, by decide⟩ rfl gw_808 gw_799 gw_800 (by decide +kernel)
theorem k_X8_span_257 : Okop i_X8_span 257 (o_il 4) 259 := k_il (by decide +kernel)
theorem k_X8_span_259 : Okop i_X8_span 259 (o_ne0 267) 262 := k_ne0 (off := 8) (by decide +kernel) (by decide)
theorem k_X8_span_262 : Okop i_X8_span 262 (o_il 10) 264 := k_il (by decide +kernel)
theorem k_X8_span_264 : Okop i_X8_span 264 (o_go 269) 267 := k_go (off := 5) (by decide +kernel) (by decide)
theorem k_X8_span_267 : Okop i_X8_span 267 (o_il 11) 269 := k_il (by decide +kernel)
theorem k_X8_span_269 : Okop i_X8_span 269 (o_add) 270 := k_add (by decide +kernel)
theorem k_X8_span_270 : Okop i_X8_span 270 (o_iret) 271 := k_iret (by decide +kernel) rfl
theorem s_X8_span_0 : Seg i_X8_span 0 [o_il 1, o_call 1 T_X8_isChain, o_eq0 46, o_il 2, o_lt0 46, o_il 2, o_c 1000, o_igt 46, o_il 3, o_c 1, o_ilt 46, o_il 3, o_c 1000, o_igt 46, o_il 2, o_il 3, o_ige 46, o_il 4, o_eq0 49, o_il 4, o_c 1, o_ieq 49, o_c (-10000000), o_iret] 49 := Seg.cons k_X8_span_0 (Seg.cons k_X8_span_1 (Seg.cons k_X8_span_4 (Seg.cons k_X8_span_7 (Seg.cons k_X8_span_8 (Seg.cons k_X8_span_11 (Seg.cons k_X8_span_12 (Seg.cons k_X8_span_15 (Seg.cons k_X8_span_18 (Seg.cons k_X8_span_19 (Seg.cons k_X8_span_20 (Seg.cons k_X8_span_23 (Seg.cons k_X8_span_24 (Seg.cons k_X8_span_27 (Seg.cons k_X8_span_30 (Seg.cons k_X8_span_31 (Seg.cons k_X8_span_32 (Seg.cons k_X8_span_35 (Seg.cons k_X8_span_37 (Seg.cons k_X8_span_40 (Seg.cons k_X8_span_42 (Seg.cons k_X8_span_43 (Seg.cons k_X8_span_46 (Seg.cons k_X8_span_48 (Seg.nil))))))))))))))))))))))))
theorem s_X8_span_46 : Seg i_X8_span 46 [o_c (-10000000), o_iret] 49 := Seg.cons k_X8_span_46 (Seg.cons k_X8_span_48 (Seg.nil))
theorem s_X8_span_49 : Seg i_X8_span 49 [o_al 0, o_il 1, o_il 1, o_callV 8 2 T_X8_parts, o_ls 5, o_ll 5, o_cl (-1), o_lcmp, o_ne0 69, o_c (-10000000), o_iret] 69 := Seg.cons k_X8_span_49 (Seg.cons k_X8_span_50 (Seg.cons k_X8_span_51 (Seg.cons k_X8_span_52 (Seg.cons k_X8_span_55 (Seg.cons k_X8_span_57 (Seg.cons k_X8_span_59 (Seg.cons k_X8_span_62 (Seg.cons k_X8_span_63 (Seg.cons k_X8_span_66 (Seg.cons k_X8_span_68 (Seg.nil)))))))))))
theorem s_X8_span_69 : Seg i_X8_span 69 [o_al 0, o_il 1, o_il 1, o_c 0, o_callV 8 3 T_X8_counts, o_al 0, o_il 1, o_callV 8 1 T_X8_wide, o_is 7, o_c 0, o_is 8, o_il 7, o_is 9] 90 := Seg.cons k_X8_span_69 (Seg.cons k_X8_span_70 (Seg.cons k_X8_span_71 (Seg.cons k_X8_span_72 (Seg.cons k_X8_span_73 (Seg.cons k_X8_span_76 (Seg.cons k_X8_span_77 (Seg.cons k_X8_span_78 (Seg.cons k_X8_span_81 (Seg.cons k_X8_span_83 (Seg.cons k_X8_span_84 (Seg.cons k_X8_span_86 (Seg.cons k_X8_span_88 (Seg.nil)))))))))))))
theorem s_X8_span_90 : Seg i_X8_span 90 [o_al 0, o_gr 8 6, o_il 8, o_lald, o_cl 0, o_lcmp, o_ne0 108, o_inc 8 1, o_go 90] 108 := Seg.cons k_X8_span_90 (Seg.cons k_X8_span_91 (Seg.cons k_X8_span_94 (Seg.cons k_X8_span_96 (Seg.cons k_X8_span_97 (Seg.cons k_X8_span_98 (Seg.cons k_X8_span_99 (Seg.cons k_X8_span_102 (Seg.cons k_X8_span_105 (Seg.nil)))))))))
theorem s_X8_span_108 : Seg i_X8_span 108 [o_al 0, o_gr 8 6, o_il 9, o_lald, o_cl 0, o_lcmp, o_ne0 126, o_inc 9 (-1), o_go 108] 126 := Seg.cons k_X8_span_108 (Seg.cons k_X8_span_109 (Seg.cons k_X8_span_112 (Seg.cons k_X8_span_114 (Seg.cons k_X8_span_115 (Seg.cons k_X8_span_116 (Seg.cons k_X8_span_117 (Seg.cons k_X8_span_120 (Seg.cons k_X8_span_123 (Seg.nil)))))))))
theorem s_X8_span_126 : Seg i_X8_span 126 [o_il 8, o_is 10, o_il 9, o_is 11, o_il 8, o_is 12] 138 := Seg.cons k_X8_span_126 (Seg.cons k_X8_span_128 (Seg.cons k_X8_span_130 (Seg.cons k_X8_span_132 (Seg.cons k_X8_span_134 (Seg.cons k_X8_span_136 (Seg.nil))))))
theorem s_X8_span_138 : Seg i_X8_span 138 [o_il 12, o_il 9, o_igt 251, o_al 0, o_gr 8 6, o_il 12, o_lald, o_cl 0, o_lcmp, o_ne0 160, o_go 245] 160 := Seg.cons k_X8_span_138 (Seg.cons k_X8_span_140 (Seg.cons k_X8_span_142 (Seg.cons k_X8_span_145 (Seg.cons k_X8_span_146 (Seg.cons k_X8_span_149 (Seg.cons k_X8_span_151 (Seg.cons k_X8_span_152 (Seg.cons k_X8_span_153 (Seg.cons k_X8_span_154 (Seg.cons k_X8_span_157 (Seg.nil)))))))))))
theorem s_X8_span_160 : Seg i_X8_span 160 [o_cl 0, o_ls 13, o_il 12, o_is 15] 167 := Seg.cons k_X8_span_160 (Seg.cons k_X8_span_161 (Seg.cons k_X8_span_163 (Seg.cons k_X8_span_165 (Seg.nil))))
theorem s_X8_span_167 : Seg i_X8_span 167 [o_il 15, o_il 9, o_igt 245, o_il 15, o_il 12, o_sub, o_il 11, o_il 10, o_sub, o_ige 245, o_ll 13, o_al 0, o_gr 8 6, o_il 15, o_lald, o_ladd, o_ls 13, o_al 0, o_gr 8 6, o_il 15, o_lald, o_cl 0, o_lcmp, o_eq0 239, o_ll 5, o_ll 13, o_lsub, o_il 3, o_i2l, o_lmul, o_il 2, o_i2l, o_ll 5, o_lmul, o_lcmp, o_le0 231, o_go 239] 231 := Seg.cons k_X8_span_167 (Seg.cons k_X8_span_169 (Seg.cons k_X8_span_171 (Seg.cons k_X8_span_174 (Seg.cons k_X8_span_176 (Seg.cons k_X8_span_178 (Seg.cons k_X8_span_179 (Seg.cons k_X8_span_181 (Seg.cons k_X8_span_183 (Seg.cons k_X8_span_184 (Seg.cons k_X8_span_187 (Seg.cons k_X8_span_189 (Seg.cons k_X8_span_190 (Seg.cons k_X8_span_193 (Seg.cons k_X8_span_195 (Seg.cons k_X8_span_196 (Seg.cons k_X8_span_197 (Seg.cons k_X8_span_199 (Seg.cons k_X8_span_200 (Seg.cons k_X8_span_203 (Seg.cons k_X8_span_205 (Seg.cons k_X8_span_206 (Seg.cons k_X8_span_207 (Seg.cons k_X8_span_208 (Seg.cons k_X8_span_211 (Seg.cons k_X8_span_213 (Seg.cons k_X8_span_215 (Seg.cons k_X8_span_216 (Seg.cons k_X8_span_217 (Seg.cons k_X8_span_218 (Seg.cons k_X8_span_219 (Seg.cons k_X8_span_220 (Seg.cons k_X8_span_221 (Seg.cons k_X8_span_223 (Seg.cons k_X8_span_224 (Seg.cons k_X8_span_225 (Seg.cons k_X8_span_228 (Seg.nil)))))))))))))))))))))))))))))))))))))
theorem s_X8_span_231 : Seg i_X8_span 231 [o_il 12, o_is 10, o_il 15, o_is 11, o_inc 15 1, o_go 167] 245 := Seg.cons k_X8_span_231 (Seg.cons k_X8_span_233 (Seg.cons k_X8_span_235 (Seg.cons k_X8_span_237 (Seg.cons k_X8_span_239 (Seg.cons k_X8_span_242 (Seg.nil))))))
theorem s_X8_span_239 : Seg i_X8_span 239 [o_inc 15 1, o_go 167] 245 := Seg.cons k_X8_span_239 (Seg.cons k_X8_span_242 (Seg.nil))
theorem s_X8_span_245 : Seg i_X8_span 245 [o_inc 12 1, o_go 138] 251 := Seg.cons k_X8_span_245 (Seg.cons k_X8_span_248 (Seg.nil))
theorem s_X8_span_251 : Seg i_X8_span 251 [o_al 0, o_il 1, o_c 0, o_callV 8 2 T_X8_worst, o_il 4, o_ne0 267, o_il 10, o_go 269] 267 := Seg.cons k_X8_span_251 (Seg.cons k_X8_span_252 (Seg.cons k_X8_span_253 (Seg.cons k_X8_span_254 (Seg.cons k_X8_span_257 (Seg.cons k_X8_span_259 (Seg.cons k_X8_span_262 (Seg.cons k_X8_span_264 (Seg.nil))))))))
theorem s_X8_span_267 : Seg i_X8_span 267 [o_il 11, o_add, o_iret] 271 := Seg.cons k_X8_span_267 (Seg.cons k_X8_span_269 (Seg.cons k_X8_span_270 (Seg.nil)))
theorem s_X8_span_269 : Seg i_X8_span 269 [o_add, o_iret] 271 := Seg.cons k_X8_span_269 (Seg.cons k_X8_span_270 (Seg.nil))

theorem m_X8_span : Mth yX8_span cX8_span 16 (some .int) 7 (Sp0 T_X8_span) := by
  refine Mth.of (by decide) ?_
  rintro x as h ok ⟨y, c, p, v, w, rfl, hM, hI, ic, ip, iv, iw, hK1, hK2, hK3⟩
  refine ⟨Nat.le_of_ble_eq_true rfl, ?_⟩
  have hM2 : ∀ u v : Nat → Int, Mo (cH h y u v) y := fun _ _ => hM
  have hD2 : ∀ u v : Nat → Int, qi (cH h y u v) (y + 1) = qi h (y + 1) := fun _ _ => rfl
  generalize hD : qi h (y + 1) = D at *
  have hI2 : ∀ u v : Nat → Int, Inv (qi (cH h y u v) (y + 1)) := fun u v => by rw [hD2]; exact hI
  by_cases q : spnOk c p v w
  · have hK2 := hK2 q
    have hK3 := hK3 q
    obtain ⟨qc, qw, qv, qp⟩ := q
    obtain ⟨C, rfl, hC⟩ : ∃ C : Nat, c = (C : Int) ∧ C < 6 := ⟨c.toNat, by omega, by omega⟩
    rw [Int.toNat_natCast] at hK2 hK3
    have hcp := cpt_bd (s := dsh D C) (t := fun _ => 0) hI.1 12 (Nat.le_refl _)
    have hs := (hI.2.1 C hC).1
    have hlg := leG_rg hI.1 hs
    have hwd := wdG_rg hI.1 hs
    have hnn := lyR_nn (d := D) (dsh D C) (fun _ => 0) 1 hI.1 12 (Nat.le_refl _)
    have hsum := row_sum (s := dsh D C) (t := fun _ => 0) hI.1 hs (fun m _ => by show (-3 : Int) ≤ 0 ∧ (0 : Int) ≤ 3; omega)
    rw [wdG_0] at hsum
    obtain ⟨W, hW⟩ : ∃ W : Nat, wdG D (dsh D C) = (W : Int) := ⟨(wdG D (dsh D C)).toNat, by omega⟩
    rw [hW, Int.toNat_natCast] at hK3
    rw [hW, Int.toNat_natCast, Int.toNat_zero, Nat.zero_add, Nat.mul_one] at hsum
    rw [hW] at hwd
    have h49 : V i_X8_span x 49 [some (vr (some y)), some (vi C), some (vi p), some (vi v), some (vi w), none, none, none, none, none, none, none, none, none, none, none] [] h (0, 0) := by
      refine s_X8_span_49 x ok _ _ _ _ ?_
      simp only [wpS, o_c, o_cl, o_il, o_ll, o_al, o_is, o_ls, o_as, o_inc, o_add, o_sub, o_mul, o_and, o_or, o_xor, o_shl, o_shr, o_div, o_neg, o_ladd, o_lsub, o_lmul, o_ldiv, o_lrem, o_lneg, o_lcmp, o_i2l, o_l2i, o_dup, o_dup2, o_pop, o_go, o_nn, o_sw, swc, o_iret, o_zret, o_lret, o_vret, o_ieq, o_eq0, o_ine, o_ne0, o_ilt, o_lt0, o_ige, o_ge0, o_igt, o_gt0, o_ile, o_le0, o_iald, o_zald, o_lald, o_aald, o_iast, o_zast, o_last, o_aast, o_alen, o_gi, o_gr, o_pi, o_pz, o_pr, o_new, o_newa, o_copy, o_oinit, o_call, o_callV, o_callVc, o_callI, popn, cnO, o_BAD, lgt, lst, isL, kil, st1, st2, entL, List.length_nil, List.length_cons, List.replicate, Nat.reduceAdd, Nat.reduceLeDiff, Nat.reduceSub, true_and, and_true, Nat.zero_le, ne_eq, qk_wi, ql_wi, qr_wi, qj_wi, qt_wi, qk_wj, ql_wj, qr_wj, qi_wj, qt_wj, qk_wr, ql_wr, qi_wr, qj_wr, qt_wr, qi_ws, qj_ws, qr_ws, Int.toNat_natCast, Int.toNat_zero, Int.reduceToNat, not_true_eq_false, not_false_eq_true, false_implies, implies_true, Option.some.injEq, reduceCtorEq, Sp0, true_or, or_true, or_self, wi_wi, wj_wj, hM.k]
      repeat' (first | (with_reducible refine And.intro ?_ ?_) | (with_reducible intro))
      all_goals (try (first | with_reducible assumption | omega | (unfold inI; omega) | (unfold inL; omega) | exact cz_in _ _))
      refine c8_parts hM (by rw [hD]; exact hI) hC hC ?_
      rw [hD]
      unfold prt
      rw [cpt_cc]
      by_cases hbig : 1000000000000 < cpt D (dsh D C) (fun _ => 0) 12
      · have hk := hK2 hbig
        rw [if_pos hbig]
        simp only [wpS, o_c, o_cl, o_il, o_ll, o_al, o_is, o_ls, o_as, o_inc, o_add, o_sub, o_mul, o_and, o_or, o_xor, o_shl, o_shr, o_div, o_neg, o_ladd, o_lsub, o_lmul, o_ldiv, o_lrem, o_lneg, o_lcmp, o_i2l, o_l2i, o_dup, o_dup2, o_pop, o_go, o_nn, o_sw, swc, o_iret, o_zret, o_lret, o_vret, o_ieq, o_eq0, o_ine, o_ne0, o_ilt, o_lt0, o_ige, o_ge0, o_igt, o_gt0, o_ile, o_le0, o_iald, o_zald, o_lald, o_aald, o_iast, o_zast, o_last, o_aast, o_alen, o_gi, o_gr, o_pi, o_pz, o_pr, o_new, o_newa, o_copy, o_oinit, o_call, o_callV, o_callVc, o_callI, popn, cnO, o_BAD, lgt, lst, isL, kil, st1, st2, entL, List.length_nil, List.length_cons, List.replicate, Nat.reduceAdd, Nat.reduceLeDiff, Nat.reduceSub, true_and, and_true, Nat.zero_le, ne_eq, qk_wi, ql_wi, qr_wi, qj_wi, qt_wi, qk_wj, ql_wj, qr_wj, qi_wj, qt_wj, qk_wr, ql_wr, qi_wr, qj_wr, qt_wr, qi_ws, qj_ws, qr_ws, Int.toNat_natCast, Int.toNat_zero, Int.reduceToNat, not_true_eq_false, not_false_eq_true, false_implies, implies_true, Option.some.injEq, reduceCtorEq, Sp0, true_or, or_true, or_self, wi_wi, wj_wj, hM.k, cz_in, cz_lt, cz_le, cz_gt, cz_ge, cz_eq]
        repeat' (first | (with_reducible refine And.intro ?_ ?_) | (with_reducible intro))
        all_goals (try (first | with_reducible assumption | omega | (unfold inI; omega) | (unfold inL; omega) | exact cz_in _ _))
        all_goals (first | exact hk | (exfalso; omega) | skip)
      · have hsum2 := hsum (by omega)
        have hcnt : cpt D (dsh D C) (tw D C 0) 12 ≤ 1000000000000 ∧ (W + 1) * ((wdG D (tw D C 0)).toNat + 1) ≤ 200000 := by
          rw [tw_0, wdG_0, Int.toNat_zero]
          omega
        have hfin := hK3 (by omega)
        clear hK1 hK2 hK3 hsum
        have hcntu : ∀ u : Nat → Int, (∀ k, k < (W + 1) * ((wdG D (tw D C 0)).toNat + 1) → u k = lyR D (dsh D C) (tw D C 0) ((wdG D (tw D C 0)).toNat + 1) 12 k) → ∀ k, k < W + 1 → u k = lyR D (dsh D C) (fun _ => 0) 1 12 k := by
          intro u hu k hk
          rw [tw_0, wdG_0, Int.toNat_zero, Nat.zero_add, Nat.mul_one] at hu
          exact hu k hk
        rw [if_neg hbig]
        generalize hA : cpt D (dsh D C) (fun _ => 0) 12 = A at *
        generalize lyR D (dsh D C) (fun _ => 0) 1 12 = g at *
        generalize hle : leG D (dsh D C) = le at *
        have hgk : ∀ k, k < W + 1 → g k ≤ 1000000000000 := fun k hk => by
          have := sg_pt (f := g) (n := W + 1) (fun k _ => hnn k) k hk
          omega
        have hex : ∃ k, k < W + 1 ∧ g k ≠ 0 := by
          refine Classical.byContradiction (fun q => ?_)
          rw [sg_z (fun k hk => by
            by_cases u : g k = 0
            · exact u
            · exact absurd ⟨k, hk, u⟩ q)] at hsum2
          omega
        obtain ⟨L, l1, l2, l3⟩ := first_nz _ hex
        obtain ⟨H, h1, h2, h3⟩ := last_nz _ hex
        have hLH : L ≤ H := by
          rcases Nat.lt_or_ge H L with u | u
          · exact absurd (l3 H u) h2
          · exact u
        have hneed : 0 < A * (v - p) := Int.mul_pos (by omega) (by omega)
        have eneed : A * (v - p) = A * v - p * A := by rw [Int.mul_sub, Int.mul_comm A p]
        have hst : spI g (W + 1) v (A * (v - p)) L H L L H := by
          refine ⟨hLH, Nat.le_refl _, Nat.le_refl _, ?_, fun a' b' z1 z2 z3 z4 z5 z6 => absurd (l3 a' z6) z3⟩
          unfold enough
          have e1 : sg g L = 0 := sg_z (fun k hk => l3 k hk)
          have e2 : sg g (H + 1) = A := by rw [← hsum2]; exact sg_ext (by omega) (fun k k1 k2 => h3 k (by omega) k2)
          rw [e1, e2, Int.sub_zero]
          exact Int.mul_le_mul_of_nonneg_left (by omega) (by omega)
        have pA : 0 ≤ p * A ∧ p * A ≤ 1000 * 1000000000000 := ⟨Int.mul_nonneg (by omega) (by omega), Int.mul_le_mul (by omega) (by omega) (by omega) (by omega)⟩
        have outer : ∀ a, a ≤ H + 1 → ∀ (u z : Nat → Int) (f t : Nat), (∀ k, k < W + 1 → u k = g k) → spI g (W + 1) v (A * (v - p)) L H a f t → L ≤ a → ∀ v13 v14 v15, V i_X8_span x 138 [some (vr (some y)), some (vi C), some (vi p), some (vi v), some (vi w), some (vl A), none, some (vi W), some (vi L), some (vi H), some (vi f), some (vi t), some (vi a), v13, v14, v15] [] (cH h y u z) (0, 0) := by
          refine bwd _ ?_ ?_
          · intro u z f t hu hsp hLa v13 v14 v15
            have hk := hfin f t u z (spI_nar hsp h1 h3 (by omega) hneed)
            have hft := hsp.1
            have htH := hsp.2.1
            refine s_X8_span_138 x ok _ _ _ _ ?_
            simp only [wpS, o_c, o_cl, o_il, o_ll, o_al, o_is, o_ls, o_as, o_inc, o_add, o_sub, o_mul, o_and, o_or, o_xor, o_shl, o_shr, o_div, o_neg, o_ladd, o_lsub, o_lmul, o_ldiv, o_lrem, o_lneg, o_lcmp, o_i2l, o_l2i, o_dup, o_dup2, o_pop, o_go, o_nn, o_sw, swc, o_iret, o_zret, o_lret, o_vret, o_ieq, o_eq0, o_ine, o_ne0, o_ilt, o_lt0, o_ige, o_ge0, o_igt, o_gt0, o_ile, o_le0, o_iald, o_zald, o_lald, o_aald, o_iast, o_zast, o_last, o_aast, o_alen, o_gi, o_gr, o_pi, o_pz, o_pr, o_new, o_newa, o_copy, o_oinit, o_call, o_callV, o_callVc, o_callI, popn, cnO, o_BAD, lgt, lst, isL, kil, st1, st2, entL, List.length_nil, List.length_cons, List.replicate, Nat.reduceAdd, Nat.reduceLeDiff, Nat.reduceSub, true_and, and_true, Nat.zero_le, ne_eq, qk_wi, ql_wi, qr_wi, qj_wi, qt_wi, qk_wj, ql_wj, qr_wj, qi_wj, qt_wj, qk_wr, ql_wr, qi_wr, qj_wr, qt_wr, qi_ws, qj_ws, qr_ws, Int.toNat_natCast, Int.toNat_zero, Int.reduceToNat, not_true_eq_false, not_false_eq_true, false_implies, implies_true, Option.some.injEq, reduceCtorEq, Sp0, true_or, or_true, or_self, wi_wi, wj_wj, hM.k]
            repeat' (first | (with_reducible refine And.intro ?_ ?_) | (with_reducible intro))
            all_goals (try (first | with_reducible assumption | omega | (unfold inI; omega) | (unfold inL; omega) | exact cz_in _ _))
            all_goals (try (exfalso; omega))
            refine s_X8_span_251 x ok _ _ _ _ ?_
            simp only [wpS, o_c, o_cl, o_il, o_ll, o_al, o_is, o_ls, o_as, o_inc, o_add, o_sub, o_mul, o_and, o_or, o_xor, o_shl, o_shr, o_div, o_neg, o_ladd, o_lsub, o_lmul, o_ldiv, o_lrem, o_lneg, o_lcmp, o_i2l, o_l2i, o_dup, o_dup2, o_pop, o_go, o_nn, o_sw, swc, o_iret, o_zret, o_lret, o_vret, o_ieq, o_eq0, o_ine, o_ne0, o_ilt, o_lt0, o_ige, o_ge0, o_igt, o_gt0, o_ile, o_le0, o_iald, o_zald, o_lald, o_aald, o_iast, o_zast, o_last, o_aast, o_alen, o_gi, o_gr, o_pi, o_pz, o_pr, o_new, o_newa, o_copy, o_oinit, o_call, o_callV, o_callVc, o_callI, popn, cnO, o_BAD, lgt, lst, isL, kil, st1, st2, entL, List.length_nil, List.length_cons, List.replicate, Nat.reduceAdd, Nat.reduceLeDiff, Nat.reduceSub, true_and, and_true, Nat.zero_le, ne_eq, qk_wi, ql_wi, qr_wi, qj_wi, qt_wi, qk_wj, ql_wj, qr_wj, qi_wj, qt_wj, qk_wr, ql_wr, qi_wr, qj_wr, qt_wr, qi_ws, qj_ws, qr_ws, Int.toNat_natCast, Int.toNat_zero, Int.reduceToNat, not_true_eq_false, not_false_eq_true, false_implies, implies_true, Option.some.injEq, reduceCtorEq, Sp0, true_or, or_true, or_self, wi_wi, wj_wj, hM.k, cH_k]
            repeat' (first | (with_reducible refine And.intro ?_ ?_) | (with_reducible intro))
            all_goals (try (first | with_reducible assumption | omega | (unfold inI; omega) | (unfold inL; omega) | exact cz_in _ _))
            refine c8_worst (hM2 _ _) (hI2 _ _) ⟨by unfold inI; omega, by unfold inI; omega⟩ ?_
            rw [hD2, wst0 hC, hle]
            by_cases z1 : w = 0
            · rw [if_pos z1] at hk
              simp only [wpS, o_c, o_cl, o_il, o_ll, o_al, o_is, o_ls, o_as, o_inc, o_add, o_sub, o_mul, o_and, o_or, o_xor, o_shl, o_shr, o_div, o_neg, o_ladd, o_lsub, o_lmul, o_ldiv, o_lrem, o_lneg, o_lcmp, o_i2l, o_l2i, o_dup, o_dup2, o_pop, o_go, o_nn, o_sw, swc, o_iret, o_zret, o_lret, o_vret, o_ieq, o_eq0, o_ine, o_ne0, o_ilt, o_lt0, o_ige, o_ge0, o_igt, o_gt0, o_ile, o_le0, o_iald, o_zald, o_lald, o_aald, o_iast, o_zast, o_last, o_aast, o_alen, o_gi, o_gr, o_pi, o_pz, o_pr, o_new, o_newa, o_copy, o_oinit, o_call, o_callV, o_callVc, o_callI, popn, cnO, o_BAD, lgt, lst, isL, kil, st1, st2, entL, List.length_nil, List.length_cons, List.replicate, Nat.reduceAdd, Nat.reduceLeDiff, Nat.reduceSub, true_and, and_true, Nat.zero_le, ne_eq, qk_wi, ql_wi, qr_wi, qj_wi, qt_wi, qk_wj, ql_wj, qr_wj, qi_wj, qt_wj, qk_wr, ql_wr, qi_wr, qj_wr, qt_wr, qi_ws, qj_ws, qr_ws, Int.toNat_natCast, Int.toNat_zero, Int.reduceToNat, not_true_eq_false, not_false_eq_true, false_implies, implies_true, Option.some.injEq, reduceCtorEq, Sp0, true_or, or_true, or_self, wi_wi, wj_wj, hM.k]
              repeat' (first | (with_reducible refine And.intro ?_ ?_) | (with_reducible intro))
              all_goals (try (first | with_reducible assumption | omega | (unfold inI; omega) | (unfold inL; omega) | exact cz_in _ _))
              all_goals (try (exfalso; omega))
              all_goals (all_goals (try ((first | (refine s_X8_span_0 x ok _ _ _ _ ?_) | (refine s_X8_span_46 x ok _ _ _ _ ?_) | (refine s_X8_span_49 x ok _ _ _ _ ?_) | (refine s_X8_span_69 x ok _ _ _ _ ?_) | (refine s_X8_span_126 x ok _ _ _ _ ?_) | (refine s_X8_span_160 x ok _ _ _ _ ?_) | (refine s_X8_span_231 x ok _ _ _ _ ?_) | (refine s_X8_span_239 x ok _ _ _ _ ?_) | (refine s_X8_span_245 x ok _ _ _ _ ?_) | (refine s_X8_span_251 x ok _ _ _ _ ?_) | (refine s_X8_span_267 x ok _ _ _ _ ?_) | (refine s_X8_span_269 x ok _ _ _ _ ?_)); (try simp only [wpS, o_c, o_cl, o_il, o_ll, o_al, o_is, o_ls, o_as, o_inc, o_add, o_sub, o_mul, o_and, o_or, o_xor, o_shl, o_shr, o_div, o_neg, o_ladd, o_lsub, o_lmul, o_ldiv, o_lrem, o_lneg, o_lcmp, o_i2l, o_l2i, o_dup, o_dup2, o_pop, o_go, o_nn, o_sw, swc, o_iret, o_zret, o_lret, o_vret, o_ieq, o_eq0, o_ine, o_ne0, o_ilt, o_lt0, o_ige, o_ge0, o_igt, o_gt0, o_ile, o_le0, o_iald, o_zald, o_lald, o_aald, o_iast, o_zast, o_last, o_aast, o_alen, o_gi, o_gr, o_pi, o_pz, o_pr, o_new, o_newa, o_copy, o_oinit, o_call, o_callV, o_callVc, o_callI, popn, cnO, o_BAD, lgt, lst, isL, kil, st1, st2, entL, List.length_nil, List.length_cons, List.replicate, Nat.reduceAdd, Nat.reduceLeDiff, Nat.reduceSub, true_and, and_true, Nat.zero_le, ne_eq, qk_wi, ql_wi, qr_wi, qj_wi, qt_wi, qk_wj, ql_wj, qr_wj, qi_wj, qt_wj, qk_wr, ql_wr, qi_wr, qj_wr, qt_wr, qi_ws, qj_ws, qr_ws, Int.toNat_natCast, Int.toNat_zero, Int.reduceToNat, not_true_eq_false, not_false_eq_true, false_implies, implies_true, Option.some.injEq, reduceCtorEq, Sp0, true_or, or_true, or_self, wi_wi, wj_wj]); (repeat' (first | (with_reducible refine And.intro ?_ ?_) | (with_reducible intro))); (all_goals (try (first | with_reducible assumption | omega | (unfold inI; omega) | (unfold inL; omega) | exact cz_in _ _))))))
              all_goals (first | exact hk | (exfalso; omega) | skip)
            · rw [if_neg z1] at hk
              simp only [wpS, o_c, o_cl, o_il, o_ll, o_al, o_is, o_ls, o_as, o_inc, o_add, o_sub, o_mul, o_and, o_or, o_xor, o_shl, o_shr, o_div, o_neg, o_ladd, o_lsub, o_lmul, o_ldiv, o_lrem, o_lneg, o_lcmp, o_i2l, o_l2i, o_dup, o_dup2, o_pop, o_go, o_nn, o_sw, swc, o_iret, o_zret, o_lret, o_vret, o_ieq, o_eq0, o_ine, o_ne0, o_ilt, o_lt0, o_ige, o_ge0, o_igt, o_gt0, o_ile, o_le0, o_iald, o_zald, o_lald, o_aald, o_iast, o_zast, o_last, o_aast, o_alen, o_gi, o_gr, o_pi, o_pz, o_pr, o_new, o_newa, o_copy, o_oinit, o_call, o_callV, o_callVc, o_callI, popn, cnO, o_BAD, lgt, lst, isL, kil, st1, st2, entL, List.length_nil, List.length_cons, List.replicate, Nat.reduceAdd, Nat.reduceLeDiff, Nat.reduceSub, true_and, and_true, Nat.zero_le, ne_eq, qk_wi, ql_wi, qr_wi, qj_wi, qt_wi, qk_wj, ql_wj, qr_wj, qi_wj, qt_wj, qk_wr, ql_wr, qi_wr, qj_wr, qt_wr, qi_ws, qj_ws, qr_ws, Int.toNat_natCast, Int.toNat_zero, Int.reduceToNat, not_true_eq_false, not_false_eq_true, false_implies, implies_true, Option.some.injEq, reduceCtorEq, Sp0, true_or, or_true, or_self, wi_wi, wj_wj, hM.k]
              repeat' (first | (with_reducible refine And.intro ?_ ?_) | (with_reducible intro))
              all_goals (try (first | with_reducible assumption | omega | (unfold inI; omega) | (unfold inL; omega) | exact cz_in _ _))
              all_goals (try (exfalso; omega))
              all_goals (all_goals (try ((first | (refine s_X8_span_0 x ok _ _ _ _ ?_) | (refine s_X8_span_46 x ok _ _ _ _ ?_) | (refine s_X8_span_49 x ok _ _ _ _ ?_) | (refine s_X8_span_69 x ok _ _ _ _ ?_) | (refine s_X8_span_126 x ok _ _ _ _ ?_) | (refine s_X8_span_160 x ok _ _ _ _ ?_) | (refine s_X8_span_231 x ok _ _ _ _ ?_) | (refine s_X8_span_239 x ok _ _ _ _ ?_) | (refine s_X8_span_245 x ok _ _ _ _ ?_) | (refine s_X8_span_251 x ok _ _ _ _ ?_) | (refine s_X8_span_267 x ok _ _ _ _ ?_) | (refine s_X8_span_269 x ok _ _ _ _ ?_)); (try simp only [wpS, o_c, o_cl, o_il, o_ll, o_al, o_is, o_ls, o_as, o_inc, o_add, o_sub, o_mul, o_and, o_or, o_xor, o_shl, o_shr, o_div, o_neg, o_ladd, o_lsub, o_lmul, o_ldiv, o_lrem, o_lneg, o_lcmp, o_i2l, o_l2i, o_dup, o_dup2, o_pop, o_go, o_nn, o_sw, swc, o_iret, o_zret, o_lret, o_vret, o_ieq, o_eq0, o_ine, o_ne0, o_ilt, o_lt0, o_ige, o_ge0, o_igt, o_gt0, o_ile, o_le0, o_iald, o_zald, o_lald, o_aald, o_iast, o_zast, o_last, o_aast, o_alen, o_gi, o_gr, o_pi, o_pz, o_pr, o_new, o_newa, o_copy, o_oinit, o_call, o_callV, o_callVc, o_callI, popn, cnO, o_BAD, lgt, lst, isL, kil, st1, st2, entL, List.length_nil, List.length_cons, List.replicate, Nat.reduceAdd, Nat.reduceLeDiff, Nat.reduceSub, true_and, and_true, Nat.zero_le, ne_eq, qk_wi, ql_wi, qr_wi, qj_wi, qt_wi, qk_wj, ql_wj, qr_wj, qi_wj, qt_wj, qk_wr, ql_wr, qi_wr, qj_wr, qt_wr, qi_ws, qj_ws, qr_ws, Int.toNat_natCast, Int.toNat_zero, Int.reduceToNat, not_true_eq_false, not_false_eq_true, false_implies, implies_true, Option.some.injEq, reduceCtorEq, Sp0, true_or, or_true, or_self, wi_wi, wj_wj]); (repeat' (first | (with_reducible refine And.intro ?_ ?_) | (with_reducible intro))); (all_goals (try (first | with_reducible assumption | omega | (unfold inI; omega) | (unfold inL; omega) | exact cz_in _ _))))))
              all_goals (first | exact hk | (exfalso; omega) | skip)
          · intro a ha ih u z f t hu hsp hLa v13 v14 v15
            have hua := hu a (by omega)
            have h0a := hnn a
            have h1a := hgk a (by omega)
            by_cases za : g a = 0
            · have hn := ih u z f t hu ⟨hsp.1, hsp.2.1, by have := hsp.2.2.1; omega, hsp.2.2.2.1, fun a' b' z1 z2 z3 z4 z5 z6 => hsp.2.2.2.2 a' b' z1 z2 z3 z4 z5 (by
                by_cases e : a' = a
                · rw [e] at z3; exact absurd za z3
                · omega)⟩ (by omega)
              rw [za] at hua
              refine s_X8_span_138 x ok _ _ _ _ ?_
              simp only [wpS, o_c, o_cl, o_il, o_ll, o_al, o_is, o_ls, o_as, o_inc, o_add, o_sub, o_mul, o_and, o_or, o_xor, o_shl, o_shr, o_div, o_neg, o_ladd, o_lsub, o_lmul, o_ldiv, o_lrem, o_lneg, o_lcmp, o_i2l, o_l2i, o_dup, o_dup2, o_pop, o_go, o_nn, o_sw, swc, o_iret, o_zret, o_lret, o_vret, o_ieq, o_eq0, o_ine, o_ne0, o_ilt, o_lt0, o_ige, o_ge0, o_igt, o_gt0, o_ile, o_le0, o_iald, o_zald, o_lald, o_aald, o_iast, o_zast, o_last, o_aast, o_alen, o_gi, o_gr, o_pi, o_pz, o_pr, o_new, o_newa, o_copy, o_oinit, o_call, o_callV, o_callVc, o_callI, popn, cnO, o_BAD, lgt, lst, isL, kil, st1, st2, entL, List.length_nil, List.length_cons, List.replicate, Nat.reduceAdd, Nat.reduceLeDiff, Nat.reduceSub, true_and, and_true, Nat.zero_le, ne_eq, qk_wi, ql_wi, qr_wi, qj_wi, qt_wi, qk_wj, ql_wj, qr_wj, qi_wj, qt_wj, qk_wr, ql_wr, qi_wr, qj_wr, qt_wr, qi_ws, qj_ws, qr_ws, Int.toNat_natCast, Int.toNat_zero, Int.reduceToNat, not_true_eq_false, not_false_eq_true, false_implies, implies_true, Option.some.injEq, reduceCtorEq, Sp0, true_or, or_true, or_self, wi_wi, wj_wj, hM.k, cH_k, cH_l, cH_r, cH_i, cH_7, hM.r6, hM.k7, hM.l7, hua, cz_in, cz_lt, cz_le, cz_gt, cz_ge, cz_eq]
              repeat' (first | (with_reducible refine And.intro ?_ ?_) | (with_reducible intro))
              all_goals (try (first | with_reducible assumption | omega | (unfold inI; omega) | (unfold inL; omega) | exact cz_in _ _))
              all_goals (try (exfalso; omega))
              refine s_X8_span_245 x ok _ _ _ _ ?_
              simp only [wpS, o_c, o_cl, o_il, o_ll, o_al, o_is, o_ls, o_as, o_inc, o_add, o_sub, o_mul, o_and, o_or, o_xor, o_shl, o_shr, o_div, o_neg, o_ladd, o_lsub, o_lmul, o_ldiv, o_lrem, o_lneg, o_lcmp, o_i2l, o_l2i, o_dup, o_dup2, o_pop, o_go, o_nn, o_sw, swc, o_iret, o_zret, o_lret, o_vret, o_ieq, o_eq0, o_ine, o_ne0, o_ilt, o_lt0, o_ige, o_ge0, o_igt, o_gt0, o_ile, o_le0, o_iald, o_zald, o_lald, o_aald, o_iast, o_zast, o_last, o_aast, o_alen, o_gi, o_gr, o_pi, o_pz, o_pr, o_new, o_newa, o_copy, o_oinit, o_call, o_callV, o_callVc, o_callI, popn, cnO, o_BAD, lgt, lst, isL, kil, st1, st2, entL, List.length_nil, List.length_cons, List.replicate, Nat.reduceAdd, Nat.reduceLeDiff, Nat.reduceSub, true_and, and_true, Nat.zero_le, ne_eq, qk_wi, ql_wi, qr_wi, qj_wi, qt_wi, qk_wj, ql_wj, qr_wj, qi_wj, qt_wj, qk_wr, ql_wr, qi_wr, qj_wr, qt_wr, qi_ws, qj_ws, qr_ws, Int.toNat_natCast, Int.toNat_zero, Int.reduceToNat, not_true_eq_false, not_false_eq_true, false_implies, implies_true, Option.some.injEq, reduceCtorEq, Sp0, true_or, or_true, or_self, wi_wi, wj_wj, hM.k]
              repeat' (first | (with_reducible refine And.intro ?_ ?_) | (with_reducible intro))
              all_goals (try (first | with_reducible assumption | omega | (unfold inI; omega) | (unfold inL; omega) | exact cz_in _ _))
              all_goals (first | exact hn _ _ _ | skip)
            · -- the ends from a on
              have next : ∀ f t : Nat, spI g (W + 1) v (A * (v - p)) L H (a + 1) f t → ∀ v13 v15, V i_X8_span x 245 [some (vr (some y)), some (vi C), some (vi p), some (vi v), some (vi w), some (vl A), none, some (vi W), some (vi L), some (vi H), some (vi f), some (vi t), some (vi a), v13, none, v15] [] (cH h y u z) (0, 0) := by
                intro f t hs2 v13 v15
                have hn := ih u z f t hu hs2 (by omega)
                refine s_X8_span_245 x ok _ _ _ _ ?_
                simp only [wpS, o_c, o_cl, o_il, o_ll, o_al, o_is, o_ls, o_as, o_inc, o_add, o_sub, o_mul, o_and, o_or, o_xor, o_shl, o_shr, o_div, o_neg, o_ladd, o_lsub, o_lmul, o_ldiv, o_lrem, o_lneg, o_lcmp, o_i2l, o_l2i, o_dup, o_dup2, o_pop, o_go, o_nn, o_sw, swc, o_iret, o_zret, o_lret, o_vret, o_ieq, o_eq0, o_ine, o_ne0, o_ilt, o_lt0, o_ige, o_ge0, o_igt, o_gt0, o_ile, o_le0, o_iald, o_zald, o_lald, o_aald, o_iast, o_zast, o_last, o_aast, o_alen, o_gi, o_gr, o_pi, o_pz, o_pr, o_new, o_newa, o_copy, o_oinit, o_call, o_callV, o_callVc, o_callI, popn, cnO, o_BAD, lgt, lst, isL, kil, st1, st2, entL, List.length_nil, List.length_cons, List.replicate, Nat.reduceAdd, Nat.reduceLeDiff, Nat.reduceSub, true_and, and_true, Nat.zero_le, ne_eq, qk_wi, ql_wi, qr_wi, qj_wi, qt_wi, qk_wj, ql_wj, qr_wj, qi_wj, qt_wj, qk_wr, ql_wr, qi_wr, qj_wr, qt_wr, qi_ws, qj_ws, qr_ws, Int.toNat_natCast, Int.toNat_zero, Int.reduceToNat, not_true_eq_false, not_false_eq_true, false_implies, implies_true, Option.some.injEq, reduceCtorEq, Sp0, true_or, or_true, or_self, wi_wi, wj_wj, hM.k]
                repeat' (first | (with_reducible refine And.intro ?_ ?_) | (with_reducible intro))
                all_goals (try (first | with_reducible assumption | omega | (unfold inI; omega) | (unfold inL; omega) | exact cz_in _ _))
                all_goals (first | exact hn _ _ _ | skip)
              have inner : ∀ b, b ≤ H + 1 → a ≤ b → ∀ f t : Nat, spI g (W + 1) v (A * (v - p)) L H a f t → (∀ b', a ≤ b' → b' < b → g b' ≠ 0 → enough g v (A * (v - p)) a (b' + 1) → bet f t a b') → V i_X8_span x 167 [some (vr (some y)), some (vi C), some (vi p), some (vi v), some (vi w), some (vl A), none, some (vi W), some (vi L), some (vi H), some (vi f), some (vi t), some (vi a), some (vl (sg g b - sg g a)), none, some (vi b)] [] (cH h y u z) (0, 0) := by
                refine bwd _ ?_ ?_
                · intro hab f t hs2 hj
                  have hn := next f t ⟨hs2.1, hs2.2.1, by have := hs2.2.2.1; omega, hs2.2.2.2.1, fun a' b' z1 z2 z3 z4 z5 z6 => by
                    by_cases e : a' = a
                    · subst e
                      have hb2 : b' < H + 1 := by
                        rcases Nat.lt_or_ge b' (H + 1) with w1 | w1
                        · exact w1
                        · exact absurd (h3 b' (by omega) z2) z4
                      exact hj b' z1 hb2 z4 z5
                    · exact hs2.2.2.2.2 a' b' z1 z2 z3 z4 z5 (by omega)⟩
                  refine s_X8_span_167 x ok _ _ _ _ ?_
                  simp only [wpS, o_c, o_cl, o_il, o_ll, o_al, o_is, o_ls, o_as, o_inc, o_add, o_sub, o_mul, o_and, o_or, o_xor, o_shl, o_shr, o_div, o_neg, o_ladd, o_lsub, o_lmul, o_ldiv, o_lrem, o_lneg, o_lcmp, o_i2l, o_l2i, o_dup, o_dup2, o_pop, o_go, o_nn, o_sw, swc, o_iret, o_zret, o_lret, o_vret, o_ieq, o_eq0, o_ine, o_ne0, o_ilt, o_lt0, o_ige, o_ge0, o_igt, o_gt0, o_ile, o_le0, o_iald, o_zald, o_lald, o_aald, o_iast, o_zast, o_last, o_aast, o_alen, o_gi, o_gr, o_pi, o_pz, o_pr, o_new, o_newa, o_copy, o_oinit, o_call, o_callV, o_callVc, o_callI, popn, cnO, o_BAD, lgt, lst, isL, kil, st1, st2, entL, List.length_nil, List.length_cons, List.replicate, Nat.reduceAdd, Nat.reduceLeDiff, Nat.reduceSub, true_and, and_true, Nat.zero_le, ne_eq, qk_wi, ql_wi, qr_wi, qj_wi, qt_wi, qk_wj, ql_wj, qr_wj, qi_wj, qt_wj, qk_wr, ql_wr, qi_wr, qj_wr, qt_wr, qi_ws, qj_ws, qr_ws, Int.toNat_natCast, Int.toNat_zero, Int.reduceToNat, not_true_eq_false, not_false_eq_true, false_implies, implies_true, Option.some.injEq, reduceCtorEq, Sp0, true_or, or_true, or_self, wi_wi, wj_wj, hM.k]
                  repeat' (first | (with_reducible refine And.intro ?_ ?_) | (with_reducible intro))
                  all_goals (try (first | with_reducible assumption | omega | (unfold inI; omega) | (unfold inL; omega) | exact cz_in _ _))
                  all_goals (first | exact hn _ _ | (exfalso; omega) | skip)
                · intro b hb ih2 hab f t hs2 hj
                  have hft := hs2.1
                  have htH := hs2.2.1
                  have hfa := hs2.2.2.1
                  have hub := hu b (by omega)
                  have h0b := hnn b
                  have h1b := hgk b (by omega)
                  have hm1 := sg_mono (g := g) (N := W + 1) (fun k _ => hnn k) hab (show b ≤ W + 1 by omega)
                  have hm2 := sg_mono (g := g) (N := W + 1) (fun k _ => hnn k) (show b + 1 ≤ W + 1 by omega) (Nat.le_refl _)
                  have hm3 := sg_nn (f := g) (n := a) (fun k _ => hnn k)
                  rw [sg_s] at hm2 ih2
                  by_cases zw : b - a < t - f
                  · -- the run a .. b is tried
                    have eX : sg g b + g b - sg g a = sg g b - sg g a + g b := by omega
                    rw [eX] at ih2
                    have henb : enough g v (A * (v - p)) a (b + 1) ↔ (A - (sg g b - sg g a + g b)) * v ≤ p * A := by
                      unfold enough
                      rw [sg_s, eX, Int.sub_mul]
                      omega
                    have hv1 : 0 ≤ (A - (sg g b - sg g a + g b)) * v := Int.mul_nonneg (by omega) (by omega)
                    have hv2 : (A - (sg g b - sg g a + g b)) * v ≤ 1000000000000 * 1000 := Int.mul_le_mul (by omega) (by omega) (by omega) (by omega)
                    by_cases zg : g b ≠ 0 ∧ (A - (sg g b - sg g a + g b)) * v ≤ p * A
                    · have hn := ih2 (by omega) a b ⟨hab, by omega, Nat.le_refl _, henb.mpr zg.2, fun a' b' z1 z2 z3 z4 z5 z6 => by
                        have := hs2.2.2.2.2 a' b' z1 z2 z3 z4 z5 z6
                        unfold bet at this ⊢
                        omega⟩ (fun b' y1 y2 y3 y4 => by
                        by_cases e : b' = b
                        · subst e
                          exact .inr ⟨rfl, Nat.le_refl _⟩
                        · have := hj b' y1 (by omega) y3 y4
                          unfold bet at this
                          omega)
                      refine s_X8_span_167 x ok _ _ _ _ ?_
                      simp only [wpS, o_c, o_cl, o_il, o_ll, o_al, o_is, o_ls, o_as, o_inc, o_add, o_sub, o_mul, o_and, o_or, o_xor, o_shl, o_shr, o_div, o_neg, o_ladd, o_lsub, o_lmul, o_ldiv, o_lrem, o_lneg, o_lcmp, o_i2l, o_l2i, o_dup, o_dup2, o_pop, o_go, o_nn, o_sw, swc, o_iret, o_zret, o_lret, o_vret, o_ieq, o_eq0, o_ine, o_ne0, o_ilt, o_lt0, o_ige, o_ge0, o_igt, o_gt0, o_ile, o_le0, o_iald, o_zald, o_lald, o_aald, o_iast, o_zast, o_last, o_aast, o_alen, o_gi, o_gr, o_pi, o_pz, o_pr, o_new, o_newa, o_copy, o_oinit, o_call, o_callV, o_callVc, o_callI, popn, cnO, o_BAD, lgt, lst, isL, kil, st1, st2, entL, List.length_nil, List.length_cons, List.replicate, Nat.reduceAdd, Nat.reduceLeDiff, Nat.reduceSub, true_and, and_true, Nat.zero_le, ne_eq, qk_wi, ql_wi, qr_wi, qj_wi, qt_wi, qk_wj, ql_wj, qr_wj, qi_wj, qt_wj, qk_wr, ql_wr, qi_wr, qj_wr, qt_wr, qi_ws, qj_ws, qr_ws, Int.toNat_natCast, Int.toNat_zero, Int.reduceToNat, not_true_eq_false, not_false_eq_true, false_implies, implies_true, Option.some.injEq, reduceCtorEq, Sp0, true_or, or_true, or_self, wi_wi, wj_wj, hM.k, cH_k, cH_l, cH_r, cH_i, cH_7, hM.r6, hM.k7, hM.l7, hub, cz_in, cz_lt, cz_le, cz_gt, cz_ge, cz_eq]
                      repeat' (first | (with_reducible refine And.intro ?_ ?_) | (with_reducible intro))
                      all_goals (try (first | with_reducible assumption | omega | (unfold inI; omega) | (unfold inL; omega) | exact cz_in _ _))
                      all_goals (try (exfalso; omega))
                      all_goals (all_goals (try ((first | (refine s_X8_span_0 x ok _ _ _ _ ?_) | (refine s_X8_span_46 x ok _ _ _ _ ?_) | (refine s_X8_span_49 x ok _ _ _ _ ?_) | (refine s_X8_span_69 x ok _ _ _ _ ?_) | (refine s_X8_span_126 x ok _ _ _ _ ?_) | (refine s_X8_span_160 x ok _ _ _ _ ?_) | (refine s_X8_span_231 x ok _ _ _ _ ?_) | (refine s_X8_span_239 x ok _ _ _ _ ?_) | (refine s_X8_span_245 x ok _ _ _ _ ?_) | (refine s_X8_span_251 x ok _ _ _ _ ?_) | (refine s_X8_span_267 x ok _ _ _ _ ?_) | (refine s_X8_span_269 x ok _ _ _ _ ?_)); (try simp only [wpS, o_c, o_cl, o_il, o_ll, o_al, o_is, o_ls, o_as, o_inc, o_add, o_sub, o_mul, o_and, o_or, o_xor, o_shl, o_shr, o_div, o_neg, o_ladd, o_lsub, o_lmul, o_ldiv, o_lrem, o_lneg, o_lcmp, o_i2l, o_l2i, o_dup, o_dup2, o_pop, o_go, o_nn, o_sw, swc, o_iret, o_zret, o_lret, o_vret, o_ieq, o_eq0, o_ine, o_ne0, o_ilt, o_lt0, o_ige, o_ge0, o_igt, o_gt0, o_ile, o_le0, o_iald, o_zald, o_lald, o_aald, o_iast, o_zast, o_last, o_aast, o_alen, o_gi, o_gr, o_pi, o_pz, o_pr, o_new, o_newa, o_copy, o_oinit, o_call, o_callV, o_callVc, o_callI, popn, cnO, o_BAD, lgt, lst, isL, kil, st1, st2, entL, List.length_nil, List.length_cons, List.replicate, Nat.reduceAdd, Nat.reduceLeDiff, Nat.reduceSub, true_and, and_true, Nat.zero_le, ne_eq, qk_wi, ql_wi, qr_wi, qj_wi, qt_wi, qk_wj, ql_wj, qr_wj, qi_wj, qt_wj, qk_wr, ql_wr, qi_wr, qj_wr, qt_wr, qi_ws, qj_ws, qr_ws, Int.toNat_natCast, Int.toNat_zero, Int.reduceToNat, not_true_eq_false, not_false_eq_true, false_implies, implies_true, Option.some.injEq, reduceCtorEq, Sp0, true_or, or_true, or_self, wi_wi, wj_wj, hM.k]); (repeat' (first | (with_reducible refine And.intro ?_ ?_) | (with_reducible intro))); (all_goals (try (first | with_reducible assumption | omega | (unfold inI; omega) | (unfold inL; omega) | exact cz_in _ _))))))
                      all_goals (first | exact hn | (exfalso; omega) | skip)
                    · have hn := ih2 (by omega) f t hs2 (fun b' y1 y2 y3 y4 => by
                        by_cases e : b' = b
                        · rw [e] at y3 y4
                          exact absurd ⟨y3, henb.mp y4⟩ zg
                        · exact hj b' y1 (by omega) y3 y4)
                      refine s_X8_span_167 x ok _ _ _ _ ?_
                      simp only [wpS, o_c, o_cl, o_il, o_ll, o_al, o_is, o_ls, o_as, o_inc, o_add, o_sub, o_mul, o_and, o_or, o_xor, o_shl, o_shr, o_div, o_neg, o_ladd, o_lsub, o_lmul, o_ldiv, o_lrem, o_lneg, o_lcmp, o_i2l, o_l2i, o_dup, o_dup2, o_pop, o_go, o_nn, o_sw, swc, o_iret, o_zret, o_lret, o_vret, o_ieq, o_eq0, o_ine, o_ne0, o_ilt, o_lt0, o_ige, o_ge0, o_igt, o_gt0, o_ile, o_le0, o_iald, o_zald, o_lald, o_aald, o_iast, o_zast, o_last, o_aast, o_alen, o_gi, o_gr, o_pi, o_pz, o_pr, o_new, o_newa, o_copy, o_oinit, o_call, o_callV, o_callVc, o_callI, popn, cnO, o_BAD, lgt, lst, isL, kil, st1, st2, entL, List.length_nil, List.length_cons, List.replicate, Nat.reduceAdd, Nat.reduceLeDiff, Nat.reduceSub, true_and, and_true, Nat.zero_le, ne_eq, qk_wi, ql_wi, qr_wi, qj_wi, qt_wi, qk_wj, ql_wj, qr_wj, qi_wj, qt_wj, qk_wr, ql_wr, qi_wr, qj_wr, qt_wr, qi_ws, qj_ws, qr_ws, Int.toNat_natCast, Int.toNat_zero, Int.reduceToNat, not_true_eq_false, not_false_eq_true, false_implies, implies_true, Option.some.injEq, reduceCtorEq, Sp0, true_or, or_true, or_self, wi_wi, wj_wj, hM.k, cH_k, cH_l, cH_r, cH_i, cH_7, hM.r6, hM.k7, hM.l7, hub, cz_in, cz_lt, cz_le, cz_gt, cz_ge, cz_eq]
                      repeat' (first | (with_reducible refine And.intro ?_ ?_) | (with_reducible intro))
                      all_goals (try (first | with_reducible assumption | omega | (unfold inI; omega) | (unfold inL; omega) | exact cz_in _ _))
                      all_goals (try (exfalso; omega))
                      all_goals (all_goals (try ((first | (refine s_X8_span_0 x ok _ _ _ _ ?_) | (refine s_X8_span_46 x ok _ _ _ _ ?_) | (refine s_X8_span_49 x ok _ _ _ _ ?_) | (refine s_X8_span_69 x ok _ _ _ _ ?_) | (refine s_X8_span_126 x ok _ _ _ _ ?_) | (refine s_X8_span_160 x ok _ _ _ _ ?_) | (refine s_X8_span_231 x ok _ _ _ _ ?_) | (refine s_X8_span_239 x ok _ _ _ _ ?_) | (refine s_X8_span_245 x ok _ _ _ _ ?_) | (refine s_X8_span_251 x ok _ _ _ _ ?_) | (refine s_X8_span_267 x ok _ _ _ _ ?_) | (refine s_X8_span_269 x ok _ _ _ _ ?_)); (try simp only [wpS, o_c, o_cl, o_il, o_ll, o_al, o_is, o_ls, o_as, o_inc, o_add, o_sub, o_mul, o_and, o_or, o_xor, o_shl, o_shr, o_div, o_neg, o_ladd, o_lsub, o_lmul, o_ldiv, o_lrem, o_lneg, o_lcmp, o_i2l, o_l2i, o_dup, o_dup2, o_pop, o_go, o_nn, o_sw, swc, o_iret, o_zret, o_lret, o_vret, o_ieq, o_eq0, o_ine, o_ne0, o_ilt, o_lt0, o_ige, o_ge0, o_igt, o_gt0, o_ile, o_le0, o_iald, o_zald, o_lald, o_aald, o_iast, o_zast, o_last, o_aast, o_alen, o_gi, o_gr, o_pi, o_pz, o_pr, o_new, o_newa, o_copy, o_oinit, o_call, o_callV, o_callVc, o_callI, popn, cnO, o_BAD, lgt, lst, isL, kil, st1, st2, entL, List.length_nil, List.length_cons, List.replicate, Nat.reduceAdd, Nat.reduceLeDiff, Nat.reduceSub, true_and, and_true, Nat.zero_le, ne_eq, qk_wi, ql_wi, qr_wi, qj_wi, qt_wi, qk_wj, ql_wj, qr_wj, qi_wj, qt_wj, qk_wr, ql_wr, qi_wr, qj_wr, qt_wr, qi_ws, qj_ws, qr_ws, Int.toNat_natCast, Int.toNat_zero, Int.reduceToNat, not_true_eq_false, not_false_eq_true, false_implies, implies_true, Option.some.injEq, reduceCtorEq, Sp0, true_or, or_true, or_self, wi_wi, wj_wj, hM.k]); (repeat' (first | (with_reducible refine And.intro ?_ ?_) | (with_reducible intro))); (all_goals (try (first | with_reducible assumption | omega | (unfold inI; omega) | (unfold inL; omega) | exact cz_in _ _))))))
                      all_goals (first | exact hn | (exfalso; omega) | skip)
                  · have hn := next f t ⟨hs2.1, hs2.2.1, by omega, hs2.2.2.2.1, fun a' b' z1 z2 z3 z4 z5 z6 => by
                      by_cases e : a' = a
                      · subst e
                        rcases Nat.lt_or_ge b' b with w1 | w1
                        · exact hj b' z1 w1 z4 z5
                        · unfold bet; omega
                      · exact hs2.2.2.2.2 a' b' z1 z2 z3 z4 z5 (by omega)⟩
                    refine s_X8_span_167 x ok _ _ _ _ ?_
                    simp only [wpS, o_c, o_cl, o_il, o_ll, o_al, o_is, o_ls, o_as, o_inc, o_add, o_sub, o_mul, o_and, o_or, o_xor, o_shl, o_shr, o_div, o_neg, o_ladd, o_lsub, o_lmul, o_ldiv, o_lrem, o_lneg, o_lcmp, o_i2l, o_l2i, o_dup, o_dup2, o_pop, o_go, o_nn, o_sw, swc, o_iret, o_zret, o_lret, o_vret, o_ieq, o_eq0, o_ine, o_ne0, o_ilt, o_lt0, o_ige, o_ge0, o_igt, o_gt0, o_ile, o_le0, o_iald, o_zald, o_lald, o_aald, o_iast, o_zast, o_last, o_aast, o_alen, o_gi, o_gr, o_pi, o_pz, o_pr, o_new, o_newa, o_copy, o_oinit, o_call, o_callV, o_callVc, o_callI, popn, cnO, o_BAD, lgt, lst, isL, kil, st1, st2, entL, List.length_nil, List.length_cons, List.replicate, Nat.reduceAdd, Nat.reduceLeDiff, Nat.reduceSub, true_and, and_true, Nat.zero_le, ne_eq, qk_wi, ql_wi, qr_wi, qj_wi, qt_wi, qk_wj, ql_wj, qr_wj, qi_wj, qt_wj, qk_wr, ql_wr, qi_wr, qj_wr, qt_wr, qi_ws, qj_ws, qr_ws, Int.toNat_natCast, Int.toNat_zero, Int.reduceToNat, not_true_eq_false, not_false_eq_true, false_implies, implies_true, Option.some.injEq, reduceCtorEq, Sp0, true_or, or_true, or_self, wi_wi, wj_wj, hM.k]
                    repeat' (first | (with_reducible refine And.intro ?_ ?_) | (with_reducible intro))
                    all_goals (try (first | with_reducible assumption | omega | (unfold inI; omega) | (unfold inL; omega) | exact cz_in _ _))
                    all_goals (first | exact hn _ _ | (exfalso; omega) | skip)
              have hi := inner a (by omega) (Nat.le_refl _) f t hsp (fun b' y1 y2 => by omega)
              rw [Int.sub_self] at hi
              refine s_X8_span_138 x ok _ _ _ _ ?_
              simp only [wpS, o_c, o_cl, o_il, o_ll, o_al, o_is, o_ls, o_as, o_inc, o_add, o_sub, o_mul, o_and, o_or, o_xor, o_shl, o_shr, o_div, o_neg, o_ladd, o_lsub, o_lmul, o_ldiv, o_lrem, o_lneg, o_lcmp, o_i2l, o_l2i, o_dup, o_dup2, o_pop, o_go, o_nn, o_sw, swc, o_iret, o_zret, o_lret, o_vret, o_ieq, o_eq0, o_ine, o_ne0, o_ilt, o_lt0, o_ige, o_ge0, o_igt, o_gt0, o_ile, o_le0, o_iald, o_zald, o_lald, o_aald, o_iast, o_zast, o_last, o_aast, o_alen, o_gi, o_gr, o_pi, o_pz, o_pr, o_new, o_newa, o_copy, o_oinit, o_call, o_callV, o_callVc, o_callI, popn, cnO, o_BAD, lgt, lst, isL, kil, st1, st2, entL, List.length_nil, List.length_cons, List.replicate, Nat.reduceAdd, Nat.reduceLeDiff, Nat.reduceSub, true_and, and_true, Nat.zero_le, ne_eq, qk_wi, ql_wi, qr_wi, qj_wi, qt_wi, qk_wj, ql_wj, qr_wj, qi_wj, qt_wj, qk_wr, ql_wr, qi_wr, qj_wr, qt_wr, qi_ws, qj_ws, qr_ws, Int.toNat_natCast, Int.toNat_zero, Int.reduceToNat, not_true_eq_false, not_false_eq_true, false_implies, implies_true, Option.some.injEq, reduceCtorEq, Sp0, true_or, or_true, or_self, wi_wi, wj_wj, hM.k, cH_k, cH_l, cH_r, cH_i, cH_7, hM.r6, hM.k7, hM.l7, hua, cz_in, cz_lt, cz_le, cz_gt, cz_ge, cz_eq]
              repeat' (first | (with_reducible refine And.intro ?_ ?_) | (with_reducible intro))
              all_goals (try (first | with_reducible assumption | omega | (unfold inI; omega) | (unfold inL; omega) | exact cz_in _ _))
              all_goals (try (exfalso; omega))
              refine s_X8_span_160 x ok _ _ _ _ ?_
              simp only [wpS, o_c, o_cl, o_il, o_ll, o_al, o_is, o_ls, o_as, o_inc, o_add, o_sub, o_mul, o_and, o_or, o_xor, o_shl, o_shr, o_div, o_neg, o_ladd, o_lsub, o_lmul, o_ldiv, o_lrem, o_lneg, o_lcmp, o_i2l, o_l2i, o_dup, o_dup2, o_pop, o_go, o_nn, o_sw, swc, o_iret, o_zret, o_lret, o_vret, o_ieq, o_eq0, o_ine, o_ne0, o_ilt, o_lt0, o_ige, o_ge0, o_igt, o_gt0, o_ile, o_le0, o_iald, o_zald, o_lald, o_aald, o_iast, o_zast, o_last, o_aast, o_alen, o_gi, o_gr, o_pi, o_pz, o_pr, o_new, o_newa, o_copy, o_oinit, o_call, o_callV, o_callVc, o_callI, popn, cnO, o_BAD, lgt, lst, isL, kil, st1, st2, entL, List.length_nil, List.length_cons, List.replicate, Nat.reduceAdd, Nat.reduceLeDiff, Nat.reduceSub, true_and, and_true, Nat.zero_le, ne_eq, qk_wi, ql_wi, qr_wi, qj_wi, qt_wi, qk_wj, ql_wj, qr_wj, qi_wj, qt_wj, qk_wr, ql_wr, qi_wr, qj_wr, qt_wr, qi_ws, qj_ws, qr_ws, Int.toNat_natCast, Int.toNat_zero, Int.reduceToNat, not_true_eq_false, not_false_eq_true, false_implies, implies_true, Option.some.injEq, reduceCtorEq, Sp0, true_or, or_true, or_self, wi_wi, wj_wj, hM.k]
              repeat' (first | (with_reducible refine And.intro ?_ ?_) | (with_reducible intro))
              all_goals (try (first | with_reducible assumption | omega | (unfold inI; omega) | (unfold inL; omega) | exact cz_in _ _))
              all_goals (first | exact hi | skip)
        have high : ∀ i, i ≤ W - H → ∀ u z : Nat → Int, (∀ k, k < W + 1 → u k = g k) → V i_X8_span x 108 [some (vr (some y)), some (vi C), some (vi p), some (vi v), some (vi w), some (vl A), none, some (vi W), some (vi L), some (vi ((W : Int) - i)), none, none, none, none, none, none] [] (cH h y u z) (0, 0) := by
          refine bwd _ ?_ ?_
          · intro u z hu
            have hn := outer L (by omega) u z L H hu hst (Nat.le_refl _)
            have hub := hu H (by omega)
            have h0b := hnn H
            have h1b := hgk H (by omega)
            have e1 : (W : Int) - ((W - H : Nat) : Int) = (H : Int) := by omega
            rw [e1]
            refine s_X8_span_108 x ok _ _ _ _ ?_
            simp only [wpS, o_c, o_cl, o_il, o_ll, o_al, o_is, o_ls, o_as, o_inc, o_add, o_sub, o_mul, o_and, o_or, o_xor, o_shl, o_shr, o_div, o_neg, o_ladd, o_lsub, o_lmul, o_ldiv, o_lrem, o_lneg, o_lcmp, o_i2l, o_l2i, o_dup, o_dup2, o_pop, o_go, o_nn, o_sw, swc, o_iret, o_zret, o_lret, o_vret, o_ieq, o_eq0, o_ine, o_ne0, o_ilt, o_lt0, o_ige, o_ge0, o_igt, o_gt0, o_ile, o_le0, o_iald, o_zald, o_lald, o_aald, o_iast, o_zast, o_last, o_aast, o_alen, o_gi, o_gr, o_pi, o_pz, o_pr, o_new, o_newa, o_copy, o_oinit, o_call, o_callV, o_callVc, o_callI, popn, cnO, o_BAD, lgt, lst, isL, kil, st1, st2, entL, List.length_nil, List.length_cons, List.replicate, Nat.reduceAdd, Nat.reduceLeDiff, Nat.reduceSub, true_and, and_true, Nat.zero_le, ne_eq, qk_wi, ql_wi, qr_wi, qj_wi, qt_wi, qk_wj, ql_wj, qr_wj, qi_wj, qt_wj, qk_wr, ql_wr, qi_wr, qj_wr, qt_wr, qi_ws, qj_ws, qr_ws, Int.toNat_natCast, Int.toNat_zero, Int.reduceToNat, not_true_eq_false, not_false_eq_true, false_implies, implies_true, Option.some.injEq, reduceCtorEq, Sp0, true_or, or_true, or_self, wi_wi, wj_wj, hM.k, cH_k, cH_l, cH_r, cH_i, cH_7, hM.r6, hM.k7, hM.l7, hub, cz_in, cz_lt, cz_le, cz_gt, cz_ge, cz_eq]
            repeat' (first | (with_reducible refine And.intro ?_ ?_) | (with_reducible intro))
            all_goals (try (first | with_reducible assumption | omega | (unfold inI; omega) | (unfold inL; omega) | exact cz_in _ _))
            all_goals (try (exfalso; omega))
            refine s_X8_span_126 x ok _ _ _ _ ?_
            simp only [wpS, o_c, o_cl, o_il, o_ll, o_al, o_is, o_ls, o_as, o_inc, o_add, o_sub, o_mul, o_and, o_or, o_xor, o_shl, o_shr, o_div, o_neg, o_ladd, o_lsub, o_lmul, o_ldiv, o_lrem, o_lneg, o_lcmp, o_i2l, o_l2i, o_dup, o_dup2, o_pop, o_go, o_nn, o_sw, swc, o_iret, o_zret, o_lret, o_vret, o_ieq, o_eq0, o_ine, o_ne0, o_ilt, o_lt0, o_ige, o_ge0, o_igt, o_gt0, o_ile, o_le0, o_iald, o_zald, o_lald, o_aald, o_iast, o_zast, o_last, o_aast, o_alen, o_gi, o_gr, o_pi, o_pz, o_pr, o_new, o_newa, o_copy, o_oinit, o_call, o_callV, o_callVc, o_callI, popn, cnO, o_BAD, lgt, lst, isL, kil, st1, st2, entL, List.length_nil, List.length_cons, List.replicate, Nat.reduceAdd, Nat.reduceLeDiff, Nat.reduceSub, true_and, and_true, Nat.zero_le, ne_eq, qk_wi, ql_wi, qr_wi, qj_wi, qt_wi, qk_wj, ql_wj, qr_wj, qi_wj, qt_wj, qk_wr, ql_wr, qi_wr, qj_wr, qt_wr, qi_ws, qj_ws, qr_ws, Int.toNat_natCast, Int.toNat_zero, Int.reduceToNat, not_true_eq_false, not_false_eq_true, false_implies, implies_true, Option.some.injEq, reduceCtorEq, Sp0, true_or, or_true, or_self, wi_wi, wj_wj, hM.k]
            repeat' (first | (with_reducible refine And.intro ?_ ?_) | (with_reducible intro))
            all_goals (try (first | with_reducible assumption | omega | (unfold inI; omega) | (unfold inL; omega) | exact cz_in _ _))
            all_goals (first | exact hn _ _ _ | skip)
          · intro i hi ih u z hu
            obtain ⟨k, hk⟩ : ∃ k : Nat, (W : Int) - i = (k : Int) := ⟨W - i, by omega⟩
            have hub := hu k (by omega)
            rw [h3 k (by omega) (by omega)] at hub
            have hn := ih u z hu
            have e1 : (W : Int) - ((i + 1 : Nat) : Int) = (k : Int) + -1 := by omega
            rw [e1] at hn
            rw [hk]
            refine s_X8_span_108 x ok _ _ _ _ ?_
            simp only [wpS, o_c, o_cl, o_il, o_ll, o_al, o_is, o_ls, o_as, o_inc, o_add, o_sub, o_mul, o_and, o_or, o_xor, o_shl, o_shr, o_div, o_neg, o_ladd, o_lsub, o_lmul, o_ldiv, o_lrem, o_lneg, o_lcmp, o_i2l, o_l2i, o_dup, o_dup2, o_pop, o_go, o_nn, o_sw, swc, o_iret, o_zret, o_lret, o_vret, o_ieq, o_eq0, o_ine, o_ne0, o_ilt, o_lt0, o_ige, o_ge0, o_igt, o_gt0, o_ile, o_le0, o_iald, o_zald, o_lald, o_aald, o_iast, o_zast, o_last, o_aast, o_alen, o_gi, o_gr, o_pi, o_pz, o_pr, o_new, o_newa, o_copy, o_oinit, o_call, o_callV, o_callVc, o_callI, popn, cnO, o_BAD, lgt, lst, isL, kil, st1, st2, entL, List.length_nil, List.length_cons, List.replicate, Nat.reduceAdd, Nat.reduceLeDiff, Nat.reduceSub, true_and, and_true, Nat.zero_le, ne_eq, qk_wi, ql_wi, qr_wi, qj_wi, qt_wi, qk_wj, ql_wj, qr_wj, qi_wj, qt_wj, qk_wr, ql_wr, qi_wr, qj_wr, qt_wr, qi_ws, qj_ws, qr_ws, Int.toNat_natCast, Int.toNat_zero, Int.reduceToNat, not_true_eq_false, not_false_eq_true, false_implies, implies_true, Option.some.injEq, reduceCtorEq, Sp0, true_or, or_true, or_self, wi_wi, wj_wj, hM.k, cH_k, cH_l, cH_r, cH_i, cH_7, hM.r6, hM.k7, hM.l7, hub, cz_in, cz_lt, cz_le, cz_gt, cz_ge, cz_eq]
            repeat' (first | (with_reducible refine And.intro ?_ ?_) | (with_reducible intro))
            all_goals (try (first | with_reducible assumption | omega | (unfold inI; omega) | (unfold inL; omega) | exact cz_in _ _))
            all_goals (first | exact hn | (exfalso; omega) | skip)
        have low : ∀ j, j ≤ L → ∀ u z : Nat → Int, (∀ k, k < W + 1 → u k = g k) → V i_X8_span x 90 [some (vr (some y)), some (vi C), some (vi p), some (vi v), some (vi w), some (vl A), none, some (vi W), some (vi j), some (vi W), none, none, none, none, none, none] [] (cH h y u z) (0, 0) := by
          refine bwd _ ?_ ?_
          · intro u z hu
            have hn := high 0 (by omega) u z hu
            have e1 : (W : Int) - ((0 : Nat) : Int) = (W : Int) := Int.sub_zero _
            rw [e1] at hn
            have hub := hu L (by omega)
            have h0b := hnn L
            have h1b := hgk L (by omega)
            refine s_X8_span_90 x ok _ _ _ _ ?_
            simp only [wpS, o_c, o_cl, o_il, o_ll, o_al, o_is, o_ls, o_as, o_inc, o_add, o_sub, o_mul, o_and, o_or, o_xor, o_shl, o_shr, o_div, o_neg, o_ladd, o_lsub, o_lmul, o_ldiv, o_lrem, o_lneg, o_lcmp, o_i2l, o_l2i, o_dup, o_dup2, o_pop, o_go, o_nn, o_sw, swc, o_iret, o_zret, o_lret, o_vret, o_ieq, o_eq0, o_ine, o_ne0, o_ilt, o_lt0, o_ige, o_ge0, o_igt, o_gt0, o_ile, o_le0, o_iald, o_zald, o_lald, o_aald, o_iast, o_zast, o_last, o_aast, o_alen, o_gi, o_gr, o_pi, o_pz, o_pr, o_new, o_newa, o_copy, o_oinit, o_call, o_callV, o_callVc, o_callI, popn, cnO, o_BAD, lgt, lst, isL, kil, st1, st2, entL, List.length_nil, List.length_cons, List.replicate, Nat.reduceAdd, Nat.reduceLeDiff, Nat.reduceSub, true_and, and_true, Nat.zero_le, ne_eq, qk_wi, ql_wi, qr_wi, qj_wi, qt_wi, qk_wj, ql_wj, qr_wj, qi_wj, qt_wj, qk_wr, ql_wr, qi_wr, qj_wr, qt_wr, qi_ws, qj_ws, qr_ws, Int.toNat_natCast, Int.toNat_zero, Int.reduceToNat, not_true_eq_false, not_false_eq_true, false_implies, implies_true, Option.some.injEq, reduceCtorEq, Sp0, true_or, or_true, or_self, wi_wi, wj_wj, hM.k, cH_k, cH_l, cH_r, cH_i, cH_7, hM.r6, hM.k7, hM.l7, hub, cz_in, cz_lt, cz_le, cz_gt, cz_ge, cz_eq]
            repeat' (first | (with_reducible refine And.intro ?_ ?_) | (with_reducible intro))
            all_goals (try (first | with_reducible assumption | omega | (unfold inI; omega) | (unfold inL; omega) | exact cz_in _ _))
            all_goals (first | exact hn | (exfalso; omega) | skip)
          · intro j hj ih u z hu
            have hub := hu j (by omega)
            rw [l3 j hj] at hub
            have hn := ih u z hu
            refine s_X8_span_90 x ok _ _ _ _ ?_
            simp only [wpS, o_c, o_cl, o_il, o_ll, o_al, o_is, o_ls, o_as, o_inc, o_add, o_sub, o_mul, o_and, o_or, o_xor, o_shl, o_shr, o_div, o_neg, o_ladd, o_lsub, o_lmul, o_ldiv, o_lrem, o_lneg, o_lcmp, o_i2l, o_l2i, o_dup, o_dup2, o_pop, o_go, o_nn, o_sw, swc, o_iret, o_zret, o_lret, o_vret, o_ieq, o_eq0, o_ine, o_ne0, o_ilt, o_lt0, o_ige, o_ge0, o_igt, o_gt0, o_ile, o_le0, o_iald, o_zald, o_lald, o_aald, o_iast, o_zast, o_last, o_aast, o_alen, o_gi, o_gr, o_pi, o_pz, o_pr, o_new, o_newa, o_copy, o_oinit, o_call, o_callV, o_callVc, o_callI, popn, cnO, o_BAD, lgt, lst, isL, kil, st1, st2, entL, List.length_nil, List.length_cons, List.replicate, Nat.reduceAdd, Nat.reduceLeDiff, Nat.reduceSub, true_and, and_true, Nat.zero_le, ne_eq, qk_wi, ql_wi, qr_wi, qj_wi, qt_wi, qk_wj, ql_wj, qr_wj, qi_wj, qt_wj, qk_wr, ql_wr, qi_wr, qj_wr, qt_wr, qi_ws, qj_ws, qr_ws, Int.toNat_natCast, Int.toNat_zero, Int.reduceToNat, not_true_eq_false, not_false_eq_true, false_implies, implies_true, Option.some.injEq, reduceCtorEq, Sp0, true_or, or_true, or_self, wi_wi, wj_wj, hM.k, cH_k, cH_l, cH_r, cH_i, cH_7, hM.r6, hM.k7, hM.l7, hub, cz_in, cz_lt, cz_le, cz_gt, cz_ge, cz_eq]
            repeat' (first | (with_reducible refine And.intro ?_ ?_) | (with_reducible intro))
            all_goals (try (first | with_reducible assumption | omega | (unfold inI; omega) | (unfold inL; omega) | exact cz_in _ _))
            all_goals (first | exact hn | (exfalso; omega) | skip)
        have h69 : V i_X8_span x 69 [some (vr (some y)), some (vi C), some (vi p), some (vi v), some (vi w), some (vl A), none, none, none, none, none, none, none, none, none, none] [] h (0, 0) := by
          refine s_X8_span_69 x ok _ _ _ _ ?_
          simp only [wpS, o_c, o_cl, o_il, o_ll, o_al, o_is, o_ls, o_as, o_inc, o_add, o_sub, o_mul, o_and, o_or, o_xor, o_shl, o_shr, o_div, o_neg, o_ladd, o_lsub, o_lmul, o_ldiv, o_lrem, o_lneg, o_lcmp, o_i2l, o_l2i, o_dup, o_dup2, o_pop, o_go, o_nn, o_sw, swc, o_iret, o_zret, o_lret, o_vret, o_ieq, o_eq0, o_ine, o_ne0, o_ilt, o_lt0, o_ige, o_ge0, o_igt, o_gt0, o_ile, o_le0, o_iald, o_zald, o_lald, o_aald, o_iast, o_zast, o_last, o_aast, o_alen, o_gi, o_gr, o_pi, o_pz, o_pr, o_new, o_newa, o_copy, o_oinit, o_call, o_callV, o_callVc, o_callI, popn, cnO, o_BAD, lgt, lst, isL, kil, st1, st2, entL, List.length_nil, List.length_cons, List.replicate, Nat.reduceAdd, Nat.reduceLeDiff, Nat.reduceSub, true_and, and_true, Nat.zero_le, ne_eq, qk_wi, ql_wi, qr_wi, qj_wi, qt_wi, qk_wj, ql_wj, qr_wj, qi_wj, qt_wj, qk_wr, ql_wr, qi_wr, qj_wr, qt_wr, qi_ws, qj_ws, qr_ws, Int.toNat_natCast, Int.toNat_zero, Int.reduceToNat, not_true_eq_false, not_false_eq_true, false_implies, implies_true, Option.some.injEq, reduceCtorEq, Sp0, true_or, or_true, or_self, wi_wi, wj_wj, hM.k]
          repeat' (first | (with_reducible refine And.intro ?_ ?_) | (with_reducible intro))
          all_goals (try (first | with_reducible assumption | omega | (unfold inI; omega) | (unfold inL; omega) | exact cz_in _ _))
          refine c8_counts hM (by rw [hD]; exact hI) hC hC (.inl rfl) (by rw [hD]; exact hcnt.1) (by rw [hD, hW, Int.toNat_natCast]; exact hcnt.2) (fun u v hu => ?_)
          rw [hD, hW, Int.toNat_natCast] at hu
          simp only [wpS, o_c, o_cl, o_il, o_ll, o_al, o_is, o_ls, o_as, o_inc, o_add, o_sub, o_mul, o_and, o_or, o_xor, o_shl, o_shr, o_div, o_neg, o_ladd, o_lsub, o_lmul, o_ldiv, o_lrem, o_lneg, o_lcmp, o_i2l, o_l2i, o_dup, o_dup2, o_pop, o_go, o_nn, o_sw, swc, o_iret, o_zret, o_lret, o_vret, o_ieq, o_eq0, o_ine, o_ne0, o_ilt, o_lt0, o_ige, o_ge0, o_igt, o_gt0, o_ile, o_le0, o_iald, o_zald, o_lald, o_aald, o_iast, o_zast, o_last, o_aast, o_alen, o_gi, o_gr, o_pi, o_pz, o_pr, o_new, o_newa, o_copy, o_oinit, o_call, o_callV, o_callVc, o_callI, popn, cnO, o_BAD, lgt, lst, isL, kil, st1, st2, entL, List.length_nil, List.length_cons, List.replicate, Nat.reduceAdd, Nat.reduceLeDiff, Nat.reduceSub, true_and, and_true, Nat.zero_le, ne_eq, qk_wi, ql_wi, qr_wi, qj_wi, qt_wi, qk_wj, ql_wj, qr_wj, qi_wj, qt_wj, qk_wr, ql_wr, qi_wr, qj_wr, qt_wr, qi_ws, qj_ws, qr_ws, Int.toNat_natCast, Int.toNat_zero, Int.reduceToNat, not_true_eq_false, not_false_eq_true, false_implies, implies_true, Option.some.injEq, reduceCtorEq, Sp0, true_or, or_true, or_self, wi_wi, wj_wj, hM.k, cH_k]
          repeat' (first | (with_reducible refine And.intro ?_ ?_) | (with_reducible intro))
          all_goals (try (first | with_reducible assumption | omega | (unfold inI; omega) | (unfold inL; omega) | exact cz_in _ _))
          refine c8_wide (hM2 _ _) (hI2 _ _) hC ?_
          rw [hD2, hW]
          simp only [wpS, o_c, o_cl, o_il, o_ll, o_al, o_is, o_ls, o_as, o_inc, o_add, o_sub, o_mul, o_and, o_or, o_xor, o_shl, o_shr, o_div, o_neg, o_ladd, o_lsub, o_lmul, o_ldiv, o_lrem, o_lneg, o_lcmp, o_i2l, o_l2i, o_dup, o_dup2, o_pop, o_go, o_nn, o_sw, swc, o_iret, o_zret, o_lret, o_vret, o_ieq, o_eq0, o_ine, o_ne0, o_ilt, o_lt0, o_ige, o_ge0, o_igt, o_gt0, o_ile, o_le0, o_iald, o_zald, o_lald, o_aald, o_iast, o_zast, o_last, o_aast, o_alen, o_gi, o_gr, o_pi, o_pz, o_pr, o_new, o_newa, o_copy, o_oinit, o_call, o_callV, o_callVc, o_callI, popn, cnO, o_BAD, lgt, lst, isL, kil, st1, st2, entL, List.length_nil, List.length_cons, List.replicate, Nat.reduceAdd, Nat.reduceLeDiff, Nat.reduceSub, true_and, and_true, Nat.zero_le, ne_eq, qk_wi, ql_wi, qr_wi, qj_wi, qt_wi, qk_wj, ql_wj, qr_wj, qi_wj, qt_wj, qk_wr, ql_wr, qi_wr, qj_wr, qt_wr, qi_ws, qj_ws, qr_ws, Int.toNat_natCast, Int.toNat_zero, Int.reduceToNat, not_true_eq_false, not_false_eq_true, false_implies, implies_true, Option.some.injEq, reduceCtorEq, Sp0, true_or, or_true, or_self, wi_wi, wj_wj, hM.k]
          repeat' (first | (with_reducible refine And.intro ?_ ?_) | (with_reducible intro))
          all_goals (try (first | with_reducible assumption | omega | (unfold inI; omega) | (unfold inL; omega) | exact cz_in _ _))
          all_goals (first | exact low 0 (by omega) u v (hcntu u hu) | skip)
        simp only [wpS, o_c, o_cl, o_il, o_ll, o_al, o_is, o_ls, o_as, o_inc, o_add, o_sub, o_mul, o_and, o_or, o_xor, o_shl, o_shr, o_div, o_neg, o_ladd, o_lsub, o_lmul, o_ldiv, o_lrem, o_lneg, o_lcmp, o_i2l, o_l2i, o_dup, o_dup2, o_pop, o_go, o_nn, o_sw, swc, o_iret, o_zret, o_lret, o_vret, o_ieq, o_eq0, o_ine, o_ne0, o_ilt, o_lt0, o_ige, o_ge0, o_igt, o_gt0, o_ile, o_le0, o_iald, o_zald, o_lald, o_aald, o_iast, o_zast, o_last, o_aast, o_alen, o_gi, o_gr, o_pi, o_pz, o_pr, o_new, o_newa, o_copy, o_oinit, o_call, o_callV, o_callVc, o_callI, popn, cnO, o_BAD, lgt, lst, isL, kil, st1, st2, entL, List.length_nil, List.length_cons, List.replicate, Nat.reduceAdd, Nat.reduceLeDiff, Nat.reduceSub, true_and, and_true, Nat.zero_le, ne_eq, qk_wi, ql_wi, qr_wi, qj_wi, qt_wi, qk_wj, ql_wj, qr_wj, qi_wj, qt_wj, qk_wr, ql_wr, qi_wr, qj_wr, qt_wr, qi_ws, qj_ws, qr_ws, Int.toNat_natCast, Int.toNat_zero, Int.reduceToNat, not_true_eq_false, not_false_eq_true, false_implies, implies_true, Option.some.injEq, reduceCtorEq, Sp0, true_or, or_true, or_self, wi_wi, wj_wj, hM.k, cz_in, cz_lt, cz_le, cz_gt, cz_ge, cz_eq]
        repeat' (first | (with_reducible refine And.intro ?_ ?_) | (with_reducible intro))
        all_goals (try (first | with_reducible assumption | omega | (unfold inI; omega) | (unfold inL; omega) | exact cz_in _ _))
        all_goals (first | exact h69 | (exfalso; omega) | skip)
    all_goals (try ((first | (refine s_X8_span_0 x ok _ _ _ _ ?_) | (refine s_X8_span_46 x ok _ _ _ _ ?_) | (refine s_X8_span_49 x ok _ _ _ _ ?_) | (refine s_X8_span_69 x ok _ _ _ _ ?_) | (refine s_X8_span_126 x ok _ _ _ _ ?_) | (refine s_X8_span_160 x ok _ _ _ _ ?_) | (refine s_X8_span_231 x ok _ _ _ _ ?_) | (refine s_X8_span_239 x ok _ _ _ _ ?_) | (refine s_X8_span_245 x ok _ _ _ _ ?_) | (refine s_X8_span_251 x ok _ _ _ _ ?_) | (refine s_X8_span_267 x ok _ _ _ _ ?_) | (refine s_X8_span_269 x ok _ _ _ _ ?_) | (refine c_rg ?_)); (try simp only [wpS, o_c, o_cl, o_il, o_ll, o_al, o_is, o_ls, o_as, o_inc, o_add, o_sub, o_mul, o_and, o_or, o_xor, o_shl, o_shr, o_div, o_neg, o_ladd, o_lsub, o_lmul, o_ldiv, o_lrem, o_lneg, o_lcmp, o_i2l, o_l2i, o_dup, o_dup2, o_pop, o_go, o_nn, o_sw, swc, o_iret, o_zret, o_lret, o_vret, o_ieq, o_eq0, o_ine, o_ne0, o_ilt, o_lt0, o_ige, o_ge0, o_igt, o_gt0, o_ile, o_le0, o_iald, o_zald, o_lald, o_aald, o_iast, o_zast, o_last, o_aast, o_alen, o_gi, o_gr, o_pi, o_pz, o_pr, o_new, o_newa, o_copy, o_oinit, o_call, o_callV, o_callVc, o_callI, popn, cnO, o_BAD, lgt, lst, isL, kil, st1, st2, entL, List.length_nil, List.length_cons, List.replicate, Nat.reduceAdd, Nat.reduceLeDiff, Nat.reduceSub, true_and, and_true, Nat.zero_le, ne_eq, qk_wi, ql_wi, qr_wi, qj_wi, qt_wi, qk_wj, ql_wj, qr_wj, qi_wj, qt_wj, qk_wr, ql_wr, qi_wr, qj_wr, qt_wr, qi_ws, qj_ws, qr_ws, Int.toNat_natCast, Int.toNat_zero, Int.reduceToNat, not_true_eq_false, not_false_eq_true, false_implies, implies_true, Option.some.injEq, reduceCtorEq, Sp0, true_or, or_true, or_self, wi_wi, wj_wj, hM.k]); (repeat' (first | (with_reducible refine And.intro ?_ ?_) | (with_reducible intro))); (all_goals (try (first | with_reducible assumption | omega | (unfold inI; omega) | (unfold inL; omega) | exact cz_in _ _)))))
    all_goals (first | exact h49 | (exfalso; omega) | skip)
    all_goals (all_goals (try ((first | (refine s_X8_span_0 x ok _ _ _ _ ?_) | (refine s_X8_span_46 x ok _ _ _ _ ?_) | (refine s_X8_span_49 x ok _ _ _ _ ?_) | (refine s_X8_span_69 x ok _ _ _ _ ?_) | (refine s_X8_span_126 x ok _ _ _ _ ?_) | (refine s_X8_span_160 x ok _ _ _ _ ?_) | (refine s_X8_span_231 x ok _ _ _ _ ?_) | (refine s_X8_span_239 x ok _ _ _ _ ?_) | (refine s_X8_span_245 x ok _ _ _ _ ?_) | (refine s_X8_span_251 x ok _ _ _ _ ?_) | (refine s_X8_span_267 x ok _ _ _ _ ?_) | (refine s_X8_span_269 x ok _ _ _ _ ?_) | (refine c_rg ?_)); (try simp only [wpS, o_c, o_cl, o_il, o_ll, o_al, o_is, o_ls, o_as, o_inc, o_add, o_sub, o_mul, o_and, o_or, o_xor, o_shl, o_shr, o_div, o_neg, o_ladd, o_lsub, o_lmul, o_ldiv, o_lrem, o_lneg, o_lcmp, o_i2l, o_l2i, o_dup, o_dup2, o_pop, o_go, o_nn, o_sw, swc, o_iret, o_zret, o_lret, o_vret, o_ieq, o_eq0, o_ine, o_ne0, o_ilt, o_lt0, o_ige, o_ge0, o_igt, o_gt0, o_ile, o_le0, o_iald, o_zald, o_lald, o_aald, o_iast, o_zast, o_last, o_aast, o_alen, o_gi, o_gr, o_pi, o_pz, o_pr, o_new, o_newa, o_copy, o_oinit, o_call, o_callV, o_callVc, o_callI, popn, cnO, o_BAD, lgt, lst, isL, kil, st1, st2, entL, List.length_nil, List.length_cons, List.replicate, Nat.reduceAdd, Nat.reduceLeDiff, Nat.reduceSub, true_and, and_true, Nat.zero_le, ne_eq, qk_wi, ql_wi, qr_wi, qj_wi, qt_wi, qk_wj, ql_wj, qr_wj, qi_wj, qt_wj, qk_wr, ql_wr, qi_wr, qj_wr, qt_wr, qi_ws, qj_ws, qr_ws, Int.toNat_natCast, Int.toNat_zero, Int.reduceToNat, not_true_eq_false, not_false_eq_true, false_implies, implies_true, Option.some.injEq, reduceCtorEq, Sp0, true_or, or_true, or_self, wi_wi, wj_wj, hM.k]); (repeat' (first | (with_reducible refine And.intro ?_ ?_) | (with_reducible intro))); (all_goals (try (first | with_reducible assumption | omega | (unfold inI; omega) | (unfold inL; omega) | exact cz_in _ _))))))
    all_goals (first | exact h49 | (exfalso; omega) | skip)
    all_goals (all_goals (try ((first | (refine s_X8_span_0 x ok _ _ _ _ ?_) | (refine s_X8_span_46 x ok _ _ _ _ ?_) | (refine s_X8_span_49 x ok _ _ _ _ ?_) | (refine s_X8_span_69 x ok _ _ _ _ ?_) | (refine s_X8_span_126 x ok _ _ _ _ ?_) | (refine s_X8_span_160 x ok _ _ _ _ ?_) | (refine s_X8_span_231 x ok _ _ _ _ ?_) | (refine s_X8_span_239 x ok _ _ _ _ ?_) | (refine s_X8_span_245 x ok _ _ _ _ ?_) | (refine s_X8_span_251 x ok _ _ _ _ ?_) | (refine s_X8_span_267 x ok _ _ _ _ ?_) | (refine s_X8_span_269 x ok _ _ _ _ ?_) | (refine c_rg ?_)); (try simp only [wpS, o_c, o_cl, o_il, o_ll, o_al, o_is, o_ls, o_as, o_inc, o_add, o_sub, o_mul, o_and, o_or, o_xor, o_shl, o_shr, o_div, o_neg, o_ladd, o_lsub, o_lmul, o_ldiv, o_lrem, o_lneg, o_lcmp, o_i2l, o_l2i, o_dup, o_dup2, o_pop, o_go, o_nn, o_sw, swc, o_iret, o_zret, o_lret, o_vret, o_ieq, o_eq0, o_ine, o_ne0, o_ilt, o_lt0, o_ige, o_ge0, o_igt, o_gt0, o_ile, o_le0, o_iald, o_zald, o_lald, o_aald, o_iast, o_zast, o_last, o_aast, o_alen, o_gi, o_gr, o_pi, o_pz, o_pr, o_new, o_newa, o_copy, o_oinit, o_call, o_callV, o_callVc, o_callI, popn, cnO, o_BAD, lgt, lst, isL, kil, st1, st2, entL, List.length_nil, List.length_cons, List.replicate, Nat.reduceAdd, Nat.reduceLeDiff, Nat.reduceSub, true_and, and_true, Nat.zero_le, ne_eq, qk_wi, ql_wi, qr_wi, qj_wi, qt_wi, qk_wj, ql_wj, qr_wj, qi_wj, qt_wj, qk_wr, ql_wr, qi_wr, qj_wr, qt_wr, qi_ws, qj_ws, qr_ws, Int.toNat_natCast, Int.toNat_zero, Int.reduceToNat, not_true_eq_false, not_false_eq_true, false_implies, implies_true, Option.some.injEq, reduceCtorEq, Sp0, true_or, or_true, or_self, wi_wi, wj_wj, hM.k]); (repeat' (first | (with_reducible refine And.intro ?_ ?_) | (with_reducible intro))); (all_goals (try (first | with_reducible assumption | omega | (unfold inI; omega) | (unfold inL; omega) | exact cz_in _ _))))))
    all_goals (first | exact h49 | (exfalso; omega) | skip)
  · have hk := hK1 q
    unfold spnOk at q
    all_goals (try ((first | (refine s_X8_span_0 x ok _ _ _ _ ?_) | (refine s_X8_span_46 x ok _ _ _ _ ?_) | (refine s_X8_span_49 x ok _ _ _ _ ?_) | (refine s_X8_span_69 x ok _ _ _ _ ?_) | (refine s_X8_span_126 x ok _ _ _ _ ?_) | (refine s_X8_span_160 x ok _ _ _ _ ?_) | (refine s_X8_span_231 x ok _ _ _ _ ?_) | (refine s_X8_span_239 x ok _ _ _ _ ?_) | (refine s_X8_span_245 x ok _ _ _ _ ?_) | (refine s_X8_span_251 x ok _ _ _ _ ?_) | (refine s_X8_span_267 x ok _ _ _ _ ?_) | (refine s_X8_span_269 x ok _ _ _ _ ?_) | (refine c_rg ?_)); (try simp only [wpS, o_c, o_cl, o_il, o_ll, o_al, o_is, o_ls, o_as, o_inc, o_add, o_sub, o_mul, o_and, o_or, o_xor, o_shl, o_shr, o_div, o_neg, o_ladd, o_lsub, o_lmul, o_ldiv, o_lrem, o_lneg, o_lcmp, o_i2l, o_l2i, o_dup, o_dup2, o_pop, o_go, o_nn, o_sw, swc, o_iret, o_zret, o_lret, o_vret, o_ieq, o_eq0, o_ine, o_ne0, o_ilt, o_lt0, o_ige, o_ge0, o_igt, o_gt0, o_ile, o_le0, o_iald, o_zald, o_lald, o_aald, o_iast, o_zast, o_last, o_aast, o_alen, o_gi, o_gr, o_pi, o_pz, o_pr, o_new, o_newa, o_copy, o_oinit, o_call, o_callV, o_callVc, o_callI, popn, cnO, o_BAD, lgt, lst, isL, kil, st1, st2, entL, List.length_nil, List.length_cons, List.replicate, Nat.reduceAdd, Nat.reduceLeDiff, Nat.reduceSub, true_and, and_true, Nat.zero_le, ne_eq, qk_wi, ql_wi, qr_wi, qj_wi, qt_wi, qk_wj, ql_wj, qr_wj, qi_wj, qt_wj, qk_wr, ql_wr, qi_wr, qj_wr, qt_wr, qi_ws, qj_ws, qr_ws, Int.toNat_natCast, Int.toNat_zero, Int.reduceToNat, not_true_eq_false, not_false_eq_true, false_implies, implies_true, Option.some.injEq, reduceCtorEq, Sp0, true_or, or_true, or_self, wi_wi, wj_wj, hM.k]); (repeat' (first | (with_reducible refine And.intro ?_ ?_) | (with_reducible intro))); (all_goals (try (first | with_reducible assumption | omega | (unfold inI; omega) | (unfold inL; omega) | exact cz_in _ _)))))
    all_goals (first | exact hk | (exfalso; omega) | skip)
    all_goals (all_goals (try ((first | (refine s_X8_span_0 x ok _ _ _ _ ?_) | (refine s_X8_span_46 x ok _ _ _ _ ?_) | (refine s_X8_span_49 x ok _ _ _ _ ?_) | (refine s_X8_span_69 x ok _ _ _ _ ?_) | (refine s_X8_span_126 x ok _ _ _ _ ?_) | (refine s_X8_span_160 x ok _ _ _ _ ?_) | (refine s_X8_span_231 x ok _ _ _ _ ?_) | (refine s_X8_span_239 x ok _ _ _ _ ?_) | (refine s_X8_span_245 x ok _ _ _ _ ?_) | (refine s_X8_span_251 x ok _ _ _ _ ?_) | (refine s_X8_span_267 x ok _ _ _ _ ?_) | (refine s_X8_span_269 x ok _ _ _ _ ?_) | (refine c_rg ?_)); (try simp only [wpS, o_c, o_cl, o_il, o_ll, o_al, o_is, o_ls, o_as, o_inc, o_add, o_sub, o_mul, o_and, o_or, o_xor, o_shl, o_shr, o_div, o_neg, o_ladd, o_lsub, o_lmul, o_ldiv, o_lrem, o_lneg, o_lcmp, o_i2l, o_l2i, o_dup, o_dup2, o_pop, o_go, o_nn, o_sw, swc, o_iret, o_zret, o_lret, o_vret, o_ieq, o_eq0, o_ine, o_ne0, o_ilt, o_lt0, o_ige, o_ge0, o_igt, o_gt0, o_ile, o_le0, o_iald, o_zald, o_lald, o_aald, o_iast, o_zast, o_last, o_aast, o_alen, o_gi, o_gr, o_pi, o_pz, o_pr, o_new, o_newa, o_copy, o_oinit, o_call, o_callV, o_callVc, o_callI, popn, cnO, o_BAD, lgt, lst, isL, kil, st1, st2, entL, List.length_nil, List.length_cons, List.replicate, Nat.reduceAdd, Nat.reduceLeDiff, Nat.reduceSub, true_and, and_true, Nat.zero_le, ne_eq, qk_wi, ql_wi, qr_wi, qj_wi, qt_wi, qk_wj, ql_wj, qr_wj, qi_wj, qt_wj, qk_wr, ql_wr, qi_wr, qj_wr, qt_wr, qi_ws, qj_ws, qr_ws, Int.toNat_natCast, Int.toNat_zero, Int.reduceToNat, not_true_eq_false, not_false_eq_true, false_implies, implies_true, Option.some.injEq, reduceCtorEq, Sp0, true_or, or_true, or_self, wi_wi, wj_wj, hM.k]); (repeat' (first | (with_reducible refine And.intro ?_ ?_) | (with_reducible intro))); (all_goals (try (first | with_reducible assumption | omega | (unfold inI; omega) | (unfold inL; omega) | exact cz_in _ _))))))
    all_goals (first | exact hk | (exfalso; omega) | skip)
    all_goals (all_goals (try ((first | (refine s_X8_span_0 x ok _ _ _ _ ?_) | (refine s_X8_span_46 x ok _ _ _ _ ?_) | (refine s_X8_span_49 x ok _ _ _ _ ?_) | (refine s_X8_span_69 x ok _ _ _ _ ?_) | (refine s_X8_span_126 x ok _ _ _ _ ?_) | (refine s_X8_span_160 x ok _ _ _ _ ?_) | (refine s_X8_span_231 x ok _ _ _ _ ?_) | (refine s_X8_span_239 x ok _ _ _ _ ?_) | (refine s_X8_span_245 x ok _ _ _ _ ?_) | (refine s_X8_span_251 x ok _ _ _ _ ?_) | (refine s_X8_span_267 x ok _ _ _ _ ?_) | (refine s_X8_span_269 x ok _ _ _ _ ?_) | (refine c_rg ?_)); (try simp only [wpS, o_c, o_cl, o_il, o_ll, o_al, o_is, o_ls, o_as, o_inc, o_add, o_sub, o_mul, o_and, o_or, o_xor, o_shl, o_shr, o_div, o_neg, o_ladd, o_lsub, o_lmul, o_ldiv, o_lrem, o_lneg, o_lcmp, o_i2l, o_l2i, o_dup, o_dup2, o_pop, o_go, o_nn, o_sw, swc, o_iret, o_zret, o_lret, o_vret, o_ieq, o_eq0, o_ine, o_ne0, o_ilt, o_lt0, o_ige, o_ge0, o_igt, o_gt0, o_ile, o_le0, o_iald, o_zald, o_lald, o_aald, o_iast, o_zast, o_last, o_aast, o_alen, o_gi, o_gr, o_pi, o_pz, o_pr, o_new, o_newa, o_copy, o_oinit, o_call, o_callV, o_callVc, o_callI, popn, cnO, o_BAD, lgt, lst, isL, kil, st1, st2, entL, List.length_nil, List.length_cons, List.replicate, Nat.reduceAdd, Nat.reduceLeDiff, Nat.reduceSub, true_and, and_true, Nat.zero_le, ne_eq, qk_wi, ql_wi, qr_wi, qj_wi, qt_wi, qk_wj, ql_wj, qr_wj, qi_wj, qt_wj, qk_wr, ql_wr, qi_wr, qj_wr, qt_wr, qi_ws, qj_ws, qr_ws, Int.toNat_natCast, Int.toNat_zero, Int.reduceToNat, not_true_eq_false, not_false_eq_true, false_implies, implies_true, Option.some.injEq, reduceCtorEq, Sp0, true_or, or_true, or_self, wi_wi, wj_wj, hM.k]); (repeat' (first | (with_reducible refine And.intro ?_ ?_) | (with_reducible intro))); (all_goals (try (first | with_reducible assumption | omega | (unfold inI; omega) | (unfold inL; omega) | exact cz_in _ _))))))
    all_goals (first | exact hk | (exfalso; omega) | skip)

/-! ===== FitBenchModel.round ===== -/
def rS {α : Type} (c : Nat → List α) : Nat → Nat → List α
  | _, 0 => []
  | m, k + 1 => c m ++ rS c (m + 1) k
theorem sumL_rS {α : Type} (c : Nat → List α) (m : Nat) : ∀ k, sumL c (m + k) = sumL c m ++ rS c m k := by
  intro k
  induction k generalizing m with
  | zero => rw [Nat.add_zero]; unfold rS; rw [List.append_nil]
  | succ k ih =>
    have := ih (m + 1)
    rw [show m + (k + 1) = m + 1 + k by omega, this]
    show (sumL c m ++ c m) ++ rS c (m + 1) k = sumL c m ++ (c m ++ rS c (m + 1) k)
    rw [List.append_assoc]
theorem rS_0 {α : Type} (c : Nat → List α) : rS c 0 12 = sumL c 12 := (sumL_rS c 0 12).symm
theorem rS_s {α : Type} (c : Nat → List α) {m : Nat} (h : m < 12) : rS c m (12 - m) = c m ++ rS c (m + 1) (12 - (m + 1)) := by
  rw [show 12 - m = 12 - (m + 1) + 1 by omega]
  rfl
/-- the steps that stand in the rows -/
def pre (d : Dd) (w b : Nat → Int) : Nat → Pth
  | 0 => []
  | n + 1 => pre d w b n ++ [((b n).toNat, dir d (b n).toNat (w n))]
theorem pre_c {d : Dd} {w w' b b' : Nat → Int} : ∀ {n : Nat}, (∀ k, k < n → w k = w' k ∧ b k = b' k) → pre d w b n = pre d w' b' n
  | 0, _ => rfl
  | n + 1, h => by
    unfold pre
    rw [pre_c (fun k hk => h k (by omega)), (h n (by omega)).1, (h n (by omega)).2]
theorem mark_app (q : Nat × Int) : ∀ (p : Pth) (t : Nat → Int), mark t (p ++ [q]) = fu (mark t p) q.1 q.2
  | [], t => rfl
  | (m, s) :: p, t => mark_app q p (fu t m s)
theorem pre_len {d : Dd} {w b : Nat → Int} : ∀ n, (pre d w b n).length = n
  | 0 => rfl
  | n + 1 => by unfold pre; rw [List.length_append, pre_len n, List.length_singleton]
def LF (L : List Pth) (f : Nat → Int) (g : Int) : Prop := ∀ p, L = [p] → (∀ k, k < 12 → f k = mark zz p k) ∧ g = p.length
theorem cnB_le (t : Nat → Bool) (n : Nat) : cnB t n ≤ n := by
  have := sg_le (f := fun k => if t k then (1 : Int) else 0) (c := 1) (n := n) (fun k _ => by split <;> omega)
  unfold cnB
  omega
theorem bit_or (N q : Nat) : (N ||| 2 ^ q).testBit = fu N.testBit q true := by
  funext k
  rw [Nat.testBit_or, Nat.testBit_two_pow]
  exact or_fu N.testBit q k
noncomputable def rdD (d : Dd) (c : Nat) (p : Pth) : Dd := fun k => if 1212 + 12 * c ≤ k ∧ k < 1212 + 12 * c + 12 then mark zz p (k - (1212 + 12 * c)) else d k
def rH (h : Hp) (y : Nat) (g w b f : Nat → Int) : Hp := wi (wi (wi (wi h (y + 1) g) (y + 3) w) (y + 4) b) (y + 5) f
theorem rH_1 {h : Hp} {y : Nat} {g w b f : Nat → Int} : qi (rH h y g w b f) (y + 1) = g := by unfold rH; rw [qi_wn (by omega), qi_wn (by omega), qi_wn (by omega), qi_ws]
theorem rH_3 {h : Hp} {y : Nat} {g w b f : Nat → Int} : qi (rH h y g w b f) (y + 3) = w := by unfold rH; rw [qi_wn (by omega), qi_wn (by omega), qi_ws]
theorem rH_4 {h : Hp} {y : Nat} {g w b f : Nat → Int} : qi (rH h y g w b f) (y + 4) = b := by unfold rH; rw [qi_wn (by omega), qi_ws]
theorem rH_5 {h : Hp} {y : Nat} {g w b f : Nat → Int} : qi (rH h y g w b f) (y + 5) = f := by unfold rH; rw [qi_ws]
theorem rW_1 {h : Hp} {y : Nat} {g w b f v : Nat → Int} : wi (rH h y g w b f) (y + 1) v = rH h y v w b f := by
  unfold rH
  rw [wi_comm _ (show y + 5 ≠ y + 1 by omega), wi_comm _ (show y + 4 ≠ y + 1 by omega), wi_comm _ (show y + 3 ≠ y + 1 by omega), wi_wi]
theorem rW_3 {h : Hp} {y : Nat} {g w b f v : Nat → Int} : wi (rH h y g w b f) (y + 3) v = rH h y g v b f := by
  unfold rH
  rw [wi_comm _ (show y + 5 ≠ y + 3 by omega), wi_comm _ (show y + 4 ≠ y + 3 by omega), wi_wi]
theorem rW_4 {h : Hp} {y : Nat} {g w b f v : Nat → Int} : wi (rH h y g w b f) (y + 4) v = rH h y g w v f := by
  unfold rH
  rw [wi_comm _ (show y + 5 ≠ y + 4 by omega), wi_wi]
theorem rW_5 {h : Hp} {y : Nat} {g w b f v : Nat → Int} : wi (rH h y g w b f) (y + 5) v = rH h y g w b v := by
  unfold rH
  rw [wi_wi]
theorem rH_k {h : Hp} {y : Nat} {g w b f : Nat → Int} : qk (rH h y g w b f) = qk h := rfl
theorem rH_l {h : Hp} {y : Nat} {g w b f : Nat → Int} : ql (rH h y g w b f) = ql h := rfl
theorem rH_r {h : Hp} {y : Nat} {g w b f : Nat → Int} : qr (rH h y g w b f) = qr h := rfl
def T_X8_round : TT := fun as h K => ∃ (y : Nat) (c f t : Int), as = [vr (some y), vi c, vi f, vi t] ∧ Mo h y ∧ Inv (qi h (y + 1)) ∧ inI c ∧ inI f ∧ inI t ∧ (¬ rdOk c f t → K (some (vi (-1))) h) ∧ (rdOk c f t → ∀ w b g : Nat → Int, (wys (qi h (y + 1)) f t = [] → K (some (vi 0)) (rH h y (qi h (y + 1)) w b g)) ∧ (2 ≤ (wys (qi h (y + 1)) f t).length → K (some (vi (-2))) (rH h y (qi h (y + 1)) w b g)) ∧ ∀ p, wys (qi h (y + 1)) f t = [p] → K (some (vi p.length)) (rH h y (rdD (qi h (y + 1)) c.toNat p) w b g))
abbrev i_X8_round : MI := (cX8_round, 10, RX8, (some .int), "round", 3)
theorem k_X8_round_0 : Okop i_X8_round 0 (o_il 1) 1 := k_iln (j := 1) (by decide +kernel)
theorem k_X8_round_1 : Okop i_X8_round 1 (o_call 1 T_X8_isChain) 4 := k_call (idx := 71) m_X8_isChain ⟨gw_748, gw_10, ⟨by decide, by decide, by decide +kernel⟩, by decide, by decide⟩ gw_746 gw_747 (by decide +kernel)
theorem k_X8_round_4 : Okop i_X8_round 4 (o_eq0 26) 7 := k_eq0 (off := 22) (by decide +kernel) (by decide)
theorem k_X8_round_7 : Okop i_X8_round 7 (o_il 2) 8 := k_iln (j := 2) (by decide +kernel)
theorem k_X8_round_8 : Okop i_X8_round 8 (o_call 1 T_X8_isFace) 11 := k_call (idx := 79) m_X8_isFace ⟨gw_769, gw_10, ⟨by decide, by decide, by decide +kernel⟩, by decide, by decide⟩ gw_767 gw_768 (by decide +kernel)
theorem k_X8_round_11 : Okop i_X8_round 11 (o_eq0 26) 14 := k_eq0 (off := 15) (by decide +kernel) (by decide)
theorem k_X8_round_14 : Okop i_X8_round 14 (o_il 3) 15 := k_iln (j := 3) (by decide +kernel)
theorem k_X8_round_15 : Okop i_X8_round 15 (o_call 1 T_X8_isFace) 18 := k_call (idx := 79) m_X8_isFace ⟨gw_769, gw_10, ⟨by decide, by decide, by decide +kernel⟩, by decide, by decide⟩ gw_767 gw_768 (by decide +kernel)
theorem k_X8_round_18 : Okop i_X8_round 18 (o_eq0 26) 21 := k_eq0 (off := 8) (by decide +kernel) (by decide)
theorem k_X8_round_21 : Okop i_X8_round 21 (o_il 2) 22 := k_iln (j := 2) (by decide +kernel)
theorem k_X8_round_22 : Okop i_X8_round 22 (o_il 3) 23 := k_iln (j := 3) (by decide +kernel)
theorem k_X8_round_23 : Okop i_X8_round 23 (o_ine 28) 26 := k_ine (off := 5) (by decide +kernel) (by decide)
theorem k_X8_round_26 : Okop i_X8_round 26 (o_c (-1)) 27 := k_iconst (by decide +kernel)
theorem k_X8_round_27 : Okop i_X8_round 27 (o_iret) 28 := k_iret (by decide +kernel) rfl
theorem k_X8_round_28 : Okop i_X8_round 28 (o_c 0) 29 := k_iconst (by decide +kernel)
theorem k_X8_round_29 : Okop i_X8_round 29 (o_is 4) 31 := k_is (by decide +kernel) (by decide)
theorem k_X8_round_31 : Okop i_X8_round 31 (o_c 0) 32 := k_iconst (by decide +kernel)
theorem k_X8_round_32 : Okop i_X8_round 32 (o_is 5) 34 := k_is (by decide +kernel) (by decide)
theorem k_X8_round_34 : Okop i_X8_round 34 (o_c 0) 35 := k_iconst (by decide +kernel)
theorem k_X8_round_35 : Okop i_X8_round 35 (o_is 6) 37 := k_is (by decide +kernel) (by decide)
theorem k_X8_round_37 : Okop i_X8_round 37 (o_al 0) 38 := k_aln (j := 0) (by decide +kernel)
theorem k_X8_round_38 : Okop i_X8_round 38 (o_gr 8 2) 41 := k_gr (idx := 17) fo_8 (by decide) (by decide) gw_662 (by decide +kernel)
theorem k_X8_round_41 : Okop i_X8_round 41 (o_c 0) 42 := k_iconst (by decide +kernel)
theorem k_X8_round_42 : Okop i_X8_round 42 (o_il 2) 43 := k_iln (j := 2) (by decide +kernel)
theorem k_X8_round_43 : Okop i_X8_round 43 (o_iast) 44 := k_iast (by decide +kernel)
theorem k_X8_round_44 : Okop i_X8_round 44 (o_al 0) 45 := k_aln (j := 0) (by decide +kernel)
theorem k_X8_round_45 : Okop i_X8_round 45 (o_gr 8 3) 48 := k_gr (idx := 20) fo_8 (by decide) (by decide) gw_663 (by decide +kernel)
theorem k_X8_round_48 : Okop i_X8_round 48 (o_c 0) 49 := k_iconst (by decide +kernel)
theorem k_X8_round_49 : Okop i_X8_round 49 (o_c (-1)) 50 := k_iconst (by decide +kernel)
theorem k_X8_round_50 : Okop i_X8_round 50 (o_iast) 51 := k_iast (by decide +kernel)
theorem k_X8_round_51 : Okop i_X8_round 51 (o_il 5) 53 := k_il (by decide +kernel)
theorem k_X8_round_53 : Okop i_X8_round 53 (o_lt0 296) 56 := k_lt0 (off := 243) (by decide +kernel) (by decide)
theorem k_X8_round_56 : Okop i_X8_round 56 (o_il 4) 58 := k_il (by decide +kernel)
theorem k_X8_round_58 : Okop i_X8_round 58 (o_c 2) 59 := k_iconst (by decide +kernel)
theorem k_X8_round_59 : Okop i_X8_round 59 (o_ige 296) 62 := k_ige (off := 237) (by decide +kernel) (by decide)
theorem k_X8_round_62 : Okop i_X8_round 62 (o_al 0) 63 := k_aln (j := 0) (by decide +kernel)
theorem k_X8_round_63 : Okop i_X8_round 63 (o_gr 8 3) 66 := k_gr (idx := 20) fo_8 (by decide) (by decide) gw_663 (by decide +kernel)
theorem k_X8_round_66 : Okop i_X8_round 66 (o_il 5) 68 := k_il (by decide +kernel)
theorem k_X8_round_68 : Okop i_X8_round 68 (o_dup2) 69 := k_dup2 (by decide +kernel)
theorem k_X8_round_69 : Okop i_X8_round 69 (o_iald) 70 := k_iald (by decide +kernel)
theorem k_X8_round_70 : Okop i_X8_round 70 (o_c 1) 71 := k_iconst (by decide +kernel)
theorem k_X8_round_71 : Okop i_X8_round 71 (o_add) 72 := k_add (by decide +kernel)
theorem k_X8_round_72 : Okop i_X8_round 72 (o_iast) 73 := k_iast (by decide +kernel)
theorem k_X8_round_73 : Okop i_X8_round 73 (o_al 0) 74 := k_aln (j := 0) (by decide +kernel)
theorem k_X8_round_74 : Okop i_X8_round 74 (o_gr 8 3) 77 := k_gr (idx := 20) fo_8 (by decide) (by decide) gw_663 (by decide +kernel)
theorem k_X8_round_77 : Okop i_X8_round 77 (o_il 5) 79 := k_il (by decide +kernel)
theorem k_X8_round_79 : Okop i_X8_round 79 (o_iald) 80 := k_iald (by decide +kernel)
theorem k_X8_round_80 : Okop i_X8_round 80 (o_c 12) 82 := k_bipush (by decide +kernel) rfl
theorem k_X8_round_82 : Okop i_X8_round 82 (o_ine 91) 85 := k_ine (off := 9) (by decide +kernel) (by decide)
theorem k_X8_round_85 : Okop i_X8_round 85 (o_inc 5 (-1)) 88 := k_inc (by decide +kernel) (by decide)
theorem k_X8_round_88 : Okop i_X8_round 88 (o_go 51) 91 := k_go (off := -37) (by decide +kernel) (by decide)
theorem k_X8_round_91 : Okop i_X8_round 91 (o_al 0) 92 := k_aln (j := 0) (by decide +kernel)
theorem k_X8_round_92 : Okop i_X8_round 92 (o_al 0) 93 := k_aln (j := 0) (by decide +kernel)
theorem k_X8_round_93 : Okop i_X8_round 93 (o_gr 8 3) 96 := k_gr (idx := 20) fo_8 (by decide) (by decide) gw_663 (by decide +kernel)
theorem k_X8_round_96 : Okop i_X8_round 96 (o_il 5) 98 := k_il (by decide +kernel)
theorem k_X8_round_98 : Okop i_X8_round 98 (o_iald) 99 := k_iald (by decide +kernel)
theorem k_X8_round_99 : Okop i_X8_round 99 (o_al 0) 100 := k_aln (j := 0) (by decide +kernel)
theorem k_X8_round_100 : Okop i_X8_round 100 (o_gr 8 2) 103 := k_gr (idx := 17) fo_8 (by decide) (by decide) gw_662 (by decide +kernel)
theorem k_X8_round_103 : Okop i_X8_round 103 (o_il 5) 105 := k_il (by decide +kernel)
theorem k_X8_round_105 : Okop i_X8_round 105 (o_iald) 106 := k_iald (by decide +kernel)
theorem k_X8_round_106 : Okop i_X8_round 106 (o_callV 8 2 T_X8_otherFace) 109 := k_callV (idx := 82) (r0 := (RX8, TX8, 14)) m_X8_otherFace ⟨gw_777, gw_10, ⟨by decide, by decide, by decide +kernel⟩, by decide, by decide⟩ rfl gw_774 gw_776 gs_15 (by decide +kernel)
theorem k_X8_round_109 : Okop i_X8_round 109 (o_is 7) 111 := k_is (by decide +kernel) (by decide)
theorem k_X8_round_111 : Okop i_X8_round 111 (o_il 7) 113 := k_il (by decide +kernel)
theorem k_X8_round_113 : Okop i_X8_round 113 (o_c (-1)) 114 := k_iconst (by decide +kernel)
theorem k_X8_round_114 : Okop i_X8_round 114 (o_ieq 121) 117 := k_ieq (off := 7) (by decide +kernel) (by decide)
theorem k_X8_round_117 : Okop i_X8_round 117 (o_c 1) 118 := k_iconst (by decide +kernel)
theorem k_X8_round_118 : Okop i_X8_round 118 (o_go 122) 121 := k_go (off := 4) (by decide +kernel) (by decide)
theorem k_X8_round_121 : Okop i_X8_round 121 (o_c 0) 122 := k_iconst (by decide +kernel)
theorem k_X8_round_122 : Okop i_X8_round 122 (o_is 8) 124 := k_is (by decide +kernel) (by decide)
theorem k_X8_round_124 : Okop i_X8_round 124 (o_c 0) 125 := k_iconst (by decide +kernel)
theorem k_X8_round_125 : Okop i_X8_round 125 (o_is 9) 127 := k_is (by decide +kernel) (by decide)
theorem k_X8_round_127 : Okop i_X8_round 127 (o_il 9) 129 := k_il (by decide +kernel)
theorem k_X8_round_129 : Okop i_X8_round 129 (o_il 5) 131 := k_il (by decide +kernel)
theorem k_X8_round_131 : Okop i_X8_round 131 (o_igt 164) 134 := k_igt (off := 33) (by decide +kernel) (by decide)
theorem k_X8_round_134 : Okop i_X8_round 134 (o_il 8) 136 := k_il (by decide +kernel)
theorem k_X8_round_136 : Okop i_X8_round 136 (o_eq0 164) 139 := k_eq0 (off := 28) (by decide +kernel) (by decide)
theorem k_X8_round_139 : Okop i_X8_round 139 (o_al 0) 140 := k_aln (j := 0) (by decide +kernel)
theorem k_X8_round_140 : Okop i_X8_round 140 (o_gr 8 2) 143 := k_gr (idx := 17) fo_8 (by decide) (by decide) gw_662 (by decide +kernel)
theorem k_X8_round_143 : Okop i_X8_round 143 (o_il 9) 145 := k_il (by decide +kernel)
theorem k_X8_round_145 : Okop i_X8_round 145 (o_iald) 146 := k_iald (by decide +kernel)
theorem k_X8_round_146 : Okop i_X8_round 146 (o_il 7) 148 := k_il (by decide +kernel)
theorem k_X8_round_148 : Okop i_X8_round 148 (o_ieq 155) 151 := k_ieq (off := 7) (by decide +kernel) (by decide)
theorem k_X8_round_151 : Okop i_X8_round 151 (o_c 1) 152 := k_iconst (by decide +kernel)
theorem k_X8_round_152 : Okop i_X8_round 152 (o_go 156) 155 := k_go (off := 4) (by decide +kernel) (by decide)
theorem k_X8_round_155 : Okop i_X8_round 155 (o_c 0) 156 := k_iconst (by decide +kernel)
theorem k_X8_round_156 : Okop i_X8_round 156 (o_is 8) 158 := k_is (by decide +kernel) (by decide)
theorem k_X8_round_158 : Okop i_X8_round 158 (o_inc 9 1) 161 := k_inc (by decide +kernel) (by decide)
theorem k_X8_round_161 : Okop i_X8_round 161 (o_go 127) 164 := k_go (off := -34) (by decide +kernel) (by decide)
theorem k_X8_round_164 : Okop i_X8_round 164 (o_il 8) 166 := k_il (by decide +kernel)
theorem k_X8_round_166 : Okop i_X8_round 166 (o_ne0 172) 169 := k_ne0 (off := 6) (by decide +kernel) (by decide)
theorem k_X8_round_169 : Okop i_X8_round 169 (o_go 51) 172 := k_go (off := -118) (by decide +kernel) (by decide)
theorem k_X8_round_172 : Okop i_X8_round 172 (o_il 7) 174 := k_il (by decide +kernel)
theorem k_X8_round_174 : Okop i_X8_round 174 (o_il 3) 175 := k_iln (j := 3) (by decide +kernel)
theorem k_X8_round_175 : Okop i_X8_round 175 (o_ine 273) 178 := k_ine (off := 98) (by decide +kernel) (by decide)
theorem k_X8_round_178 : Okop i_X8_round 178 (o_inc 4 1) 181 := k_inc (by decide +kernel) (by decide)
theorem k_X8_round_181 : Okop i_X8_round 181 (o_il 5) 183 := k_il (by decide +kernel)
theorem k_X8_round_183 : Okop i_X8_round 183 (o_c 1) 184 := k_iconst (by decide +kernel)
theorem k_X8_round_184 : Okop i_X8_round 184 (o_add) 185 := k_add (by decide +kernel)
theorem k_X8_round_185 : Okop i_X8_round 185 (o_is 6) 187 := k_is (by decide +kernel) (by decide)
theorem k_X8_round_187 : Okop i_X8_round 187 (o_c 0) 188 := k_iconst (by decide +kernel)
theorem k_X8_round_188 : Okop i_X8_round 188 (o_is 9) 190 := k_is (by decide +kernel) (by decide)
theorem k_X8_round_190 : Okop i_X8_round 190 (o_il 9) 192 := k_il (by decide +kernel)
theorem k_X8_round_192 : Okop i_X8_round 192 (o_c 12) 194 := k_bipush (by decide +kernel) rfl
theorem k_X8_round_194 : Okop i_X8_round 194 (o_ige 211) 197 := k_ige (off := 17) (by decide +kernel) (by decide)
theorem k_X8_round_197 : Okop i_X8_round 197 (o_al 0) 198 := k_aln (j := 0) (by decide +kernel)
theorem k_X8_round_198 : Okop i_X8_round 198 (o_gr 8 4) 201 := k_gr (idx := 23) fo_8 (by decide) (by decide) gw_664 (by decide +kernel)
theorem k_X8_round_201 : Okop i_X8_round 201 (o_il 9) 203 := k_il (by decide +kernel)
theorem k_X8_round_203 : Okop i_X8_round 203 (o_c 0) 204 := k_iconst (by decide +kernel)
theorem k_X8_round_204 : Okop i_X8_round 204 (o_iast) 205 := k_iast (by decide +kernel)
theorem k_X8_round_205 : Okop i_X8_round 205 (o_inc 9 1) 208 := k_inc (by decide +kernel) (by decide)
theorem k_X8_round_208 : Okop i_X8_round 208 (o_go 190) 211 := k_go (off := -18) (by decide +kernel) (by decide)
theorem k_X8_round_211 : Okop i_X8_round 211 (o_c 0) 212 := k_iconst (by decide +kernel)
theorem k_X8_round_212 : Okop i_X8_round 212 (o_is 9) 214 := k_is (by decide +kernel) (by decide)
theorem k_X8_round_214 : Okop i_X8_round 214 (o_il 9) 216 := k_il (by decide +kernel)
theorem k_X8_round_216 : Okop i_X8_round 216 (o_il 5) 218 := k_il (by decide +kernel)
theorem k_X8_round_218 : Okop i_X8_round 218 (o_igt 270) 221 := k_igt (off := 52) (by decide +kernel) (by decide)
theorem k_X8_round_221 : Okop i_X8_round 221 (o_al 0) 222 := k_aln (j := 0) (by decide +kernel)
theorem k_X8_round_222 : Okop i_X8_round 222 (o_gr 8 4) 225 := k_gr (idx := 23) fo_8 (by decide) (by decide) gw_664 (by decide +kernel)
theorem k_X8_round_225 : Okop i_X8_round 225 (o_al 0) 226 := k_aln (j := 0) (by decide +kernel)
theorem k_X8_round_226 : Okop i_X8_round 226 (o_gr 8 3) 229 := k_gr (idx := 20) fo_8 (by decide) (by decide) gw_663 (by decide +kernel)
theorem k_X8_round_229 : Okop i_X8_round 229 (o_il 9) 231 := k_il (by decide +kernel)
theorem k_X8_round_231 : Okop i_X8_round 231 (o_iald) 232 := k_iald (by decide +kernel)
theorem k_X8_round_232 : Okop i_X8_round 232 (o_al 0) 233 := k_aln (j := 0) (by decide +kernel)
theorem k_X8_round_233 : Okop i_X8_round 233 (o_gr 8 0) 236 := k_gr (idx := 7) fo_8 (by decide) (by decide) gw_660 (by decide +kernel)
theorem k_X8_round_236 : Okop i_X8_round 236 (o_c 1188) 239 := k_sipush (by decide +kernel) rfl
theorem k_X8_round_239 : Okop i_X8_round 239 (o_al 0) 240 := k_aln (j := 0) (by decide +kernel)
theorem k_X8_round_240 : Okop i_X8_round 240 (o_gr 8 3) 243 := k_gr (idx := 20) fo_8 (by decide) (by decide) gw_663 (by decide +kernel)
theorem k_X8_round_243 : Okop i_X8_round 243 (o_il 9) 245 := k_il (by decide +kernel)
theorem k_X8_round_245 : Okop i_X8_round 245 (o_iald) 246 := k_iald (by decide +kernel)
theorem k_X8_round_246 : Okop i_X8_round 246 (o_add) 247 := k_add (by decide +kernel)
theorem k_X8_round_247 : Okop i_X8_round 247 (o_iald) 248 := k_iald (by decide +kernel)
theorem k_X8_round_248 : Okop i_X8_round 248 (o_al 0) 249 := k_aln (j := 0) (by decide +kernel)
theorem k_X8_round_249 : Okop i_X8_round 249 (o_gr 8 2) 252 := k_gr (idx := 17) fo_8 (by decide) (by decide) gw_662 (by decide +kernel)
theorem k_X8_round_252 : Okop i_X8_round 252 (o_il 9) 254 := k_il (by decide +kernel)
theorem k_X8_round_254 : Okop i_X8_round 254 (o_iald) 255 := k_iald (by decide +kernel)
theorem k_X8_round_255 : Okop i_X8_round 255 (o_ine 262) 258 := k_ine (off := 7) (by decide +kernel) (by decide)
theorem k_X8_round_258 : Okop i_X8_round 258 (o_c 1) 259 := k_iconst (by decide +kernel)
theorem k_X8_round_259 : Okop i_X8_round 259 (o_go 263) 262 := k_go (off := 4) (by decide +kernel) (by decide)
theorem k_X8_round_262 : Okop i_X8_round 262 (o_c (-1)) 263 := k_iconst (by decide +kernel)
theorem k_X8_round_263 : Okop i_X8_round 263 (o_iast) 264 := k_iast (by decide +kernel)
theorem k_X8_round_264 : Okop i_X8_round 264 (o_inc 9 1) 267 := k_inc (by decide +kernel) (by decide)
theorem k_X8_round_267 : Okop i_X8_round 267 (o_go 214) 270 := k_go (off := -53) (by decide +kernel) (by decide)
theorem k_X8_round_270 : Okop i_X8_round 270 (o_go 51) 273 := k_go (off := -219) (by decide +kernel) (by decide)
theorem k_X8_round_273 : Okop i_X8_round 273 (o_inc 5 1) 276 := k_inc (by decide +kernel) (by decide)
theorem k_X8_round_276 : Okop i_X8_round 276 (o_al 0) 277 := k_aln (j := 0) (by decide +kernel)
theorem k_X8_round_277 : Okop i_X8_round 277 (o_gr 8 2) 280 := k_gr (idx := 17) fo_8 (by decide) (by decide) gw_662 (by decide +kernel)
theorem k_X8_round_280 : Okop i_X8_round 280 (o_il 5) 282 := k_il (by decide +kernel)
theorem k_X8_round_282 : Okop i_X8_round 282 (o_il 7) 284 := k_il (by decide +kernel)
theorem k_X8_round_284 : Okop i_X8_round 284 (o_iast) 285 := k_iast (by decide +kernel)
theorem k_X8_round_285 : Okop i_X8_round 285 (o_al 0) 286 := k_aln (j := 0) (by decide +kernel)
theorem k_X8_round_286 : Okop i_X8_round 286 (o_gr 8 3) 289 := k_gr (idx := 20) fo_8 (by decide) (by decide) gw_663 (by decide +kernel)
theorem k_X8_round_289 : Okop i_X8_round 289 (o_il 5) 291 := k_il (by decide +kernel)
theorem k_X8_round_291 : Okop i_X8_round 291 (o_c (-1)) 292 := k_iconst (by decide +kernel)
theorem k_X8_round_292 : Okop i_X8_round 292 (o_iast) 293 := k_iast (by decide +kernel)
theorem k_X8_round_293 : Okop i_X8_round 293 (o_go 51) 296 := k_go (off := -242) (by decide +kernel) (by decide)
theorem k_X8_round_296 : Okop i_X8_round 296 (o_il 4) 298 := k_il (by decide +kernel)
theorem k_X8_round_298 : Okop i_X8_round 298 (o_c 1) 299 := k_iconst (by decide +kernel)
theorem k_X8_round_299 : Okop i_X8_round 299 (o_ile 305) 302 := k_ile (off := 6) (by decide +kernel) (by decide)
theorem k_X8_round_302 : Okop i_X8_round 302 (o_c (-2)) 304 := k_bipush (by decide +kernel) rfl
theorem k_X8_round_304 : Okop i_X8_round 304 (o_iret) 305 := k_iret (by decide +kernel) rfl
theorem k_X8_round_305 : Okop i_X8_round 305 (o_il 4) 307 := k_il (by decide +kernel)
theorem k_X8_round_307 : Okop i_X8_round 307 (o_ne0 312) 310 := k_ne0 (off := 5) (by decide +kernel) (by decide)
theorem k_X8_round_310 : Okop i_X8_round 310 (o_c 0) 311 := k_iconst (by decide +kernel)
theorem k_X8_round_311 : Okop i_X8_round 311 (o_iret) 312 := k_iret (by decide +kernel) rfl
theorem k_X8_round_312 : Okop i_X8_round 312 (o_c 0) 313 := k_iconst (by decide +kernel)
theorem k_X8_round_313 : Okop i_X8_round 313 (o_is 7) 315 := k_is (by decide +kernel) (by decide)
theorem k_X8_round_315 : Okop i_X8_round 315 (o_il 7) 317 := k_il (by decide +kernel)
theorem k_X8_round_317 : Okop i_X8_round 317 (o_c 12) 319 := k_bipush (by decide +kernel) rfl
theorem k_X8_round_319 : Okop i_X8_round 319 (o_ige 351) 322 := k_ige (off := 32) (by decide +kernel) (by decide)
theorem k_X8_round_322 : Okop i_X8_round 322 (o_al 0) 323 := k_aln (j := 0) (by decide +kernel)
theorem k_X8_round_323 : Okop i_X8_round 323 (o_gr 8 0) 326 := k_gr (idx := 7) fo_8 (by decide) (by decide) gw_660 (by decide +kernel)
theorem k_X8_round_326 : Okop i_X8_round 326 (o_c 1212) 329 := k_sipush (by decide +kernel) rfl
theorem k_X8_round_329 : Okop i_X8_round 329 (o_c 12) 331 := k_bipush (by decide +kernel) rfl
theorem k_X8_round_331 : Okop i_X8_round 331 (o_il 1) 332 := k_iln (j := 1) (by decide +kernel)
theorem k_X8_round_332 : Okop i_X8_round 332 (o_mul) 333 := k_mul (by decide +kernel)
theorem k_X8_round_333 : Okop i_X8_round 333 (o_add) 334 := k_add (by decide +kernel)
theorem k_X8_round_334 : Okop i_X8_round 334 (o_il 7) 336 := k_il (by decide +kernel)
theorem k_X8_round_336 : Okop i_X8_round 336 (o_add) 337 := k_add (by decide +kernel)
theorem k_X8_round_337 : Okop i_X8_round 337 (o_al 0) 338 := k_aln (j := 0) (by decide +kernel)
theorem k_X8_round_338 : Okop i_X8_round 338 (o_gr 8 4) 341 := k_gr (idx := 23) fo_8 (by decide) (by decide) gw_664 (by decide +kernel)
theorem k_X8_round_341 : Okop i_X8_round 341 (o_il 7) 343 := k_il (by decide +kernel)
theorem k_X8_round_343 : Okop i_X8_round 343 (o_iald) 344 := k_iald (by decide +kernel)
theorem k_X8_round_344 : Okop i_X8_round 344 (o_iast) 345 := k_iast (by decide +kernel)
theorem k_X8_round_345 : Okop i_X8_round 345 (o_inc 7 1) 348 := k_inc (by decide +kernel) (by decide)
theorem k_X8_round_348 : Okop i_X8_round 348 (o_go 315) 351 := k_go (off := -33) (by decide +kernel) (by decide)
theorem k_X8_round_351 : Okop i_X8_round 351 (o_il 6) 353 := k_il (by decide +kernel)
theorem k_X8_round_353 : Okop i_X8_round 353 (o_iret) 354 := k_iret (by decide +kernel) rfl
theorem s_X8_round_0 : Seg i_X8_round 0 [o_il 1, o_call 1 T_X8_isChain, o_eq0 26, o_il 2, o_call 1 T_X8_isFace, o_eq0 26, o_il 3, o_call 1 T_X8_isFace, o_eq0 26, o_il 2, o_il 3, o_ine 28, o_c (-1), o_iret] 28 := Seg.cons k_X8_round_0 (Seg.cons k_X8_round_1 (Seg.cons k_X8_round_4 (Seg.cons k_X8_round_7 (Seg.cons k_X8_round_8 (Seg.cons k_X8_round_11 (Seg.cons k_X8_round_14 (Seg.cons k_X8_round_15 (Seg.cons k_X8_round_18 (Seg.cons k_X8_round_21 (Seg.cons k_X8_round_22 (Seg.cons k_X8_round_23 (Seg.cons k_X8_round_26 (Seg.cons k_X8_round_27 (Seg.nil))))))))))))))
theorem s_X8_round_26 : Seg i_X8_round 26 [o_c (-1), o_iret] 28 := Seg.cons k_X8_round_26 (Seg.cons k_X8_round_27 (Seg.nil))
theorem s_X8_round_28 : Seg i_X8_round 28 [o_c 0, o_is 4, o_c 0, o_is 5, o_c 0, o_is 6, o_al 0, o_gr 8 2, o_c 0, o_il 2, o_iast, o_al 0, o_gr 8 3, o_c 0, o_c (-1), o_iast] 51 := Seg.cons k_X8_round_28 (Seg.cons k_X8_round_29 (Seg.cons k_X8_round_31 (Seg.cons k_X8_round_32 (Seg.cons k_X8_round_34 (Seg.cons k_X8_round_35 (Seg.cons k_X8_round_37 (Seg.cons k_X8_round_38 (Seg.cons k_X8_round_41 (Seg.cons k_X8_round_42 (Seg.cons k_X8_round_43 (Seg.cons k_X8_round_44 (Seg.cons k_X8_round_45 (Seg.cons k_X8_round_48 (Seg.cons k_X8_round_49 (Seg.cons k_X8_round_50 (Seg.nil))))))))))))))))
theorem s_X8_round_51 : Seg i_X8_round 51 [o_il 5, o_lt0 296, o_il 4, o_c 2, o_ige 296, o_al 0, o_gr 8 3, o_il 5, o_dup2, o_iald, o_c 1, o_add, o_iast, o_al 0, o_gr 8 3, o_il 5, o_iald, o_c 12, o_ine 91, o_inc 5 (-1), o_go 51] 91 := Seg.cons k_X8_round_51 (Seg.cons k_X8_round_53 (Seg.cons k_X8_round_56 (Seg.cons k_X8_round_58 (Seg.cons k_X8_round_59 (Seg.cons k_X8_round_62 (Seg.cons k_X8_round_63 (Seg.cons k_X8_round_66 (Seg.cons k_X8_round_68 (Seg.cons k_X8_round_69 (Seg.cons k_X8_round_70 (Seg.cons k_X8_round_71 (Seg.cons k_X8_round_72 (Seg.cons k_X8_round_73 (Seg.cons k_X8_round_74 (Seg.cons k_X8_round_77 (Seg.cons k_X8_round_79 (Seg.cons k_X8_round_80 (Seg.cons k_X8_round_82 (Seg.cons k_X8_round_85 (Seg.cons k_X8_round_88 (Seg.nil)))))))))))))))))))))
theorem s_X8_round_91 : Seg i_X8_round 91 [o_al 0, o_al 0, o_gr 8 3, o_il 5, o_iald, o_al 0, o_gr 8 2, o_il 5, o_iald, o_callV 8 2 T_X8_otherFace, o_is 7, o_il 7, o_c (-1), o_ieq 121, o_c 1, o_go 122] 121 := Seg.cons k_X8_round_91 (Seg.cons k_X8_round_92 (Seg.cons k_X8_round_93 (Seg.cons k_X8_round_96 (Seg.cons k_X8_round_98 (Seg.cons k_X8_round_99 (Seg.cons k_X8_round_100 (Seg.cons k_X8_round_103 (Seg.cons k_X8_round_105 (Seg.cons k_X8_round_106 (Seg.cons k_X8_round_109 (Seg.cons k_X8_round_111 (Seg.cons k_X8_round_113 (Seg.cons k_X8_round_114 (Seg.cons k_X8_round_117 (Seg.cons k_X8_round_118 (Seg.nil))))))))))))))))
theorem s_X8_round_121 : Seg i_X8_round 121 [o_c 0, o_is 8, o_c 0, o_is 9] 127 := Seg.cons k_X8_round_121 (Seg.cons k_X8_round_122 (Seg.cons k_X8_round_124 (Seg.cons k_X8_round_125 (Seg.nil))))
theorem s_X8_round_122 : Seg i_X8_round 122 [o_is 8, o_c 0, o_is 9] 127 := Seg.cons k_X8_round_122 (Seg.cons k_X8_round_124 (Seg.cons k_X8_round_125 (Seg.nil)))
theorem s_X8_round_127 : Seg i_X8_round 127 [o_il 9, o_il 5, o_igt 164, o_il 8, o_eq0 164, o_al 0, o_gr 8 2, o_il 9, o_iald, o_il 7, o_ieq 155, o_c 1, o_go 156] 155 := Seg.cons k_X8_round_127 (Seg.cons k_X8_round_129 (Seg.cons k_X8_round_131 (Seg.cons k_X8_round_134 (Seg.cons k_X8_round_136 (Seg.cons k_X8_round_139 (Seg.cons k_X8_round_140 (Seg.cons k_X8_round_143 (Seg.cons k_X8_round_145 (Seg.cons k_X8_round_146 (Seg.cons k_X8_round_148 (Seg.cons k_X8_round_151 (Seg.cons k_X8_round_152 (Seg.nil)))))))))))))
theorem s_X8_round_155 : Seg i_X8_round 155 [o_c 0, o_is 8, o_inc 9 1, o_go 127] 164 := Seg.cons k_X8_round_155 (Seg.cons k_X8_round_156 (Seg.cons k_X8_round_158 (Seg.cons k_X8_round_161 (Seg.nil))))
theorem s_X8_round_156 : Seg i_X8_round 156 [o_is 8, o_inc 9 1, o_go 127] 164 := Seg.cons k_X8_round_156 (Seg.cons k_X8_round_158 (Seg.cons k_X8_round_161 (Seg.nil)))
theorem s_X8_round_164 : Seg i_X8_round 164 [o_il 8, o_ne0 172, o_go 51] 172 := Seg.cons k_X8_round_164 (Seg.cons k_X8_round_166 (Seg.cons k_X8_round_169 (Seg.nil)))
theorem s_X8_round_172 : Seg i_X8_round 172 [o_il 7, o_il 3, o_ine 273, o_inc 4 1, o_il 5, o_c 1, o_add, o_is 6, o_c 0, o_is 9] 190 := Seg.cons k_X8_round_172 (Seg.cons k_X8_round_174 (Seg.cons k_X8_round_175 (Seg.cons k_X8_round_178 (Seg.cons k_X8_round_181 (Seg.cons k_X8_round_183 (Seg.cons k_X8_round_184 (Seg.cons k_X8_round_185 (Seg.cons k_X8_round_187 (Seg.cons k_X8_round_188 (Seg.nil))))))))))
theorem s_X8_round_190 : Seg i_X8_round 190 [o_il 9, o_c 12, o_ige 211, o_al 0, o_gr 8 4, o_il 9, o_c 0, o_iast, o_inc 9 1, o_go 190] 211 := Seg.cons k_X8_round_190 (Seg.cons k_X8_round_192 (Seg.cons k_X8_round_194 (Seg.cons k_X8_round_197 (Seg.cons k_X8_round_198 (Seg.cons k_X8_round_201 (Seg.cons k_X8_round_203 (Seg.cons k_X8_round_204 (Seg.cons k_X8_round_205 (Seg.cons k_X8_round_208 (Seg.nil))))))))))
theorem s_X8_round_211 : Seg i_X8_round 211 [o_c 0, o_is 9] 214 := Seg.cons k_X8_round_211 (Seg.cons k_X8_round_212 (Seg.nil))
theorem s_X8_round_214 : Seg i_X8_round 214 [o_il 9, o_il 5, o_igt 270, o_al 0, o_gr 8 4, o_al 0, o_gr 8 3, o_il 9, o_iald, o_al 0, o_gr 8 0, o_c 1188, o_al 0, o_gr 8 3, o_il 9, o_iald, o_add, o_iald, o_al 0, o_gr 8 2, o_il 9, o_iald, o_ine 262, o_c 1, o_go 263] 262 := Seg.cons k_X8_round_214 (Seg.cons k_X8_round_216 (Seg.cons k_X8_round_218 (Seg.cons k_X8_round_221 (Seg.cons k_X8_round_222 (Seg.cons k_X8_round_225 (Seg.cons k_X8_round_226 (Seg.cons k_X8_round_229 (Seg.cons k_X8_round_231 (Seg.cons k_X8_round_232 (Seg.cons k_X8_round_233 (Seg.cons k_X8_round_236 (Seg.cons k_X8_round_239 (Seg.cons k_X8_round_240 (Seg.cons k_X8_round_243 (Seg.cons k_X8_round_245 (Seg.cons k_X8_round_246 (Seg.cons k_X8_round_247 (Seg.cons k_X8_round_248 (Seg.cons k_X8_round_249 (Seg.cons k_X8_round_252 (Seg.cons k_X8_round_254 (Seg.cons k_X8_round_255 (Seg.cons k_X8_round_258 (Seg.cons k_X8_round_259 (Seg.nil)))))))))))))))))))))))))
theorem s_X8_round_262 : Seg i_X8_round 262 [o_c (-1), o_iast, o_inc 9 1, o_go 214] 270 := Seg.cons k_X8_round_262 (Seg.cons k_X8_round_263 (Seg.cons k_X8_round_264 (Seg.cons k_X8_round_267 (Seg.nil))))
theorem s_X8_round_263 : Seg i_X8_round 263 [o_iast, o_inc 9 1, o_go 214] 270 := Seg.cons k_X8_round_263 (Seg.cons k_X8_round_264 (Seg.cons k_X8_round_267 (Seg.nil)))
theorem s_X8_round_270 : Seg i_X8_round 270 [o_go 51] 273 := Seg.cons k_X8_round_270 (Seg.nil)
theorem s_X8_round_273 : Seg i_X8_round 273 [o_inc 5 1, o_al 0, o_gr 8 2, o_il 5, o_il 7, o_iast, o_al 0, o_gr 8 3, o_il 5, o_c (-1), o_iast, o_go 51] 296 := Seg.cons k_X8_round_273 (Seg.cons k_X8_round_276 (Seg.cons k_X8_round_277 (Seg.cons k_X8_round_280 (Seg.cons k_X8_round_282 (Seg.cons k_X8_round_284 (Seg.cons k_X8_round_285 (Seg.cons k_X8_round_286 (Seg.cons k_X8_round_289 (Seg.cons k_X8_round_291 (Seg.cons k_X8_round_292 (Seg.cons k_X8_round_293 (Seg.nil))))))))))))
theorem s_X8_round_296 : Seg i_X8_round 296 [o_il 4, o_c 1, o_ile 305, o_c (-2), o_iret] 305 := Seg.cons k_X8_round_296 (Seg.cons k_X8_round_298 (Seg.cons k_X8_round_299 (Seg.cons k_X8_round_302 (Seg.cons k_X8_round_304 (Seg.nil)))))
theorem s_X8_round_305 : Seg i_X8_round 305 [o_il 4, o_ne0 312, o_c 0, o_iret] 312 := Seg.cons k_X8_round_305 (Seg.cons k_X8_round_307 (Seg.cons k_X8_round_310 (Seg.cons k_X8_round_311 (Seg.nil))))
theorem s_X8_round_312 : Seg i_X8_round 312 [o_c 0, o_is 7] 315 := Seg.cons k_X8_round_312 (Seg.cons k_X8_round_313 (Seg.nil))
theorem s_X8_round_315 : Seg i_X8_round 315 [o_il 7, o_c 12, o_ige 351, o_al 0, o_gr 8 0, o_c 1212, o_c 12, o_il 1, o_mul, o_add, o_il 7, o_add, o_al 0, o_gr 8 4, o_il 7, o_iald, o_iast, o_inc 7 1, o_go 315] 351 := Seg.cons k_X8_round_315 (Seg.cons k_X8_round_317 (Seg.cons k_X8_round_319 (Seg.cons k_X8_round_322 (Seg.cons k_X8_round_323 (Seg.cons k_X8_round_326 (Seg.cons k_X8_round_329 (Seg.cons k_X8_round_331 (Seg.cons k_X8_round_332 (Seg.cons k_X8_round_333 (Seg.cons k_X8_round_334 (Seg.cons k_X8_round_336 (Seg.cons k_X8_round_337 (Seg.cons k_X8_round_338 (Seg.cons k_X8_round_341 (Seg.cons k_X8_round_343 (Seg.cons k_X8_round_344 (Seg.cons k_X8_round_345 (Seg.cons k_X8_round_348 (Seg.nil)))))))))))))))))))
theorem s_X8_round_351 : Seg i_X8_round 351 [o_il 6, o_iret] 354 := Seg.cons k_X8_round_351 (Seg.cons k_X8_round_353 (Seg.nil))

def RdC (x : Ctx) (h : Hp) (y C F G : Nat) (D : Dd) (n at' N m : Nat) : Prop := ∀ (w b f : Nat → Int) (lg : Int) (L : List Pth), (∀ k, k ≤ at' → 0 ≤ w k ∧ w k ≤ 11) → (∀ q : Nat, q < 12 → (N.testBit q = true ↔ ∃ k, k ≤ at' ∧ w k = (q : Int))) → (∀ k, k < at' → 0 ≤ b k ∧ b k ≤ 11) → b at' = (m : Int) - 1 → w at' ≠ (G : Int) → L.length < 2 → LF L f lg → 0 ≤ lg → lg ≤ 12 → (2 ≤ (L ++ (rS (ctr D (pth D G n) (w at') N) m (12 - m)).map (fun q => pre D w b at' ++ q)).length → 2 ≤ (pth D G 12 F (2 ^ F)).length) → (∀ (w' b' f' : Nat → Int) (lg' : Int), (∀ k, k < at' → w' k = w k ∧ b' k = b k) → w' at' = w at' → (L ++ (rS (ctr D (pth D G n) (w at') N) m (12 - m)).map (fun q => pre D w b at' ++ q)).length < 2 → LF (L ++ (rS (ctr D (pth D G n) (w at') N) m (12 - m)).map (fun q => pre D w b at' ++ q)) f' lg' → 0 ≤ lg' → lg' ≤ 12 → ∀ v7 v8 v9, V i_X8_round x 51 [some (vr (some y)), some (vi C), some (vi F), some (vi G), some (vi (L ++ (rS (ctr D (pth D G n) (w at') N) m (12 - m)).map (fun q => pre D w b at' ++ q)).length), some (vi ((at' : Int) - 1)), some (vi lg'), v7, v8, v9] [] (rH h y D w' b' f') (0, 0)) → ∀ v7 v8 v9, V i_X8_round x 51 [some (vr (some y)), some (vi C), some (vi F), some (vi G), some (vi L.length), some (vi at'), some (vi lg), v7, v8, v9] [] (rH h y D w b f) (0, 0)
theorem m_X8_round : Mth yX8_round cX8_round 10 (some .int) 3 (Sp0 T_X8_round) := by
  refine Mth.of (by decide) ?_
  rintro x as h ok ⟨y, c, f0, t0, rfl, hM, hI, ic, if', it, hK0, hK1⟩
  refine ⟨Nat.le_of_ble_eq_true rfl, ?_⟩
  unfold rdOk at hK0 hK1
  by_cases hm : (0 ≤ c ∧ c ≤ 5) ∧ (0 ≤ f0 ∧ f0 ≤ 11) ∧ (0 ≤ t0 ∧ t0 ≤ 11) ∧ f0 ≠ t0
  · obtain ⟨C, rfl, hC⟩ : ∃ C : Nat, c = (C : Int) ∧ C < 6 := ⟨c.toNat, by omega, by omega⟩
    obtain ⟨F, rfl, hF⟩ : ∃ F : Nat, f0 = (F : Int) ∧ F < 12 := ⟨f0.toNat, by omega, by omega⟩
    obtain ⟨G, rfl, hG⟩ : ∃ G : Nat, t0 = (G : Int) ∧ G < 12 := ⟨t0.toNat, by omega, by omega⟩
    have hK := hK1 hm
    rw [Int.toNat_natCast] at hK
    have hwy : wys (qi h (y + 1)) F G = pth (qi h (y + 1)) G 12 F (2 ^ F) := rfl
    rw [hwy] at hK
    clear hK0 hK1 hwy
    have hM2 : ∀ g w b f : Nat → Int, Mo (rH h y g w b f) y := fun _ _ _ _ => hM
    have hself : rH h y (qi h (y + 1)) (qi h (y + 3)) (qi h (y + 4)) (qi h (y + 5)) = h := by unfold rH; rw [wi_self, wi_self, wi_self, wi_self]
    have hq3 := hM.k3
    generalize hD : qi h (y + 1) = D at *
    have hI2 : ∀ w b f : Nat → Int, Inv (qi (rH h y D w b f) (y + 1)) := fun w b f => by rw [rH_1]; exact hI
    clear hq3
    -- a way is found: it is written
    have found : ∀ (at' : Nat) (w b : Nat → Int) (W lg : Int) (nx mm : Int), at' < 12 → (∀ k, k ≤ at' → 0 ≤ w k ∧ w k ≤ 11) → (∀ k, k ≤ at' → 0 ≤ b k ∧ b k ≤ 11) → 0 ≤ W → W ≤ 2 → (∀ f : Nat → Int, (∀ k, k < 12 → f k = mark zz (pre D w b (at' + 1)) k) → ∀ v9, V i_X8_round x 51 [some (vr (some y)), some (vi C), some (vi F), some (vi G), some (vi W), some (vi at'), some (vi lg), some (vi nx), some (vi mm), v9] [] (rH h y D w b f) (0, 0)) → ∀ f : Nat → Int, V i_X8_round x 190 [some (vr (some y)), some (vi C), some (vi F), some (vi G), some (vi W), some (vi at'), some (vi lg), some (vi nx), some (vi mm), some (vi 0)] [] (rH h y D w b f) (0, 0) := by
      intro at' w b W lg nx mm hat hwr hbr hW0 hW2 hk f
      have lp2 : ∀ j, j ≤ at' + 1 → ∀ f : Nat → Int, (∀ k, k < 12 → f k = mark zz (pre D w b j) k) → V i_X8_round x 214 [some (vr (some y)), some (vi C), some (vi F), some (vi G), some (vi W), some (vi at'), some (vi lg), some (vi nx), some (vi mm), some (vi j)] [] (rH h y D w b f) (0, 0) := by
        refine bwd _ ?_ ?_
        · intro f hf
          have := hk f hf
          refine s_X8_round_214 x ok _ _ _ _ ?_
          simp only [wpS, o_c, o_cl, o_il, o_ll, o_al, o_is, o_ls, o_as, o_inc, o_add, o_sub, o_mul, o_and, o_or, o_xor, o_shl, o_shr, o_div, o_neg, o_ladd, o_lsub, o_lmul, o_ldiv, o_lrem, o_lneg, o_lcmp, o_i2l, o_l2i, o_dup, o_dup2, o_pop, o_go, o_nn, o_sw, swc, o_iret, o_zret, o_lret, o_vret, o_ieq, o_eq0, o_ine, o_ne0, o_ilt, o_lt0, o_ige, o_ge0, o_igt, o_gt0, o_ile, o_le0, o_iald, o_zald, o_lald, o_aald, o_iast, o_zast, o_last, o_aast, o_alen, o_gi, o_gr, o_pi, o_pz, o_pr, o_new, o_newa, o_copy, o_oinit, o_call, o_callV, o_callVc, o_callI, popn, cnO, o_BAD, lgt, lst, isL, kil, st1, st2, entL, List.length_nil, List.length_cons, List.replicate, Nat.reduceAdd, Nat.reduceLeDiff, Nat.reduceSub, true_and, and_true, Nat.zero_le, ne_eq, qk_wi, ql_wi, qr_wi, qj_wi, qt_wi, qk_wj, ql_wj, qr_wj, qi_wj, qt_wj, qk_wr, ql_wr, qi_wr, qj_wr, qt_wr, qi_ws, qj_ws, qr_ws, Int.toNat_natCast, Int.toNat_zero, Int.reduceToNat, not_true_eq_false, not_false_eq_true, false_implies, implies_true, Option.some.injEq, reduceCtorEq, Sp0, true_or, or_true, or_self, wi_wi, wj_wj, hM.k]
          repeat' (first | (with_reducible refine And.intro ?_ ?_) | (with_reducible intro))
          all_goals (try (first | with_reducible assumption | omega | (unfold inI; omega) | (unfold inL; omega) | exact cz_in _ _))
          all_goals (try (exfalso; omega))
          refine s_X8_round_270 x ok _ _ _ _ ?_
          simp only [wpS, o_c, o_cl, o_il, o_ll, o_al, o_is, o_ls, o_as, o_inc, o_add, o_sub, o_mul, o_and, o_or, o_xor, o_shl, o_shr, o_div, o_neg, o_ladd, o_lsub, o_lmul, o_ldiv, o_lrem, o_lneg, o_lcmp, o_i2l, o_l2i, o_dup, o_dup2, o_pop, o_go, o_nn, o_sw, swc, o_iret, o_zret, o_lret, o_vret, o_ieq, o_eq0, o_ine, o_ne0, o_ilt, o_lt0, o_ige, o_ge0, o_igt, o_gt0, o_ile, o_le0, o_iald, o_zald, o_lald, o_aald, o_iast, o_zast, o_last, o_aast, o_alen, o_gi, o_gr, o_pi, o_pz, o_pr, o_new, o_newa, o_copy, o_oinit, o_call, o_callV, o_callVc, o_callI, popn, cnO, o_BAD, lgt, lst, isL, kil, st1, st2, entL, List.length_nil, List.length_cons, List.replicate, Nat.reduceAdd, Nat.reduceLeDiff, Nat.reduceSub, true_and, and_true, Nat.zero_le, ne_eq, qk_wi, ql_wi, qr_wi, qj_wi, qt_wi, qk_wj, ql_wj, qr_wj, qi_wj, qt_wj, qk_wr, ql_wr, qi_wr, qj_wr, qt_wr, qi_ws, qj_ws, qr_ws, Int.toNat_natCast, Int.toNat_zero, Int.reduceToNat, not_true_eq_false, not_false_eq_true, false_implies, implies_true, Option.some.injEq, reduceCtorEq, Sp0, true_or, or_true, or_self, wi_wi, wj_wj, hM.k]
          exact this _
        · intro j hj ih f hf
          have hwj := hwr j (by omega)
          have hbj := hbr j (by omega)
          obtain ⟨B, hB⟩ : ∃ B : Nat, b j = (B : Int) := ⟨(b j).toNat, by omega⟩
          have hB12 : B < 12 := by omega
          have hInv := (hI.1 B hB12).f
          have e88 : D (1188 + B) = df D B := rfl
          have nx : ∀ v : Int, v = dir D B (w j) → V i_X8_round x 214 [some (vr (some y)), some (vi C), some (vi F), some (vi G), some (vi W), some (vi at'), some (vi lg), some (vi nx), some (vi mm), some (vi (j + 1))] [] (rH h y D w b (fu f B v)) (0, 0) := by
            intro v hv
            refine ih _ (fun k hk2 => ?_)
            unfold pre
            rw [mark_app, hB, Int.toNat_natCast, ← hv]
            show fu f B v k = fu (mark zz (pre D w b j)) B v k
            unfold fu
            rw [hf k hk2]
          unfold dir at nx
          refine s_X8_round_214 x ok _ _ _ _ ?_
          simp only [wpS, o_c, o_cl, o_il, o_ll, o_al, o_is, o_ls, o_as, o_inc, o_add, o_sub, o_mul, o_and, o_or, o_xor, o_shl, o_shr, o_div, o_neg, o_ladd, o_lsub, o_lmul, o_ldiv, o_lrem, o_lneg, o_lcmp, o_i2l, o_l2i, o_dup, o_dup2, o_pop, o_go, o_nn, o_sw, swc, o_iret, o_zret, o_lret, o_vret, o_ieq, o_eq0, o_ine, o_ne0, o_ilt, o_lt0, o_ige, o_ge0, o_igt, o_gt0, o_ile, o_le0, o_iald, o_zald, o_lald, o_aald, o_iast, o_zast, o_last, o_aast, o_alen, o_gi, o_gr, o_pi, o_pz, o_pr, o_new, o_newa, o_copy, o_oinit, o_call, o_callV, o_callVc, o_callI, popn, cnO, o_BAD, lgt, lst, isL, kil, st1, st2, entL, List.length_nil, List.length_cons, List.replicate, Nat.reduceAdd, Nat.reduceLeDiff, Nat.reduceSub, true_and, and_true, Nat.zero_le, ne_eq, qk_wi, ql_wi, qr_wi, qj_wi, qt_wi, qk_wj, ql_wj, qr_wj, qi_wj, qt_wj, qk_wr, ql_wr, qi_wr, qj_wr, qt_wr, qi_ws, qj_ws, qr_ws, Int.toNat_natCast, Int.toNat_zero, Int.reduceToNat, not_true_eq_false, not_false_eq_true, false_implies, implies_true, Option.some.injEq, reduceCtorEq, Sp0, true_or, or_true, or_self, wi_wi, wj_wj, hM.k, hM.r0, hM.k1, hM.l1, ix0, ix12, ix24, ix36, ix48, ix60, ix1032, ix1044, ix1092, ix1140, ix1188, ix1200, ix1212, ix1284, ix1290, ix1296, ix1298, ix1322, ix1346, ix1358, ixm4, ixm12, ixm24, ixm81, ixm1382, ixadd, Nat.zero_add, rH_k, rH_l, rH_r, rH_1, rH_3, rH_4, rH_5, rW_5, hM.r2, hM.k3, hM.l3, hM.r3, hM.k4, hM.l4, hM.r4, hM.k5, hM.l5, hB, e88]
          repeat' (first | (with_reducible refine And.intro ?_ ?_) | (with_reducible intro))
          all_goals (try (first | with_reducible assumption | omega | (unfold inI; omega) | (unfold inL; omega) | exact cz_in _ _))
          all_goals (try (exfalso; omega))
          · refine s_X8_round_262 x ok _ _ _ _ ?_
            simp only [wpS, o_c, o_cl, o_il, o_ll, o_al, o_is, o_ls, o_as, o_inc, o_add, o_sub, o_mul, o_and, o_or, o_xor, o_shl, o_shr, o_div, o_neg, o_ladd, o_lsub, o_lmul, o_ldiv, o_lrem, o_lneg, o_lcmp, o_i2l, o_l2i, o_dup, o_dup2, o_pop, o_go, o_nn, o_sw, swc, o_iret, o_zret, o_lret, o_vret, o_ieq, o_eq0, o_ine, o_ne0, o_ilt, o_lt0, o_ige, o_ge0, o_igt, o_gt0, o_ile, o_le0, o_iald, o_zald, o_lald, o_aald, o_iast, o_zast, o_last, o_aast, o_alen, o_gi, o_gr, o_pi, o_pz, o_pr, o_new, o_newa, o_copy, o_oinit, o_call, o_callV, o_callVc, o_callI, popn, cnO, o_BAD, lgt, lst, isL, kil, st1, st2, entL, List.length_nil, List.length_cons, List.replicate, Nat.reduceAdd, Nat.reduceLeDiff, Nat.reduceSub, true_and, and_true, Nat.zero_le, ne_eq, qk_wi, ql_wi, qr_wi, qj_wi, qt_wi, qk_wj, ql_wj, qr_wj, qi_wj, qt_wj, qk_wr, ql_wr, qi_wr, qj_wr, qt_wr, qi_ws, qj_ws, qr_ws, Int.toNat_natCast, Int.toNat_zero, Int.reduceToNat, not_true_eq_false, not_false_eq_true, false_implies, implies_true, Option.some.injEq, reduceCtorEq, Sp0, true_or, or_true, or_self, wi_wi, wj_wj, hM.k, hM.r0, hM.k1, hM.l1, ix0, ix12, ix24, ix36, ix48, ix60, ix1032, ix1044, ix1092, ix1140, ix1188, ix1200, ix1212, ix1284, ix1290, ix1296, ix1298, ix1322, ix1346, ix1358, ixm4, ixm12, ixm24, ixm81, ixm1382, ixadd, Nat.zero_add, rH_k, rH_l, rH_r, rH_1, rH_3, rH_4, rH_5, rW_5, hM.r2, hM.k3, hM.l3, hM.r3, hM.k4, hM.l4, hM.r4, hM.k5, hM.l5, hB, e88]
            repeat' (first | (with_reducible refine And.intro ?_ ?_) | (with_reducible intro))
            all_goals (try (first | with_reducible assumption | omega | (unfold inI; omega) | (unfold inL; omega) | exact cz_in _ _))
            refine nx _ ?_
            rw [if_neg (by omega)]
          · refine s_X8_round_263 x ok _ _ _ _ ?_
            simp only [wpS, o_c, o_cl, o_il, o_ll, o_al, o_is, o_ls, o_as, o_inc, o_add, o_sub, o_mul, o_and, o_or, o_xor, o_shl, o_shr, o_div, o_neg, o_ladd, o_lsub, o_lmul, o_ldiv, o_lrem, o_lneg, o_lcmp, o_i2l, o_l2i, o_dup, o_dup2, o_pop, o_go, o_nn, o_sw, swc, o_iret, o_zret, o_lret, o_vret, o_ieq, o_eq0, o_ine, o_ne0, o_ilt, o_lt0, o_ige, o_ge0, o_igt, o_gt0, o_ile, o_le0, o_iald, o_zald, o_lald, o_aald, o_iast, o_zast, o_last, o_aast, o_alen, o_gi, o_gr, o_pi, o_pz, o_pr, o_new, o_newa, o_copy, o_oinit, o_call, o_callV, o_callVc, o_callI, popn, cnO, o_BAD, lgt, lst, isL, kil, st1, st2, entL, List.length_nil, List.length_cons, List.replicate, Nat.reduceAdd, Nat.reduceLeDiff, Nat.reduceSub, true_and, and_true, Nat.zero_le, ne_eq, qk_wi, ql_wi, qr_wi, qj_wi, qt_wi, qk_wj, ql_wj, qr_wj, qi_wj, qt_wj, qk_wr, ql_wr, qi_wr, qj_wr, qt_wr, qi_ws, qj_ws, qr_ws, Int.toNat_natCast, Int.toNat_zero, Int.reduceToNat, not_true_eq_false, not_false_eq_true, false_implies, implies_true, Option.some.injEq, reduceCtorEq, Sp0, true_or, or_true, or_self, wi_wi, wj_wj, hM.k, hM.r0, hM.k1, hM.l1, ix0, ix12, ix24, ix36, ix48, ix60, ix1032, ix1044, ix1092, ix1140, ix1188, ix1200, ix1212, ix1284, ix1290, ix1296, ix1298, ix1322, ix1346, ix1358, ixm4, ixm12, ixm24, ixm81, ixm1382, ixadd, Nat.zero_add, rH_k, rH_l, rH_r, rH_1, rH_3, rH_4, rH_5, rW_5, hM.r2, hM.k3, hM.l3, hM.r3, hM.k4, hM.l4, hM.r4, hM.k5, hM.l5, hB, e88]
            repeat' (first | (with_reducible refine And.intro ?_ ?_) | (with_reducible intro))
            all_goals (try (first | with_reducible assumption | omega | (unfold inI; omega) | (unfold inL; omega) | exact cz_in _ _))
            refine nx _ ?_
            rw [if_pos (by omega)]
      have lp1 : ∀ j, j ≤ 12 → ∀ f : Nat → Int, (∀ k, k < j → f k = 0) → V i_X8_round x 190 [some (vr (some y)), some (vi C), some (vi F), some (vi G), some (vi W), some (vi at'), some (vi lg), some (vi nx), some (vi mm), some (vi j)] [] (rH h y D w b f) (0, 0) := by
        refine bwd _ ?_ ?_
        · intro f hf
          refine s_X8_round_190 x ok _ _ _ _ ?_
          simp only [wpS, o_c, o_cl, o_il, o_ll, o_al, o_is, o_ls, o_as, o_inc, o_add, o_sub, o_mul, o_and, o_or, o_xor, o_shl, o_shr, o_div, o_neg, o_ladd, o_lsub, o_lmul, o_ldiv, o_lrem, o_lneg, o_lcmp, o_i2l, o_l2i, o_dup, o_dup2, o_pop, o_go, o_nn, o_sw, swc, o_iret, o_zret, o_lret, o_vret, o_ieq, o_eq0, o_ine, o_ne0, o_ilt, o_lt0, o_ige, o_ge0, o_igt, o_gt0, o_ile, o_le0, o_iald, o_zald, o_lald, o_aald, o_iast, o_zast, o_last, o_aast, o_alen, o_gi, o_gr, o_pi, o_pz, o_pr, o_new, o_newa, o_copy, o_oinit, o_call, o_callV, o_callVc, o_callI, popn, cnO, o_BAD, lgt, lst, isL, kil, st1, st2, entL, List.length_nil, List.length_cons, List.replicate, Nat.reduceAdd, Nat.reduceLeDiff, Nat.reduceSub, true_and, and_true, Nat.zero_le, ne_eq, qk_wi, ql_wi, qr_wi, qj_wi, qt_wi, qk_wj, ql_wj, qr_wj, qi_wj, qt_wj, qk_wr, ql_wr, qi_wr, qj_wr, qt_wr, qi_ws, qj_ws, qr_ws, Int.toNat_natCast, Int.toNat_zero, Int.reduceToNat, not_true_eq_false, not_false_eq_true, false_implies, implies_true, Option.some.injEq, reduceCtorEq, Sp0, true_or, or_true, or_self, wi_wi, wj_wj, hM.k]
          repeat' (first | (with_reducible refine And.intro ?_ ?_) | (with_reducible intro))
          all_goals (try (first | with_reducible assumption | omega | (unfold inI; omega) | (unfold inL; omega) | exact cz_in _ _))
          all_goals (try (exfalso; omega))
          refine s_X8_round_211 x ok _ _ _ _ ?_
          simp only [wpS, o_c, o_cl, o_il, o_ll, o_al, o_is, o_ls, o_as, o_inc, o_add, o_sub, o_mul, o_and, o_or, o_xor, o_shl, o_shr, o_div, o_neg, o_ladd, o_lsub, o_lmul, o_ldiv, o_lrem, o_lneg, o_lcmp, o_i2l, o_l2i, o_dup, o_dup2, o_pop, o_go, o_nn, o_sw, swc, o_iret, o_zret, o_lret, o_vret, o_ieq, o_eq0, o_ine, o_ne0, o_ilt, o_lt0, o_ige, o_ge0, o_igt, o_gt0, o_ile, o_le0, o_iald, o_zald, o_lald, o_aald, o_iast, o_zast, o_last, o_aast, o_alen, o_gi, o_gr, o_pi, o_pz, o_pr, o_new, o_newa, o_copy, o_oinit, o_call, o_callV, o_callVc, o_callI, popn, cnO, o_BAD, lgt, lst, isL, kil, st1, st2, entL, List.length_nil, List.length_cons, List.replicate, Nat.reduceAdd, Nat.reduceLeDiff, Nat.reduceSub, true_and, and_true, Nat.zero_le, ne_eq, qk_wi, ql_wi, qr_wi, qj_wi, qt_wi, qk_wj, ql_wj, qr_wj, qi_wj, qt_wj, qk_wr, ql_wr, qi_wr, qj_wr, qt_wr, qi_ws, qj_ws, qr_ws, Int.toNat_natCast, Int.toNat_zero, Int.reduceToNat, not_true_eq_false, not_false_eq_true, false_implies, implies_true, Option.some.injEq, reduceCtorEq, Sp0, true_or, or_true, or_self, wi_wi, wj_wj, hM.k]
          exact lp2 0 (by omega) f (fun k hk2 => hf k hk2)
        · intro j hj ih f hf
          refine s_X8_round_190 x ok _ _ _ _ ?_
          simp only [wpS, o_c, o_cl, o_il, o_ll, o_al, o_is, o_ls, o_as, o_inc, o_add, o_sub, o_mul, o_and, o_or, o_xor, o_shl, o_shr, o_div, o_neg, o_ladd, o_lsub, o_lmul, o_ldiv, o_lrem, o_lneg, o_lcmp, o_i2l, o_l2i, o_dup, o_dup2, o_pop, o_go, o_nn, o_sw, swc, o_iret, o_zret, o_lret, o_vret, o_ieq, o_eq0, o_ine, o_ne0, o_ilt, o_lt0, o_ige, o_ge0, o_igt, o_gt0, o_ile, o_le0, o_iald, o_zald, o_lald, o_aald, o_iast, o_zast, o_last, o_aast, o_alen, o_gi, o_gr, o_pi, o_pz, o_pr, o_new, o_newa, o_copy, o_oinit, o_call, o_callV, o_callVc, o_callI, popn, cnO, o_BAD, lgt, lst, isL, kil, st1, st2, entL, List.length_nil, List.length_cons, List.replicate, Nat.reduceAdd, Nat.reduceLeDiff, Nat.reduceSub, true_and, and_true, Nat.zero_le, ne_eq, qk_wi, ql_wi, qr_wi, qj_wi, qt_wi, qk_wj, ql_wj, qr_wj, qi_wj, qt_wj, qk_wr, ql_wr, qi_wr, qj_wr, qt_wr, qi_ws, qj_ws, qr_ws, Int.toNat_natCast, Int.toNat_zero, Int.reduceToNat, not_true_eq_false, not_false_eq_true, false_implies, implies_true, Option.some.injEq, reduceCtorEq, Sp0, true_or, or_true, or_self, wi_wi, wj_wj, hM.k, rH_k, rH_l, rH_r, rH_5, rW_5, hM.r4, hM.k5, hM.l5]
          repeat' (first | (with_reducible refine And.intro ?_ ?_) | (with_reducible intro))
          all_goals (try (first | with_reducible assumption | omega | (unfold inI; omega) | (unfold inL; omega) | exact cz_in _ _))
          all_goals (try (exfalso; omega))
          refine ih _ (fun k hk2 => ?_)
          unfold fu
          by_cases u : k = j
          · rw [if_pos u]
          · rw [if_neg u]; exact hf k (by omega)
      exact lp1 0 (by omega) f (fun k hk2 => by omega)
    have big : 2 ≤ (pth D G 12 F (2 ^ F)).length → ∀ (w b f : Nat → Int) (a lg : Int) v7 v8 v9, -1 ≤ a → a ≤ 12 → V i_X8_round x 51 [some (vr (some y)), some (vi C), some (vi F), some (vi G), some (vi 2), some (vi a), some (vi lg), v7, v8, v9] [] (rH h y D w b f) (0, 0) := by
      intro hl w b f a lg v7 v8 v9 a1 a2
      have hk := (hK w b f).2.1 hl
      refine s_X8_round_51 x ok _ _ _ _ ?_
      simp only [wpS, o_c, o_cl, o_il, o_ll, o_al, o_is, o_ls, o_as, o_inc, o_add, o_sub, o_mul, o_and, o_or, o_xor, o_shl, o_shr, o_div, o_neg, o_ladd, o_lsub, o_lmul, o_ldiv, o_lrem, o_lneg, o_lcmp, o_i2l, o_l2i, o_dup, o_dup2, o_pop, o_go, o_nn, o_sw, swc, o_iret, o_zret, o_lret, o_vret, o_ieq, o_eq0, o_ine, o_ne0, o_ilt, o_lt0, o_ige, o_ge0, o_igt, o_gt0, o_ile, o_le0, o_iald, o_zald, o_lald, o_aald, o_iast, o_zast, o_last, o_aast, o_alen, o_gi, o_gr, o_pi, o_pz, o_pr, o_new, o_newa, o_copy, o_oinit, o_call, o_callV, o_callVc, o_callI, popn, cnO, o_BAD, lgt, lst, isL, kil, st1, st2, entL, List.length_nil, List.length_cons, List.replicate, Nat.reduceAdd, Nat.reduceLeDiff, Nat.reduceSub, true_and, and_true, Nat.zero_le, ne_eq, qk_wi, ql_wi, qr_wi, qj_wi, qt_wi, qk_wj, ql_wj, qr_wj, qi_wj, qt_wj, qk_wr, ql_wr, qi_wr, qj_wr, qt_wr, qi_ws, qj_ws, qr_ws, Int.toNat_natCast, Int.toNat_zero, Int.reduceToNat, not_true_eq_false, not_false_eq_true, false_implies, implies_true, Option.some.injEq, reduceCtorEq, Sp0, true_or, or_true, or_self, wi_wi, wj_wj, hM.k]
      repeat' (first | (with_reducible refine And.intro ?_ ?_) | (with_reducible intro))
      all_goals (try (first | with_reducible assumption | omega | (unfold inI; omega) | (unfold inL; omega) | exact cz_in _ _))
      all_goals (try (exfalso; omega))
      all_goals (
        refine s_X8_round_296 x ok _ _ _ _ ?_
        simp only [wpS, o_c, o_cl, o_il, o_ll, o_al, o_is, o_ls, o_as, o_inc, o_add, o_sub, o_mul, o_and, o_or, o_xor, o_shl, o_shr, o_div, o_neg, o_ladd, o_lsub, o_lmul, o_ldiv, o_lrem, o_lneg, o_lcmp, o_i2l, o_l2i, o_dup, o_dup2, o_pop, o_go, o_nn, o_sw, swc, o_iret, o_zret, o_lret, o_vret, o_ieq, o_eq0, o_ine, o_ne0, o_ilt, o_lt0, o_ige, o_ge0, o_igt, o_gt0, o_ile, o_le0, o_iald, o_zald, o_lald, o_aald, o_iast, o_zast, o_last, o_aast, o_alen, o_gi, o_gr, o_pi, o_pz, o_pr, o_new, o_newa, o_copy, o_oinit, o_call, o_callV, o_callVc, o_callI, popn, cnO, o_BAD, lgt, lst, isL, kil, st1, st2, entL, List.length_nil, List.length_cons, List.replicate, Nat.reduceAdd, Nat.reduceLeDiff, Nat.reduceSub, true_and, and_true, Nat.zero_le, ne_eq, qk_wi, ql_wi, qr_wi, qj_wi, qt_wi, qk_wj, ql_wj, qr_wj, qi_wj, qt_wj, qk_wr, ql_wr, qi_wr, qj_wr, qt_wr, qi_ws, qj_ws, qr_ws, Int.toNat_natCast, Int.toNat_zero, Int.reduceToNat, not_true_eq_false, not_false_eq_true, false_implies, implies_true, Option.some.injEq, reduceCtorEq, Sp0, true_or, or_true, or_self, wi_wi, wj_wj, hM.k]
        repeat' (first | (with_reducible refine And.intro ?_ ?_) | (with_reducible intro))
        all_goals (try (first | with_reducible assumption | omega | (unfold inI; omega) | (unfold inL; omega) | exact cz_in _ _)))
      all_goals (first | exact hk | (exfalso; omega) | skip)
    have node : ∀ n : Nat, (∀ n' at'' N' : Nat, n = n' + 1 → at'' + (n' + 1) = 12 → cnB N'.testBit 12 = (at'' : Int) + 1 → RdC x h y C F G D n' at'' N' 0) → ∀ at' N : Nat, at' + (n + 1) = 12 → cnB N.testBit 12 = (at' : Int) + 1 → ∀ m : Nat, m ≤ 12 → RdC x h y C F G D n at' N m := by
      intro n hch at' N hat hcn
      refine bwd _ ?_ ?_
      · intro w b f lg L hwr hN hbr hb hwG hL hLF hl0 hl1 hbig hcont v7 v8 v9
        have e0 : L ++ (rS (ctr D (pth D G n) (w at') N) 12 (12 - 12)).map (fun q => pre D w b at' ++ q) = L := List.append_nil L
        rw [e0] at hcont
        have hb2 : b at' = 11 := by rw [hb]; rfl
        have := hcont w (fu b at' 12) f lg (fun k hk => ⟨rfl, fu_n (by omega)⟩) rfl hL hLF hl0 hl1
        refine s_X8_round_51 x ok _ _ _ _ ?_
        simp only [wpS, o_c, o_cl, o_il, o_ll, o_al, o_is, o_ls, o_as, o_inc, o_add, o_sub, o_mul, o_and, o_or, o_xor, o_shl, o_shr, o_div, o_neg, o_ladd, o_lsub, o_lmul, o_ldiv, o_lrem, o_lneg, o_lcmp, o_i2l, o_l2i, o_dup, o_dup2, o_pop, o_go, o_nn, o_sw, swc, o_iret, o_zret, o_lret, o_vret, o_ieq, o_eq0, o_ine, o_ne0, o_ilt, o_lt0, o_ige, o_ge0, o_igt, o_gt0, o_ile, o_le0, o_iald, o_zald, o_lald, o_aald, o_iast, o_zast, o_last, o_aast, o_alen, o_gi, o_gr, o_pi, o_pz, o_pr, o_new, o_newa, o_copy, o_oinit, o_call, o_callV, o_callVc, o_callI, popn, cnO, o_BAD, lgt, lst, isL, kil, st1, st2, entL, List.length_nil, List.length_cons, List.replicate, Nat.reduceAdd, Nat.reduceLeDiff, Nat.reduceSub, true_and, and_true, Nat.zero_le, ne_eq, qk_wi, ql_wi, qr_wi, qj_wi, qt_wi, qk_wj, ql_wj, qr_wj, qi_wj, qt_wj, qk_wr, ql_wr, qi_wr, qj_wr, qt_wr, qi_ws, qj_ws, qr_ws, Int.toNat_natCast, Int.toNat_zero, Int.reduceToNat, not_true_eq_false, not_false_eq_true, false_implies, implies_true, Option.some.injEq, reduceCtorEq, Sp0, true_or, or_true, or_self, wi_wi, wj_wj, hM.k, rH_k, rH_l, rH_r, rH_4, rW_4, hM.r3, hM.k4, hM.l4, hb2, fu_s, Int.reduceAdd]
        repeat' (first | (with_reducible refine And.intro ?_ ?_) | (with_reducible intro))
        all_goals (try (first | with_reducible assumption | omega | (unfold inI; omega) | (unfold inL; omega) | exact cz_in _ _))
        all_goals (first | exact this _ _ _ | (exfalso; omega) | skip)
      · intro m hm12 ihm w b f lg L hwr hN hbr hb hwG hL hLF hl0 hl1 hbig hcont v7 v8 v9
        have hwat := hwr at' (Nat.le_refl _)
        have hIm := (hI.1 m hm12).f
        have es := rS_s (ctr D (pth D G n) (w at') N) hm12
        rw [es, List.map_append, ← List.append_assoc] at hbig hcont
        have hb2 : b at' + 1 = (m : Int) := by rw [hb]; omega
        have hpre : pre D w (fu b at' m) at' = pre D w b at' := pre_c (fun k hk => ⟨rfl, fu_n (by omega)⟩)
        -- on to the next measure of this face
        have on : ∀ (w2 b2 f2 : Nat → Int) (lg2 : Int) (L2 : List Pth), L2 = L ++ (ctr D (pth D G n) (w at') N m).map (fun q => pre D w b at' ++ q) → (∀ k, k < at' → w2 k = w k ∧ b2 k = b k) → w2 at' = w at' → b2 at' = (m : Int) → L2.length < 2 → LF L2 f2 lg2 → 0 ≤ lg2 → lg2 ≤ 12 → ∀ v7 v8 v9, V i_X8_round x 51 [some (vr (some y)), some (vi C), some (vi F), some (vi G), some (vi L2.length), some (vi at'), some (vi lg2), v7, v8, v9] [] (rH h y D w2 b2 f2) (0, 0) := by
          intro w2 b2 f2 lg2 L2 e2 hs hsw hsb hL2 hLF2 hl20 hl21 v7 v8 v9
          have hp2 : pre D w2 b2 at' = pre D w b at' := pre_c hs
          have hwk : ∀ k, k ≤ at' → w2 k = w k := fun k hk => by
            by_cases u : k = at'
            · rw [u, hsw]
            · exact (hs k (by omega)).1
          refine ihm w2 b2 f2 lg2 L2 (fun k hk => by rw [hwk k hk]; exact hwr k hk) (fun q hq => ?_) (fun k hk => by rw [(hs k hk).2]; exact hbr k hk) (by rw [hsb]; omega) (by rw [hsw]; exact hwG) hL2 hLF2 hl20 hl21 (fun hbb => hbig ?_) (fun w' b' f' lg' hs' hsw' h1 h2 h3 h4 v7 v8 v9 => ?_) v7 v8 v9
          · rw [hN q hq]
            constructor
            · rintro ⟨k, hk, e⟩; exact ⟨k, hk, by rw [hwk k hk]; exact e⟩
            · rintro ⟨k, hk, e⟩; exact ⟨k, hk, by rw [← hwk k hk]; exact e⟩
          · rw [hp2, hsw, e2] at hbb
            exact hbb
          · rw [hp2, hsw, e2] at h1 h2 ⊢
            exact hcont w' b' f' lg' (fun k hk => ⟨(hs' k hk).1.trans (hs k hk).1, (hs' k hk).2.trans (hs k hk).2⟩) (hsw'.trans hsw) h1 h2 h3 h4 _ _ _
        have skip : ctr D (pth D G n) (w at') N m = [] → ∀ v7 v8 v9, V i_X8_round x 51 [some (vr (some y)), some (vi C), some (vi F), some (vi G), some (vi L.length), some (vi at'), some (vi lg), v7, v8, v9] [] (rH h y D w (fu b at' m) f) (0, 0) := by
          intro e v7 v8 v9
          exact on w (fu b at' m) f lg L (by rw [e]; exact (List.append_nil L).symm) (fun k hk => ⟨rfl, fu_n (by omega)⟩) rfl fu_s hL hLF hl0 hl1 v7 v8 v9
        have h164 : ctr D (pth D G n) (w at') N m = [] → ∀ (nx : Int) (v9 : Option AV), V i_X8_round x 164 [some (vr (some y)), some (vi C), some (vi F), some (vi G), some (vi L.length), some (vi at'), some (vi lg), some (vi nx), some (vi 0), v9] [] (rH h y D w (fu b at' m) f) (0, 0) := by
          intro e nx v9
          have := skip e
          refine s_X8_round_164 x ok _ _ _ _ ?_
          simp only [wpS, o_c, o_cl, o_il, o_ll, o_al, o_is, o_ls, o_as, o_inc, o_add, o_sub, o_mul, o_and, o_or, o_xor, o_shl, o_shr, o_div, o_neg, o_ladd, o_lsub, o_lmul, o_ldiv, o_lrem, o_lneg, o_lcmp, o_i2l, o_l2i, o_dup, o_dup2, o_pop, o_go, o_nn, o_sw, swc, o_iret, o_zret, o_lret, o_vret, o_ieq, o_eq0, o_ine, o_ne0, o_ilt, o_lt0, o_ige, o_ge0, o_igt, o_gt0, o_ile, o_le0, o_iald, o_zald, o_lald, o_aald, o_iast, o_zast, o_last, o_aast, o_alen, o_gi, o_gr, o_pi, o_pz, o_pr, o_new, o_newa, o_copy, o_oinit, o_call, o_callV, o_callVc, o_callI, popn, cnO, o_BAD, lgt, lst, isL, kil, st1, st2, entL, List.length_nil, List.length_cons, List.replicate, Nat.reduceAdd, Nat.reduceLeDiff, Nat.reduceSub, true_and, and_true, Nat.zero_le, ne_eq, qk_wi, ql_wi, qr_wi, qj_wi, qt_wi, qk_wj, ql_wj, qr_wj, qi_wj, qt_wj, qk_wr, ql_wr, qi_wr, qj_wr, qt_wr, qi_ws, qj_ws, qr_ws, Int.toNat_natCast, Int.toNat_zero, Int.reduceToNat, not_true_eq_false, not_false_eq_true, false_implies, implies_true, Option.some.injEq, reduceCtorEq, Sp0, true_or, or_true, or_self, wi_wi, wj_wj, hM.k]
          repeat' (first | (with_reducible refine And.intro ?_ ?_) | (with_reducible intro))
          all_goals (try (first | with_reducible assumption | omega | (unfold inI; omega) | (unfold inL; omega) | exact cz_in _ _))
          all_goals (first | exact this _ _ _ | (exfalso; omega) | skip)
        -- a face that wasn't seen
        have h172 : 0 ≤ nxt D m (w at') → nxt D m (w at') ≤ 11 → N.testBit (nxt D m (w at')).toNat = false → ∀ v9, V i_X8_round x 172 [some (vr (some y)), some (vi C), some (vi F), some (vi G), some (vi L.length), some (vi at'), some (vi lg), some (vi (nxt D m (w at'))), some (vi 1), v9] [] (rH h y D w (fu b at' m) f) (0, 0) := by
          intro n0 n1 hnb v9
          have hctr : ctr D (pth D G n) (w at') N m = (pth D G n (nxt D m (w at')) (N ||| 2 ^ (nxt D m (w at')).toNat)).map (List.cons (m, dir D m (w at'))) := if_pos ⟨n0, hnb⟩
          have hp1 : pre D w (fu b at' m) (at' + 1) = pre D w b at' ++ [(m, dir D m (w at'))] := by
            show pre D w (fu b at' m) at' ++ [((fu b at' (m : Int) at').toNat, dir D (fu b at' (m : Int) at').toNat (w at'))] = _
            rw [hpre, fu_s, Int.toNat_natCast]
          by_cases hG2 : nxt D m (w at') = G
          · have hpth : pth D G n (nxt D m (w at')) (N ||| 2 ^ (nxt D m (w at')).toNat) = [[]] := by
              rw [hG2]
              cases n with
              | zero => exact if_pos rfl
              | succ n => exact if_pos rfl
            rw [hpth] at hctr
            have fnd := found at' w (fu b at' m) (L.length + 1) (at' + 1) (nxt D m (w at')) 1 (by omega) hwr (fun k hk => by
              unfold fu
              by_cases u : k = at'
              · rw [if_pos u]; omega
              · rw [if_neg u]; exact hbr k (by omega)) (by omega) (by omega) (fun f2 hf2 v9 => by
                rw [hp1] at hf2
                have e2 : L ++ (ctr D (pth D G n) (w at') N m).map (fun q => pre D w b at' ++ q) = L ++ [pre D w b at' ++ [(m, dir D m (w at'))]] := by rw [hctr]; rfl
                have el : ((L ++ [pre D w b at' ++ [(m, dir D m (w at'))]]).length : Int) = (L.length : Int) + 1 := by rw [List.length_append]; rfl
                by_cases hl : L = []
                · have := on w (fu b at' m) f2 ((at' : Int) + 1) _ e2.symm (fun k hk => ⟨rfl, fu_n (by omega)⟩) rfl fu_s (by rw [hl]; exact Nat.lt_succ_self 1) (fun p hp => by
                    rw [hl] at hp
                    have hp' := (List.cons.inj hp).1
                    rw [← hp']
                    refine ⟨hf2, ?_⟩
                    rw [List.length_append, pre_len]
                    rfl) (by omega) (by omega)
                  rw [el] at this
                  exact this _ _ _
                · have hl1 : L.length = 1 := by
                    have := List.length_pos_iff.mpr hl
                    omega
                  have := big (hbig (by
                    rw [e2, List.length_append, List.length_append, hl1]
                    show 2 ≤ 1 + 1 + _
                    omega)) w (fu b at' m) f2 at' ((at' : Int) + 1) (some (vi (nxt D m (w at')))) (some (vi 1)) v9 (by omega) (by omega)
                  rw [hl1]
                  exact this)
            refine s_X8_round_172 x ok _ _ _ _ ?_
            simp only [wpS, o_c, o_cl, o_il, o_ll, o_al, o_is, o_ls, o_as, o_inc, o_add, o_sub, o_mul, o_and, o_or, o_xor, o_shl, o_shr, o_div, o_neg, o_ladd, o_lsub, o_lmul, o_ldiv, o_lrem, o_lneg, o_lcmp, o_i2l, o_l2i, o_dup, o_dup2, o_pop, o_go, o_nn, o_sw, swc, o_iret, o_zret, o_lret, o_vret, o_ieq, o_eq0, o_ine, o_ne0, o_ilt, o_lt0, o_ige, o_ge0, o_igt, o_gt0, o_ile, o_le0, o_iald, o_zald, o_lald, o_aald, o_iast, o_zast, o_last, o_aast, o_alen, o_gi, o_gr, o_pi, o_pz, o_pr, o_new, o_newa, o_copy, o_oinit, o_call, o_callV, o_callVc, o_callI, popn, cnO, o_BAD, lgt, lst, isL, kil, st1, st2, entL, List.length_nil, List.length_cons, List.replicate, Nat.reduceAdd, Nat.reduceLeDiff, Nat.reduceSub, true_and, and_true, Nat.zero_le, ne_eq, qk_wi, ql_wi, qr_wi, qj_wi, qt_wi, qk_wj, ql_wj, qr_wj, qi_wj, qt_wj, qk_wr, ql_wr, qi_wr, qj_wr, qt_wr, qi_ws, qj_ws, qr_ws, Int.toNat_natCast, Int.toNat_zero, Int.reduceToNat, not_true_eq_false, not_false_eq_true, false_implies, implies_true, Option.some.injEq, reduceCtorEq, Sp0, true_or, or_true, or_self, wi_wi, wj_wj, hM.k, rH_k]
            repeat' (first | (with_reducible refine And.intro ?_ ?_) | (with_reducible intro))
            all_goals (try (first | with_reducible assumption | omega | (unfold inI; omega) | (unfold inL; omega) | exact cz_in _ _))
            all_goals (first | exact fnd _ | (exfalso; omega) | skip)
          · have hcu := cnB_up hnb 12
            rw [if_pos (by omega), ← bit_or] at hcu
            have hle := cnB_le (N ||| 2 ^ (nxt D m (w at')).toNat).testBit 12
            obtain ⟨n', hn'⟩ : ∃ n', n = n' + 1 := ⟨n - 1, by omega⟩
            have hchild := hch n' (at' + 1) (N ||| 2 ^ (nxt D m (w at')).toNat) hn' (by omega) (by push_cast; omega)
            subst hn'
            have hpth : pth D G (n' + 1) (nxt D m (w at')) (N ||| 2 ^ (nxt D m (w at')).toNat) = sumL (ctr D (pth D G n') (nxt D m (w at')) (N ||| 2 ^ (nxt D m (w at')).toNat)) 12 := if_neg hG2
            have eL : (rS (ctr D (pth D G n') (nxt D m (w at')) (N ||| 2 ^ (nxt D m (w at')).toNat)) 0 (12 - 0)).map (fun q => (pre D w b at' ++ [(m, dir D m (w at'))]) ++ q) = (ctr D (pth D G (n' + 1)) (w at') N m).map (fun q => pre D w b at' ++ q) := by
              rw [hctr, hpth, ← rS_0, List.map_map]
              refine List.map_congr_left (fun q _ => ?_)
              show (pre D w b at' ++ [(m, dir D m (w at'))]) ++ q = pre D w b at' ++ ((m, dir D m (w at')) :: q)
              rw [List.append_assoc]
              rfl
            have hp3 : pre D (fu w (at' + 1) (nxt D m (w at'))) (fu (fu b at' m) (at' + 1) (-1)) (at' + 1) = pre D w b at' ++ [(m, dir D m (w at'))] := by
              rw [← hp1]
              exact pre_c (fun k hk => ⟨fu_n (by omega), fu_n (by omega)⟩)
            have go := hchild (fu w (at' + 1) (nxt D m (w at'))) (fu (fu b at' m) (at' + 1) (-1)) f lg L (fun k hk => by
                by_cases u : k = at' + 1
                · rw [u, fu_s]; exact ⟨n0, n1⟩
                · rw [fu_n u]; exact hwr k (by omega)) (fun q hq => by
                rw [bit_or]
                by_cases u : q = (nxt D m (w at')).toNat
                · rw [u, fu_s]
                  exact ⟨fun _ => ⟨at' + 1, Nat.le_refl _, by rw [fu_s]; omega⟩, fun _ => rfl⟩
                · rw [fu_n u, hN q hq]
                  constructor
                  · rintro ⟨k, hk, e⟩
                    exact ⟨k, by omega, by rw [fu_n (by omega)]; exact e⟩
                  · rintro ⟨k, hk, e⟩
                    by_cases u2 : k = at' + 1
                    · rw [u2, fu_s] at e
                      omega
                    · rw [fu_n u2] at e
                      exact ⟨k, by omega, e⟩) (fun k hk => by
                rw [fu_n (by omega)]
                by_cases u : k = at'
                · rw [u, fu_s]; omega
                · rw [fu_n u]; exact hbr k (by omega)) (by rw [fu_s]; rfl) (by rw [fu_s]; exact hG2) hL hLF hl0 hl1
            rw [fu_s, hp3, eL] at go
            have go2 := go (fun hbb => hbig (by rw [List.length_append] at hbb ⊢; rw [List.length_append]; omega)) (fun w' b' f' lg' hs' hsw' h1 h2 h3 h4 v7 v8 v9 => by
              have hwat' : w' at' = w at' := by rw [(hs' at' (by omega)).1, fu_n (by omega)]
              have hbat' : b' at' = (m : Int) := by rw [(hs' at' (by omega)).2, fu_n (by omega), fu_s]
              have := on w' b' f' lg' _ rfl (fun k hk => ⟨by rw [(hs' k (by omega)).1, fu_n (by omega)], by rw [(hs' k (by omega)).2, fu_n (by omega), fu_n (by omega)]⟩) hwat' hbat' h1 h2 h3 h4 v7 v8 v9
              have e1 : (((at' + 1 : Nat) : Int) - 1) = (at' : Int) := by omega
              rw [e1]
              exact this)
            refine s_X8_round_172 x ok _ _ _ _ ?_
            simp only [wpS, o_c, o_cl, o_il, o_ll, o_al, o_is, o_ls, o_as, o_inc, o_add, o_sub, o_mul, o_and, o_or, o_xor, o_shl, o_shr, o_div, o_neg, o_ladd, o_lsub, o_lmul, o_ldiv, o_lrem, o_lneg, o_lcmp, o_i2l, o_l2i, o_dup, o_dup2, o_pop, o_go, o_nn, o_sw, swc, o_iret, o_zret, o_lret, o_vret, o_ieq, o_eq0, o_ine, o_ne0, o_ilt, o_lt0, o_ige, o_ge0, o_igt, o_gt0, o_ile, o_le0, o_iald, o_zald, o_lald, o_aald, o_iast, o_zast, o_last, o_aast, o_alen, o_gi, o_gr, o_pi, o_pz, o_pr, o_new, o_newa, o_copy, o_oinit, o_call, o_callV, o_callVc, o_callI, popn, cnO, o_BAD, lgt, lst, isL, kil, st1, st2, entL, List.length_nil, List.length_cons, List.replicate, Nat.reduceAdd, Nat.reduceLeDiff, Nat.reduceSub, true_and, and_true, Nat.zero_le, ne_eq, qk_wi, ql_wi, qr_wi, qj_wi, qt_wi, qk_wj, ql_wj, qr_wj, qi_wj, qt_wj, qk_wr, ql_wr, qi_wr, qj_wr, qt_wr, qi_ws, qj_ws, qr_ws, Int.toNat_natCast, Int.toNat_zero, Int.reduceToNat, not_true_eq_false, not_false_eq_true, false_implies, implies_true, Option.some.injEq, reduceCtorEq, Sp0, true_or, or_true, or_self, wi_wi, wj_wj, hM.k, rH_k]
            repeat' (first | (with_reducible refine And.intro ?_ ?_) | (with_reducible intro))
            all_goals (try (first | with_reducible assumption | omega | (unfold inI; omega) | (unfold inL; omega) | exact cz_in _ _))
            all_goals (try (exfalso; omega))
            refine s_X8_round_273 x ok _ _ _ _ ?_
            simp only [wpS, o_c, o_cl, o_il, o_ll, o_al, o_is, o_ls, o_as, o_inc, o_add, o_sub, o_mul, o_and, o_or, o_xor, o_shl, o_shr, o_div, o_neg, o_ladd, o_lsub, o_lmul, o_ldiv, o_lrem, o_lneg, o_lcmp, o_i2l, o_l2i, o_dup, o_dup2, o_pop, o_go, o_nn, o_sw, swc, o_iret, o_zret, o_lret, o_vret, o_ieq, o_eq0, o_ine, o_ne0, o_ilt, o_lt0, o_ige, o_ge0, o_igt, o_gt0, o_ile, o_le0, o_iald, o_zald, o_lald, o_aald, o_iast, o_zast, o_last, o_aast, o_alen, o_gi, o_gr, o_pi, o_pz, o_pr, o_new, o_newa, o_copy, o_oinit, o_call, o_callV, o_callVc, o_callI, popn, cnO, o_BAD, lgt, lst, isL, kil, st1, st2, entL, List.length_nil, List.length_cons, List.replicate, Nat.reduceAdd, Nat.reduceLeDiff, Nat.reduceSub, true_and, and_true, Nat.zero_le, ne_eq, qk_wi, ql_wi, qr_wi, qj_wi, qt_wi, qk_wj, ql_wj, qr_wj, qi_wj, qt_wj, qk_wr, ql_wr, qi_wr, qj_wr, qt_wr, qi_ws, qj_ws, qr_ws, Int.toNat_natCast, Int.toNat_zero, Int.reduceToNat, not_true_eq_false, not_false_eq_true, false_implies, implies_true, Option.some.injEq, reduceCtorEq, Sp0, true_or, or_true, or_self, wi_wi, wj_wj, hM.k, rH_k, rH_l, rH_r, rH_3, rH_4, rW_3, rW_4, hM.r2, hM.k3, hM.l3, hM.r3, hM.k4, hM.l4, show ((at' : Int) + 1).toNat = at' + 1 from by omega]
            repeat' (first | (with_reducible refine And.intro ?_ ?_) | (with_reducible intro))
            all_goals (try (first | with_reducible assumption | omega | (unfold inI; omega) | (unfold inL; omega) | exact cz_in _ _))
            all_goals (first | exact go2 _ _ _ | (exfalso; omega) | skip)
        have seen : 0 ≤ nxt D m (w at') → nxt D m (w at') ≤ 11 → ∀ k, k ≤ at' + 1 → (∀ j, j < k → w j ≠ nxt D m (w at')) → V i_X8_round x 127 [some (vr (some y)), some (vi C), some (vi F), some (vi G), some (vi L.length), some (vi at'), some (vi lg), some (vi (nxt D m (w at'))), some (vi 1), some (vi k)] [] (rH h y D w (fu b at' m) f) (0, 0) := by
          intro n0 n1
          have hno : ∀ k, k ≤ at' → w k = nxt D m (w at') → ctr D (pth D G n) (w at') N m = [] := by
            intro k hk e
            refine if_neg (fun u => ?_)
            have := (hN (nxt D m (w at')).toNat (by omega)).mpr ⟨k, hk, by rw [e]; omega⟩
            rw [u.2] at this
            cases this
          refine bwd _ ?_ ?_
          · intro hall
            have hnb : N.testBit (nxt D m (w at')).toNat = false := by
              cases hb3 : N.testBit (nxt D m (w at')).toNat with
              | false => rfl
              | true =>
                obtain ⟨k, hk, e⟩ := (hN (nxt D m (w at')).toNat (by omega)).mp hb3
                exact absurd (by rw [e]; omega) (hall k (by omega))
            have h1 := h172 n0 n1 hnb
            refine s_X8_round_127 x ok _ _ _ _ ?_
            simp only [wpS, o_c, o_cl, o_il, o_ll, o_al, o_is, o_ls, o_as, o_inc, o_add, o_sub, o_mul, o_and, o_or, o_xor, o_shl, o_shr, o_div, o_neg, o_ladd, o_lsub, o_lmul, o_ldiv, o_lrem, o_lneg, o_lcmp, o_i2l, o_l2i, o_dup, o_dup2, o_pop, o_go, o_nn, o_sw, swc, o_iret, o_zret, o_lret, o_vret, o_ieq, o_eq0, o_ine, o_ne0, o_ilt, o_lt0, o_ige, o_ge0, o_igt, o_gt0, o_ile, o_le0, o_iald, o_zald, o_lald, o_aald, o_iast, o_zast, o_last, o_aast, o_alen, o_gi, o_gr, o_pi, o_pz, o_pr, o_new, o_newa, o_copy, o_oinit, o_call, o_callV, o_callVc, o_callI, popn, cnO, o_BAD, lgt, lst, isL, kil, st1, st2, entL, List.length_nil, List.length_cons, List.replicate, Nat.reduceAdd, Nat.reduceLeDiff, Nat.reduceSub, true_and, and_true, Nat.zero_le, ne_eq, qk_wi, ql_wi, qr_wi, qj_wi, qt_wi, qk_wj, ql_wj, qr_wj, qi_wj, qt_wj, qk_wr, ql_wr, qi_wr, qj_wr, qt_wr, qi_ws, qj_ws, qr_ws, Int.toNat_natCast, Int.toNat_zero, Int.reduceToNat, not_true_eq_false, not_false_eq_true, false_implies, implies_true, Option.some.injEq, reduceCtorEq, Sp0, true_or, or_true, or_self, wi_wi, wj_wj, hM.k]
            repeat' (first | (with_reducible refine And.intro ?_ ?_) | (with_reducible intro))
            all_goals (try (first | with_reducible assumption | omega | (unfold inI; omega) | (unfold inL; omega) | exact cz_in _ _))
            all_goals (try (exfalso; omega))
            all_goals (
              refine s_X8_round_164 x ok _ _ _ _ ?_
              simp only [wpS, o_c, o_cl, o_il, o_ll, o_al, o_is, o_ls, o_as, o_inc, o_add, o_sub, o_mul, o_and, o_or, o_xor, o_shl, o_shr, o_div, o_neg, o_ladd, o_lsub, o_lmul, o_ldiv, o_lrem, o_lneg, o_lcmp, o_i2l, o_l2i, o_dup, o_dup2, o_pop, o_go, o_nn, o_sw, swc, o_iret, o_zret, o_lret, o_vret, o_ieq, o_eq0, o_ine, o_ne0, o_ilt, o_lt0, o_ige, o_ge0, o_igt, o_gt0, o_ile, o_le0, o_iald, o_zald, o_lald, o_aald, o_iast, o_zast, o_last, o_aast, o_alen, o_gi, o_gr, o_pi, o_pz, o_pr, o_new, o_newa, o_copy, o_oinit, o_call, o_callV, o_callVc, o_callI, popn, cnO, o_BAD, lgt, lst, isL, kil, st1, st2, entL, List.length_nil, List.length_cons, List.replicate, Nat.reduceAdd, Nat.reduceLeDiff, Nat.reduceSub, true_and, and_true, Nat.zero_le, ne_eq, qk_wi, ql_wi, qr_wi, qj_wi, qt_wi, qk_wj, ql_wj, qr_wj, qi_wj, qt_wj, qk_wr, ql_wr, qi_wr, qj_wr, qt_wr, qi_ws, qj_ws, qr_ws, Int.toNat_natCast, Int.toNat_zero, Int.reduceToNat, not_true_eq_false, not_false_eq_true, false_implies, implies_true, Option.some.injEq, reduceCtorEq, Sp0, true_or, or_true, or_self, wi_wi, wj_wj, hM.k]
              repeat' (first | (with_reducible refine And.intro ?_ ?_) | (with_reducible intro))
              all_goals (try (first | with_reducible assumption | omega | (unfold inI; omega) | (unfold inL; omega) | exact cz_in _ _)))
            all_goals (first | exact h1 _ | (exfalso; omega) | skip)
          · intro k hk ih hall
            have hwk := hwr k (by omega)
            by_cases e : w k = nxt D m (w at')
            · have h1 := h164 (hno k (by omega) e) (nxt D m (w at'))
              refine s_X8_round_127 x ok _ _ _ _ ?_
              simp only [wpS, o_c, o_cl, o_il, o_ll, o_al, o_is, o_ls, o_as, o_inc, o_add, o_sub, o_mul, o_and, o_or, o_xor, o_shl, o_shr, o_div, o_neg, o_ladd, o_lsub, o_lmul, o_ldiv, o_lrem, o_lneg, o_lcmp, o_i2l, o_l2i, o_dup, o_dup2, o_pop, o_go, o_nn, o_sw, swc, o_iret, o_zret, o_lret, o_vret, o_ieq, o_eq0, o_ine, o_ne0, o_ilt, o_lt0, o_ige, o_ge0, o_igt, o_gt0, o_ile, o_le0, o_iald, o_zald, o_lald, o_aald, o_iast, o_zast, o_last, o_aast, o_alen, o_gi, o_gr, o_pi, o_pz, o_pr, o_new, o_newa, o_copy, o_oinit, o_call, o_callV, o_callVc, o_callI, popn, cnO, o_BAD, lgt, lst, isL, kil, st1, st2, entL, List.length_nil, List.length_cons, List.replicate, Nat.reduceAdd, Nat.reduceLeDiff, Nat.reduceSub, true_and, and_true, Nat.zero_le, ne_eq, qk_wi, ql_wi, qr_wi, qj_wi, qt_wi, qk_wj, ql_wj, qr_wj, qi_wj, qt_wj, qk_wr, ql_wr, qi_wr, qj_wr, qt_wr, qi_ws, qj_ws, qr_ws, Int.toNat_natCast, Int.toNat_zero, Int.reduceToNat, not_true_eq_false, not_false_eq_true, false_implies, implies_true, Option.some.injEq, reduceCtorEq, Sp0, true_or, or_true, or_self, wi_wi, wj_wj, hM.k, rH_k, rH_l, rH_r, rH_3, hM.r2, hM.k3, hM.l3]
              repeat' (first | (with_reducible refine And.intro ?_ ?_) | (with_reducible intro))
              all_goals (try (first | with_reducible assumption | omega | (unfold inI; omega) | (unfold inL; omega) | exact cz_in _ _))
              all_goals (try (exfalso; omega))
              refine s_X8_round_155 x ok _ _ _ _ ?_
              simp only [wpS, o_c, o_cl, o_il, o_ll, o_al, o_is, o_ls, o_as, o_inc, o_add, o_sub, o_mul, o_and, o_or, o_xor, o_shl, o_shr, o_div, o_neg, o_ladd, o_lsub, o_lmul, o_ldiv, o_lrem, o_lneg, o_lcmp, o_i2l, o_l2i, o_dup, o_dup2, o_pop, o_go, o_nn, o_sw, swc, o_iret, o_zret, o_lret, o_vret, o_ieq, o_eq0, o_ine, o_ne0, o_ilt, o_lt0, o_ige, o_ge0, o_igt, o_gt0, o_ile, o_le0, o_iald, o_zald, o_lald, o_aald, o_iast, o_zast, o_last, o_aast, o_alen, o_gi, o_gr, o_pi, o_pz, o_pr, o_new, o_newa, o_copy, o_oinit, o_call, o_callV, o_callVc, o_callI, popn, cnO, o_BAD, lgt, lst, isL, kil, st1, st2, entL, List.length_nil, List.length_cons, List.replicate, Nat.reduceAdd, Nat.reduceLeDiff, Nat.reduceSub, true_and, and_true, Nat.zero_le, ne_eq, qk_wi, ql_wi, qr_wi, qj_wi, qt_wi, qk_wj, ql_wj, qr_wj, qi_wj, qt_wj, qk_wr, ql_wr, qi_wr, qj_wr, qt_wr, qi_ws, qj_ws, qr_ws, Int.toNat_natCast, Int.toNat_zero, Int.reduceToNat, not_true_eq_false, not_false_eq_true, false_implies, implies_true, Option.some.injEq, reduceCtorEq, Sp0, true_or, or_true, or_self, wi_wi, wj_wj, hM.k]
              repeat' (first | (with_reducible refine And.intro ?_ ?_) | (with_reducible intro))
              all_goals (try (first | with_reducible assumption | omega | (unfold inI; omega) | (unfold inL; omega) | exact cz_in _ _))
              all_goals (try (exfalso; omega))
              refine s_X8_round_127 x ok _ _ _ _ ?_
              simp only [wpS, o_c, o_cl, o_il, o_ll, o_al, o_is, o_ls, o_as, o_inc, o_add, o_sub, o_mul, o_and, o_or, o_xor, o_shl, o_shr, o_div, o_neg, o_ladd, o_lsub, o_lmul, o_ldiv, o_lrem, o_lneg, o_lcmp, o_i2l, o_l2i, o_dup, o_dup2, o_pop, o_go, o_nn, o_sw, swc, o_iret, o_zret, o_lret, o_vret, o_ieq, o_eq0, o_ine, o_ne0, o_ilt, o_lt0, o_ige, o_ge0, o_igt, o_gt0, o_ile, o_le0, o_iald, o_zald, o_lald, o_aald, o_iast, o_zast, o_last, o_aast, o_alen, o_gi, o_gr, o_pi, o_pz, o_pr, o_new, o_newa, o_copy, o_oinit, o_call, o_callV, o_callVc, o_callI, popn, cnO, o_BAD, lgt, lst, isL, kil, st1, st2, entL, List.length_nil, List.length_cons, List.replicate, Nat.reduceAdd, Nat.reduceLeDiff, Nat.reduceSub, true_and, and_true, Nat.zero_le, ne_eq, qk_wi, ql_wi, qr_wi, qj_wi, qt_wi, qk_wj, ql_wj, qr_wj, qi_wj, qt_wj, qk_wr, ql_wr, qi_wr, qj_wr, qt_wr, qi_ws, qj_ws, qr_ws, Int.toNat_natCast, Int.toNat_zero, Int.reduceToNat, not_true_eq_false, not_false_eq_true, false_implies, implies_true, Option.some.injEq, reduceCtorEq, Sp0, true_or, or_true, or_self, wi_wi, wj_wj, hM.k]
              repeat' (first | (with_reducible refine And.intro ?_ ?_) | (with_reducible intro))
              all_goals (try (first | with_reducible assumption | omega | (unfold inI; omega) | (unfold inL; omega) | exact cz_in _ _))
              all_goals (first | exact h1 _ | (exfalso; omega) | skip)
            · have h1 := ih (fun j hj => by
                by_cases u : j = k
                · rw [u]; exact e
                · exact hall j (by omega))
              refine s_X8_round_127 x ok _ _ _ _ ?_
              simp only [wpS, o_c, o_cl, o_il, o_ll, o_al, o_is, o_ls, o_as, o_inc, o_add, o_sub, o_mul, o_and, o_or, o_xor, o_shl, o_shr, o_div, o_neg, o_ladd, o_lsub, o_lmul, o_ldiv, o_lrem, o_lneg, o_lcmp, o_i2l, o_l2i, o_dup, o_dup2, o_pop, o_go, o_nn, o_sw, swc, o_iret, o_zret, o_lret, o_vret, o_ieq, o_eq0, o_ine, o_ne0, o_ilt, o_lt0, o_ige, o_ge0, o_igt, o_gt0, o_ile, o_le0, o_iald, o_zald, o_lald, o_aald, o_iast, o_zast, o_last, o_aast, o_alen, o_gi, o_gr, o_pi, o_pz, o_pr, o_new, o_newa, o_copy, o_oinit, o_call, o_callV, o_callVc, o_callI, popn, cnO, o_BAD, lgt, lst, isL, kil, st1, st2, entL, List.length_nil, List.length_cons, List.replicate, Nat.reduceAdd, Nat.reduceLeDiff, Nat.reduceSub, true_and, and_true, Nat.zero_le, ne_eq, qk_wi, ql_wi, qr_wi, qj_wi, qt_wi, qk_wj, ql_wj, qr_wj, qi_wj, qt_wj, qk_wr, ql_wr, qi_wr, qj_wr, qt_wr, qi_ws, qj_ws, qr_ws, Int.toNat_natCast, Int.toNat_zero, Int.reduceToNat, not_true_eq_false, not_false_eq_true, false_implies, implies_true, Option.some.injEq, reduceCtorEq, Sp0, true_or, or_true, or_self, wi_wi, wj_wj, hM.k, rH_k, rH_l, rH_r, rH_3, hM.r2, hM.k3, hM.l3]
              repeat' (first | (with_reducible refine And.intro ?_ ?_) | (with_reducible intro))
              all_goals (try (first | with_reducible assumption | omega | (unfold inI; omega) | (unfold inL; omega) | exact cz_in _ _))
              all_goals (try (exfalso; omega))
              refine s_X8_round_156 x ok _ _ _ _ ?_
              simp only [wpS, o_c, o_cl, o_il, o_ll, o_al, o_is, o_ls, o_as, o_inc, o_add, o_sub, o_mul, o_and, o_or, o_xor, o_shl, o_shr, o_div, o_neg, o_ladd, o_lsub, o_lmul, o_ldiv, o_lrem, o_lneg, o_lcmp, o_i2l, o_l2i, o_dup, o_dup2, o_pop, o_go, o_nn, o_sw, swc, o_iret, o_zret, o_lret, o_vret, o_ieq, o_eq0, o_ine, o_ne0, o_ilt, o_lt0, o_ige, o_ge0, o_igt, o_gt0, o_ile, o_le0, o_iald, o_zald, o_lald, o_aald, o_iast, o_zast, o_last, o_aast, o_alen, o_gi, o_gr, o_pi, o_pz, o_pr, o_new, o_newa, o_copy, o_oinit, o_call, o_callV, o_callVc, o_callI, popn, cnO, o_BAD, lgt, lst, isL, kil, st1, st2, entL, List.length_nil, List.length_cons, List.replicate, Nat.reduceAdd, Nat.reduceLeDiff, Nat.reduceSub, true_and, and_true, Nat.zero_le, ne_eq, qk_wi, ql_wi, qr_wi, qj_wi, qt_wi, qk_wj, ql_wj, qr_wj, qi_wj, qt_wj, qk_wr, ql_wr, qi_wr, qj_wr, qt_wr, qi_ws, qj_ws, qr_ws, Int.toNat_natCast, Int.toNat_zero, Int.reduceToNat, not_true_eq_false, not_false_eq_true, false_implies, implies_true, Option.some.injEq, reduceCtorEq, Sp0, true_or, or_true, or_self, wi_wi, wj_wj, hM.k]
              repeat' (first | (with_reducible refine And.intro ?_ ?_) | (with_reducible intro))
              all_goals (try (first | with_reducible assumption | omega | (unfold inI; omega) | (unfold inL; omega) | exact cz_in _ _))
              all_goals (first | exact h1 | (exfalso; omega) | skip)
        refine s_X8_round_51 x ok _ _ _ _ ?_
        simp only [wpS, o_c, o_cl, o_il, o_ll, o_al, o_is, o_ls, o_as, o_inc, o_add, o_sub, o_mul, o_and, o_or, o_xor, o_shl, o_shr, o_div, o_neg, o_ladd, o_lsub, o_lmul, o_ldiv, o_lrem, o_lneg, o_lcmp, o_i2l, o_l2i, o_dup, o_dup2, o_pop, o_go, o_nn, o_sw, swc, o_iret, o_zret, o_lret, o_vret, o_ieq, o_eq0, o_ine, o_ne0, o_ilt, o_lt0, o_ige, o_ge0, o_igt, o_gt0, o_ile, o_le0, o_iald, o_zald, o_lald, o_aald, o_iast, o_zast, o_last, o_aast, o_alen, o_gi, o_gr, o_pi, o_pz, o_pr, o_new, o_newa, o_copy, o_oinit, o_call, o_callV, o_callVc, o_callI, popn, cnO, o_BAD, lgt, lst, isL, kil, st1, st2, entL, List.length_nil, List.length_cons, List.replicate, Nat.reduceAdd, Nat.reduceLeDiff, Nat.reduceSub, true_and, and_true, Nat.zero_le, ne_eq, qk_wi, ql_wi, qr_wi, qj_wi, qt_wi, qk_wj, ql_wj, qr_wj, qi_wj, qt_wj, qk_wr, ql_wr, qi_wr, qj_wr, qt_wr, qi_ws, qj_ws, qr_ws, Int.toNat_natCast, Int.toNat_zero, Int.reduceToNat, not_true_eq_false, not_false_eq_true, false_implies, implies_true, Option.some.injEq, reduceCtorEq, Sp0, true_or, or_true, or_self, wi_wi, wj_wj, hM.k, rH_k, rH_l, rH_r, rH_4, rW_4, hM.r3, hM.k4, hM.l4, hb2, fu_s]
        repeat' (first | (with_reducible refine And.intro ?_ ?_) | (with_reducible intro))
        all_goals (try (first | with_reducible assumption | omega | (unfold inI; omega) | (unfold inL; omega) | exact cz_in _ _))
        all_goals (try (exfalso; omega))
        refine s_X8_round_91 x ok _ _ _ _ ?_
        simp only [wpS, o_c, o_cl, o_il, o_ll, o_al, o_is, o_ls, o_as, o_inc, o_add, o_sub, o_mul, o_and, o_or, o_xor, o_shl, o_shr, o_div, o_neg, o_ladd, o_lsub, o_lmul, o_ldiv, o_lrem, o_lneg, o_lcmp, o_i2l, o_l2i, o_dup, o_dup2, o_pop, o_go, o_nn, o_sw, swc, o_iret, o_zret, o_lret, o_vret, o_ieq, o_eq0, o_ine, o_ne0, o_ilt, o_lt0, o_ige, o_ge0, o_igt, o_gt0, o_ile, o_le0, o_iald, o_zald, o_lald, o_aald, o_iast, o_zast, o_last, o_aast, o_alen, o_gi, o_gr, o_pi, o_pz, o_pr, o_new, o_newa, o_copy, o_oinit, o_call, o_callV, o_callVc, o_callI, popn, cnO, o_BAD, lgt, lst, isL, kil, st1, st2, entL, List.length_nil, List.length_cons, List.replicate, Nat.reduceAdd, Nat.reduceLeDiff, Nat.reduceSub, true_and, and_true, Nat.zero_le, ne_eq, qk_wi, ql_wi, qr_wi, qj_wi, qt_wi, qk_wj, ql_wj, qr_wj, qi_wj, qt_wj, qk_wr, ql_wr, qi_wr, qj_wr, qt_wr, qi_ws, qj_ws, qr_ws, Int.toNat_natCast, Int.toNat_zero, Int.reduceToNat, not_true_eq_false, not_false_eq_true, false_implies, implies_true, Option.some.injEq, reduceCtorEq, Sp0, true_or, or_true, or_self, wi_wi, wj_wj, hM.k, rH_k, rH_l, rH_r, rH_3, rH_4, hM.r2, hM.k3, hM.l3, hM.r3, hM.k4, hM.l4, fu_s]
        repeat' (first | (with_reducible refine And.intro ?_ ?_) | (with_reducible intro))
        all_goals (try (first | with_reducible assumption | omega | (unfold inI; omega) | (unfold inL; omega) | exact cz_in _ _))
        refine c8_otherFace (hM2 _ _ _ _) (hI2 _ _ _) hm12 (by unfold inI; omega) ?_
        rw [rH_1]
        have eo : oth D m (w at') = nxt D m (w at') := rfl
        rw [eo]
        have hnr : nxt D m (w at') = -1 ∨ (0 ≤ nxt D m (w at') ∧ nxt D m (w at') ≤ 11) := by
          unfold nxt
          split
          · omega
          · split <;> omega
        by_cases hn0 : nxt D m (w at') = -1
        · have h1 := h164 (if_neg (fun u => by omega)) (nxt D m (w at'))
          simp only [wpS, o_c, o_cl, o_il, o_ll, o_al, o_is, o_ls, o_as, o_inc, o_add, o_sub, o_mul, o_and, o_or, o_xor, o_shl, o_shr, o_div, o_neg, o_ladd, o_lsub, o_lmul, o_ldiv, o_lrem, o_lneg, o_lcmp, o_i2l, o_l2i, o_dup, o_dup2, o_pop, o_go, o_nn, o_sw, swc, o_iret, o_zret, o_lret, o_vret, o_ieq, o_eq0, o_ine, o_ne0, o_ilt, o_lt0, o_ige, o_ge0, o_igt, o_gt0, o_ile, o_le0, o_iald, o_zald, o_lald, o_aald, o_iast, o_zast, o_last, o_aast, o_alen, o_gi, o_gr, o_pi, o_pz, o_pr, o_new, o_newa, o_copy, o_oinit, o_call, o_callV, o_callVc, o_callI, popn, cnO, o_BAD, lgt, lst, isL, kil, st1, st2, entL, List.length_nil, List.length_cons, List.replicate, Nat.reduceAdd, Nat.reduceLeDiff, Nat.reduceSub, true_and, and_true, Nat.zero_le, ne_eq, qk_wi, ql_wi, qr_wi, qj_wi, qt_wi, qk_wj, ql_wj, qr_wj, qi_wj, qt_wj, qk_wr, ql_wr, qi_wr, qj_wr, qt_wr, qi_ws, qj_ws, qr_ws, Int.toNat_natCast, Int.toNat_zero, Int.reduceToNat, not_true_eq_false, not_false_eq_true, false_implies, implies_true, Option.some.injEq, reduceCtorEq, Sp0, true_or, or_true, or_self, wi_wi, wj_wj, hM.k]
          repeat' (first | (with_reducible refine And.intro ?_ ?_) | (with_reducible intro))
          all_goals (try (first | with_reducible assumption | omega | (unfold inI; omega) | (unfold inL; omega) | exact cz_in _ _))
          all_goals (try (exfalso; omega))
          refine s_X8_round_121 x ok _ _ _ _ ?_
          simp only [wpS, o_c, o_cl, o_il, o_ll, o_al, o_is, o_ls, o_as, o_inc, o_add, o_sub, o_mul, o_and, o_or, o_xor, o_shl, o_shr, o_div, o_neg, o_ladd, o_lsub, o_lmul, o_ldiv, o_lrem, o_lneg, o_lcmp, o_i2l, o_l2i, o_dup, o_dup2, o_pop, o_go, o_nn, o_sw, swc, o_iret, o_zret, o_lret, o_vret, o_ieq, o_eq0, o_ine, o_ne0, o_ilt, o_lt0, o_ige, o_ge0, o_igt, o_gt0, o_ile, o_le0, o_iald, o_zald, o_lald, o_aald, o_iast, o_zast, o_last, o_aast, o_alen, o_gi, o_gr, o_pi, o_pz, o_pr, o_new, o_newa, o_copy, o_oinit, o_call, o_callV, o_callVc, o_callI, popn, cnO, o_BAD, lgt, lst, isL, kil, st1, st2, entL, List.length_nil, List.length_cons, List.replicate, Nat.reduceAdd, Nat.reduceLeDiff, Nat.reduceSub, true_and, and_true, Nat.zero_le, ne_eq, qk_wi, ql_wi, qr_wi, qj_wi, qt_wi, qk_wj, ql_wj, qr_wj, qi_wj, qt_wj, qk_wr, ql_wr, qi_wr, qj_wr, qt_wr, qi_ws, qj_ws, qr_ws, Int.toNat_natCast, Int.toNat_zero, Int.reduceToNat, not_true_eq_false, not_false_eq_true, false_implies, implies_true, Option.some.injEq, reduceCtorEq, Sp0, true_or, or_true, or_self, wi_wi, wj_wj, hM.k]
          repeat' (first | (with_reducible refine And.intro ?_ ?_) | (with_reducible intro))
          all_goals (try (first | with_reducible assumption | omega | (unfold inI; omega) | (unfold inL; omega) | exact cz_in _ _))
          refine s_X8_round_127 x ok _ _ _ _ ?_
          simp only [wpS, o_c, o_cl, o_il, o_ll, o_al, o_is, o_ls, o_as, o_inc, o_add, o_sub, o_mul, o_and, o_or, o_xor, o_shl, o_shr, o_div, o_neg, o_ladd, o_lsub, o_lmul, o_ldiv, o_lrem, o_lneg, o_lcmp, o_i2l, o_l2i, o_dup, o_dup2, o_pop, o_go, o_nn, o_sw, swc, o_iret, o_zret, o_lret, o_vret, o_ieq, o_eq0, o_ine, o_ne0, o_ilt, o_lt0, o_ige, o_ge0, o_igt, o_gt0, o_ile, o_le0, o_iald, o_zald, o_lald, o_aald, o_iast, o_zast, o_last, o_aast, o_alen, o_gi, o_gr, o_pi, o_pz, o_pr, o_new, o_newa, o_copy, o_oinit, o_call, o_callV, o_callVc, o_callI, popn, cnO, o_BAD, lgt, lst, isL, kil, st1, st2, entL, List.length_nil, List.length_cons, List.replicate, Nat.reduceAdd, Nat.reduceLeDiff, Nat.reduceSub, true_and, and_true, Nat.zero_le, ne_eq, qk_wi, ql_wi, qr_wi, qj_wi, qt_wi, qk_wj, ql_wj, qr_wj, qi_wj, qt_wj, qk_wr, ql_wr, qi_wr, qj_wr, qt_wr, qi_ws, qj_ws, qr_ws, Int.toNat_natCast, Int.toNat_zero, Int.reduceToNat, not_true_eq_false, not_false_eq_true, false_implies, implies_true, Option.some.injEq, reduceCtorEq, Sp0, true_or, or_true, or_self, wi_wi, wj_wj, hM.k]
          repeat' (first | (with_reducible refine And.intro ?_ ?_) | (with_reducible intro))
          all_goals (try (first | with_reducible assumption | omega | (unfold inI; omega) | (unfold inL; omega) | exact cz_in _ _))
          all_goals (first | exact h1 _ | (exfalso; omega) | skip)
        · have h1 := seen (by omega) (by omega) 0 (by omega) (fun j hj => by omega)
          simp only [wpS, o_c, o_cl, o_il, o_ll, o_al, o_is, o_ls, o_as, o_inc, o_add, o_sub, o_mul, o_and, o_or, o_xor, o_shl, o_shr, o_div, o_neg, o_ladd, o_lsub, o_lmul, o_ldiv, o_lrem, o_lneg, o_lcmp, o_i2l, o_l2i, o_dup, o_dup2, o_pop, o_go, o_nn, o_sw, swc, o_iret, o_zret, o_lret, o_vret, o_ieq, o_eq0, o_ine, o_ne0, o_ilt, o_lt0, o_ige, o_ge0, o_igt, o_gt0, o_ile, o_le0, o_iald, o_zald, o_lald, o_aald, o_iast, o_zast, o_last, o_aast, o_alen, o_gi, o_gr, o_pi, o_pz, o_pr, o_new, o_newa, o_copy, o_oinit, o_call, o_callV, o_callVc, o_callI, popn, cnO, o_BAD, lgt, lst, isL, kil, st1, st2, entL, List.length_nil, List.length_cons, List.replicate, Nat.reduceAdd, Nat.reduceLeDiff, Nat.reduceSub, true_and, and_true, Nat.zero_le, ne_eq, qk_wi, ql_wi, qr_wi, qj_wi, qt_wi, qk_wj, ql_wj, qr_wj, qi_wj, qt_wj, qk_wr, ql_wr, qi_wr, qj_wr, qt_wr, qi_ws, qj_ws, qr_ws, Int.toNat_natCast, Int.toNat_zero, Int.reduceToNat, not_true_eq_false, not_false_eq_true, false_implies, implies_true, Option.some.injEq, reduceCtorEq, Sp0, true_or, or_true, or_self, wi_wi, wj_wj, hM.k]
          repeat' (first | (with_reducible refine And.intro ?_ ?_) | (with_reducible intro))
          all_goals (try (first | with_reducible assumption | omega | (unfold inI; omega) | (unfold inL; omega) | exact cz_in _ _))
          all_goals (try (exfalso; omega))
          refine s_X8_round_122 x ok _ _ _ _ ?_
          simp only [wpS, o_c, o_cl, o_il, o_ll, o_al, o_is, o_ls, o_as, o_inc, o_add, o_sub, o_mul, o_and, o_or, o_xor, o_shl, o_shr, o_div, o_neg, o_ladd, o_lsub, o_lmul, o_ldiv, o_lrem, o_lneg, o_lcmp, o_i2l, o_l2i, o_dup, o_dup2, o_pop, o_go, o_nn, o_sw, swc, o_iret, o_zret, o_lret, o_vret, o_ieq, o_eq0, o_ine, o_ne0, o_ilt, o_lt0, o_ige, o_ge0, o_igt, o_gt0, o_ile, o_le0, o_iald, o_zald, o_lald, o_aald, o_iast, o_zast, o_last, o_aast, o_alen, o_gi, o_gr, o_pi, o_pz, o_pr, o_new, o_newa, o_copy, o_oinit, o_call, o_callV, o_callVc, o_callI, popn, cnO, o_BAD, lgt, lst, isL, kil, st1, st2, entL, List.length_nil, List.length_cons, List.replicate, Nat.reduceAdd, Nat.reduceLeDiff, Nat.reduceSub, true_and, and_true, Nat.zero_le, ne_eq, qk_wi, ql_wi, qr_wi, qj_wi, qt_wi, qk_wj, ql_wj, qr_wj, qi_wj, qt_wj, qk_wr, ql_wr, qi_wr, qj_wr, qt_wr, qi_ws, qj_ws, qr_ws, Int.toNat_natCast, Int.toNat_zero, Int.reduceToNat, not_true_eq_false, not_false_eq_true, false_implies, implies_true, Option.some.injEq, reduceCtorEq, Sp0, true_or, or_true, or_self, wi_wi, wj_wj, hM.k]
          repeat' (first | (with_reducible refine And.intro ?_ ?_) | (with_reducible intro))
          all_goals (try (first | with_reducible assumption | omega | (unfold inI; omega) | (unfold inL; omega) | exact cz_in _ _))
          all_goals (first | exact h1 | skip)
    have main : ∀ n at' N : Nat, at' + (n + 1) = 12 → cnB N.testBit 12 = (at' : Int) + 1 → ∀ m : Nat, m ≤ 12 → RdC x h y C F G D n at' N m := by
      intro n
      induction n with
      | zero => exact node 0 (fun n' _ _ e => by omega)
      | succ n ih => exact node (n + 1) (fun n' at'' N' e h1 h2 => by
          have : n' = n := by omega
          subst this
          exact ih at'' N' h1 h2 0 (by omega))
    have fin : ∀ (w b f : Nat → Int) (lg : Int), (pth D G 12 F (2 ^ F)).length < 2 → LF (pth D G 12 F (2 ^ F)) f lg → 0 ≤ lg → lg ≤ 12 → ∀ v7 v8 v9, V i_X8_round x 51 [some (vr (some y)), some (vi C), some (vi F), some (vi G), some (vi (pth D G 12 F (2 ^ F)).length), some (vi (-1)), some (vi lg), v7, v8, v9] [] (rH h y D w b f) (0, 0) := by
      intro w b f lg hl hLF l0 l1 v7 v8 v9
      by_cases e : pth D G 12 F (2 ^ F) = []
      · have hk := (hK w b f).1 e
        rw [e]
        refine s_X8_round_51 x ok _ _ _ _ ?_
        simp only [wpS, o_c, o_cl, o_il, o_ll, o_al, o_is, o_ls, o_as, o_inc, o_add, o_sub, o_mul, o_and, o_or, o_xor, o_shl, o_shr, o_div, o_neg, o_ladd, o_lsub, o_lmul, o_ldiv, o_lrem, o_lneg, o_lcmp, o_i2l, o_l2i, o_dup, o_dup2, o_pop, o_go, o_nn, o_sw, swc, o_iret, o_zret, o_lret, o_vret, o_ieq, o_eq0, o_ine, o_ne0, o_ilt, o_lt0, o_ige, o_ge0, o_igt, o_gt0, o_ile, o_le0, o_iald, o_zald, o_lald, o_aald, o_iast, o_zast, o_last, o_aast, o_alen, o_gi, o_gr, o_pi, o_pz, o_pr, o_new, o_newa, o_copy, o_oinit, o_call, o_callV, o_callVc, o_callI, popn, cnO, o_BAD, lgt, lst, isL, kil, st1, st2, entL, List.length_nil, List.length_cons, List.replicate, Nat.reduceAdd, Nat.reduceLeDiff, Nat.reduceSub, true_and, and_true, Nat.zero_le, ne_eq, qk_wi, ql_wi, qr_wi, qj_wi, qt_wi, qk_wj, ql_wj, qr_wj, qi_wj, qt_wj, qk_wr, ql_wr, qi_wr, qj_wr, qt_wr, qi_ws, qj_ws, qr_ws, Int.toNat_natCast, Int.toNat_zero, Int.reduceToNat, not_true_eq_false, not_false_eq_true, false_implies, implies_true, Option.some.injEq, reduceCtorEq, Sp0, true_or, or_true, or_self, wi_wi, wj_wj, hM.k, List.length_nil, Int.natCast_zero]
        repeat' (first | (with_reducible refine And.intro ?_ ?_) | (with_reducible intro))
        all_goals (try (first | with_reducible assumption | omega | (unfold inI; omega) | (unfold inL; omega) | exact cz_in _ _))
        all_goals (try (exfalso; omega))
        all_goals (
          refine s_X8_round_296 x ok _ _ _ _ ?_
          simp only [wpS, o_c, o_cl, o_il, o_ll, o_al, o_is, o_ls, o_as, o_inc, o_add, o_sub, o_mul, o_and, o_or, o_xor, o_shl, o_shr, o_div, o_neg, o_ladd, o_lsub, o_lmul, o_ldiv, o_lrem, o_lneg, o_lcmp, o_i2l, o_l2i, o_dup, o_dup2, o_pop, o_go, o_nn, o_sw, swc, o_iret, o_zret, o_lret, o_vret, o_ieq, o_eq0, o_ine, o_ne0, o_ilt, o_lt0, o_ige, o_ge0, o_igt, o_gt0, o_ile, o_le0, o_iald, o_zald, o_lald, o_aald, o_iast, o_zast, o_last, o_aast, o_alen, o_gi, o_gr, o_pi, o_pz, o_pr, o_new, o_newa, o_copy, o_oinit, o_call, o_callV, o_callVc, o_callI, popn, cnO, o_BAD, lgt, lst, isL, kil, st1, st2, entL, List.length_nil, List.length_cons, List.replicate, Nat.reduceAdd, Nat.reduceLeDiff, Nat.reduceSub, true_and, and_true, Nat.zero_le, ne_eq, qk_wi, ql_wi, qr_wi, qj_wi, qt_wi, qk_wj, ql_wj, qr_wj, qi_wj, qt_wj, qk_wr, ql_wr, qi_wr, qj_wr, qt_wr, qi_ws, qj_ws, qr_ws, Int.toNat_natCast, Int.toNat_zero, Int.reduceToNat, not_true_eq_false, not_false_eq_true, false_implies, implies_true, Option.some.injEq, reduceCtorEq, Sp0, true_or, or_true, or_self, wi_wi, wj_wj, hM.k]
          repeat' (first | (with_reducible refine And.intro ?_ ?_) | (with_reducible intro))
          all_goals (try (first | with_reducible assumption | omega | (unfold inI; omega) | (unfold inL; omega) | exact cz_in _ _))
          all_goals (try (exfalso; omega)))
        all_goals (
          refine s_X8_round_305 x ok _ _ _ _ ?_
          simp only [wpS, o_c, o_cl, o_il, o_ll, o_al, o_is, o_ls, o_as, o_inc, o_add, o_sub, o_mul, o_and, o_or, o_xor, o_shl, o_shr, o_div, o_neg, o_ladd, o_lsub, o_lmul, o_ldiv, o_lrem, o_lneg, o_lcmp, o_i2l, o_l2i, o_dup, o_dup2, o_pop, o_go, o_nn, o_sw, swc, o_iret, o_zret, o_lret, o_vret, o_ieq, o_eq0, o_ine, o_ne0, o_ilt, o_lt0, o_ige, o_ge0, o_igt, o_gt0, o_ile, o_le0, o_iald, o_zald, o_lald, o_aald, o_iast, o_zast, o_last, o_aast, o_alen, o_gi, o_gr, o_pi, o_pz, o_pr, o_new, o_newa, o_copy, o_oinit, o_call, o_callV, o_callVc, o_callI, popn, cnO, o_BAD, lgt, lst, isL, kil, st1, st2, entL, List.length_nil, List.length_cons, List.replicate, Nat.reduceAdd, Nat.reduceLeDiff, Nat.reduceSub, true_and, and_true, Nat.zero_le, ne_eq, qk_wi, ql_wi, qr_wi, qj_wi, qt_wi, qk_wj, ql_wj, qr_wj, qi_wj, qt_wj, qk_wr, ql_wr, qi_wr, qj_wr, qt_wr, qi_ws, qj_ws, qr_ws, Int.toNat_natCast, Int.toNat_zero, Int.reduceToNat, not_true_eq_false, not_false_eq_true, false_implies, implies_true, Option.some.injEq, reduceCtorEq, Sp0, true_or, or_true, or_self, wi_wi, wj_wj, hM.k]
          repeat' (first | (with_reducible refine And.intro ?_ ?_) | (with_reducible intro))
          all_goals (try (first | with_reducible assumption | omega | (unfold inI; omega) | (unfold inL; omega) | exact cz_in _ _)))
        all_goals (first | exact hk | (exfalso; omega) | skip)
      · obtain ⟨p, ep⟩ : ∃ p, pth D G 12 F (2 ^ F) = [p] := List.length_eq_one_iff.mp (by have := List.length_pos_iff.mpr e; omega)
        have hk := (hK w b f).2.2 p ep
        obtain ⟨hf, hlg⟩ := hLF p ep
        have hst := pth_ok 12 F (2 ^ F) p (by rw [ep]; exact List.mem_singleton.mpr rfl)
        have hrgk := fun k => mark_rg (k := k) p zz hst (by unfold zz; omega) (by unfold zz; omega)
        rw [← hlg] at hk
        rw [ep]
        have wr : ∀ j, j ≤ 12 → ∀ g : Nat → Int, (∀ k, g k = if 1212 + 12 * C ≤ k ∧ k < 1212 + 12 * C + j then mark zz p (k - (1212 + 12 * C)) else D k) → ∀ v8 v9, V i_X8_round x 315 [some (vr (some y)), some (vi C), some (vi F), some (vi G), some (vi 1), some (vi (-1)), some (vi lg), some (vi j), v8, v9] [] (rH h y g w b f) (0, 0) := by
          refine bwd _ ?_ ?_
          · intro g hg v8 v9
            have eg : g = rdD D C p := by funext k; rw [hg k]; rfl
            rw [eg]
            refine s_X8_round_315 x ok _ _ _ _ ?_
            simp only [wpS, o_c, o_cl, o_il, o_ll, o_al, o_is, o_ls, o_as, o_inc, o_add, o_sub, o_mul, o_and, o_or, o_xor, o_shl, o_shr, o_div, o_neg, o_ladd, o_lsub, o_lmul, o_ldiv, o_lrem, o_lneg, o_lcmp, o_i2l, o_l2i, o_dup, o_dup2, o_pop, o_go, o_nn, o_sw, swc, o_iret, o_zret, o_lret, o_vret, o_ieq, o_eq0, o_ine, o_ne0, o_ilt, o_lt0, o_ige, o_ge0, o_igt, o_gt0, o_ile, o_le0, o_iald, o_zald, o_lald, o_aald, o_iast, o_zast, o_last, o_aast, o_alen, o_gi, o_gr, o_pi, o_pz, o_pr, o_new, o_newa, o_copy, o_oinit, o_call, o_callV, o_callVc, o_callI, popn, cnO, o_BAD, lgt, lst, isL, kil, st1, st2, entL, List.length_nil, List.length_cons, List.replicate, Nat.reduceAdd, Nat.reduceLeDiff, Nat.reduceSub, true_and, and_true, Nat.zero_le, ne_eq, qk_wi, ql_wi, qr_wi, qj_wi, qt_wi, qk_wj, ql_wj, qr_wj, qi_wj, qt_wj, qk_wr, ql_wr, qi_wr, qj_wr, qt_wr, qi_ws, qj_ws, qr_ws, Int.toNat_natCast, Int.toNat_zero, Int.reduceToNat, not_true_eq_false, not_false_eq_true, false_implies, implies_true, Option.some.injEq, reduceCtorEq, Sp0, true_or, or_true, or_self, wi_wi, wj_wj, hM.k]
            repeat' (first | (with_reducible refine And.intro ?_ ?_) | (with_reducible intro))
            all_goals (try (first | with_reducible assumption | omega | (unfold inI; omega) | (unfold inL; omega) | exact cz_in _ _))
            all_goals (try (exfalso; omega))
            refine s_X8_round_351 x ok _ _ _ _ ?_
            simp only [wpS, o_c, o_cl, o_il, o_ll, o_al, o_is, o_ls, o_as, o_inc, o_add, o_sub, o_mul, o_and, o_or, o_xor, o_shl, o_shr, o_div, o_neg, o_ladd, o_lsub, o_lmul, o_ldiv, o_lrem, o_lneg, o_lcmp, o_i2l, o_l2i, o_dup, o_dup2, o_pop, o_go, o_nn, o_sw, swc, o_iret, o_zret, o_lret, o_vret, o_ieq, o_eq0, o_ine, o_ne0, o_ilt, o_lt0, o_ige, o_ge0, o_igt, o_gt0, o_ile, o_le0, o_iald, o_zald, o_lald, o_aald, o_iast, o_zast, o_last, o_aast, o_alen, o_gi, o_gr, o_pi, o_pz, o_pr, o_new, o_newa, o_copy, o_oinit, o_call, o_callV, o_callVc, o_callI, popn, cnO, o_BAD, lgt, lst, isL, kil, st1, st2, entL, List.length_nil, List.length_cons, List.replicate, Nat.reduceAdd, Nat.reduceLeDiff, Nat.reduceSub, true_and, and_true, Nat.zero_le, ne_eq, qk_wi, ql_wi, qr_wi, qj_wi, qt_wi, qk_wj, ql_wj, qr_wj, qi_wj, qt_wj, qk_wr, ql_wr, qi_wr, qj_wr, qt_wr, qi_ws, qj_ws, qr_ws, Int.toNat_natCast, Int.toNat_zero, Int.reduceToNat, not_true_eq_false, not_false_eq_true, false_implies, implies_true, Option.some.injEq, reduceCtorEq, Sp0, true_or, or_true, or_self, wi_wi, wj_wj, hM.k]
            repeat' (first | (with_reducible refine And.intro ?_ ?_) | (with_reducible intro))
            all_goals (try (first | with_reducible assumption | omega | (unfold inI; omega) | (unfold inL; omega) | exact cz_in _ _))
            all_goals (first | exact hk | skip)
          · intro j hj ih g hg v8 v9
            have hfj := hf j hj
            have hr := hrgk j
            refine s_X8_round_315 x ok _ _ _ _ ?_
            simp only [wpS, o_c, o_cl, o_il, o_ll, o_al, o_is, o_ls, o_as, o_inc, o_add, o_sub, o_mul, o_and, o_or, o_xor, o_shl, o_shr, o_div, o_neg, o_ladd, o_lsub, o_lmul, o_ldiv, o_lrem, o_lneg, o_lcmp, o_i2l, o_l2i, o_dup, o_dup2, o_pop, o_go, o_nn, o_sw, swc, o_iret, o_zret, o_lret, o_vret, o_ieq, o_eq0, o_ine, o_ne0, o_ilt, o_lt0, o_ige, o_ge0, o_igt, o_gt0, o_ile, o_le0, o_iald, o_zald, o_lald, o_aald, o_iast, o_zast, o_last, o_aast, o_alen, o_gi, o_gr, o_pi, o_pz, o_pr, o_new, o_newa, o_copy, o_oinit, o_call, o_callV, o_callVc, o_callI, popn, cnO, o_BAD, lgt, lst, isL, kil, st1, st2, entL, List.length_nil, List.length_cons, List.replicate, Nat.reduceAdd, Nat.reduceLeDiff, Nat.reduceSub, true_and, and_true, Nat.zero_le, ne_eq, qk_wi, ql_wi, qr_wi, qj_wi, qt_wi, qk_wj, ql_wj, qr_wj, qi_wj, qt_wj, qk_wr, ql_wr, qi_wr, qj_wr, qt_wr, qi_ws, qj_ws, qr_ws, Int.toNat_natCast, Int.toNat_zero, Int.reduceToNat, not_true_eq_false, not_false_eq_true, false_implies, implies_true, Option.some.injEq, reduceCtorEq, Sp0, true_or, or_true, or_self, wi_wi, wj_wj, hM.k, hM.r0, hM.k1, hM.l1, ix0, ix12, ix24, ix36, ix48, ix60, ix1032, ix1044, ix1092, ix1140, ix1188, ix1200, ix1212, ix1284, ix1290, ix1296, ix1298, ix1322, ix1346, ix1358, ixm4, ixm12, ixm24, ixm81, ixm1382, ixadd, Nat.zero_add, rH_k, rH_l, rH_r, rH_1, rH_5, rW_1, hM.r4, hM.k5, hM.l5, hfj]
            repeat' (first | (with_reducible refine And.intro ?_ ?_) | (with_reducible intro))
            all_goals (try (first | with_reducible assumption | omega | (unfold inI; omega) | (unfold inL; omega) | exact cz_in _ _))
            all_goals (try (exfalso; omega))
            refine ih _ (fun k => ?_) _ _
            unfold fu
            by_cases u : k = 1212 + 12 * C + j
            · rw [if_pos u, if_pos (by omega), u, Nat.add_sub_cancel_left]
            · rw [if_neg u, hg k]
              by_cases z : 1212 + 12 * C ≤ k ∧ k < 1212 + 12 * C + j
              · rw [if_pos z, if_pos (by omega)]
              · rw [if_neg z, if_neg (by omega)]
        have h1 := wr 0 (by omega) D (fun k => by rw [if_neg (by omega)])
        refine s_X8_round_51 x ok _ _ _ _ ?_
        simp only [wpS, o_c, o_cl, o_il, o_ll, o_al, o_is, o_ls, o_as, o_inc, o_add, o_sub, o_mul, o_and, o_or, o_xor, o_shl, o_shr, o_div, o_neg, o_ladd, o_lsub, o_lmul, o_ldiv, o_lrem, o_lneg, o_lcmp, o_i2l, o_l2i, o_dup, o_dup2, o_pop, o_go, o_nn, o_sw, swc, o_iret, o_zret, o_lret, o_vret, o_ieq, o_eq0, o_ine, o_ne0, o_ilt, o_lt0, o_ige, o_ge0, o_igt, o_gt0, o_ile, o_le0, o_iald, o_zald, o_lald, o_aald, o_iast, o_zast, o_last, o_aast, o_alen, o_gi, o_gr, o_pi, o_pz, o_pr, o_new, o_newa, o_copy, o_oinit, o_call, o_callV, o_callVc, o_callI, popn, cnO, o_BAD, lgt, lst, isL, kil, st1, st2, entL, List.length_nil, List.length_cons, List.replicate, Nat.reduceAdd, Nat.reduceLeDiff, Nat.reduceSub, true_and, and_true, Nat.zero_le, ne_eq, qk_wi, ql_wi, qr_wi, qj_wi, qt_wi, qk_wj, ql_wj, qr_wj, qi_wj, qt_wj, qk_wr, ql_wr, qi_wr, qj_wr, qt_wr, qi_ws, qj_ws, qr_ws, Int.toNat_natCast, Int.toNat_zero, Int.reduceToNat, not_true_eq_false, not_false_eq_true, false_implies, implies_true, Option.some.injEq, reduceCtorEq, Sp0, true_or, or_true, or_self, wi_wi, wj_wj, hM.k, List.length_singleton, Int.natCast_one]
        repeat' (first | (with_reducible refine And.intro ?_ ?_) | (with_reducible intro))
        all_goals (try (first | with_reducible assumption | omega | (unfold inI; omega) | (unfold inL; omega) | exact cz_in _ _))
        all_goals (try (exfalso; omega))
        all_goals (
          refine s_X8_round_296 x ok _ _ _ _ ?_
          simp only [wpS, o_c, o_cl, o_il, o_ll, o_al, o_is, o_ls, o_as, o_inc, o_add, o_sub, o_mul, o_and, o_or, o_xor, o_shl, o_shr, o_div, o_neg, o_ladd, o_lsub, o_lmul, o_ldiv, o_lrem, o_lneg, o_lcmp, o_i2l, o_l2i, o_dup, o_dup2, o_pop, o_go, o_nn, o_sw, swc, o_iret, o_zret, o_lret, o_vret, o_ieq, o_eq0, o_ine, o_ne0, o_ilt, o_lt0, o_ige, o_ge0, o_igt, o_gt0, o_ile, o_le0, o_iald, o_zald, o_lald, o_aald, o_iast, o_zast, o_last, o_aast, o_alen, o_gi, o_gr, o_pi, o_pz, o_pr, o_new, o_newa, o_copy, o_oinit, o_call, o_callV, o_callVc, o_callI, popn, cnO, o_BAD, lgt, lst, isL, kil, st1, st2, entL, List.length_nil, List.length_cons, List.replicate, Nat.reduceAdd, Nat.reduceLeDiff, Nat.reduceSub, true_and, and_true, Nat.zero_le, ne_eq, qk_wi, ql_wi, qr_wi, qj_wi, qt_wi, qk_wj, ql_wj, qr_wj, qi_wj, qt_wj, qk_wr, ql_wr, qi_wr, qj_wr, qt_wr, qi_ws, qj_ws, qr_ws, Int.toNat_natCast, Int.toNat_zero, Int.reduceToNat, not_true_eq_false, not_false_eq_true, false_implies, implies_true, Option.some.injEq, reduceCtorEq, Sp0, true_or, or_true, or_self, wi_wi, wj_wj, hM.k]
          repeat' (first | (with_reducible refine And.intro ?_ ?_) | (with_reducible intro))
          all_goals (try (first | with_reducible assumption | omega | (unfold inI; omega) | (unfold inL; omega) | exact cz_in _ _))
          all_goals (try (exfalso; omega)))
        all_goals (
          refine s_X8_round_305 x ok _ _ _ _ ?_
          simp only [wpS, o_c, o_cl, o_il, o_ll, o_al, o_is, o_ls, o_as, o_inc, o_add, o_sub, o_mul, o_and, o_or, o_xor, o_shl, o_shr, o_div, o_neg, o_ladd, o_lsub, o_lmul, o_ldiv, o_lrem, o_lneg, o_lcmp, o_i2l, o_l2i, o_dup, o_dup2, o_pop, o_go, o_nn, o_sw, swc, o_iret, o_zret, o_lret, o_vret, o_ieq, o_eq0, o_ine, o_ne0, o_ilt, o_lt0, o_ige, o_ge0, o_igt, o_gt0, o_ile, o_le0, o_iald, o_zald, o_lald, o_aald, o_iast, o_zast, o_last, o_aast, o_alen, o_gi, o_gr, o_pi, o_pz, o_pr, o_new, o_newa, o_copy, o_oinit, o_call, o_callV, o_callVc, o_callI, popn, cnO, o_BAD, lgt, lst, isL, kil, st1, st2, entL, List.length_nil, List.length_cons, List.replicate, Nat.reduceAdd, Nat.reduceLeDiff, Nat.reduceSub, true_and, and_true, Nat.zero_le, ne_eq, qk_wi, ql_wi, qr_wi, qj_wi, qt_wi, qk_wj, ql_wj, qr_wj, qi_wj, qt_wj, qk_wr, ql_wr, qi_wr, qj_wr, qt_wr, qi_ws, qj_ws, qr_ws, Int.toNat_natCast, Int.toNat_zero, Int.reduceToNat, not_true_eq_false, not_false_eq_true, false_implies, implies_true, Option.some.injEq, reduceCtorEq, Sp0, true_or, or_true, or_self, wi_wi, wj_wj, hM.k]
          repeat' (first | (with_reducible refine And.intro ?_ ?_) | (with_reducible intro))
          all_goals (try (first | with_reducible assumption | omega | (unfold inI; omega) | (unfold inL; omega) | exact cz_in _ _))
          all_goals (try (exfalso; omega)))
        all_goals (
          refine s_X8_round_312 x ok _ _ _ _ ?_
          simp only [wpS, o_c, o_cl, o_il, o_ll, o_al, o_is, o_ls, o_as, o_inc, o_add, o_sub, o_mul, o_and, o_or, o_xor, o_shl, o_shr, o_div, o_neg, o_ladd, o_lsub, o_lmul, o_ldiv, o_lrem, o_lneg, o_lcmp, o_i2l, o_l2i, o_dup, o_dup2, o_pop, o_go, o_nn, o_sw, swc, o_iret, o_zret, o_lret, o_vret, o_ieq, o_eq0, o_ine, o_ne0, o_ilt, o_lt0, o_ige, o_ge0, o_igt, o_gt0, o_ile, o_le0, o_iald, o_zald, o_lald, o_aald, o_iast, o_zast, o_last, o_aast, o_alen, o_gi, o_gr, o_pi, o_pz, o_pr, o_new, o_newa, o_copy, o_oinit, o_call, o_callV, o_callVc, o_callI, popn, cnO, o_BAD, lgt, lst, isL, kil, st1, st2, entL, List.length_nil, List.length_cons, List.replicate, Nat.reduceAdd, Nat.reduceLeDiff, Nat.reduceSub, true_and, and_true, Nat.zero_le, ne_eq, qk_wi, ql_wi, qr_wi, qj_wi, qt_wi, qk_wj, ql_wj, qr_wj, qi_wj, qt_wj, qk_wr, ql_wr, qi_wr, qj_wr, qt_wr, qi_ws, qj_ws, qr_ws, Int.toNat_natCast, Int.toNat_zero, Int.reduceToNat, not_true_eq_false, not_false_eq_true, false_implies, implies_true, Option.some.injEq, reduceCtorEq, Sp0, true_or, or_true, or_self, wi_wi, wj_wj, hM.k])
        all_goals (first | exact h1 _ _ | skip)
    have hFG : (F : Int) ≠ (G : Int) := hm.2.2.2
    have hW : pth D G 12 F (2 ^ F) = sumL (ctr D (pth D G 11) F (2 ^ F)) 12 := if_neg hFG
    have hb2 : (2 ^ F).testBit = fu (Nat.testBit 0) F true := by rw [← bit_or, Nat.zero_or]
    have hcn : cnB (2 ^ F).testBit 12 = ((0 : Nat) : Int) + 1 := by
      rw [hb2, cnB_up (Nat.zero_testBit F), if_pos hF]
      have : cnB (Nat.testBit 0) 12 = 0 := sg_z (fun k _ => by rw [Nat.zero_testBit]; rfl)
      rw [this]
      rfl
    have eW : ∀ w b : Nat → Int, w 0 = (F : Int) → [] ++ (rS (ctr D (pth D G 11) (w 0) (2 ^ F)) 0 (12 - 0)).map (fun q => pre D w b 0 ++ q) = pth D G 12 F (2 ^ F) := fun w b e => by
      rw [hW, ← rS_0, e]
      show List.map (fun q => q) _ = _
      rw [List.map_id']
    have top := main 11 0 (2 ^ F) (by omega) hcn 0 (by omega) (fu (qi h (y + 3)) 0 F) (fu (qi h (y + 4)) 0 (-1)) (qi h (y + 5)) 0 [] (fun k hk => by rw [show k = 0 by omega, fu_s]; omega) (fun q hq => by
        rw [hb2]
        by_cases u : q = F
        · rw [u, fu_s]
          exact ⟨fun _ => ⟨0, Nat.le_refl _, by rw [fu_s]⟩, fun _ => rfl⟩
        · rw [fu_n u, Nat.zero_testBit]
          constructor
          · intro z; cases z
          · rintro ⟨k, hk, e⟩
            rw [show k = 0 by omega, fu_s] at e
            omega) (fun k hk => by omega) (by rw [fu_s]; rfl) (by rw [fu_s]; exact hFG) (by decide) (fun p hp => by cases hp) (by omega) (by omega)
    rw [eW _ _ fu_s] at top
    have top2 := top (fun z => z) (fun w' b' f' lg' _ _ h1 h2 h3 h4 v7 v8 v9 => fin w' b' f' lg' h1 h2 h3 h4 v7 v8 v9)
    have h28 : V i_X8_round x 28 [some (vr (some y)), some (vi C), some (vi F), some (vi G), none, none, none, none, none, none] [] h (0, 0) := by
      rw [← hself]
      refine s_X8_round_28 x ok _ _ _ _ ?_
      simp only [wpS, o_c, o_cl, o_il, o_ll, o_al, o_is, o_ls, o_as, o_inc, o_add, o_sub, o_mul, o_and, o_or, o_xor, o_shl, o_shr, o_div, o_neg, o_ladd, o_lsub, o_lmul, o_ldiv, o_lrem, o_lneg, o_lcmp, o_i2l, o_l2i, o_dup, o_dup2, o_pop, o_go, o_nn, o_sw, swc, o_iret, o_zret, o_lret, o_vret, o_ieq, o_eq0, o_ine, o_ne0, o_ilt, o_lt0, o_ige, o_ge0, o_igt, o_gt0, o_ile, o_le0, o_iald, o_zald, o_lald, o_aald, o_iast, o_zast, o_last, o_aast, o_alen, o_gi, o_gr, o_pi, o_pz, o_pr, o_new, o_newa, o_copy, o_oinit, o_call, o_callV, o_callVc, o_callI, popn, cnO, o_BAD, lgt, lst, isL, kil, st1, st2, entL, List.length_nil, List.length_cons, List.replicate, Nat.reduceAdd, Nat.reduceLeDiff, Nat.reduceSub, true_and, and_true, Nat.zero_le, ne_eq, qk_wi, ql_wi, qr_wi, qj_wi, qt_wi, qk_wj, ql_wj, qr_wj, qi_wj, qt_wj, qk_wr, ql_wr, qi_wr, qj_wr, qt_wr, qi_ws, qj_ws, qr_ws, Int.toNat_natCast, Int.toNat_zero, Int.reduceToNat, not_true_eq_false, not_false_eq_true, false_implies, implies_true, Option.some.injEq, reduceCtorEq, Sp0, true_or, or_true, or_self, wi_wi, wj_wj, hM.k, rH_k, rH_l, rH_r, rH_3, rH_4, rW_3, rW_4, hM.r2, hM.k3, hM.l3, hM.r3, hM.k4, hM.l4]
      repeat' (first | (with_reducible refine And.intro ?_ ?_) | (with_reducible intro))
      all_goals (try (first | with_reducible assumption | omega | (unfold inI; omega) | (unfold inL; omega) | exact cz_in _ _))
      all_goals (first | exact top2 _ _ _ | skip)
    all_goals (try ((first | (refine s_X8_round_0 x ok _ _ _ _ ?_) | (refine s_X8_round_26 x ok _ _ _ _ ?_) | (refine s_X8_round_28 x ok _ _ _ _ ?_) | (refine s_X8_round_91 x ok _ _ _ _ ?_) | (refine s_X8_round_121 x ok _ _ _ _ ?_) | (refine s_X8_round_122 x ok _ _ _ _ ?_) | (refine s_X8_round_155 x ok _ _ _ _ ?_) | (refine s_X8_round_156 x ok _ _ _ _ ?_) | (refine s_X8_round_164 x ok _ _ _ _ ?_) | (refine s_X8_round_172 x ok _ _ _ _ ?_) | (refine s_X8_round_211 x ok _ _ _ _ ?_) | (refine s_X8_round_262 x ok _ _ _ _ ?_) | (refine s_X8_round_263 x ok _ _ _ _ ?_) | (refine s_X8_round_270 x ok _ _ _ _ ?_) | (refine s_X8_round_273 x ok _ _ _ _ ?_) | (refine s_X8_round_296 x ok _ _ _ _ ?_) | (refine s_X8_round_305 x ok _ _ _ _ ?_) | (refine s_X8_round_312 x ok _ _ _ _ ?_) | (refine s_X8_round_351 x ok _ _ _ _ ?_) | (refine c_rg ?_)); (try simp only [wpS, o_c, o_cl, o_il, o_ll, o_al, o_is, o_ls, o_as, o_inc, o_add, o_sub, o_mul, o_and, o_or, o_xor, o_shl, o_shr, o_div, o_neg, o_ladd, o_lsub, o_lmul, o_ldiv, o_lrem, o_lneg, o_lcmp, o_i2l, o_l2i, o_dup, o_dup2, o_pop, o_go, o_nn, o_sw, swc, o_iret, o_zret, o_lret, o_vret, o_ieq, o_eq0, o_ine, o_ne0, o_ilt, o_lt0, o_ige, o_ge0, o_igt, o_gt0, o_ile, o_le0, o_iald, o_zald, o_lald, o_aald, o_iast, o_zast, o_last, o_aast, o_alen, o_gi, o_gr, o_pi, o_pz, o_pr, o_new, o_newa, o_copy, o_oinit, o_call, o_callV, o_callVc, o_callI, popn, cnO, o_BAD, lgt, lst, isL, kil, st1, st2, entL, List.length_nil, List.length_cons, List.replicate, Nat.reduceAdd, Nat.reduceLeDiff, Nat.reduceSub, true_and, and_true, Nat.zero_le, ne_eq, qk_wi, ql_wi, qr_wi, qj_wi, qt_wi, qk_wj, ql_wj, qr_wj, qi_wj, qt_wj, qk_wr, ql_wr, qi_wr, qj_wr, qt_wr, qi_ws, qj_ws, qr_ws, Int.toNat_natCast, Int.toNat_zero, Int.reduceToNat, not_true_eq_false, not_false_eq_true, false_implies, implies_true, Option.some.injEq, reduceCtorEq, Sp0, true_or, or_true, or_self, wi_wi, wj_wj, hM.k]); (repeat' (first | (with_reducible refine And.intro ?_ ?_) | (with_reducible intro))); (all_goals (try (first | with_reducible assumption | omega | (unfold inI; omega) | (unfold inL; omega) | exact cz_in _ _)))))
    all_goals (first | exact h28 | (exfalso; omega) | skip)
    all_goals (all_goals (try ((first | (refine s_X8_round_0 x ok _ _ _ _ ?_) | (refine s_X8_round_26 x ok _ _ _ _ ?_) | (refine s_X8_round_28 x ok _ _ _ _ ?_) | (refine s_X8_round_91 x ok _ _ _ _ ?_) | (refine s_X8_round_121 x ok _ _ _ _ ?_) | (refine s_X8_round_122 x ok _ _ _ _ ?_) | (refine s_X8_round_155 x ok _ _ _ _ ?_) | (refine s_X8_round_156 x ok _ _ _ _ ?_) | (refine s_X8_round_164 x ok _ _ _ _ ?_) | (refine s_X8_round_172 x ok _ _ _ _ ?_) | (refine s_X8_round_211 x ok _ _ _ _ ?_) | (refine s_X8_round_262 x ok _ _ _ _ ?_) | (refine s_X8_round_263 x ok _ _ _ _ ?_) | (refine s_X8_round_270 x ok _ _ _ _ ?_) | (refine s_X8_round_273 x ok _ _ _ _ ?_) | (refine s_X8_round_296 x ok _ _ _ _ ?_) | (refine s_X8_round_305 x ok _ _ _ _ ?_) | (refine s_X8_round_312 x ok _ _ _ _ ?_) | (refine s_X8_round_351 x ok _ _ _ _ ?_) | (refine c_rg ?_)); (try simp only [wpS, o_c, o_cl, o_il, o_ll, o_al, o_is, o_ls, o_as, o_inc, o_add, o_sub, o_mul, o_and, o_or, o_xor, o_shl, o_shr, o_div, o_neg, o_ladd, o_lsub, o_lmul, o_ldiv, o_lrem, o_lneg, o_lcmp, o_i2l, o_l2i, o_dup, o_dup2, o_pop, o_go, o_nn, o_sw, swc, o_iret, o_zret, o_lret, o_vret, o_ieq, o_eq0, o_ine, o_ne0, o_ilt, o_lt0, o_ige, o_ge0, o_igt, o_gt0, o_ile, o_le0, o_iald, o_zald, o_lald, o_aald, o_iast, o_zast, o_last, o_aast, o_alen, o_gi, o_gr, o_pi, o_pz, o_pr, o_new, o_newa, o_copy, o_oinit, o_call, o_callV, o_callVc, o_callI, popn, cnO, o_BAD, lgt, lst, isL, kil, st1, st2, entL, List.length_nil, List.length_cons, List.replicate, Nat.reduceAdd, Nat.reduceLeDiff, Nat.reduceSub, true_and, and_true, Nat.zero_le, ne_eq, qk_wi, ql_wi, qr_wi, qj_wi, qt_wi, qk_wj, ql_wj, qr_wj, qi_wj, qt_wj, qk_wr, ql_wr, qi_wr, qj_wr, qt_wr, qi_ws, qj_ws, qr_ws, Int.toNat_natCast, Int.toNat_zero, Int.reduceToNat, not_true_eq_false, not_false_eq_true, false_implies, implies_true, Option.some.injEq, reduceCtorEq, Sp0, true_or, or_true, or_self, wi_wi, wj_wj, hM.k]); (repeat' (first | (with_reducible refine And.intro ?_ ?_) | (with_reducible intro))); (all_goals (try (first | with_reducible assumption | omega | (unfold inI; omega) | (unfold inL; omega) | exact cz_in _ _))))))
    all_goals (first | exact h28 | (exfalso; omega) | skip)
    all_goals (all_goals (try ((first | (refine s_X8_round_0 x ok _ _ _ _ ?_) | (refine s_X8_round_26 x ok _ _ _ _ ?_) | (refine s_X8_round_28 x ok _ _ _ _ ?_) | (refine s_X8_round_91 x ok _ _ _ _ ?_) | (refine s_X8_round_121 x ok _ _ _ _ ?_) | (refine s_X8_round_122 x ok _ _ _ _ ?_) | (refine s_X8_round_155 x ok _ _ _ _ ?_) | (refine s_X8_round_156 x ok _ _ _ _ ?_) | (refine s_X8_round_164 x ok _ _ _ _ ?_) | (refine s_X8_round_172 x ok _ _ _ _ ?_) | (refine s_X8_round_211 x ok _ _ _ _ ?_) | (refine s_X8_round_262 x ok _ _ _ _ ?_) | (refine s_X8_round_263 x ok _ _ _ _ ?_) | (refine s_X8_round_270 x ok _ _ _ _ ?_) | (refine s_X8_round_273 x ok _ _ _ _ ?_) | (refine s_X8_round_296 x ok _ _ _ _ ?_) | (refine s_X8_round_305 x ok _ _ _ _ ?_) | (refine s_X8_round_312 x ok _ _ _ _ ?_) | (refine s_X8_round_351 x ok _ _ _ _ ?_) | (refine c_rg ?_)); (try simp only [wpS, o_c, o_cl, o_il, o_ll, o_al, o_is, o_ls, o_as, o_inc, o_add, o_sub, o_mul, o_and, o_or, o_xor, o_shl, o_shr, o_div, o_neg, o_ladd, o_lsub, o_lmul, o_ldiv, o_lrem, o_lneg, o_lcmp, o_i2l, o_l2i, o_dup, o_dup2, o_pop, o_go, o_nn, o_sw, swc, o_iret, o_zret, o_lret, o_vret, o_ieq, o_eq0, o_ine, o_ne0, o_ilt, o_lt0, o_ige, o_ge0, o_igt, o_gt0, o_ile, o_le0, o_iald, o_zald, o_lald, o_aald, o_iast, o_zast, o_last, o_aast, o_alen, o_gi, o_gr, o_pi, o_pz, o_pr, o_new, o_newa, o_copy, o_oinit, o_call, o_callV, o_callVc, o_callI, popn, cnO, o_BAD, lgt, lst, isL, kil, st1, st2, entL, List.length_nil, List.length_cons, List.replicate, Nat.reduceAdd, Nat.reduceLeDiff, Nat.reduceSub, true_and, and_true, Nat.zero_le, ne_eq, qk_wi, ql_wi, qr_wi, qj_wi, qt_wi, qk_wj, ql_wj, qr_wj, qi_wj, qt_wj, qk_wr, ql_wr, qi_wr, qj_wr, qt_wr, qi_ws, qj_ws, qr_ws, Int.toNat_natCast, Int.toNat_zero, Int.reduceToNat, not_true_eq_false, not_false_eq_true, false_implies, implies_true, Option.some.injEq, reduceCtorEq, Sp0, true_or, or_true, or_self, wi_wi, wj_wj, hM.k]); (repeat' (first | (with_reducible refine And.intro ?_ ?_) | (with_reducible intro))); (all_goals (try (first | with_reducible assumption | omega | (unfold inI; omega) | (unfold inL; omega) | exact cz_in _ _))))))
    all_goals (first | exact h28 | (exfalso; omega) | skip)
    all_goals (all_goals (try ((first | (refine s_X8_round_0 x ok _ _ _ _ ?_) | (refine s_X8_round_26 x ok _ _ _ _ ?_) | (refine s_X8_round_28 x ok _ _ _ _ ?_) | (refine s_X8_round_91 x ok _ _ _ _ ?_) | (refine s_X8_round_121 x ok _ _ _ _ ?_) | (refine s_X8_round_122 x ok _ _ _ _ ?_) | (refine s_X8_round_155 x ok _ _ _ _ ?_) | (refine s_X8_round_156 x ok _ _ _ _ ?_) | (refine s_X8_round_164 x ok _ _ _ _ ?_) | (refine s_X8_round_172 x ok _ _ _ _ ?_) | (refine s_X8_round_211 x ok _ _ _ _ ?_) | (refine s_X8_round_262 x ok _ _ _ _ ?_) | (refine s_X8_round_263 x ok _ _ _ _ ?_) | (refine s_X8_round_270 x ok _ _ _ _ ?_) | (refine s_X8_round_273 x ok _ _ _ _ ?_) | (refine s_X8_round_296 x ok _ _ _ _ ?_) | (refine s_X8_round_305 x ok _ _ _ _ ?_) | (refine s_X8_round_312 x ok _ _ _ _ ?_) | (refine s_X8_round_351 x ok _ _ _ _ ?_) | (refine c_rg ?_)); (try simp only [wpS, o_c, o_cl, o_il, o_ll, o_al, o_is, o_ls, o_as, o_inc, o_add, o_sub, o_mul, o_and, o_or, o_xor, o_shl, o_shr, o_div, o_neg, o_ladd, o_lsub, o_lmul, o_ldiv, o_lrem, o_lneg, o_lcmp, o_i2l, o_l2i, o_dup, o_dup2, o_pop, o_go, o_nn, o_sw, swc, o_iret, o_zret, o_lret, o_vret, o_ieq, o_eq0, o_ine, o_ne0, o_ilt, o_lt0, o_ige, o_ge0, o_igt, o_gt0, o_ile, o_le0, o_iald, o_zald, o_lald, o_aald, o_iast, o_zast, o_last, o_aast, o_alen, o_gi, o_gr, o_pi, o_pz, o_pr, o_new, o_newa, o_copy, o_oinit, o_call, o_callV, o_callVc, o_callI, popn, cnO, o_BAD, lgt, lst, isL, kil, st1, st2, entL, List.length_nil, List.length_cons, List.replicate, Nat.reduceAdd, Nat.reduceLeDiff, Nat.reduceSub, true_and, and_true, Nat.zero_le, ne_eq, qk_wi, ql_wi, qr_wi, qj_wi, qt_wi, qk_wj, ql_wj, qr_wj, qi_wj, qt_wj, qk_wr, ql_wr, qi_wr, qj_wr, qt_wr, qi_ws, qj_ws, qr_ws, Int.toNat_natCast, Int.toNat_zero, Int.reduceToNat, not_true_eq_false, not_false_eq_true, false_implies, implies_true, Option.some.injEq, reduceCtorEq, Sp0, true_or, or_true, or_self, wi_wi, wj_wj, hM.k]); (repeat' (first | (with_reducible refine And.intro ?_ ?_) | (with_reducible intro))); (all_goals (try (first | with_reducible assumption | omega | (unfold inI; omega) | (unfold inL; omega) | exact cz_in _ _))))))
    all_goals (first | exact h28 | (exfalso; omega) | skip)
  · have hK := hK0 hm
    all_goals (try ((first | (refine s_X8_round_0 x ok _ _ _ _ ?_) | (refine s_X8_round_26 x ok _ _ _ _ ?_) | (refine s_X8_round_28 x ok _ _ _ _ ?_) | (refine s_X8_round_91 x ok _ _ _ _ ?_) | (refine s_X8_round_121 x ok _ _ _ _ ?_) | (refine s_X8_round_122 x ok _ _ _ _ ?_) | (refine s_X8_round_155 x ok _ _ _ _ ?_) | (refine s_X8_round_156 x ok _ _ _ _ ?_) | (refine s_X8_round_164 x ok _ _ _ _ ?_) | (refine s_X8_round_172 x ok _ _ _ _ ?_) | (refine s_X8_round_211 x ok _ _ _ _ ?_) | (refine s_X8_round_262 x ok _ _ _ _ ?_) | (refine s_X8_round_263 x ok _ _ _ _ ?_) | (refine s_X8_round_270 x ok _ _ _ _ ?_) | (refine s_X8_round_273 x ok _ _ _ _ ?_) | (refine s_X8_round_296 x ok _ _ _ _ ?_) | (refine s_X8_round_305 x ok _ _ _ _ ?_) | (refine s_X8_round_312 x ok _ _ _ _ ?_) | (refine s_X8_round_351 x ok _ _ _ _ ?_) | (refine c_rg ?_)); (try simp only [wpS, o_c, o_cl, o_il, o_ll, o_al, o_is, o_ls, o_as, o_inc, o_add, o_sub, o_mul, o_and, o_or, o_xor, o_shl, o_shr, o_div, o_neg, o_ladd, o_lsub, o_lmul, o_ldiv, o_lrem, o_lneg, o_lcmp, o_i2l, o_l2i, o_dup, o_dup2, o_pop, o_go, o_nn, o_sw, swc, o_iret, o_zret, o_lret, o_vret, o_ieq, o_eq0, o_ine, o_ne0, o_ilt, o_lt0, o_ige, o_ge0, o_igt, o_gt0, o_ile, o_le0, o_iald, o_zald, o_lald, o_aald, o_iast, o_zast, o_last, o_aast, o_alen, o_gi, o_gr, o_pi, o_pz, o_pr, o_new, o_newa, o_copy, o_oinit, o_call, o_callV, o_callVc, o_callI, popn, cnO, o_BAD, lgt, lst, isL, kil, st1, st2, entL, List.length_nil, List.length_cons, List.replicate, Nat.reduceAdd, Nat.reduceLeDiff, Nat.reduceSub, true_and, and_true, Nat.zero_le, ne_eq, qk_wi, ql_wi, qr_wi, qj_wi, qt_wi, qk_wj, ql_wj, qr_wj, qi_wj, qt_wj, qk_wr, ql_wr, qi_wr, qj_wr, qt_wr, qi_ws, qj_ws, qr_ws, Int.toNat_natCast, Int.toNat_zero, Int.reduceToNat, not_true_eq_false, not_false_eq_true, false_implies, implies_true, Option.some.injEq, reduceCtorEq, Sp0, true_or, or_true, or_self, wi_wi, wj_wj, hM.k]); (repeat' (first | (with_reducible refine And.intro ?_ ?_) | (with_reducible intro))); (all_goals (try (first | with_reducible assumption | omega | (unfold inI; omega) | (unfold inL; omega) | exact cz_in _ _)))))
    all_goals (try ((first | (refine s_X8_round_0 x ok _ _ _ _ ?_) | (refine s_X8_round_26 x ok _ _ _ _ ?_) | (refine s_X8_round_28 x ok _ _ _ _ ?_) | (refine s_X8_round_91 x ok _ _ _ _ ?_) | (refine s_X8_round_121 x ok _ _ _ _ ?_) | (refine s_X8_round_122 x ok _ _ _ _ ?_) | (refine s_X8_round_155 x ok _ _ _ _ ?_) | (refine s_X8_round_156 x ok _ _ _ _ ?_) | (refine s_X8_round_164 x ok _ _ _ _ ?_) | (refine s_X8_round_172 x ok _ _ _ _ ?_) | (refine s_X8_round_211 x ok _ _ _ _ ?_) | (refine s_X8_round_262 x ok _ _ _ _ ?_) | (refine s_X8_round_263 x ok _ _ _ _ ?_) | (refine s_X8_round_270 x ok _ _ _ _ ?_) | (refine s_X8_round_273 x ok _ _ _ _ ?_) | (refine s_X8_round_296 x ok _ _ _ _ ?_) | (refine s_X8_round_305 x ok _ _ _ _ ?_) | (refine s_X8_round_312 x ok _ _ _ _ ?_) | (refine s_X8_round_351 x ok _ _ _ _ ?_) | (refine c_rg ?_)); (try simp only [wpS, o_c, o_cl, o_il, o_ll, o_al, o_is, o_ls, o_as, o_inc, o_add, o_sub, o_mul, o_and, o_or, o_xor, o_shl, o_shr, o_div, o_neg, o_ladd, o_lsub, o_lmul, o_ldiv, o_lrem, o_lneg, o_lcmp, o_i2l, o_l2i, o_dup, o_dup2, o_pop, o_go, o_nn, o_sw, swc, o_iret, o_zret, o_lret, o_vret, o_ieq, o_eq0, o_ine, o_ne0, o_ilt, o_lt0, o_ige, o_ge0, o_igt, o_gt0, o_ile, o_le0, o_iald, o_zald, o_lald, o_aald, o_iast, o_zast, o_last, o_aast, o_alen, o_gi, o_gr, o_pi, o_pz, o_pr, o_new, o_newa, o_copy, o_oinit, o_call, o_callV, o_callVc, o_callI, popn, cnO, o_BAD, lgt, lst, isL, kil, st1, st2, entL, List.length_nil, List.length_cons, List.replicate, Nat.reduceAdd, Nat.reduceLeDiff, Nat.reduceSub, true_and, and_true, Nat.zero_le, ne_eq, qk_wi, ql_wi, qr_wi, qj_wi, qt_wi, qk_wj, ql_wj, qr_wj, qi_wj, qt_wj, qk_wr, ql_wr, qi_wr, qj_wr, qt_wr, qi_ws, qj_ws, qr_ws, Int.toNat_natCast, Int.toNat_zero, Int.reduceToNat, not_true_eq_false, not_false_eq_true, false_implies, implies_true, Option.some.injEq, reduceCtorEq, Sp0, true_or, or_true, or_self, wi_wi, wj_wj, hM.k]); (repeat' (first | (with_reducible refine And.intro ?_ ?_) | (with_reducible intro))); (all_goals (try (first | with_reducible assumption | omega | (unfold inI; omega) | (unfold inL; omega) | exact cz_in _ _)))))
    all_goals (try ((first | (refine s_X8_round_0 x ok _ _ _ _ ?_) | (refine s_X8_round_26 x ok _ _ _ _ ?_) | (refine s_X8_round_28 x ok _ _ _ _ ?_) | (refine s_X8_round_91 x ok _ _ _ _ ?_) | (refine s_X8_round_121 x ok _ _ _ _ ?_) | (refine s_X8_round_122 x ok _ _ _ _ ?_) | (refine s_X8_round_155 x ok _ _ _ _ ?_) | (refine s_X8_round_156 x ok _ _ _ _ ?_) | (refine s_X8_round_164 x ok _ _ _ _ ?_) | (refine s_X8_round_172 x ok _ _ _ _ ?_) | (refine s_X8_round_211 x ok _ _ _ _ ?_) | (refine s_X8_round_262 x ok _ _ _ _ ?_) | (refine s_X8_round_263 x ok _ _ _ _ ?_) | (refine s_X8_round_270 x ok _ _ _ _ ?_) | (refine s_X8_round_273 x ok _ _ _ _ ?_) | (refine s_X8_round_296 x ok _ _ _ _ ?_) | (refine s_X8_round_305 x ok _ _ _ _ ?_) | (refine s_X8_round_312 x ok _ _ _ _ ?_) | (refine s_X8_round_351 x ok _ _ _ _ ?_) | (refine c_rg ?_)); (try simp only [wpS, o_c, o_cl, o_il, o_ll, o_al, o_is, o_ls, o_as, o_inc, o_add, o_sub, o_mul, o_and, o_or, o_xor, o_shl, o_shr, o_div, o_neg, o_ladd, o_lsub, o_lmul, o_ldiv, o_lrem, o_lneg, o_lcmp, o_i2l, o_l2i, o_dup, o_dup2, o_pop, o_go, o_nn, o_sw, swc, o_iret, o_zret, o_lret, o_vret, o_ieq, o_eq0, o_ine, o_ne0, o_ilt, o_lt0, o_ige, o_ge0, o_igt, o_gt0, o_ile, o_le0, o_iald, o_zald, o_lald, o_aald, o_iast, o_zast, o_last, o_aast, o_alen, o_gi, o_gr, o_pi, o_pz, o_pr, o_new, o_newa, o_copy, o_oinit, o_call, o_callV, o_callVc, o_callI, popn, cnO, o_BAD, lgt, lst, isL, kil, st1, st2, entL, List.length_nil, List.length_cons, List.replicate, Nat.reduceAdd, Nat.reduceLeDiff, Nat.reduceSub, true_and, and_true, Nat.zero_le, ne_eq, qk_wi, ql_wi, qr_wi, qj_wi, qt_wi, qk_wj, ql_wj, qr_wj, qi_wj, qt_wj, qk_wr, ql_wr, qi_wr, qj_wr, qt_wr, qi_ws, qj_ws, qr_ws, Int.toNat_natCast, Int.toNat_zero, Int.reduceToNat, not_true_eq_false, not_false_eq_true, false_implies, implies_true, Option.some.injEq, reduceCtorEq, Sp0, true_or, or_true, or_self, wi_wi, wj_wj, hM.k]); (repeat' (first | (with_reducible refine And.intro ?_ ?_) | (with_reducible intro))); (all_goals (try (first | with_reducible assumption | omega | (unfold inI; omega) | (unfold inL; omega) | exact cz_in _ _)))))
    all_goals (try ((first | (refine s_X8_round_0 x ok _ _ _ _ ?_) | (refine s_X8_round_26 x ok _ _ _ _ ?_) | (refine s_X8_round_28 x ok _ _ _ _ ?_) | (refine s_X8_round_91 x ok _ _ _ _ ?_) | (refine s_X8_round_121 x ok _ _ _ _ ?_) | (refine s_X8_round_122 x ok _ _ _ _ ?_) | (refine s_X8_round_155 x ok _ _ _ _ ?_) | (refine s_X8_round_156 x ok _ _ _ _ ?_) | (refine s_X8_round_164 x ok _ _ _ _ ?_) | (refine s_X8_round_172 x ok _ _ _ _ ?_) | (refine s_X8_round_211 x ok _ _ _ _ ?_) | (refine s_X8_round_262 x ok _ _ _ _ ?_) | (refine s_X8_round_263 x ok _ _ _ _ ?_) | (refine s_X8_round_270 x ok _ _ _ _ ?_) | (refine s_X8_round_273 x ok _ _ _ _ ?_) | (refine s_X8_round_296 x ok _ _ _ _ ?_) | (refine s_X8_round_305 x ok _ _ _ _ ?_) | (refine s_X8_round_312 x ok _ _ _ _ ?_) | (refine s_X8_round_351 x ok _ _ _ _ ?_) | (refine c_rg ?_)); (try simp only [wpS, o_c, o_cl, o_il, o_ll, o_al, o_is, o_ls, o_as, o_inc, o_add, o_sub, o_mul, o_and, o_or, o_xor, o_shl, o_shr, o_div, o_neg, o_ladd, o_lsub, o_lmul, o_ldiv, o_lrem, o_lneg, o_lcmp, o_i2l, o_l2i, o_dup, o_dup2, o_pop, o_go, o_nn, o_sw, swc, o_iret, o_zret, o_lret, o_vret, o_ieq, o_eq0, o_ine, o_ne0, o_ilt, o_lt0, o_ige, o_ge0, o_igt, o_gt0, o_ile, o_le0, o_iald, o_zald, o_lald, o_aald, o_iast, o_zast, o_last, o_aast, o_alen, o_gi, o_gr, o_pi, o_pz, o_pr, o_new, o_newa, o_copy, o_oinit, o_call, o_callV, o_callVc, o_callI, popn, cnO, o_BAD, lgt, lst, isL, kil, st1, st2, entL, List.length_nil, List.length_cons, List.replicate, Nat.reduceAdd, Nat.reduceLeDiff, Nat.reduceSub, true_and, and_true, Nat.zero_le, ne_eq, qk_wi, ql_wi, qr_wi, qj_wi, qt_wi, qk_wj, ql_wj, qr_wj, qi_wj, qt_wj, qk_wr, ql_wr, qi_wr, qj_wr, qt_wr, qi_ws, qj_ws, qr_ws, Int.toNat_natCast, Int.toNat_zero, Int.reduceToNat, not_true_eq_false, not_false_eq_true, false_implies, implies_true, Option.some.injEq, reduceCtorEq, Sp0, true_or, or_true, or_self, wi_wi, wj_wj, hM.k]); (repeat' (first | (with_reducible refine And.intro ?_ ?_) | (with_reducible intro))); (all_goals (try (first | with_reducible assumption | omega | (unfold inI; omega) | (unfold inL; omega) | exact cz_in _ _)))))
    all_goals (try ((first | (refine s_X8_round_0 x ok _ _ _ _ ?_) | (refine s_X8_round_26 x ok _ _ _ _ ?_) | (refine s_X8_round_28 x ok _ _ _ _ ?_) | (refine s_X8_round_91 x ok _ _ _ _ ?_) | (refine s_X8_round_121 x ok _ _ _ _ ?_) | (refine s_X8_round_122 x ok _ _ _ _ ?_) | (refine s_X8_round_155 x ok _ _ _ _ ?_) | (refine s_X8_round_156 x ok _ _ _ _ ?_) | (refine s_X8_round_164 x ok _ _ _ _ ?_) | (refine s_X8_round_172 x ok _ _ _ _ ?_) | (refine s_X8_round_211 x ok _ _ _ _ ?_) | (refine s_X8_round_262 x ok _ _ _ _ ?_) | (refine s_X8_round_263 x ok _ _ _ _ ?_) | (refine s_X8_round_270 x ok _ _ _ _ ?_) | (refine s_X8_round_273 x ok _ _ _ _ ?_) | (refine s_X8_round_296 x ok _ _ _ _ ?_) | (refine s_X8_round_305 x ok _ _ _ _ ?_) | (refine s_X8_round_312 x ok _ _ _ _ ?_) | (refine s_X8_round_351 x ok _ _ _ _ ?_) | (refine c_rg ?_)); (try simp only [wpS, o_c, o_cl, o_il, o_ll, o_al, o_is, o_ls, o_as, o_inc, o_add, o_sub, o_mul, o_and, o_or, o_xor, o_shl, o_shr, o_div, o_neg, o_ladd, o_lsub, o_lmul, o_ldiv, o_lrem, o_lneg, o_lcmp, o_i2l, o_l2i, o_dup, o_dup2, o_pop, o_go, o_nn, o_sw, swc, o_iret, o_zret, o_lret, o_vret, o_ieq, o_eq0, o_ine, o_ne0, o_ilt, o_lt0, o_ige, o_ge0, o_igt, o_gt0, o_ile, o_le0, o_iald, o_zald, o_lald, o_aald, o_iast, o_zast, o_last, o_aast, o_alen, o_gi, o_gr, o_pi, o_pz, o_pr, o_new, o_newa, o_copy, o_oinit, o_call, o_callV, o_callVc, o_callI, popn, cnO, o_BAD, lgt, lst, isL, kil, st1, st2, entL, List.length_nil, List.length_cons, List.replicate, Nat.reduceAdd, Nat.reduceLeDiff, Nat.reduceSub, true_and, and_true, Nat.zero_le, ne_eq, qk_wi, ql_wi, qr_wi, qj_wi, qt_wi, qk_wj, ql_wj, qr_wj, qi_wj, qt_wj, qk_wr, ql_wr, qi_wr, qj_wr, qt_wr, qi_ws, qj_ws, qr_ws, Int.toNat_natCast, Int.toNat_zero, Int.reduceToNat, not_true_eq_false, not_false_eq_true, false_implies, implies_true, Option.some.injEq, reduceCtorEq, Sp0, true_or, or_true, or_self, wi_wi, wj_wj, hM.k]); (repeat' (first | (with_reducible refine And.intro ?_ ?_) | (with_reducible intro))); (all_goals (try (first | with_reducible assumption | omega | (unfold inI; omega) | (unfold inL; omega) | exact cz_in _ _)))))
    all_goals (first | exact hK | (exfalso; omega) | skip)

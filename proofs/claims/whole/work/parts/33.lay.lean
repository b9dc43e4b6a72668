/-! ===== Spread.lay ===== -/
/-- the heaps agree below n -/
def Eqb (h h' : Hp) (n : Nat) : Prop := ∀ b, b < n → qk h' b = qk h b ∧ ql h' b = ql h b ∧ qi h' b = qi h b ∧ qr h' b = qr h b
theorem Eqb.tr {h h' h'' : Hp} {n : Nat} (a : Eqb h h' n) (b : Eqb h' h'' n) : Eqb h h'' n := fun k hk => ⟨(b k hk).1.trans (a k hk).1, (b k hk).2.1.trans (a k hk).2.1, (b k hk).2.2.1.trans (a k hk).2.2.1, (b k hk).2.2.2.trans (a k hk).2.2.2⟩
theorem Gro.eqb {h h' : Hp} {S : Nat} (g : Gro h h' S) (hS : S ≤ qt h) : Eqb h h' S := fun b hb => ⟨(g.1 b (by omega)).1, (g.1 b (by omega)).2.1, (g.1 b (by omega)).2.2.1, (g.1 b (by omega)).2.2.2 (by omega)⟩
theorem ws_eqb (h : Hp) (S R : Nat) (f ca cb g : Nat → Int) : Eqb h (ws h S R f ca cb g) S := fun b hb => ⟨rfl, rfl, qsn (by omega) (by omega) (by omega), rfl⟩
theorem isMe.eqb {h h' : Hp} {p n : Nat} (H : isMe h p) (e : Eqb h h' n) (hn : p + 5 ≤ n) : isMe h' p := by
  unfold isMe at *
  rw [(e p (by omega)).1, (e p (by omega)).2.2.2, (e (p + 1) (by omega)).1, (e (p + 1) (by omega)).2.1, (e (p + 2) (by omega)).1, (e (p + 2) (by omega)).2.1, (e (p + 3) (by omega)).1, (e (p + 3) (by omega)).2.1, (e (p + 4) (by omega)).1, (e (p + 4) (by omega)).2.1]
  exact H
theorem MeC.eqb {h h' : Hp} {p n : Nat} {d : Dd} {m : Nat} (H : MeC h p d m) (e : Eqb h h' n) (hn : p + 5 ≤ n) : MeC h' p d m := by
  unfold MeC at *
  rw [(e p (by omega)).2.2.1, (e (p + 1) (by omega)).2.2.1, (e (p + 2) (by omega)).2.2.1, (e (p + 3) (by omega)).2.2.1, (e (p + 4) (by omega)).2.2.1]
  exact H
theorem Me.eqb {h h' : Hp} {p n : Nat} {d : Dd} {m : Nat} (H : Me h p d m) (e : Eqb h h' n) (hn : p + 5 ≤ n) : Me h' p d m := ⟨H.1.eqb e hn, H.2.1.eqb e hn, H.2.2⟩
theorem Ms.eqb {h h' : Hp} {M n : Nat} {d : Dd} (H : Ms h M d) (e : Eqb h h' n) (hn : M + 64 ≤ n) : Ms h' M d := by
  refine ⟨?_, ?_, fun m hm => ?_, fun m hm => (H.2.2.2 m hm).eqb e (by omega)⟩
  · rw [(e M (by omega)).1]; exact H.1
  · rw [(e M (by omega)).2.1]; exact H.2.1
  · rw [(e M (by omega)).2.2.2]; exact H.2.2.1 m hm
theorem Chv.eqb {h h' : Hp} {p n : Nat} {s : Nat → Int} (H : Chv h p s) (e : Eqb h h' n) (hn : p + 2 ≤ n) : Chv h' p s := by
  unfold Chv isCh at *
  rw [(e p (by omega)).1, (e p (by omega)).2.2.2, (e (p + 1) (by omega)).1, (e (p + 1) (by omega)).2.1, (e (p + 1) (by omega)).2.2.1]
  exact H
/-! the row -/
def lyC (d : Dd) (s t : Nat → Int) (j : Nat) : Prop := dk d j = 0 ∧ (s j ≠ 0 ∨ t j ≠ 0)
noncomputable def lyR (d : Dd) (s t : Nat → Int) (cols : Nat) : Nat → Nat → Int
  | 0 => fun k => if k = 0 then 1 else 0
  | j + 1 => fun k => if dk d j = 0 ∧ (s j ≠ 0 ∨ t j ≠ 0) then cvl d j cols (s j) (t j) (lyR d s t cols j) k else lyR d s t cols j k
def lyN (d : Dd) (s t : Nat → Int) (cols : Nat) : Nat → Nat
  | 0 => 0
  | j + 1 => if dk d j = 0 ∧ (s j ≠ 0 ∨ t j ≠ 0) then tpf d j cols (s j) (t j) (lyN d s t cols j) else lyN d s t cols j
theorem mvf_rg {d : Dd} {m cols j : Nat} {s t : Int} (h : j ≤ rng d m) : 0 ≤ mvf d m cols s t j ∧ mvf d m cols s t j ≤ rng d m * (iab s * cols + iab t) := by
  have h1 := upf_rg (s := s) h
  have h2 := upf_rg (s := t) h
  have h3 : 0 ≤ upf s (rng d m) j * cols := Int.mul_nonneg h1.1 (by omega)
  have h4 : upf s (rng d m) j * cols ≤ iab s * rng d m * cols := Int.mul_le_mul_of_nonneg_right h1.2 (by omega)
  have e1 : (rng d m : Int) * (iab s * cols + iab t) = iab s * rng d m * cols + iab t * rng d m := by
    rw [Int.mul_add, Int.mul_comm (rng d m : Int) (iab t), Int.mul_comm (iab s) (rng d m : Int), Int.mul_assoc]
  unfold mvf
  omega
theorem cvl_c {d : Dd} {m cols : Nat} {s t : Int} {g g2 : Nat → Int} {k : Nat} (h : ∀ i, i ≤ k → g i = g2 i) : cvl d m cols s t g k = cvl d m cols s t g2 k := by
  unfold cvl
  refine sg_c (fun j hj => ?_)
  congr 1
  have := mvf_rg (d := d) (m := m) (cols := cols) (s := s) (t := t) (j := j) (by omega)
  unfold gz
  split
  · rfl
  · exact h _ (by omega)
theorem tpf_eq {d : Dd} {m cols n : Nat} {s t : Int} (hs : 0 ≤ iab s) (ht : 0 ≤ iab t) : (tpf d m cols s t n : Int) = n + rng d m * (iab s * cols + iab t) := by
  have : 0 ≤ iab s * (cols : Int) := Int.mul_nonneg hs (by omega)
  unfold tpf
  push_cast
  rw [Int.toNat_of_nonneg (by omega)]
theorem iab_0 (s : Int) : 0 ≤ iab s := by unfold iab; split <;> omega
theorem cvl_z {d : Dd} {m cols n : Nat} {s t : Int} {g : Nat → Int} {k : Nat} (h : ∀ i, n < i → i ≤ k → g i = 0) (hk : tpf d m cols s t n < k) : cvl d m cols s t g k = 0 := by
  have e := tpf_eq (d := d) (m := m) (cols := cols) (n := n) (iab_0 s) (iab_0 t)
  unfold cvl
  refine sg_z (fun j hj => ?_)
  have := mvf_rg (d := d) (m := m) (cols := cols) (s := s) (t := t) (j := j) (by omega)
  unfold gz
  rw [if_neg (by omega), h _ (by omega) (by omega), Int.mul_zero]
theorem lyN_mono (d : Dd) (s t : Nat → Int) (cols j : Nat) : lyN d s t cols j ≤ lyN d s t cols (j + 1) := by
  show _ ≤ if dk d j = 0 ∧ (s j ≠ 0 ∨ t j ≠ 0) then tpf d j cols (s j) (t j) (lyN d s t cols j) else lyN d s t cols j
  split
  · unfold tpf; omega
  · exact Nat.le_refl _
theorem lyN_mono' (d : Dd) (s t : Nat → Int) (cols : Nat) {j k : Nat} (h : j ≤ k) : lyN d s t cols j ≤ lyN d s t cols k := by
  induction k with
  | zero => rw [show j = 0 by omega]; exact Nat.le_refl _
  | succ k ih =>
    by_cases e : j = k + 1
    · rw [e]; exact Nat.le_refl _
    · exact Nat.le_trans (ih (by omega)) (lyN_mono d s t cols k)
theorem lyR_z (d : Dd) (s t : Nat → Int) (cols : Nat) : ∀ j k, lyN d s t cols j < k → lyR d s t cols j k = 0
  | 0, k, h => by
    have h : 0 < k := h
    show (if k = 0 then (1 : Int) else 0) = 0
    rw [if_neg (by omega)]
  | j + 1, k, h => by
    have h : (if dk d j = 0 ∧ (s j ≠ 0 ∨ t j ≠ 0) then tpf d j cols (s j) (t j) (lyN d s t cols j) else lyN d s t cols j) < k := h
    show (if dk d j = 0 ∧ (s j ≠ 0 ∨ t j ≠ 0) then cvl d j cols (s j) (t j) (lyR d s t cols j) k else lyR d s t cols j k) = 0
    split at h
    · rename_i q
      rw [if_pos q]
      exact cvl_z (n := lyN d s t cols j) (fun i hi _ => lyR_z d s t cols j i hi) h
    · rename_i q
      rw [if_neg q]
      exact lyR_z d s t cols j k h
theorem lyN_le {d : Dd} (s t : Nat → Int) (cols : Nat) (hI : ∀ m, m < 12 → InvM d m) : ∀ j, j ≤ 12 → (lyN d s t cols j : Int) ≤ sg (fun m => iab (s m) * mrg d m) j * cols + sg (fun m => iab (t m) * mrg d m) j
  | 0, _ => by simp [lyN, sg_0]
  | j + 1, hj => by
    have ih := lyN_le s t cols hI j (by omega)
    have hr := (hI j (by omega)).rg
    have hm := mrg_rg (hI j (by omega))
    rw [sg_s, sg_s, Int.add_mul]
    have p1 : 0 ≤ iab (s j) * mrg d j * cols := Int.mul_nonneg (Int.mul_nonneg (iab_0 _) hm.1) (by omega)
    have p2 : 0 ≤ iab (t j) * mrg d j := Int.mul_nonneg (iab_0 _) hm.1
    show (((if dk d j = 0 ∧ (s j ≠ 0 ∨ t j ≠ 0) then tpf d j cols (s j) (t j) (lyN d s t cols j) else lyN d s t cols j) : Nat) : Int) ≤ _
    split
    · rename_i q
      have e := tpf_eq (d := d) (m := j) (cols := cols) (n := lyN d s t cols j) (iab_0 (s j)) (iab_0 (t j))
      have e1 : (rng d j : Int) * (iab (s j) * cols + iab (t j)) = iab (s j) * rng d j * cols + iab (t j) * rng d j := by
        rw [Int.mul_add, Int.mul_comm (rng d j : Int) (iab (t j)), Int.mul_comm (iab (s j)) (rng d j : Int), Int.mul_assoc]
      have e2 : mrg d j = rng d j := by unfold mrg; rw [if_pos q.1]; omega
      rw [e2]
      omega
    · omega
theorem lyN_cells {d : Dd} {s t : Nat → Int} (hI : ∀ m, m < 12 → InvM d m) (hs : ∀ m, m < 12 → -3 ≤ s m ∧ s m ≤ 3) (ht : ∀ m, m < 12 → -3 ≤ t m ∧ t m ≤ 3) (j : Nat) (hj : j ≤ 12) : lyN d s t ((wdG d t).toNat + 1) j < ((wdG d s).toNat + 1) * ((wdG d t).toNat + 1) := by
  refine Nat.lt_of_le_of_lt (lyN_mono' d s t _ hj) ?_
  have h1 := lyN_le s t ((wdG d t).toNat + 1) hI 12 (Nat.le_refl _)
  have h2 := wdG_rg hI hs
  have h3 := wdG_rg hI ht
  change _ ≤ wdG d s * (((wdG d t).toNat + 1 : Nat) : Int) + wdG d t at h1
  generalize hC : (wdG d t).toNat + 1 = C at *
  have e : wdG d s = (((wdG d s).toNat : Nat) : Int) := by omega
  rw [e] at h1
  rw [Nat.add_mul, Nat.one_mul]
  have e2 : (((wdG d s).toNat : Nat) : Int) * (C : Int) = (((wdG d s).toNat * C : Nat) : Int) := by push_cast; rfl
  rw [e2] at h1
  omega
def B_X5_lay : TB := fun as h c K => ∃ (S R M p q : Nat) (d : Dd) (s t : Nat → Int), as = [vr (some S), vr (some M), vr (some p), vr (some q)] ∧ isSp h S R ∧ S + 3 < qt h ∧ R < qt h ∧ Ms h M d ∧ M + 64 ≤ S ∧ Chv h p s ∧ p + 2 ≤ S ∧ Chv h q t ∧ q + 2 ≤ S ∧ (gc (ql h R) (rwL (ql h R) (((wdG d s).toNat + 1) * ((wdG d t).toNat + 1)))).1 ≤ c.1 ∧ (gc (ql h R) (rwL (ql h R) (((wdG d s).toNat + 1) * ((wdG d t).toNat + 1)))).2 ≤ c.2 ∧
  (200000 < ((wdG d s).toNat + 1) * ((wdG d t).toNat + 1) → ∀ f2 : Nat → Int, K (some (vi 0)) (wi h S f2)) ∧
  (((wdG d s).toNat + 1) * ((wdG d t).toNat + 1) ≤ 200000 → ∀ (h' : Hp) (R' : Nat) (f2 ca2 cb2 g2 : Nat → Int), Gro h h' S → isSp h' S R' → R' < qt h' → (R' = R ∨ qt h ≤ R') → ql h' R' = rwL (ql h R) (((wdG d s).toNat + 1) * ((wdG d t).toNat + 1)) → f2 0 = (((wdG d s).toNat + 1 : Nat) : Int) → f2 1 = (((wdG d t).toNat + 1 : Nat) : Int) → (∀ k, k < ((wdG d s).toNat + 1) * ((wdG d t).toNat + 1) → g2 k = lyR d s t ((wdG d t).toNat + 1) 12 k) → K (some (vi 1)) (ws h' S R' f2 ca2 cb2 g2))
abbrev i_X5_lay : MI := (cX5_lay, 5, RX5, (some .boolean), "lay", 5)
theorem k_X5_lay_0 : Okop i_X5_lay 0 (o_al 0) 1 := k_aln (j := 0) (by decide +kernel)
theorem k_X5_lay_1 : Okop i_X5_lay 1 (o_al 2) 2 := k_aln (j := 2) (by decide +kernel)
theorem k_X5_lay_2 : Okop i_X5_lay 2 (o_al 1) 3 := k_aln (j := 1) (by decide +kernel)
theorem k_X5_lay_3 : Okop i_X5_lay 3 (o_callV 1 1 T_X1_gapWidth) 6 := k_callV (idx := 22) (r0 := (RX1, TX1, 3)) m_X1_gapWidth ⟨gw_397, gw_4, ⟨by decide, by decide, by decide +kernel⟩, by decide, by decide⟩ rfl gw_433 gw_395 gw_396 (by decide +kernel)
theorem k_X5_lay_6 : Okop i_X5_lay 6 (o_c 1) 7 := k_iconst (by decide +kernel)
theorem k_X5_lay_7 : Okop i_X5_lay 7 (o_add) 8 := k_add (by decide +kernel)
theorem k_X5_lay_8 : Okop i_X5_lay 8 (o_al 3) 9 := k_aln (j := 3) (by decide +kernel)
theorem k_X5_lay_9 : Okop i_X5_lay 9 (o_al 1) 10 := k_aln (j := 1) (by decide +kernel)
theorem k_X5_lay_10 : Okop i_X5_lay 10 (o_callV 1 1 T_X1_gapWidth) 13 := k_callV (idx := 22) (r0 := (RX1, TX1, 3)) m_X1_gapWidth ⟨gw_397, gw_4, ⟨by decide, by decide, by decide +kernel⟩, by decide, by decide⟩ rfl gw_433 gw_395 gw_396 (by decide +kernel)
theorem k_X5_lay_13 : Okop i_X5_lay 13 (o_c 1) 14 := k_iconst (by decide +kernel)
theorem k_X5_lay_14 : Okop i_X5_lay 14 (o_add) 15 := k_add (by decide +kernel)
theorem k_X5_lay_15 : Okop i_X5_lay 15 (o_callVx 5 2 B_X5_clear) 18 := k_callVx (idx := 28) (r0 := (RX5, TX5, 9)) m_X5_clear ⟨gw_437, gw_8, ⟨by decide, by decide, by decide +kernel⟩, by decide, by decide⟩ rfl gw_434 gw_436 gs_2 (by decide +kernel)
theorem k_X5_lay_18 : Okop i_X5_lay 18 (o_ne0 23) 21 := k_ne0 (off := 5) (by decide +kernel) (by decide)
theorem k_X5_lay_21 : Okop i_X5_lay 21 (o_c 0) 22 := k_iconst (by decide +kernel)
theorem k_X5_lay_22 : Okop i_X5_lay 22 (o_zret) 23 := k_zret (by decide +kernel) rfl
theorem k_X5_lay_23 : Okop i_X5_lay 23 (o_c 0) 24 := k_iconst (by decide +kernel)
theorem k_X5_lay_24 : Okop i_X5_lay 24 (o_is 4) 26 := k_is (by decide +kernel) (by decide)
theorem k_X5_lay_26 : Okop i_X5_lay 26 (o_il 4) 28 := k_il (by decide +kernel)
theorem k_X5_lay_28 : Okop i_X5_lay 28 (o_c 12) 30 := k_bipush (by decide +kernel) rfl
theorem k_X5_lay_30 : Okop i_X5_lay 30 (o_ige 91) 33 := k_ige (off := 61) (by decide +kernel) (by decide)
theorem k_X5_lay_33 : Okop i_X5_lay 33 (o_al 1) 34 := k_aln (j := 1) (by decide +kernel)
theorem k_X5_lay_34 : Okop i_X5_lay 34 (o_il 4) 36 := k_il (by decide +kernel)
theorem k_X5_lay_36 : Okop i_X5_lay 36 (o_aald) 37 := k_aald (by decide +kernel)
theorem k_X5_lay_37 : Okop i_X5_lay 37 (o_gi 4 0) 40 := k_gi (idx := 32) fo_4 (by decide) (by decide) gw_39 (by decide +kernel)
theorem k_X5_lay_40 : Okop i_X5_lay 40 (o_ne0 85) 43 := k_ne0 (off := 45) (by decide +kernel) (by decide)
theorem k_X5_lay_43 : Okop i_X5_lay 43 (o_al 2) 44 := k_aln (j := 2) (by decide +kernel)
theorem k_X5_lay_44 : Okop i_X5_lay 44 (o_gr 1 0) 47 := k_gr (idx := 38) fo_1 (by decide) (by decide) gw_111 (by decide +kernel)
theorem k_X5_lay_47 : Okop i_X5_lay 47 (o_il 4) 49 := k_il (by decide +kernel)
theorem k_X5_lay_49 : Okop i_X5_lay 49 (o_iald) 50 := k_iald (by decide +kernel)
theorem k_X5_lay_50 : Okop i_X5_lay 50 (o_ne0 63) 53 := k_ne0 (off := 13) (by decide +kernel) (by decide)
theorem k_X5_lay_53 : Okop i_X5_lay 53 (o_al 3) 54 := k_aln (j := 3) (by decide +kernel)
theorem k_X5_lay_54 : Okop i_X5_lay 54 (o_gr 1 0) 57 := k_gr (idx := 38) fo_1 (by decide) (by decide) gw_111 (by decide +kernel)
theorem k_X5_lay_57 : Okop i_X5_lay 57 (o_il 4) 59 := k_il (by decide +kernel)
theorem k_X5_lay_59 : Okop i_X5_lay 59 (o_iald) 60 := k_iald (by decide +kernel)
theorem k_X5_lay_60 : Okop i_X5_lay 60 (o_eq0 85) 63 := k_eq0 (off := 25) (by decide +kernel) (by decide)
theorem k_X5_lay_63 : Okop i_X5_lay 63 (o_al 0) 64 := k_aln (j := 0) (by decide +kernel)
theorem k_X5_lay_64 : Okop i_X5_lay 64 (o_al 1) 65 := k_aln (j := 1) (by decide +kernel)
theorem k_X5_lay_65 : Okop i_X5_lay 65 (o_il 4) 67 := k_il (by decide +kernel)
theorem k_X5_lay_67 : Okop i_X5_lay 67 (o_aald) 68 := k_aald (by decide +kernel)
theorem k_X5_lay_68 : Okop i_X5_lay 68 (o_al 2) 69 := k_aln (j := 2) (by decide +kernel)
theorem k_X5_lay_69 : Okop i_X5_lay 69 (o_gr 1 0) 72 := k_gr (idx := 38) fo_1 (by decide) (by decide) gw_111 (by decide +kernel)
theorem k_X5_lay_72 : Okop i_X5_lay 72 (o_il 4) 74 := k_il (by decide +kernel)
theorem k_X5_lay_74 : Okop i_X5_lay 74 (o_iald) 75 := k_iald (by decide +kernel)
theorem k_X5_lay_75 : Okop i_X5_lay 75 (o_al 3) 76 := k_aln (j := 3) (by decide +kernel)
theorem k_X5_lay_76 : Okop i_X5_lay 76 (o_gr 1 0) 79 := k_gr (idx := 38) fo_1 (by decide) (by decide) gw_111 (by decide +kernel)
theorem k_X5_lay_79 : Okop i_X5_lay 79 (o_il 4) 81 := k_il (by decide +kernel)
theorem k_X5_lay_81 : Okop i_X5_lay 81 (o_iald) 82 := k_iald (by decide +kernel)
theorem k_X5_lay_82 : Okop i_X5_lay 82 (o_callV 5 3 T_X5_spreadBy) 85 := k_callV (idx := 41) (r0 := (RX5, TX5, 9)) m_X5_spreadBy ⟨gw_450, gw_8, ⟨by decide, by decide, by decide +kernel⟩, by decide, by decide⟩ rfl gw_447 gw_449 gs_3 (by decide +kernel)
theorem k_X5_lay_85 : Okop i_X5_lay 85 (o_inc 4 1) 88 := k_inc (by decide +kernel) (by decide)
theorem k_X5_lay_88 : Okop i_X5_lay 88 (o_go 26) 91 := k_go (off := -62) (by decide +kernel) (by decide)
theorem k_X5_lay_91 : Okop i_X5_lay 91 (o_c 1) 92 := k_iconst (by decide +kernel)
theorem k_X5_lay_92 : Okop i_X5_lay 92 (o_zret) 93 := k_zret (by decide +kernel) rfl
theorem s_X5_lay_0 : Seg i_X5_lay 0 [o_al 0, o_al 2, o_al 1, o_callV 1 1 T_X1_gapWidth, o_c 1, o_add, o_al 3, o_al 1, o_callV 1 1 T_X1_gapWidth, o_c 1, o_add, o_callVx 5 2 B_X5_clear, o_ne0 23, o_c 0, o_zret] 23 := Seg.cons k_X5_lay_0 (Seg.cons k_X5_lay_1 (Seg.cons k_X5_lay_2 (Seg.cons k_X5_lay_3 (Seg.cons k_X5_lay_6 (Seg.cons k_X5_lay_7 (Seg.cons k_X5_lay_8 (Seg.cons k_X5_lay_9 (Seg.cons k_X5_lay_10 (Seg.cons k_X5_lay_13 (Seg.cons k_X5_lay_14 (Seg.cons k_X5_lay_15 (Seg.cons k_X5_lay_18 (Seg.cons k_X5_lay_21 (Seg.cons k_X5_lay_22 (Seg.nil)))))))))))))))
theorem s_X5_lay_23 : Seg i_X5_lay 23 [o_c 0, o_is 4] 26 := Seg.cons k_X5_lay_23 (Seg.cons k_X5_lay_24 (Seg.nil))
theorem s_X5_lay_26 : Seg i_X5_lay 26 [o_il 4, o_c 12, o_ige 91, o_al 1, o_il 4, o_aald, o_gi 4 0, o_ne0 85, o_al 2, o_gr 1 0, o_il 4, o_iald, o_ne0 63, o_al 3, o_gr 1 0, o_il 4, o_iald, o_eq0 85, o_al 0, o_al 1, o_il 4, o_aald, o_al 2, o_gr 1 0, o_il 4, o_iald, o_al 3, o_gr 1 0, o_il 4, o_iald, o_callV 5 3 T_X5_spreadBy, o_inc 4 1, o_go 26] 91 := Seg.cons k_X5_lay_26 (Seg.cons k_X5_lay_28 (Seg.cons k_X5_lay_30 (Seg.cons k_X5_lay_33 (Seg.cons k_X5_lay_34 (Seg.cons k_X5_lay_36 (Seg.cons k_X5_lay_37 (Seg.cons k_X5_lay_40 (Seg.cons k_X5_lay_43 (Seg.cons k_X5_lay_44 (Seg.cons k_X5_lay_47 (Seg.cons k_X5_lay_49 (Seg.cons k_X5_lay_50 (Seg.cons k_X5_lay_53 (Seg.cons k_X5_lay_54 (Seg.cons k_X5_lay_57 (Seg.cons k_X5_lay_59 (Seg.cons k_X5_lay_60 (Seg.cons k_X5_lay_63 (Seg.cons k_X5_lay_64 (Seg.cons k_X5_lay_65 (Seg.cons k_X5_lay_67 (Seg.cons k_X5_lay_68 (Seg.cons k_X5_lay_69 (Seg.cons k_X5_lay_72 (Seg.cons k_X5_lay_74 (Seg.cons k_X5_lay_75 (Seg.cons k_X5_lay_76 (Seg.cons k_X5_lay_79 (Seg.cons k_X5_lay_81 (Seg.cons k_X5_lay_82 (Seg.cons k_X5_lay_85 (Seg.cons k_X5_lay_88 (Seg.nil)))))))))))))))))))))))))))))))))
theorem s_X5_lay_63 : Seg i_X5_lay 63 [o_al 0, o_al 1, o_il 4, o_aald, o_al 2, o_gr 1 0, o_il 4, o_iald, o_al 3, o_gr 1 0, o_il 4, o_iald, o_callV 5 3 T_X5_spreadBy, o_inc 4 1, o_go 26] 91 := Seg.cons k_X5_lay_63 (Seg.cons k_X5_lay_64 (Seg.cons k_X5_lay_65 (Seg.cons k_X5_lay_67 (Seg.cons k_X5_lay_68 (Seg.cons k_X5_lay_69 (Seg.cons k_X5_lay_72 (Seg.cons k_X5_lay_74 (Seg.cons k_X5_lay_75 (Seg.cons k_X5_lay_76 (Seg.cons k_X5_lay_79 (Seg.cons k_X5_lay_81 (Seg.cons k_X5_lay_82 (Seg.cons k_X5_lay_85 (Seg.cons k_X5_lay_88 (Seg.nil)))))))))))))))
theorem s_X5_lay_85 : Seg i_X5_lay 85 [o_inc 4 1, o_go 26] 91 := Seg.cons k_X5_lay_85 (Seg.cons k_X5_lay_88 (Seg.nil))
theorem s_X5_lay_91 : Seg i_X5_lay 91 [o_c 1, o_zret] 93 := Seg.cons k_X5_lay_91 (Seg.cons k_X5_lay_92 (Seg.nil))

theorem m_X5_lay : Mthx yX5_lay cX5_lay 5 (some .boolean) 5 B_X5_lay := by
  refine Mthx.of (by decide) ?_
  rintro x as h c ok ⟨S, R, M, p, q, d, s, t, rfl, hSp, hS, hR, hM, hMS, hp, hpS, hq, hqS, c1, c2, hKb, hKg⟩
  refine ⟨Nat.le_of_ble_eq_true rfl, ?_⟩
  have hI : ∀ m, m < 12 → InvM d m := fun m hm => (hM.2.2.2 m hm).2.2
  have hs := hp.2.2
  have ht := hq.2.2
  have w1 := wdG_rg hI hs
  have w2 := wdG_rg hI ht
  obtain ⟨k0, r4, r6, r7, k2, l2, k3, l3, kR, lR⟩ := id hSp
  have kp := hp.1.1
  have kq := hq.1.1
  have hlt := fun j hj => lyN_cells hI hs ht j hj
  have e1 : wdG d s + 1 = (((wdG d s).toNat + 1 : Nat) : Int) := by omega
  have e2 : wdG d t + 1 = (((wdG d t).toNat + 1 : Nat) : Int) := by omega
  have htw : ∀ m, m < 12 → iab (t m) * mrg d m < (((wdG d t).toNat + 1 : Nat) : Int) := fun m hm => by
    have := sg_pt (f := fun m => iab (t m) * mrg d m) (n := 12) (fun k hk => Int.mul_nonneg (iab_0 _) (mrg_rg (hI k hk)).1) m hm
    change _ ≤ wdG d t at this
    omega
  generalize hrr : (wdG d s).toNat + 1 = rr at *
  generalize hcc : (wdG d t).toNat + 1 = cc at *
  have loop : ∀ (h' : Hp) (R' : Nat), Gro h h' S → isSp h' S R' → R' < qt h' → (R' = R ∨ qt h ≤ R') → ql h' R' = rwL (ql h R) (rr * cc) → rr * cc ≤ 200000 → ∀ b : Nat × Nat, ∀ j, j ≤ 12 → ∀ f2 ca2 cb2 g2 : Nat → Int, f2 0 = (rr : Int) → f2 1 = (cc : Int) → f2 5 = (lyN d s t cc j : Int) → (∀ k, k < rr * cc → g2 k = lyR d s t cc j k) → V i_X5_lay x 26 [some (vr (some S)), some (vr (some M)), some (vr (some p)), some (vr (some q)), some (vi j)] [] (ws h' S R' f2 ca2 cb2 g2) b := by
    intro h' R' g1 g2 g3 g4 g5 g6 b
    have eq1 := g1.eqb (by omega)
    have hlR : rr * cc ≤ ql h' R' := by
      rw [g5]
      unfold rwL
      split
      · omega
      · split <;> omega
    refine bwd _ ?_ ?_
    · intro f2 ca2 cb2 gr a1 a2 a3 a4
      refine s_X5_lay_26 x ok _ _ _ _ ?_
      simp only [wpS, o_c, o_cl, o_il, o_ll, o_al, o_is, o_ls, o_as, o_inc, o_add, o_sub, o_mul, o_and, o_or, o_xor, o_shl, o_shr, o_div, o_neg, o_ladd, o_lsub, o_lmul, o_ldiv, o_lrem, o_lneg, o_lcmp, o_i2l, o_l2i, o_dup, o_dup2, o_pop, o_go, o_nn, o_sw, swc, o_iret, o_zret, o_lret, o_vret, o_ieq, o_eq0, o_ine, o_ne0, o_ilt, o_lt0, o_ige, o_ge0, o_igt, o_gt0, o_ile, o_le0, o_iald, o_zald, o_lald, o_aald, o_iast, o_zast, o_last, o_aast, o_alen, o_gi, o_gr, o_pi, o_pz, o_pr, o_new, o_newa, o_copy, o_oinit, o_call, o_callV, o_callVc, o_callI, popn, cnO, o_BAD, lgt, lst, isL, kil, st1, st2, entL, List.length_nil, List.length_cons, List.replicate, Nat.reduceAdd, Nat.reduceLeDiff, Nat.reduceSub, true_and, and_true, Nat.zero_le, ne_eq, qk_wi, ql_wi, qr_wi, qj_wi, qt_wi, qk_wj, ql_wj, qr_wj, qi_wj, qt_wj, qk_wr, ql_wr, qi_wr, qj_wr, qt_wr, qi_ws, qj_ws, qr_ws, Int.toNat_natCast, Int.toNat_zero, Int.reduceToNat, not_true_eq_false, not_false_eq_true, false_implies, implies_true, Option.some.injEq, reduceCtorEq, Sp0, true_or, or_true, or_self, wi_wi, wj_wj]
      repeat' (first | (with_reducible refine And.intro ?_ ?_) | (with_reducible intro))
      all_goals (try (first | assumption | omega | (unfold inI; omega)))
      all_goals (try ((first | (refine s_X5_lay_0 x ok _ _ _ _ ?_) | (refine s_X5_lay_23 x ok _ _ _ _ ?_) | (refine s_X5_lay_63 x ok _ _ _ _ ?_) | (refine s_X5_lay_85 x ok _ _ _ _ ?_) | (refine s_X5_lay_91 x ok _ _ _ _ ?_)); (try simp only [wpS, o_c, o_cl, o_il, o_ll, o_al, o_is, o_ls, o_as, o_inc, o_add, o_sub, o_mul, o_and, o_or, o_xor, o_shl, o_shr, o_div, o_neg, o_ladd, o_lsub, o_lmul, o_ldiv, o_lrem, o_lneg, o_lcmp, o_i2l, o_l2i, o_dup, o_dup2, o_pop, o_go, o_nn, o_sw, swc, o_iret, o_zret, o_lret, o_vret, o_ieq, o_eq0, o_ine, o_ne0, o_ilt, o_lt0, o_ige, o_ge0, o_igt, o_gt0, o_ile, o_le0, o_iald, o_zald, o_lald, o_aald, o_iast, o_zast, o_last, o_aast, o_alen, o_gi, o_gr, o_pi, o_pz, o_pr, o_new, o_newa, o_copy, o_oinit, o_call, o_callV, o_callVc, o_callI, popn, cnO, o_BAD, lgt, lst, isL, kil, st1, st2, entL, List.length_nil, List.length_cons, List.replicate, Nat.reduceAdd, Nat.reduceLeDiff, Nat.reduceSub, true_and, and_true, Nat.zero_le, ne_eq, qk_wi, ql_wi, qr_wi, qj_wi, qt_wi, qk_wj, ql_wj, qr_wj, qi_wj, qt_wj, qk_wr, ql_wr, qi_wr, qj_wr, qt_wr, qi_ws, qj_ws, qr_ws, Int.toNat_natCast, Int.toNat_zero, Int.reduceToNat, not_true_eq_false, not_false_eq_true, false_implies, implies_true, Option.some.injEq, reduceCtorEq, Sp0, true_or, or_true, or_self, wi_wi, wj_wj]); (repeat' (first | (with_reducible refine And.intro ?_ ?_) | (with_reducible intro))); (all_goals (try (first | assumption | omega | (unfold inI; omega))))))
      all_goals (try ((first | (refine s_X5_lay_0 x ok _ _ _ _ ?_) | (refine s_X5_lay_23 x ok _ _ _ _ ?_) | (refine s_X5_lay_63 x ok _ _ _ _ ?_) | (refine s_X5_lay_85 x ok _ _ _ _ ?_) | (refine s_X5_lay_91 x ok _ _ _ _ ?_)); (try simp only [wpS, o_c, o_cl, o_il, o_ll, o_al, o_is, o_ls, o_as, o_inc, o_add, o_sub, o_mul, o_and, o_or, o_xor, o_shl, o_shr, o_div, o_neg, o_ladd, o_lsub, o_lmul, o_ldiv, o_lrem, o_lneg, o_lcmp, o_i2l, o_l2i, o_dup, o_dup2, o_pop, o_go, o_nn, o_sw, swc, o_iret, o_zret, o_lret, o_vret, o_ieq, o_eq0, o_ine, o_ne0, o_ilt, o_lt0, o_ige, o_ge0, o_igt, o_gt0, o_ile, o_le0, o_iald, o_zald, o_lald, o_aald, o_iast, o_zast, o_last, o_aast, o_alen, o_gi, o_gr, o_pi, o_pz, o_pr, o_new, o_newa, o_copy, o_oinit, o_call, o_callV, o_callVc, o_callI, popn, cnO, o_BAD, lgt, lst, isL, kil, st1, st2, entL, List.length_nil, List.length_cons, List.replicate, Nat.reduceAdd, Nat.reduceLeDiff, Nat.reduceSub, true_and, and_true, Nat.zero_le, ne_eq, qk_wi, ql_wi, qr_wi, qj_wi, qt_wi, qk_wj, ql_wj, qr_wj, qi_wj, qt_wj, qk_wr, ql_wr, qi_wr, qj_wr, qt_wr, qi_ws, qj_ws, qr_ws, Int.toNat_natCast, Int.toNat_zero, Int.reduceToNat, not_true_eq_false, not_false_eq_true, false_implies, implies_true, Option.some.injEq, reduceCtorEq, Sp0, true_or, or_true, or_self, wi_wi, wj_wj]); (repeat' (first | (with_reducible refine And.intro ?_ ?_) | (with_reducible intro))); (all_goals (try (first | assumption | omega | (unfold inI; omega))))))
      exact hKg g6 h' R' f2 ca2 cb2 gr g1 g2 g3 g4 g5 a1 a2 a4
    · intro j hj ih f2 ca2 cb2 gr a1 a2 a3 a4
      have eq2 : Eqb h (ws h' S R' f2 ca2 cb2 gr) S := eq1.tr (ws_eqb h' S R' f2 ca2 cb2 gr)
      obtain ⟨km, lm, rm, hm⟩ := hM.eqb eq2 hMS
      obtain ⟨⟨kp, rp, kp2, lp2⟩, cp, -⟩ := hp.eqb eq2 hpS
      obtain ⟨⟨kq, rq, kq2, lq2⟩, cq, -⟩ := hq.eqb eq2 hqS
      have hmj := hm j hj
      have hm' := (hM.2.2.2 j hj).eqb eq1 (by omega)
      have kS : qk (ws h' S R' f2 ca2 cb2 gr) S = 15 := g2.1
      have skip : ¬ (dk d j = 0 ∧ (s j ≠ 0 ∨ t j ≠ 0)) → V i_X5_lay x 26 [some (vr (some S)), some (vr (some M)), some (vr (some p)), some (vr (some q)), some (vi ((j : Int) + 1))] [] (ws h' S R' f2 ca2 cb2 gr) b := fun n => by
        refine ih f2 ca2 cb2 gr a1 a2 ?_ ?_
        · show f2 5 = (((if dk d j = 0 ∧ (s j ≠ 0 ∨ t j ≠ 0) then tpf d j cc (s j) (t j) (lyN d s t cc j) else lyN d s t cc j) : Nat) : Int)
          rw [if_neg n]; exact a3
        · intro k hk
          show gr k = if dk d j = 0 ∧ (s j ≠ 0 ∨ t j ≠ 0) then cvl d j cc (s j) (t j) (lyR d s t cc j) k else lyR d s t cc j k
          rw [if_neg n]; exact a4 k hk
      have hsj := hs j hj
      have htj := ht j hj
      have spread : (dk d j = 0 ∧ (s j ≠ 0 ∨ t j ≠ 0)) → ∀ K : RT, (∀ f3 ca3 cb3 g3 : Nat → Int, f3 0 = (rr : Int) → f3 1 = (cc : Int) → f3 5 = (lyN d s t cc (j + 1) : Int) → (∀ k, k < rr * cc → g3 k = lyR d s t cc (j + 1) k) → K none (ws h' S R' f3 ca3 cb3 g3)) → T_X5_spreadBy [vr (some S), vr (some (M + 4 + 5 * j)), vi (s j), vi (t j)] (ws h' S R' f2 ca2 cb2 gr) K := fun q K hK => by
        have eN : lyN d s t cc (j + 1) = tpf d j cc (s j) (t j) (lyN d s t cc j) := if_pos q
        have eR : ∀ k, lyR d s t cc (j + 1) k = cvl d j cc (s j) (t j) (lyR d s t cc j) k := fun k => if_pos q
        have hN1 := hlt (j + 1) (by omega)
        have hmn := lyN_mono d s t cc j
        rw [eN] at hN1 hmn
        refine c_spreadBy (cols := cc) (n := lyN d s t cc j) g2 hm' (by omega) a2 a3 hsj htj (by omega) (by omega) (fun hr => ?_) (fun k k1 k2 => ?_) (fun f3 ca3 cb3 g3 b1 b2 b3 => hK f3 ca3 cb3 g3 ?_ ?_ ?_ (fun k hk => ?_))
        · have h1 := htw j hj
          have hrj := (hI j hj).rg
          have e3 : mrg d j = (rng d j : Int) := by unfold mrg; rw [if_pos q.1]; omega
          rw [e3] at h1
          have h2 : iab (t j) * 1 ≤ iab (t j) * (rng d j : Int) := Int.mul_le_mul_of_nonneg_left (by omega) (iab_0 _)
          have h3 : t j ≤ iab (t j) ∧ -(t j) ≤ iab (t j) := by unfold iab; split <;> omega
          rcases Int.lt_trichotomy (s j) 0 with z | z | z
          · have : (s j) * (cc : Int) ≤ -1 * (cc : Int) := Int.mul_le_mul_of_nonneg_right (by omega) (by omega)
            omega
          · rw [z, Int.zero_mul]; omega
          · have : 1 * (cc : Int) ≤ (s j) * (cc : Int) := Int.mul_le_mul_of_nonneg_right (by omega) (by omega)
            omega
        · rw [a4 k (by omega)]
          exact lyR_z d s t cc j k k1
        · rw [b1 0 (by omega) (by omega), a1]
        · rw [b1 1 (by omega) (by omega), a2]
        · rw [b2, eN]
        · rw [b3 k]
          by_cases z : k ≤ tpf d j cc (s j) (t j) (lyN d s t cc j)
          · rw [if_pos z, eR]
            exact cvl_c (fun i hi => a4 i (by omega))
          · rw [if_neg z, a4 k hk, lyR_z d s t cc j k (by omega), lyR_z d s t cc (j + 1) k (by rw [eN]; omega)]
      refine s_X5_lay_26 x ok _ _ _ _ ?_
      simp only [wpS, o_c, o_cl, o_il, o_ll, o_al, o_is, o_ls, o_as, o_inc, o_add, o_sub, o_mul, o_and, o_or, o_xor, o_shl, o_shr, o_div, o_neg, o_ladd, o_lsub, o_lmul, o_ldiv, o_lrem, o_lneg, o_lcmp, o_i2l, o_l2i, o_dup, o_dup2, o_pop, o_go, o_nn, o_sw, swc, o_iret, o_zret, o_lret, o_vret, o_ieq, o_eq0, o_ine, o_ne0, o_ilt, o_lt0, o_ige, o_ge0, o_igt, o_gt0, o_ile, o_le0, o_iald, o_zald, o_lald, o_aald, o_iast, o_zast, o_last, o_aast, o_alen, o_gi, o_gr, o_pi, o_pz, o_pr, o_new, o_newa, o_copy, o_oinit, o_call, o_callV, o_callVc, o_callI, popn, cnO, o_BAD, lgt, lst, isL, kil, st1, st2, entL, List.length_nil, List.length_cons, List.replicate, Nat.reduceAdd, Nat.reduceLeDiff, Nat.reduceSub, true_and, and_true, Nat.zero_le, ne_eq, qk_wi, ql_wi, qr_wi, qj_wi, qt_wi, qk_wj, ql_wj, qr_wj, qi_wj, qt_wj, qk_wr, ql_wr, qi_wr, qj_wr, qt_wr, qi_ws, qj_ws, qr_ws, Int.toNat_natCast, Int.toNat_zero, Int.reduceToNat, not_true_eq_false, not_false_eq_true, false_implies, implies_true, Option.some.injEq, reduceCtorEq, Sp0, true_or, or_true, or_self, wi_wi, wj_wj, km, lm, rm j hj, hmj.1.1, hmj.2.1.1, kp, rp, kp2, lp2, cp j hj, kq, rq, kq2, lq2, cq j hj, kS]
      repeat' (first | (with_reducible refine And.intro ?_ ?_) | (with_reducible intro))
      all_goals (try (first | assumption | omega | (unfold inI; omega)))
      all_goals (try ((first | (refine s_X5_lay_0 x ok _ _ _ _ ?_) | (refine s_X5_lay_23 x ok _ _ _ _ ?_) | (refine s_X5_lay_63 x ok _ _ _ _ ?_) | (refine s_X5_lay_85 x ok _ _ _ _ ?_) | (refine s_X5_lay_91 x ok _ _ _ _ ?_)); (try simp only [wpS, o_c, o_cl, o_il, o_ll, o_al, o_is, o_ls, o_as, o_inc, o_add, o_sub, o_mul, o_and, o_or, o_xor, o_shl, o_shr, o_div, o_neg, o_ladd, o_lsub, o_lmul, o_ldiv, o_lrem, o_lneg, o_lcmp, o_i2l, o_l2i, o_dup, o_dup2, o_pop, o_go, o_nn, o_sw, swc, o_iret, o_zret, o_lret, o_vret, o_ieq, o_eq0, o_ine, o_ne0, o_ilt, o_lt0, o_ige, o_ge0, o_igt, o_gt0, o_ile, o_le0, o_iald, o_zald, o_lald, o_aald, o_iast, o_zast, o_last, o_aast, o_alen, o_gi, o_gr, o_pi, o_pz, o_pr, o_new, o_newa, o_copy, o_oinit, o_call, o_callV, o_callVc, o_callI, popn, cnO, o_BAD, lgt, lst, isL, kil, st1, st2, entL, List.length_nil, List.length_cons, List.replicate, Nat.reduceAdd, Nat.reduceLeDiff, Nat.reduceSub, true_and, and_true, Nat.zero_le, ne_eq, qk_wi, ql_wi, qr_wi, qj_wi, qt_wi, qk_wj, ql_wj, qr_wj, qi_wj, qt_wj, qk_wr, ql_wr, qi_wr, qj_wr, qt_wr, qi_ws, qj_ws, qr_ws, Int.toNat_natCast, Int.toNat_zero, Int.reduceToNat, not_true_eq_false, not_false_eq_true, false_implies, implies_true, Option.some.injEq, reduceCtorEq, Sp0, true_or, or_true, or_self, wi_wi, wj_wj, km, lm, rm j hj, kp, rp, kp2, lp2, cp j hj, kq, rq, kq2, lq2, cq j hj, kS]); (repeat' (first | (with_reducible refine And.intro ?_ ?_) | (with_reducible intro))); (all_goals (try (first | assumption | omega | (unfold inI; omega))))))
      all_goals (first | (refine spread ⟨by assumption, by omega⟩ _ (fun f3 ca3 cb3 g3 b1 b2 b3 b4 => ih f3 ca3 cb3 g3 b1 b2 b3 b4)) | (refine skip ?_; omega) | (have := (hI j hj).k; unfold inI; omega) | skip)
  refine s_X5_lay_0 x ok _ _ _ _ ?_
  simp only [wpS, o_c, o_cl, o_il, o_ll, o_al, o_is, o_ls, o_as, o_inc, o_add, o_sub, o_mul, o_and, o_or, o_xor, o_shl, o_shr, o_div, o_neg, o_ladd, o_lsub, o_lmul, o_ldiv, o_lrem, o_lneg, o_lcmp, o_i2l, o_l2i, o_dup, o_dup2, o_pop, o_go, o_nn, o_sw, swc, o_iret, o_zret, o_lret, o_vret, o_ieq, o_eq0, o_ine, o_ne0, o_ilt, o_lt0, o_ige, o_ge0, o_igt, o_gt0, o_ile, o_le0, o_iald, o_zald, o_lald, o_aald, o_iast, o_zast, o_last, o_aast, o_alen, o_gi, o_gr, o_pi, o_pz, o_pr, o_new, o_newa, o_copy, o_oinit, o_call, o_callV, o_callVc, o_callI, popn, cnO, o_BAD, lgt, lst, isL, kil, st1, st2, entL, List.length_nil, List.length_cons, List.replicate, Nat.reduceAdd, Nat.reduceLeDiff, Nat.reduceSub, true_and, and_true, Nat.zero_le, ne_eq, qk_wi, ql_wi, qr_wi, qj_wi, qt_wi, qk_wj, ql_wj, qr_wj, qi_wj, qt_wj, qk_wr, ql_wr, qi_wr, qj_wr, qt_wr, qi_ws, qj_ws, qr_ws, Int.toNat_natCast, Int.toNat_zero, Int.reduceToNat, not_true_eq_false, not_false_eq_true, false_implies, implies_true, Option.some.injEq, reduceCtorEq, Sp0, true_or, or_true, or_self, wi_wi, wj_wj, k0, kp, kq, o_callVx]
  repeat' (first | (with_reducible refine And.intro ?_ ?_) | (with_reducible intro))
  all_goals (try (first | assumption | omega | (unfold inI; omega)))
  refine c_gapWidth hp hM ?_
  simp only [wpS, o_c, o_cl, o_il, o_ll, o_al, o_is, o_ls, o_as, o_inc, o_add, o_sub, o_mul, o_and, o_or, o_xor, o_shl, o_shr, o_div, o_neg, o_ladd, o_lsub, o_lmul, o_ldiv, o_lrem, o_lneg, o_lcmp, o_i2l, o_l2i, o_dup, o_dup2, o_pop, o_go, o_nn, o_sw, swc, o_iret, o_zret, o_lret, o_vret, o_ieq, o_eq0, o_ine, o_ne0, o_ilt, o_lt0, o_ige, o_ge0, o_igt, o_gt0, o_ile, o_le0, o_iald, o_zald, o_lald, o_aald, o_iast, o_zast, o_last, o_aast, o_alen, o_gi, o_gr, o_pi, o_pz, o_pr, o_new, o_newa, o_copy, o_oinit, o_call, o_callV, o_callVc, o_callI, popn, cnO, o_BAD, lgt, lst, isL, kil, st1, st2, entL, List.length_nil, List.length_cons, List.replicate, Nat.reduceAdd, Nat.reduceLeDiff, Nat.reduceSub, true_and, and_true, Nat.zero_le, ne_eq, qk_wi, ql_wi, qr_wi, qj_wi, qt_wi, qk_wj, ql_wj, qr_wj, qi_wj, qt_wj, qk_wr, ql_wr, qi_wr, qj_wr, qt_wr, qi_ws, qj_ws, qr_ws, Int.toNat_natCast, Int.toNat_zero, Int.reduceToNat, not_true_eq_false, not_false_eq_true, false_implies, implies_true, Option.some.injEq, reduceCtorEq, Sp0, true_or, or_true, or_self, wi_wi, wj_wj, k0, kp, kq, o_callVx]
  repeat' (first | (with_reducible refine And.intro ?_ ?_) | (with_reducible intro))
  all_goals (try (first | assumption | omega | (unfold inI; omega)))
  refine c_gapWidth hq hM ?_
  simp only [wpS, o_c, o_cl, o_il, o_ll, o_al, o_is, o_ls, o_as, o_inc, o_add, o_sub, o_mul, o_and, o_or, o_xor, o_shl, o_shr, o_div, o_neg, o_ladd, o_lsub, o_lmul, o_ldiv, o_lrem, o_lneg, o_lcmp, o_i2l, o_l2i, o_dup, o_dup2, o_pop, o_go, o_nn, o_sw, swc, o_iret, o_zret, o_lret, o_vret, o_ieq, o_eq0, o_ine, o_ne0, o_ilt, o_lt0, o_ige, o_ge0, o_igt, o_gt0, o_ile, o_le0, o_iald, o_zald, o_lald, o_aald, o_iast, o_zast, o_last, o_aast, o_alen, o_gi, o_gr, o_pi, o_pz, o_pr, o_new, o_newa, o_copy, o_oinit, o_call, o_callV, o_callVc, o_callI, popn, cnO, o_BAD, lgt, lst, isL, kil, st1, st2, entL, List.length_nil, List.length_cons, List.replicate, Nat.reduceAdd, Nat.reduceLeDiff, Nat.reduceSub, true_and, and_true, Nat.zero_le, ne_eq, qk_wi, ql_wi, qr_wi, qj_wi, qt_wi, qk_wj, ql_wj, qr_wj, qi_wj, qt_wj, qk_wr, ql_wr, qi_wr, qj_wr, qt_wr, qi_ws, qj_ws, qr_ws, Int.toNat_natCast, Int.toNat_zero, Int.reduceToNat, not_true_eq_false, not_false_eq_true, false_implies, implies_true, Option.some.injEq, reduceCtorEq, Sp0, true_or, or_true, or_self, wi_wi, wj_wj, k0, kp, kq, o_callVx, e1, e2]
  repeat' (first | (with_reducible refine And.intro ?_ ?_) | (with_reducible intro))
  all_goals (try (first | assumption | omega | (unfold inI; omega)))
  refine ⟨c, Nat.le_refl _, Nat.le_refl _, c_clear hSp hS hR (by omega) (by omega) c1 c2 (fun hb f2 _ _ _ _ => ?_) (fun hg h' R' f2 g2 u1 u2 u3 u4 u5 u6 u7 u8 u9 u10 => ?_)⟩
  · simp only [wpS, o_c, o_cl, o_il, o_ll, o_al, o_is, o_ls, o_as, o_inc, o_add, o_sub, o_mul, o_and, o_or, o_xor, o_shl, o_shr, o_div, o_neg, o_ladd, o_lsub, o_lmul, o_ldiv, o_lrem, o_lneg, o_lcmp, o_i2l, o_l2i, o_dup, o_dup2, o_pop, o_go, o_nn, o_sw, swc, o_iret, o_zret, o_lret, o_vret, o_ieq, o_eq0, o_ine, o_ne0, o_ilt, o_lt0, o_ige, o_ge0, o_igt, o_gt0, o_ile, o_le0, o_iald, o_zald, o_lald, o_aald, o_iast, o_zast, o_last, o_aast, o_alen, o_gi, o_gr, o_pi, o_pz, o_pr, o_new, o_newa, o_copy, o_oinit, o_call, o_callV, o_callVc, o_callI, popn, cnO, o_BAD, lgt, lst, isL, kil, st1, st2, entL, List.length_nil, List.length_cons, List.replicate, Nat.reduceAdd, Nat.reduceLeDiff, Nat.reduceSub, true_and, and_true, Nat.zero_le, ne_eq, qk_wi, ql_wi, qr_wi, qj_wi, qt_wi, qk_wj, ql_wj, qr_wj, qi_wj, qt_wj, qk_wr, ql_wr, qi_wr, qj_wr, qt_wr, qi_ws, qj_ws, qr_ws, Int.toNat_natCast, Int.toNat_zero, Int.reduceToNat, not_true_eq_false, not_false_eq_true, false_implies, implies_true, Option.some.injEq, reduceCtorEq, Sp0, true_or, or_true, or_self, wi_wi, wj_wj]
    repeat' (first | (with_reducible refine And.intro ?_ ?_) | (with_reducible intro))
    all_goals (try (first | assumption | omega | (unfold inI; omega)))
    all_goals (first | omega | exact hKb hb f2 | skip)
  · simp only [wpS, o_c, o_cl, o_il, o_ll, o_al, o_is, o_ls, o_as, o_inc, o_add, o_sub, o_mul, o_and, o_or, o_xor, o_shl, o_shr, o_div, o_neg, o_ladd, o_lsub, o_lmul, o_ldiv, o_lrem, o_lneg, o_lcmp, o_i2l, o_l2i, o_dup, o_dup2, o_pop, o_go, o_nn, o_sw, swc, o_iret, o_zret, o_lret, o_vret, o_ieq, o_eq0, o_ine, o_ne0, o_ilt, o_lt0, o_ige, o_ge0, o_igt, o_gt0, o_ile, o_le0, o_iald, o_zald, o_lald, o_aald, o_iast, o_zast, o_last, o_aast, o_alen, o_gi, o_gr, o_pi, o_pz, o_pr, o_new, o_newa, o_copy, o_oinit, o_call, o_callV, o_callVc, o_callI, popn, cnO, o_BAD, lgt, lst, isL, kil, st1, st2, entL, List.length_nil, List.length_cons, List.replicate, Nat.reduceAdd, Nat.reduceLeDiff, Nat.reduceSub, true_and, and_true, Nat.zero_le, ne_eq, qk_wi, ql_wi, qr_wi, qj_wi, qt_wi, qk_wj, ql_wj, qr_wj, qi_wj, qt_wj, qk_wr, ql_wr, qi_wr, qj_wr, qt_wr, qi_ws, qj_ws, qr_ws, Int.toNat_natCast, Int.toNat_zero, Int.reduceToNat, not_true_eq_false, not_false_eq_true, false_implies, implies_true, Option.some.injEq, reduceCtorEq, Sp0, true_or, or_true, or_self, wi_wi, wj_wj]
    repeat' (first | (with_reducible refine And.intro ?_ ?_) | (with_reducible intro))
    all_goals (try (first | assumption | omega | (unfold inI; omega)))
    all_goals (first | omega | skip)
    all_goals (try ((first | (refine s_X5_lay_0 x ok _ _ _ _ ?_) | (refine s_X5_lay_23 x ok _ _ _ _ ?_) | (refine s_X5_lay_63 x ok _ _ _ _ ?_) | (refine s_X5_lay_85 x ok _ _ _ _ ?_) | (refine s_X5_lay_91 x ok _ _ _ _ ?_)); (try simp only [wpS, o_c, o_cl, o_il, o_ll, o_al, o_is, o_ls, o_as, o_inc, o_add, o_sub, o_mul, o_and, o_or, o_xor, o_shl, o_shr, o_div, o_neg, o_ladd, o_lsub, o_lmul, o_ldiv, o_lrem, o_lneg, o_lcmp, o_i2l, o_l2i, o_dup, o_dup2, o_pop, o_go, o_nn, o_sw, swc, o_iret, o_zret, o_lret, o_vret, o_ieq, o_eq0, o_ine, o_ne0, o_ilt, o_lt0, o_ige, o_ge0, o_igt, o_gt0, o_ile, o_le0, o_iald, o_zald, o_lald, o_aald, o_iast, o_zast, o_last, o_aast, o_alen, o_gi, o_gr, o_pi, o_pz, o_pr, o_new, o_newa, o_copy, o_oinit, o_call, o_callV, o_callVc, o_callI, popn, cnO, o_BAD, lgt, lst, isL, kil, st1, st2, entL, List.length_nil, List.length_cons, List.replicate, Nat.reduceAdd, Nat.reduceLeDiff, Nat.reduceSub, true_and, and_true, Nat.zero_le, ne_eq, qk_wi, ql_wi, qr_wi, qj_wi, qt_wi, qk_wj, ql_wj, qr_wj, qi_wj, qt_wj, qk_wr, ql_wr, qi_wr, qj_wr, qt_wr, qi_ws, qj_ws, qr_ws, Int.toNat_natCast, Int.toNat_zero, Int.reduceToNat, not_true_eq_false, not_false_eq_true, false_implies, implies_true, Option.some.injEq, reduceCtorEq, Sp0, true_or, or_true, or_self, wi_wi, wj_wj]); (repeat' (first | (with_reducible refine And.intro ?_ ?_) | (with_reducible intro))); (all_goals (try (first | assumption | omega | (unfold inI; omega))))))
    exact loop h' R' u1 u2 u3 u4 u5 hg _ 0 (by omega) f2 _ _ g2 u7 u8 u9 (fun k hk => u10 k hk)

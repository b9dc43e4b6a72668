/-! ===== new State() ===== -/
def StQ (h hj : Hp) (a jm jc jl : Nat) : Prop := Eqj h hj a ∧ (qk hj a = 16 ∧ qr hj a 0 = some (a + 1) ∧ qr hj a 1 = some (a + 2) ∧ qr hj a 2 = some (a + 3) ∧ qr hj a 3 = some (a + 4) ∧ qk hj (a + 1) = 4 ∧ ql hj (a + 1) = 12 ∧ qk hj (a + 2) = 5 ∧ ql hj (a + 2) = 6 ∧ qk hj (a + 3) = 6 ∧ ql hj (a + 3) = 2 ∧ qk hj (a + 4) = 1 ∧ ql hj (a + 4) = 24) ∧
  (∀ m, m < jm → qr hj (a + 1) m = some (a + 5 + 5 * m) ∧ isMe hj (a + 5 + 5 * m) ∧ MeC hj (a + 5 + 5 * m) dI m) ∧ (∀ c, c < jc → qr hj (a + 2) c = some (a + 65 + 2 * c) ∧ isCh hj (a + 65 + 2 * c) ∧ ChC hj (a + 65 + 2 * c) dI c) ∧ (∀ l, l < jl → qr hj (a + 3) l = some (a + 77 + 2 * l) ∧ isLo hj (a + 77 + 2 * l) ∧ LoC hj (a + 77 + 2 * l) dI l)
theorem StQ.eq {h hj h2 : Hp} {a jm jc jl n : Nat} (H : StQ h hj a jm jc jl) (e : Eqj hj h2 n) (h1 : a + 5 + 5 * jm ≤ n) (h3 : 0 < jc → a + 65 + 2 * jc ≤ n) (h4 : 0 < jl → a + 77 + 2 * jl ≤ n) : StQ h h2 a jm jc jl := by
  obtain ⟨q1, q2, q3, q4, q5⟩ := H
  have eb := e.1
  refine ⟨q1.tr e (by omega), ?_, fun m hm => ?_, fun c hc => ?_, fun l hl => ?_⟩
  · rw [(eb a (by omega)).1, (eb a (by omega)).2.2.2, (eb (a + 1) (by omega)).1, (eb (a + 1) (by omega)).2.1, (eb (a + 2) (by omega)).1, (eb (a + 2) (by omega)).2.1, (eb (a + 3) (by omega)).1, (eb (a + 3) (by omega)).2.1, (eb (a + 4) (by omega)).1, (eb (a + 4) (by omega)).2.1]
    exact q2
  · rw [(eb (a + 1) (by omega)).2.2.2]
    exact ⟨(q3 m hm).1, (q3 m hm).2.1.eqb eb (by omega), (q3 m hm).2.2.eqb eb (by omega)⟩
  · rw [(eb (a + 2) (by omega)).2.2.2]
    exact ⟨(q4 c hc).1, (q4 c hc).2.1.eqb eb (by omega), (q4 c hc).2.2.eqb eb (by omega)⟩
  · rw [(eb (a + 3) (by omega)).2.2.2]
    exact ⟨(q5 l hl).1, (q5 l hl).2.1.eqb eb (by omega), (q5 l hl).2.2.eqb eb (by omega)⟩
theorem isMe.wr {h : Hp} {p b : Nat} {f : Nat → Option Nat} (H : isMe h p) (n : p ≠ b) : isMe (wr h b f) p := by
  unfold isMe at *
  rw [qr_wn n]
  exact H
theorem isCh.wr {h : Hp} {p b : Nat} {f : Nat → Option Nat} (H : isCh h p) (n : p ≠ b) : isCh (wr h b f) p := by
  unfold isCh at *
  rw [qr_wn n]
  exact H
theorem isLo.wr {h : Hp} {p b : Nat} {f : Nat → Option Nat} (H : isLo h p) (n : p ≠ b) : isLo (wr h b f) p := by
  unfold isLo at *
  rw [qr_wn n]
  exact H
theorem MeC_I {h : Hp} {p m : Nat} (hm : m < 12) (h1 : qi h p = fu (fu (fu (fun _ => 0) 6 (-1)) 7 (-1)) 12 (-1)) (h2 : ∀ i, 1 ≤ i → i ≤ 4 → qi h (p + i) = fun _ => 0) : MeC h p dI m := by
  unfold MeC
  rw [h1, h2 1 (by omega) (by omega), h2 2 (by omega) (by omega), h2 3 (by omega) (by omega), h2 4 (by omega) (by omega)]
  simp only [fu, Nat.reduceEqDiff, ↓reduceIte]
  unfold dk ds db da dh df dt dv dco dn dlo dup dpr dI
  refine ⟨?_, ?_, ?_, ?_, ?_, ?_, ?_, ?_, ?_, fun j hj => ?_, fun j hj => ?_, fun j hj => ?_, fun j hj => ?_⟩
  all_goals (first | (rw [if_pos (by omega)]) | (rw [if_neg (by omega)]))
theorem ChC_I {h : Hp} {p c : Nat} (hc : c < 6) (h1 : qi h p = fun _ => 0) (h2 : qi h (p + 1) = fun _ => 0) : ChC h p dI c := by
  unfold ChC dcl dch dsh dI
  rw [h1, h2]
  refine ⟨?_, ?_, fun j hj => ?_⟩
  all_goals (rw [if_neg (by omega)])
theorem LoC_I {h : Hp} {p c : Nat} (hc : c < 2) (h1 : qi h p = fun _ => 0) (h2 : qi h (p + 1) = fun _ => 0) : LoC h p dI c := by
  unfold LoC dct dpt dI
  rw [h1, h2]
  refine ⟨?_, fun j hj => ?_⟩
  all_goals (rw [if_neg (by omega)])
theorem sg_1 (n : Nat) : sg (fun _ => 1) n = n := by
  induction n with
  | zero => rfl
  | succ n ih => rw [sg_s, ih]; push_cast; rfl
theorem Inv_I : Inv dI := by
  refine ⟨fun m hm => ?_, fun c hc => ?_, fun l hl => ?_, fun k hk => ?_, ?_⟩
  · have z : ∀ k, k < 1188 → dI k = 0 := fun k hk => if_neg (by omega)
    have e1 : dk dI m = 0 := z _ (by omega)
    have e2 : ds dI m = 0 := z _ (by omega)
    have e3 : db dI m = 0 := z _ (by omega)
    have e4 : da dI m = 0 := z _ (by omega)
    have e5 : dh dI m = 0 := z _ (by omega)
    have e6 : ∀ j, j < 81 → dn dI m j = 0 := fun j hj => z _ (by omega)
    have e7 : dv dI m = 0 := z _ (by omega)
    have e8 : ∀ j, j < 4 → dlo dI m j = 0 := fun j hj => z _ (by omega)
    have e9 : ∀ j, j < 4 → dup dI m j = 0 := fun j hj => z _ (by omega)
    have e10 : ∀ j, j < 4 → dpr dI m j = 0 := fun j hj => z _ (by omega)
    have e11 : df dI m = -1 := if_pos (by omega)
    have e12 : dt dI m = -1 := if_pos (by omega)
    have e13 : dco dI m = -1 := if_pos (by omega)
    have el : lot dI m = 1 := by
      unfold lot rng mny
      rw [e3, e4, e5]
      rfl
    unfold InvM
    rw [e1, e2, e3, e4, e5, e7, e11, e12, e13, el]
    refine ⟨by omega, by omega, by omega, by omega, by omega, fun j hj => by rw [e6 j hj]; omega, by omega, by omega, fun l hl => ?_, by omega, by omega⟩
    rw [e8 l hl, e9 l hl, e10 l hl]
    omega
  · have z : ∀ k, 1212 ≤ k → k < 1346 → dI k = 0 := fun k h1 h2 => if_neg (by omega)
    have e1 : dcl dI c = 0 := z _ (by omega) (by omega)
    have e2 : dch dI c = 0 := z _ (by omega) (by omega)
    unfold InvC
    rw [e1, e2]
    refine ⟨fun m hm => ?_, by omega, by omega, by omega⟩
    have : dsh dI c m = 0 := z _ (by omega) (by omega)
    omega
  · have z : ∀ k, 1212 ≤ k → k < 1346 → dI k = 0 := fun k h1 h2 => if_neg (by omega)
    have e1 : dct dI l = 0 := z _ (by omega) (by omega)
    unfold InvL
    rw [e1]
    refine ⟨by omega, fun k hk => ?_⟩
    have : dpt dI l k = 0 := z _ (by omega) (by omega)
    omega
  · have : dmt dI k = -1 := if_pos (by omega)
    omega
  · have : grd dI 12 = 0 := sg_z (fun m hm => by
      have e7 : dv dI m = 0 := if_neg (by omega)
      rw [e7, if_neg (by omega)])
    omega
theorem StQ.wr1 {h h2 : Hp} {a jm jc jl p : Nat} (H : StQ h h2 a jm jc jl) (h1 : isMe h2 p) (h3 : MeC h2 p dI jm) (hp : p = a + 5 + 5 * jm) : StQ h (wr h2 (a + 1) (fu (qr h2 (a + 1)) jm (some p))) a (jm + 1) jc jl := by
  obtain ⟨q1, q2, q3, q4, q5⟩ := H
  refine ⟨q1.tr (Eqj.wr h2 (a + 1) _ (a := a) (by omega)) (Nat.le_refl _), ?_, fun m hm => ?_, fun m hm => ⟨by rw [qr_wn (by omega)]; exact (q4 m hm).1, (q4 m hm).2.1.wr (by omega), (q4 m hm).2.2⟩, fun m hm => ⟨by rw [qr_wn (by omega)]; exact (q5 m hm).1, (q5 m hm).2.1.wr (by omega), (q5 m hm).2.2⟩⟩
  · rw [qr_wn (show a ≠ a + 1 by omega)]
    exact q2
  · rw [qr_ws]
    by_cases z : m = jm
    · rw [z, fu_s, ← hp]
      exact ⟨rfl, h1.wr (by omega), h3⟩
    · rw [fu_n z]
      have := q3 m (by omega)
      exact ⟨this.1, this.2.1.wr (by omega), this.2.2⟩
theorem StQ.wr2 {h h2 : Hp} {a jm jc jl p : Nat} (H : StQ h h2 a jm jc jl) (h1 : isCh h2 p) (h3 : ChC h2 p dI jc) (hp : p = a + 65 + 2 * jc) : StQ h (wr h2 (a + 2) (fu (qr h2 (a + 2)) jc (some p))) a jm (jc + 1) jl := by
  obtain ⟨q1, q2, q3, q4, q5⟩ := H
  refine ⟨q1.tr (Eqj.wr h2 (a + 2) _ (a := a) (by omega)) (Nat.le_refl _), ?_, fun m hm => ⟨by rw [qr_wn (by omega)]; exact (q3 m hm).1, (q3 m hm).2.1.wr (by omega), (q3 m hm).2.2⟩, fun m hm => ?_, fun m hm => ⟨by rw [qr_wn (by omega)]; exact (q5 m hm).1, (q5 m hm).2.1.wr (by omega), (q5 m hm).2.2⟩⟩
  · rw [qr_wn (show a ≠ a + 2 by omega)]
    exact q2
  · rw [qr_ws]
    by_cases z : m = jc
    · rw [z, fu_s, ← hp]
      exact ⟨rfl, h1.wr (by omega), h3⟩
    · rw [fu_n z]
      have := q4 m (by omega)
      exact ⟨this.1, this.2.1.wr (by omega), this.2.2⟩
theorem StQ.wr3 {h h2 : Hp} {a jm jc jl p : Nat} (H : StQ h h2 a jm jc jl) (h1 : isLo h2 p) (h3 : LoC h2 p dI jl) (hp : p = a + 77 + 2 * jl) : StQ h (wr h2 (a + 3) (fu (qr h2 (a + 3)) jl (some p))) a jm jc (jl + 1) := by
  obtain ⟨q1, q2, q3, q4, q5⟩ := H
  refine ⟨q1.tr (Eqj.wr h2 (a + 3) _ (a := a) (by omega)) (Nat.le_refl _), ?_, fun m hm => ⟨by rw [qr_wn (by omega)]; exact (q3 m hm).1, (q3 m hm).2.1.wr (by omega), (q3 m hm).2.2⟩, fun m hm => ⟨by rw [qr_wn (by omega)]; exact (q4 m hm).1, (q4 m hm).2.1.wr (by omega), (q4 m hm).2.2⟩, fun m hm => ?_⟩
  · rw [qr_wn (show a ≠ a + 3 by omega)]
    exact q2
  · rw [qr_ws]
    by_cases z : m = jl
    · rw [z, fu_s, ← hp]
      exact ⟨rfl, h1.wr (by omega), h3⟩
    · rw [fu_n z]
      have := q5 m (by omega)
      exact ⟨this.1, this.2.1.wr (by omega), this.2.2⟩
theorem s3c (as : List AV) (h : Hp) : S_X3_init.1 as h = (1, 24) := rfl
theorem s1c (as : List AV) (h : Hp) : S_X1_init.1 as h = (1, 12) := rfl
theorem s4c (as : List AV) (h : Hp) : S_X4_init.1 as h = (4, 93) := rfl
def S_X6_init : Sp := (fun _ _ => (80, 1458), fun as h K => ∃ a, as = [vr (some a)] ∧ qk h a = 16 ∧ qt h = a + 1 ∧ ∀ h', Eqj h h' a → qt h' = a + 81 → Stt h' a dI → K none h')
abbrev i_X6_init : MI := (cX6_init, 2, RX6, none, "<init>", 3)
theorem k_X6_init_0 : Okop i_X6_init 0 (o_al 0) 1 := k_aln (j := 0) (by decide +kernel)
theorem k_X6_init_1 : Okop i_X6_init 1 (o_oinit) 4 := k_oinit (idx := 3) (by decide +kernel) gw_26 gw_19 gw_20 (by decide)
theorem k_X6_init_4 : Okop i_X6_init 4 (o_al 0) 5 := k_aln (j := 0) (by decide +kernel)
theorem k_X6_init_5 : Okop i_X6_init 5 (o_c 12) 7 := k_bipush (by decide +kernel) rfl
theorem k_X6_init_7 : Okop i_X6_init 7 (o_newa 4) 10 := k_anew (idx := 9) (by decide) (by decide) rfl (by decide) gw_27 (by decide +kernel)
theorem k_X6_init_10 : Okop i_X6_init 10 (o_pr 6 0) 13 := k_pr (idx := 11) fo_6 (by decide) (by decide) gw_146 (by decide +kernel) (.inr ⟨rfl, rfl, rfl⟩)
theorem k_X6_init_13 : Okop i_X6_init 13 (o_al 0) 14 := k_aln (j := 0) (by decide +kernel)
theorem k_X6_init_14 : Okop i_X6_init 14 (o_c 6) 16 := k_bipush (by decide +kernel) rfl
theorem k_X6_init_16 : Okop i_X6_init 16 (o_newa 5) 19 := k_anew (idx := 17) (by decide) (by decide) rfl (by decide) gw_29 (by decide +kernel)
theorem k_X6_init_19 : Okop i_X6_init 19 (o_pr 6 1) 22 := k_pr (idx := 19) fo_6 (by decide) (by decide) gw_149 (by decide +kernel) (.inr ⟨rfl, rfl, rfl⟩)
theorem k_X6_init_22 : Okop i_X6_init 22 (o_al 0) 23 := k_aln (j := 0) (by decide +kernel)
theorem k_X6_init_23 : Okop i_X6_init 23 (o_c 2) 24 := k_iconst (by decide +kernel)
theorem k_X6_init_24 : Okop i_X6_init 24 (o_newa 6) 27 := k_anew (idx := 23) (by decide) (by decide) rfl (by decide) gw_31 (by decide +kernel)
theorem k_X6_init_27 : Okop i_X6_init 27 (o_pr 6 2) 30 := k_pr (idx := 25) fo_6 (by decide) (by decide) gw_152 (by decide +kernel) (.inr ⟨rfl, rfl, rfl⟩)
theorem k_X6_init_30 : Okop i_X6_init 30 (o_al 0) 31 := k_aln (j := 0) (by decide +kernel)
theorem k_X6_init_31 : Okop i_X6_init 31 (o_c 24) 33 := k_bipush (by decide +kernel) rfl
theorem k_X6_init_33 : Okop i_X6_init 33 (o_newa 1) 35 := k_newa (.inl ⟨rfl, rfl⟩) gw_103 (by decide +kernel)
theorem k_X6_init_35 : Okop i_X6_init 35 (o_pr 6 3) 38 := k_pr (idx := 29) fo_6 (by decide) (by decide) gw_154 (by decide +kernel) (.inr ⟨rfl, rfl, rfl⟩)
theorem k_X6_init_38 : Okop i_X6_init 38 (o_c 0) 39 := k_iconst (by decide +kernel)
theorem k_X6_init_39 : Okop i_X6_init 39 (o_is 1) 40 := k_isn (j := 1) (by decide +kernel) (by decide)
theorem k_X6_init_40 : Okop i_X6_init 40 (o_il 1) 41 := k_iln (j := 1) (by decide +kernel)
theorem k_X6_init_41 : Okop i_X6_init 41 (o_c 12) 43 := k_bipush (by decide +kernel) rfl
theorem k_X6_init_43 : Okop i_X6_init 43 (o_ige 65) 46 := k_ige (off := 22) (by decide +kernel) (by decide)
theorem k_X6_init_46 : Okop i_X6_init 46 (o_al 0) 47 := k_aln (j := 0) (by decide +kernel)
theorem k_X6_init_47 : Okop i_X6_init 47 (o_gr 6 0) 50 := k_gr (idx := 11) fo_6 (by decide) (by decide) gw_146 (by decide +kernel)
theorem k_X6_init_50 : Okop i_X6_init 50 (o_il 1) 51 := k_iln (j := 1) (by decide +kernel)
theorem k_X6_init_51 : Okop i_X6_init 51 (o_new 4 13) 54 := k_new (idx := 9) fo_4 fd_4 (by decide) gw_27 gw_33 gw_3 (by decide +kernel)
theorem k_X6_init_54 : Okop i_X6_init 54 (o_dup) 55 := k_dup (by decide +kernel)
theorem k_X6_init_55 : Okop i_X6_init 55 (o_callI S_X4_init) 58 := k_callIN (idx := 33) m_X4_init ⟨gw_36, gw_3, ⟨by decide, by decide, by decide +kernel⟩, by decide, by decide⟩ (by decide) gw_35 rfl (by decide +kernel)
theorem k_X6_init_58 : Okop i_X6_init 58 (o_aast 4 4) 59 := k_aast (r0 := (RX4, TX4, 13)) (by decide +kernel) (by decide) (by decide) rfl rfl
theorem k_X6_init_59 : Okop i_X6_init 59 (o_inc 1 1) 62 := k_inc (by decide +kernel) (by decide)
theorem k_X6_init_62 : Okop i_X6_init 62 (o_go 40) 65 := k_go (off := -22) (by decide +kernel) (by decide)
theorem k_X6_init_65 : Okop i_X6_init 65 (o_c 0) 66 := k_iconst (by decide +kernel)
theorem k_X6_init_66 : Okop i_X6_init 66 (o_is 1) 67 := k_isn (j := 1) (by decide +kernel) (by decide)
theorem k_X6_init_67 : Okop i_X6_init 67 (o_il 1) 68 := k_iln (j := 1) (by decide +kernel)
theorem k_X6_init_68 : Okop i_X6_init 68 (o_c 6) 70 := k_bipush (by decide +kernel) rfl
theorem k_X6_init_70 : Okop i_X6_init 70 (o_ige 92) 73 := k_ige (off := 22) (by decide +kernel) (by decide)
theorem k_X6_init_73 : Okop i_X6_init 73 (o_al 0) 74 := k_aln (j := 0) (by decide +kernel)
theorem k_X6_init_74 : Okop i_X6_init 74 (o_gr 6 1) 77 := k_gr (idx := 19) fo_6 (by decide) (by decide) gw_149 (by decide +kernel)
theorem k_X6_init_77 : Okop i_X6_init 77 (o_il 1) 78 := k_iln (j := 1) (by decide +kernel)
theorem k_X6_init_78 : Okop i_X6_init 78 (o_new 1 3) 81 := k_new (idx := 17) fo_1 fd_1 (by decide) gw_29 gw_104 gw_4 (by decide +kernel)
theorem k_X6_init_81 : Okop i_X6_init 81 (o_dup) 82 := k_dup (by decide +kernel)
theorem k_X6_init_82 : Okop i_X6_init 82 (o_callI S_X1_init) 85 := k_callIN (idx := 34) m_X1_init ⟨gw_107, gw_4, ⟨by decide, by decide, by decide +kernel⟩, by decide, by decide⟩ (by decide) gw_106 rfl (by decide +kernel)
theorem k_X6_init_85 : Okop i_X6_init 85 (o_aast 5 1) 86 := k_aast (r0 := (RX1, TX1, 3)) (by decide +kernel) (by decide) (by decide) rfl rfl
theorem k_X6_init_86 : Okop i_X6_init 86 (o_inc 1 1) 89 := k_inc (by decide +kernel) (by decide)
theorem k_X6_init_89 : Okop i_X6_init 89 (o_go 67) 92 := k_go (off := -22) (by decide +kernel) (by decide)
theorem k_X6_init_92 : Okop i_X6_init 92 (o_c 0) 93 := k_iconst (by decide +kernel)
theorem k_X6_init_93 : Okop i_X6_init 93 (o_is 1) 94 := k_isn (j := 1) (by decide +kernel) (by decide)
theorem k_X6_init_94 : Okop i_X6_init 94 (o_il 1) 95 := k_iln (j := 1) (by decide +kernel)
theorem k_X6_init_95 : Okop i_X6_init 95 (o_c 2) 96 := k_iconst (by decide +kernel)
theorem k_X6_init_96 : Okop i_X6_init 96 (o_ige 118) 99 := k_ige (off := 22) (by decide +kernel) (by decide)
theorem k_X6_init_99 : Okop i_X6_init 99 (o_al 0) 100 := k_aln (j := 0) (by decide +kernel)
theorem k_X6_init_100 : Okop i_X6_init 100 (o_gr 6 2) 103 := k_gr (idx := 25) fo_6 (by decide) (by decide) gw_152 (by decide +kernel)
theorem k_X6_init_103 : Okop i_X6_init 103 (o_il 1) 104 := k_iln (j := 1) (by decide +kernel)
theorem k_X6_init_104 : Okop i_X6_init 104 (o_new 3 2) 107 := k_new (idx := 23) fo_3 fd_3 (by decide) gw_31 gw_127 gw_5 (by decide +kernel)
theorem k_X6_init_107 : Okop i_X6_init 107 (o_dup) 108 := k_dup (by decide +kernel)
theorem k_X6_init_108 : Okop i_X6_init 108 (o_callI S_X3_init) 111 := k_callIN (idx := 35) m_X3_init ⟨gw_130, gw_5, ⟨by decide, by decide, by decide +kernel⟩, by decide, by decide⟩ (by decide) gw_129 rfl (by decide +kernel)
theorem k_X6_init_111 : Okop i_X6_init 111 (o_aast 6 3) 112 := k_aast (r0 := (RX3, TX3, 2)) (by decide +kernel) (by decide) (by decide) rfl rfl
theorem k_X6_init_112 : Okop i_X6_init 112 (o_inc 1 1) 115 := k_inc (by decide +kernel) (by decide)
theorem k_X6_init_115 : Okop i_X6_init 115 (o_go 94) 118 := k_go (off := -21) (by decide +kernel) (by decide)
theorem k_X6_init_118 : Okop i_X6_init 118 (o_al 0) 119 := k_aln (j := 0) (by decide +kernel)
theorem k_X6_init_119 : Okop i_X6_init 119 (o_gr 6 3) 122 := k_gr (idx := 29) fo_6 (by decide) (by decide) gw_154 (by decide +kernel)
theorem k_X6_init_122 : Okop i_X6_init 122 (o_c (-1)) 123 := k_iconst (by decide +kernel)
theorem k_X6_init_123 : Okop i_X6_init 123 (o_call 2 T_J7_fill_53178) 126 := k_call (idx := 36) m_J7_fill_53178 ⟨gw_145, gw_6, ⟨by decide, by decide, by decide +kernel⟩, by decide, by decide⟩ gw_143 gw_144 (by decide +kernel)
theorem k_X6_init_126 : Okop i_X6_init 126 (o_vret) 127 := k_vret (by decide +kernel) rfl
theorem s_X6_init_0 : Seg i_X6_init 0 [o_al 0, o_oinit, o_al 0, o_c 12, o_newa 4, o_pr 6 0, o_al 0, o_c 6, o_newa 5, o_pr 6 1, o_al 0, o_c 2, o_newa 6, o_pr 6 2, o_al 0, o_c 24, o_newa 1, o_pr 6 3, o_c 0, o_is 1] 40 := Seg.cons k_X6_init_0 (Seg.cons k_X6_init_1 (Seg.cons k_X6_init_4 (Seg.cons k_X6_init_5 (Seg.cons k_X6_init_7 (Seg.cons k_X6_init_10 (Seg.cons k_X6_init_13 (Seg.cons k_X6_init_14 (Seg.cons k_X6_init_16 (Seg.cons k_X6_init_19 (Seg.cons k_X6_init_22 (Seg.cons k_X6_init_23 (Seg.cons k_X6_init_24 (Seg.cons k_X6_init_27 (Seg.cons k_X6_init_30 (Seg.cons k_X6_init_31 (Seg.cons k_X6_init_33 (Seg.cons k_X6_init_35 (Seg.cons k_X6_init_38 (Seg.cons k_X6_init_39 (Seg.nil))))))))))))))))))))
theorem s_X6_init_40 : Seg i_X6_init 40 [o_il 1, o_c 12, o_ige 65, o_al 0, o_gr 6 0, o_il 1, o_new 4 13, o_dup, o_callI S_X4_init, o_aast 4 4, o_inc 1 1, o_go 40] 65 := Seg.cons k_X6_init_40 (Seg.cons k_X6_init_41 (Seg.cons k_X6_init_43 (Seg.cons k_X6_init_46 (Seg.cons k_X6_init_47 (Seg.cons k_X6_init_50 (Seg.cons k_X6_init_51 (Seg.cons k_X6_init_54 (Seg.cons k_X6_init_55 (Seg.cons k_X6_init_58 (Seg.cons k_X6_init_59 (Seg.cons k_X6_init_62 (Seg.nil))))))))))))
theorem s_X6_init_65 : Seg i_X6_init 65 [o_c 0, o_is 1] 67 := Seg.cons k_X6_init_65 (Seg.cons k_X6_init_66 (Seg.nil))
theorem s_X6_init_67 : Seg i_X6_init 67 [o_il 1, o_c 6, o_ige 92, o_al 0, o_gr 6 1, o_il 1, o_new 1 3, o_dup, o_callI S_X1_init, o_aast 5 1, o_inc 1 1, o_go 67] 92 := Seg.cons k_X6_init_67 (Seg.cons k_X6_init_68 (Seg.cons k_X6_init_70 (Seg.cons k_X6_init_73 (Seg.cons k_X6_init_74 (Seg.cons k_X6_init_77 (Seg.cons k_X6_init_78 (Seg.cons k_X6_init_81 (Seg.cons k_X6_init_82 (Seg.cons k_X6_init_85 (Seg.cons k_X6_init_86 (Seg.cons k_X6_init_89 (Seg.nil))))))))))))
theorem s_X6_init_92 : Seg i_X6_init 92 [o_c 0, o_is 1] 94 := Seg.cons k_X6_init_92 (Seg.cons k_X6_init_93 (Seg.nil))
theorem s_X6_init_94 : Seg i_X6_init 94 [o_il 1, o_c 2, o_ige 118, o_al 0, o_gr 6 2, o_il 1, o_new 3 2, o_dup, o_callI S_X3_init, o_aast 6 3, o_inc 1 1, o_go 94] 118 := Seg.cons k_X6_init_94 (Seg.cons k_X6_init_95 (Seg.cons k_X6_init_96 (Seg.cons k_X6_init_99 (Seg.cons k_X6_init_100 (Seg.cons k_X6_init_103 (Seg.cons k_X6_init_104 (Seg.cons k_X6_init_107 (Seg.cons k_X6_init_108 (Seg.cons k_X6_init_111 (Seg.cons k_X6_init_112 (Seg.cons k_X6_init_115 (Seg.nil))))))))))))
theorem s_X6_init_118 : Seg i_X6_init 118 [o_al 0, o_gr 6 3, o_c (-1), o_call 2 T_J7_fill_53178, o_vret] 127 := Seg.cons k_X6_init_118 (Seg.cons k_X6_init_119 (Seg.cons k_X6_init_122 (Seg.cons k_X6_init_123 (Seg.cons k_X6_init_126 (Seg.nil)))))

theorem m_X6_init : Mth yX6_init cX6_init 2 none 3 S_X6_init := by
  refine Mth.of (by decide) ?_
  rintro x as h ok ⟨a, rfl, k0, ht, hK⟩
  refine ⟨Nat.le_of_ble_eq_true rfl, ?_⟩
  have lots : ∀ j, j ≤ 2 → ∀ hj, StQ h hj a 12 6 j → qt hj = a + 77 + 2 * j → V i_X6_init x 94 [some (vr (some a)), some (vi j)] [] hj (4 - 2 * j, 52 - 26 * j) := by
    refine bwd _ ?_ ?_
    · intro hj q qq
      obtain ⟨q1, ⟨k0, r0, r1, r2, r3, kk1, ll1, kk2, ll2, kk3, ll3, k4, l4⟩, q3, q4, q5⟩ := id q
      refine s_X6_init_94 x ok _ _ _ _ ?_
      simp only [wpS, o_c, o_cl, o_il, o_ll, o_al, o_is, o_ls, o_as, o_inc, o_add, o_sub, o_mul, o_and, o_or, o_xor, o_shl, o_shr, o_div, o_neg, o_ladd, o_lsub, o_lmul, o_ldiv, o_lrem, o_lneg, o_lcmp, o_i2l, o_l2i, o_dup, o_dup2, o_pop, o_go, o_nn, o_sw, swc, o_iret, o_zret, o_lret, o_vret, o_ieq, o_eq0, o_ine, o_ne0, o_ilt, o_lt0, o_ige, o_ge0, o_igt, o_gt0, o_ile, o_le0, o_iald, o_zald, o_lald, o_aald, o_iast, o_zast, o_last, o_aast, o_alen, o_gi, o_gr, o_pi, o_pz, o_pr, o_new, o_newa, o_copy, o_oinit, o_call, o_callV, o_callVc, o_callI, popn, cnO, o_BAD, lgt, lst, isL, kil, st1, st2, entL, List.length_nil, List.length_cons, List.replicate, Nat.reduceAdd, Nat.reduceLeDiff, Nat.reduceSub, true_and, and_true, Nat.zero_le, ne_eq, qk_wi, ql_wi, qr_wi, qj_wi, qt_wi, qk_wj, ql_wj, qr_wj, qi_wj, qt_wj, qk_wr, ql_wr, qi_wr, qj_wr, qt_wr, qi_ws, qj_ws, qr_ws, Int.toNat_natCast, Int.toNat_zero, Int.reduceToNat, not_true_eq_false, not_false_eq_true, false_implies, implies_true, Option.some.injEq, reduceCtorEq, Sp0, true_or, or_true, or_self, wi_wi, wj_wj]
      repeat' (first | (with_reducible refine And.intro ?_ ?_) | (with_reducible intro))
      all_goals (try (first | with_reducible assumption | omega | (unfold inI; omega) | (unfold inL; omega) | exact cz_in _ _))
      refine s_X6_init_118 x ok _ _ _ _ ?_
      simp only [wpS, o_c, o_cl, o_il, o_ll, o_al, o_is, o_ls, o_as, o_inc, o_add, o_sub, o_mul, o_and, o_or, o_xor, o_shl, o_shr, o_div, o_neg, o_ladd, o_lsub, o_lmul, o_ldiv, o_lrem, o_lneg, o_lcmp, o_i2l, o_l2i, o_dup, o_dup2, o_pop, o_go, o_nn, o_sw, swc, o_iret, o_zret, o_lret, o_vret, o_ieq, o_eq0, o_ine, o_ne0, o_ilt, o_lt0, o_ige, o_ge0, o_igt, o_gt0, o_ile, o_le0, o_iald, o_zald, o_lald, o_aald, o_iast, o_zast, o_last, o_aast, o_alen, o_gi, o_gr, o_pi, o_pz, o_pr, o_new, o_newa, o_copy, o_oinit, o_call, o_callV, o_callVc, o_callI, popn, cnO, o_BAD, lgt, lst, isL, kil, st1, st2, entL, List.length_nil, List.length_cons, List.replicate, Nat.reduceAdd, Nat.reduceLeDiff, Nat.reduceSub, true_and, and_true, Nat.zero_le, ne_eq, qk_wi, ql_wi, qr_wi, qj_wi, qt_wi, qk_wj, ql_wj, qr_wj, qi_wj, qt_wj, qk_wr, ql_wr, qi_wr, qj_wr, qt_wr, qi_ws, qj_ws, qr_ws, Int.toNat_natCast, Int.toNat_zero, Int.reduceToNat, not_true_eq_false, not_false_eq_true, false_implies, implies_true, Option.some.injEq, reduceCtorEq, Sp0, true_or, or_true, or_self, wi_wi, wj_wj, k0, r3]
      repeat' (first | (with_reducible refine And.intro ?_ ?_) | (with_reducible intro))
      all_goals (try (first | with_reducible assumption | omega | (unfold inI; omega) | (unfold inL; omega) | exact cz_in _ _))
      refine c_fillI k4 (by omega) ?_
      simp only [wpS, o_c, o_cl, o_il, o_ll, o_al, o_is, o_ls, o_as, o_inc, o_add, o_sub, o_mul, o_and, o_or, o_xor, o_shl, o_shr, o_div, o_neg, o_ladd, o_lsub, o_lmul, o_ldiv, o_lrem, o_lneg, o_lcmp, o_i2l, o_l2i, o_dup, o_dup2, o_pop, o_go, o_nn, o_sw, swc, o_iret, o_zret, o_lret, o_vret, o_ieq, o_eq0, o_ine, o_ne0, o_ilt, o_lt0, o_ige, o_ge0, o_igt, o_gt0, o_ile, o_le0, o_iald, o_zald, o_lald, o_aald, o_iast, o_zast, o_last, o_aast, o_alen, o_gi, o_gr, o_pi, o_pz, o_pr, o_new, o_newa, o_copy, o_oinit, o_call, o_callV, o_callVc, o_callI, popn, cnO, o_BAD, lgt, lst, isL, kil, st1, st2, entL, List.length_nil, List.length_cons, List.replicate, Nat.reduceAdd, Nat.reduceLeDiff, Nat.reduceSub, true_and, and_true, Nat.zero_le, ne_eq, qk_wi, ql_wi, qr_wi, qj_wi, qt_wi, qk_wj, ql_wj, qr_wj, qi_wj, qt_wj, qk_wr, ql_wr, qi_wr, qj_wr, qt_wr, qi_ws, qj_ws, qr_ws, Int.toNat_natCast, Int.toNat_zero, Int.reduceToNat, not_true_eq_false, not_false_eq_true, false_implies, implies_true, Option.some.injEq, reduceCtorEq, Sp0, true_or, or_true, or_self, wi_wi, wj_wj]
      repeat' (first | (with_reducible refine And.intro ?_ ?_) | (with_reducible intro))
      all_goals (try (first | with_reducible assumption | omega | (unfold inI; omega) | (unfold inL; omega) | exact cz_in _ _))
      have g2 : Chg hj (wi hj (a + 4) (fillF (qi hj (a + 4)) 0 (ql hj (a + 4)) (-1))) (a + 4) (a + 5) := ⟨rfl, rfl, rfl, rfl, rfl, fun k hk => qi_wn (by omega)⟩
      have g3 := Eqj.chg g2 (a := a) (by omega)
      refine hK _ (q1.tr g3 (Nat.le_refl _)) qq ⟨⟨k0, r0, r1, r2, r3, kk1, ll1, kk2, ll2, kk3, ll3, k4, l4, fun m hm => (q3 m hm).1, fun m hm => (q3 m hm).2.1.chg g2, fun m hm => (q4 m hm).1, fun m hm => (q4 m hm).2.1.chg g2, fun m hm => (q5 m hm).1, fun m hm => (q5 m hm).2.1.chg g2⟩, ⟨fun m hm => (q3 m hm).2.2.chg g2 (by omega), fun m hm => (q4 m hm).2.2.chg g2 (by omega), fun m hm => (q5 m hm).2.2.chg g2 (by omega), fun k hk => ?_⟩, Inv_I⟩
      rw [qi_ws, l4]
      unfold fillF dmt dI
      rw [if_pos (by omega), if_pos (by omega)]
    · intro j hjl ih hj q qq
      obtain ⟨q1, ⟨k0, r0, r1, r2, r3, kk1, ll1, kk2, ll2, kk3, ll3, k4, l4⟩, q3, q4, q5⟩ := id q
      have ew := Eqj.wn hj 13 2 (a := qt hj) (Nat.le_refl _)
      have q2 := q.eq ew (by omega) (by omega) (by omega)
      refine s_X6_init_94 x ok _ _ _ _ ?_
      simp only [wpS, o_c, o_cl, o_il, o_ll, o_al, o_is, o_ls, o_as, o_inc, o_add, o_sub, o_mul, o_and, o_or, o_xor, o_shl, o_shr, o_div, o_neg, o_ladd, o_lsub, o_lmul, o_ldiv, o_lrem, o_lneg, o_lcmp, o_i2l, o_l2i, o_dup, o_dup2, o_pop, o_go, o_nn, o_sw, swc, o_iret, o_zret, o_lret, o_vret, o_ieq, o_eq0, o_ine, o_ne0, o_ilt, o_lt0, o_ige, o_ge0, o_igt, o_gt0, o_ile, o_le0, o_iald, o_zald, o_lald, o_aald, o_iast, o_zast, o_last, o_aast, o_alen, o_gi, o_gr, o_pi, o_pz, o_pr, o_new, o_newa, o_copy, o_oinit, o_call, o_callV, o_callVc, o_callI, popn, cnO, o_BAD, lgt, lst, isL, kil, st1, st2, entL, List.length_nil, List.length_cons, List.replicate, Nat.reduceAdd, Nat.reduceLeDiff, Nat.reduceSub, true_and, and_true, Nat.zero_le, ne_eq, qk_wi, ql_wi, qr_wi, qj_wi, qt_wi, qk_wj, ql_wj, qr_wj, qi_wj, qt_wj, qk_wr, ql_wr, qi_wr, qj_wr, qt_wr, qi_ws, qj_ws, qr_ws, Int.toNat_natCast, Int.toNat_zero, Int.reduceToNat, not_true_eq_false, not_false_eq_true, false_implies, implies_true, Option.some.injEq, reduceCtorEq, Sp0, true_or, or_true, or_self, wi_wi, wj_wj, k0, r2, s3c]
      repeat' (first | (with_reducible refine And.intro ?_ ?_) | (with_reducible intro))
      all_goals (try (first | with_reducible assumption | omega | (unfold inI; omega) | (unfold inL; omega) | exact cz_in _ _))
      refine ⟨qt hj, rfl, ?_, ?_, ?_, fun h2 e2 t2 i2 z1 z2 => ?_⟩
      · rw [qk_al, if_pos rfl]
      · rw [qt_al]
      · rw [qi_al, if_pos rfl]
      · have q6 := q2.eq e2 (by omega) (by omega) (by omega)
        have q7 := q6.wr3 i2 (LoC_I hjl z1 (z2 1 (by omega) (by omega))) (by omega)
        obtain ⟨-, ⟨kk0, -, -, -, -, kk1, ll1, kk2, ll2, kk3, ll3, -⟩, -⟩ := id q6
        have ki := i2.1
        have := ih _ q7 (by rw [qt_wr, t2, qq]; omega)
        simp only [wpS, o_c, o_cl, o_il, o_ll, o_al, o_is, o_ls, o_as, o_inc, o_add, o_sub, o_mul, o_and, o_or, o_xor, o_shl, o_shr, o_div, o_neg, o_ladd, o_lsub, o_lmul, o_ldiv, o_lrem, o_lneg, o_lcmp, o_i2l, o_l2i, o_dup, o_dup2, o_pop, o_go, o_nn, o_sw, swc, o_iret, o_zret, o_lret, o_vret, o_ieq, o_eq0, o_ine, o_ne0, o_ilt, o_lt0, o_ige, o_ge0, o_igt, o_gt0, o_ile, o_le0, o_iald, o_zald, o_lald, o_aald, o_iast, o_zast, o_last, o_aast, o_alen, o_gi, o_gr, o_pi, o_pz, o_pr, o_new, o_newa, o_copy, o_oinit, o_call, o_callV, o_callVc, o_callI, popn, cnO, o_BAD, lgt, lst, isL, kil, st1, st2, entL, List.length_nil, List.length_cons, List.replicate, Nat.reduceAdd, Nat.reduceLeDiff, Nat.reduceSub, true_and, and_true, Nat.zero_le, ne_eq, qk_wi, ql_wi, qr_wi, qj_wi, qt_wi, qk_wj, ql_wj, qr_wj, qi_wj, qt_wj, qk_wr, ql_wr, qi_wr, qj_wr, qt_wr, qi_ws, qj_ws, qr_ws, Int.toNat_natCast, Int.toNat_zero, Int.reduceToNat, not_true_eq_false, not_false_eq_true, false_implies, implies_true, Option.some.injEq, reduceCtorEq, Sp0, true_or, or_true, or_self, wi_wi, wj_wj, kk3, ll3]
        repeat' (first | (with_reducible refine And.intro ?_ ?_) | (with_reducible intro))
        all_goals (try (first | with_reducible assumption | omega | (unfold inI; omega) | (unfold inL; omega) | exact cz_in _ _))
        have eb : (4 - 2 * (j + 1), 52 - 26 * (j + 1)) = (4 - 2 * j - 1 - 1, 52 - 26 * j - 2 - 24) := by congr 1 <;> omega
        rw [eb] at this
        exact this
  have chains : ∀ j, j ≤ 6 → ∀ hj, StQ h hj a 12 j 0 → qt hj = a + 65 + 2 * j → V i_X6_init x 67 [some (vr (some a)), some (vi j)] [] hj (16 - 2 * j, 142 - 15 * j) := by
    refine bwd _ ?_ ?_
    · intro hj q qq
      refine s_X6_init_67 x ok _ _ _ _ ?_
      simp only [wpS, o_c, o_cl, o_il, o_ll, o_al, o_is, o_ls, o_as, o_inc, o_add, o_sub, o_mul, o_and, o_or, o_xor, o_shl, o_shr, o_div, o_neg, o_ladd, o_lsub, o_lmul, o_ldiv, o_lrem, o_lneg, o_lcmp, o_i2l, o_l2i, o_dup, o_dup2, o_pop, o_go, o_nn, o_sw, swc, o_iret, o_zret, o_lret, o_vret, o_ieq, o_eq0, o_ine, o_ne0, o_ilt, o_lt0, o_ige, o_ge0, o_igt, o_gt0, o_ile, o_le0, o_iald, o_zald, o_lald, o_aald, o_iast, o_zast, o_last, o_aast, o_alen, o_gi, o_gr, o_pi, o_pz, o_pr, o_new, o_newa, o_copy, o_oinit, o_call, o_callV, o_callVc, o_callI, popn, cnO, o_BAD, lgt, lst, isL, kil, st1, st2, entL, List.length_nil, List.length_cons, List.replicate, Nat.reduceAdd, Nat.reduceLeDiff, Nat.reduceSub, true_and, and_true, Nat.zero_le, ne_eq, qk_wi, ql_wi, qr_wi, qj_wi, qt_wi, qk_wj, ql_wj, qr_wj, qi_wj, qt_wj, qk_wr, ql_wr, qi_wr, qj_wr, qt_wr, qi_ws, qj_ws, qr_ws, Int.toNat_natCast, Int.toNat_zero, Int.reduceToNat, not_true_eq_false, not_false_eq_true, false_implies, implies_true, Option.some.injEq, reduceCtorEq, Sp0, true_or, or_true, or_self, wi_wi, wj_wj]
      repeat' (first | (with_reducible refine And.intro ?_ ?_) | (with_reducible intro))
      all_goals (try (first | with_reducible assumption | omega | (unfold inI; omega) | (unfold inL; omega) | exact cz_in _ _))
      refine s_X6_init_92 x ok _ _ _ _ ?_
      simp only [wpS, o_c, o_cl, o_il, o_ll, o_al, o_is, o_ls, o_as, o_inc, o_add, o_sub, o_mul, o_and, o_or, o_xor, o_shl, o_shr, o_div, o_neg, o_ladd, o_lsub, o_lmul, o_ldiv, o_lrem, o_lneg, o_lcmp, o_i2l, o_l2i, o_dup, o_dup2, o_pop, o_go, o_nn, o_sw, swc, o_iret, o_zret, o_lret, o_vret, o_ieq, o_eq0, o_ine, o_ne0, o_ilt, o_lt0, o_ige, o_ge0, o_igt, o_gt0, o_ile, o_le0, o_iald, o_zald, o_lald, o_aald, o_iast, o_zast, o_last, o_aast, o_alen, o_gi, o_gr, o_pi, o_pz, o_pr, o_new, o_newa, o_copy, o_oinit, o_call, o_callV, o_callVc, o_callI, popn, cnO, o_BAD, lgt, lst, isL, kil, st1, st2, entL, List.length_nil, List.length_cons, List.replicate, Nat.reduceAdd, Nat.reduceLeDiff, Nat.reduceSub, true_and, and_true, Nat.zero_le, ne_eq, qk_wi, ql_wi, qr_wi, qj_wi, qt_wi, qk_wj, ql_wj, qr_wj, qi_wj, qt_wj, qk_wr, ql_wr, qi_wr, qj_wr, qt_wr, qi_ws, qj_ws, qr_ws, Int.toNat_natCast, Int.toNat_zero, Int.reduceToNat, not_true_eq_false, not_false_eq_true, false_implies, implies_true, Option.some.injEq, reduceCtorEq, Sp0, true_or, or_true, or_self, wi_wi, wj_wj]
      exact lots 0 (by omega) hj q (by omega)
    · intro j hjl ih hj q qq
      obtain ⟨q1, ⟨k0, r0, r1, r2, r3, kk1, ll1, kk2, ll2, kk3, ll3, k4, l4⟩, q3, q4, q5⟩ := id q
      have ew := Eqj.wn hj 11 3 (a := qt hj) (Nat.le_refl _)
      have q2 := q.eq ew (by omega) (by omega) (by omega)
      refine s_X6_init_67 x ok _ _ _ _ ?_
      simp only [wpS, o_c, o_cl, o_il, o_ll, o_al, o_is, o_ls, o_as, o_inc, o_add, o_sub, o_mul, o_and, o_or, o_xor, o_shl, o_shr, o_div, o_neg, o_ladd, o_lsub, o_lmul, o_ldiv, o_lrem, o_lneg, o_lcmp, o_i2l, o_l2i, o_dup, o_dup2, o_pop, o_go, o_nn, o_sw, swc, o_iret, o_zret, o_lret, o_vret, o_ieq, o_eq0, o_ine, o_ne0, o_ilt, o_lt0, o_ige, o_ge0, o_igt, o_gt0, o_ile, o_le0, o_iald, o_zald, o_lald, o_aald, o_iast, o_zast, o_last, o_aast, o_alen, o_gi, o_gr, o_pi, o_pz, o_pr, o_new, o_newa, o_copy, o_oinit, o_call, o_callV, o_callVc, o_callI, popn, cnO, o_BAD, lgt, lst, isL, kil, st1, st2, entL, List.length_nil, List.length_cons, List.replicate, Nat.reduceAdd, Nat.reduceLeDiff, Nat.reduceSub, true_and, and_true, Nat.zero_le, ne_eq, qk_wi, ql_wi, qr_wi, qj_wi, qt_wi, qk_wj, ql_wj, qr_wj, qi_wj, qt_wj, qk_wr, ql_wr, qi_wr, qj_wr, qt_wr, qi_ws, qj_ws, qr_ws, Int.toNat_natCast, Int.toNat_zero, Int.reduceToNat, not_true_eq_false, not_false_eq_true, false_implies, implies_true, Option.some.injEq, reduceCtorEq, Sp0, true_or, or_true, or_self, wi_wi, wj_wj, k0, r1, s1c]
      repeat' (first | (with_reducible refine And.intro ?_ ?_) | (with_reducible intro))
      all_goals (try (first | with_reducible assumption | omega | (unfold inI; omega) | (unfold inL; omega) | exact cz_in _ _))
      refine ⟨qt hj, rfl, ?_, ?_, ?_, fun h2 e2 t2 i2 z1 z2 => ?_⟩
      · rw [qk_al, if_pos rfl]
      · rw [qt_al]
      · rw [qi_al, if_pos rfl]
      · have q6 := q2.eq e2 (by omega) (by omega) (by omega)
        have q7 := q6.wr2 i2 (ChC_I hjl z1 z2) (by omega)
        obtain ⟨-, ⟨kk0, -, -, -, -, kk1, ll1, kk2, ll2, kk3, ll3, -⟩, -⟩ := id q6
        have ki := i2.1
        have := ih _ q7 (by rw [qt_wr, t2, qq]; omega)
        simp only [wpS, o_c, o_cl, o_il, o_ll, o_al, o_is, o_ls, o_as, o_inc, o_add, o_sub, o_mul, o_and, o_or, o_xor, o_shl, o_shr, o_div, o_neg, o_ladd, o_lsub, o_lmul, o_ldiv, o_lrem, o_lneg, o_lcmp, o_i2l, o_l2i, o_dup, o_dup2, o_pop, o_go, o_nn, o_sw, swc, o_iret, o_zret, o_lret, o_vret, o_ieq, o_eq0, o_ine, o_ne0, o_ilt, o_lt0, o_ige, o_ge0, o_igt, o_gt0, o_ile, o_le0, o_iald, o_zald, o_lald, o_aald, o_iast, o_zast, o_last, o_aast, o_alen, o_gi, o_gr, o_pi, o_pz, o_pr, o_new, o_newa, o_copy, o_oinit, o_call, o_callV, o_callVc, o_callI, popn, cnO, o_BAD, lgt, lst, isL, kil, st1, st2, entL, List.length_nil, List.length_cons, List.replicate, Nat.reduceAdd, Nat.reduceLeDiff, Nat.reduceSub, true_and, and_true, Nat.zero_le, ne_eq, qk_wi, ql_wi, qr_wi, qj_wi, qt_wi, qk_wj, ql_wj, qr_wj, qi_wj, qt_wj, qk_wr, ql_wr, qi_wr, qj_wr, qt_wr, qi_ws, qj_ws, qr_ws, Int.toNat_natCast, Int.toNat_zero, Int.reduceToNat, not_true_eq_false, not_false_eq_true, false_implies, implies_true, Option.some.injEq, reduceCtorEq, Sp0, true_or, or_true, or_self, wi_wi, wj_wj, kk2, ll2]
        repeat' (first | (with_reducible refine And.intro ?_ ?_) | (with_reducible intro))
        all_goals (try (first | with_reducible assumption | omega | (unfold inI; omega) | (unfold inL; omega) | exact cz_in _ _))
        have eb : (16 - 2 * (j + 1), 142 - 15 * (j + 1)) = (16 - 2 * j - 1 - 1, 142 - 15 * j - 3 - 12) := by congr 1 <;> omega
        rw [eb] at this
        exact this
  have meas : ∀ j, j ≤ 12 → ∀ hj, StQ h hj a j 0 0 → qt hj = a + 5 + 5 * j → V i_X6_init x 40 [some (vr (some a)), some (vi j)] [] hj (76 - 5 * j, 1414 - 106 * j) := by
    refine bwd _ ?_ ?_
    · intro hj q qq
      refine s_X6_init_40 x ok _ _ _ _ ?_
      simp only [wpS, o_c, o_cl, o_il, o_ll, o_al, o_is, o_ls, o_as, o_inc, o_add, o_sub, o_mul, o_and, o_or, o_xor, o_shl, o_shr, o_div, o_neg, o_ladd, o_lsub, o_lmul, o_ldiv, o_lrem, o_lneg, o_lcmp, o_i2l, o_l2i, o_dup, o_dup2, o_pop, o_go, o_nn, o_sw, swc, o_iret, o_zret, o_lret, o_vret, o_ieq, o_eq0, o_ine, o_ne0, o_ilt, o_lt0, o_ige, o_ge0, o_igt, o_gt0, o_ile, o_le0, o_iald, o_zald, o_lald, o_aald, o_iast, o_zast, o_last, o_aast, o_alen, o_gi, o_gr, o_pi, o_pz, o_pr, o_new, o_newa, o_copy, o_oinit, o_call, o_callV, o_callVc, o_callI, popn, cnO, o_BAD, lgt, lst, isL, kil, st1, st2, entL, List.length_nil, List.length_cons, List.replicate, Nat.reduceAdd, Nat.reduceLeDiff, Nat.reduceSub, true_and, and_true, Nat.zero_le, ne_eq, qk_wi, ql_wi, qr_wi, qj_wi, qt_wi, qk_wj, ql_wj, qr_wj, qi_wj, qt_wj, qk_wr, ql_wr, qi_wr, qj_wr, qt_wr, qi_ws, qj_ws, qr_ws, Int.toNat_natCast, Int.toNat_zero, Int.reduceToNat, not_true_eq_false, not_false_eq_true, false_implies, implies_true, Option.some.injEq, reduceCtorEq, Sp0, true_or, or_true, or_self, wi_wi, wj_wj]
      repeat' (first | (with_reducible refine And.intro ?_ ?_) | (with_reducible intro))
      all_goals (try (first | with_reducible assumption | omega | (unfold inI; omega) | (unfold inL; omega) | exact cz_in _ _))
      refine s_X6_init_65 x ok _ _ _ _ ?_
      simp only [wpS, o_c, o_cl, o_il, o_ll, o_al, o_is, o_ls, o_as, o_inc, o_add, o_sub, o_mul, o_and, o_or, o_xor, o_shl, o_shr, o_div, o_neg, o_ladd, o_lsub, o_lmul, o_ldiv, o_lrem, o_lneg, o_lcmp, o_i2l, o_l2i, o_dup, o_dup2, o_pop, o_go, o_nn, o_sw, swc, o_iret, o_zret, o_lret, o_vret, o_ieq, o_eq0, o_ine, o_ne0, o_ilt, o_lt0, o_ige, o_ge0, o_igt, o_gt0, o_ile, o_le0, o_iald, o_zald, o_lald, o_aald, o_iast, o_zast, o_last, o_aast, o_alen, o_gi, o_gr, o_pi, o_pz, o_pr, o_new, o_newa, o_copy, o_oinit, o_call, o_callV, o_callVc, o_callI, popn, cnO, o_BAD, lgt, lst, isL, kil, st1, st2, entL, List.length_nil, List.length_cons, List.replicate, Nat.reduceAdd, Nat.reduceLeDiff, Nat.reduceSub, true_and, and_true, Nat.zero_le, ne_eq, qk_wi, ql_wi, qr_wi, qj_wi, qt_wi, qk_wj, ql_wj, qr_wj, qi_wj, qt_wj, qk_wr, ql_wr, qi_wr, qj_wr, qt_wr, qi_ws, qj_ws, qr_ws, Int.toNat_natCast, Int.toNat_zero, Int.reduceToNat, not_true_eq_false, not_false_eq_true, false_implies, implies_true, Option.some.injEq, reduceCtorEq, Sp0, true_or, or_true, or_self, wi_wi, wj_wj]
      exact chains 0 (by omega) hj q (by omega)
    · intro j hjl ih hj q qq
      obtain ⟨q1, ⟨k0, r0, r1, r2, r3, kk1, ll1, kk2, ll2, kk3, ll3, k4, l4⟩, q3, q4, q5⟩ := id q
      have ew := Eqj.wn hj 14 13 (a := qt hj) (Nat.le_refl _)
      have q2 := q.eq ew (by omega) (by omega) (by omega)
      refine s_X6_init_40 x ok _ _ _ _ ?_
      simp only [wpS, o_c, o_cl, o_il, o_ll, o_al, o_is, o_ls, o_as, o_inc, o_add, o_sub, o_mul, o_and, o_or, o_xor, o_shl, o_shr, o_div, o_neg, o_ladd, o_lsub, o_lmul, o_ldiv, o_lrem, o_lneg, o_lcmp, o_i2l, o_l2i, o_dup, o_dup2, o_pop, o_go, o_nn, o_sw, swc, o_iret, o_zret, o_lret, o_vret, o_ieq, o_eq0, o_ine, o_ne0, o_ilt, o_lt0, o_ige, o_ge0, o_igt, o_gt0, o_ile, o_le0, o_iald, o_zald, o_lald, o_aald, o_iast, o_zast, o_last, o_aast, o_alen, o_gi, o_gr, o_pi, o_pz, o_pr, o_new, o_newa, o_copy, o_oinit, o_call, o_callV, o_callVc, o_callI, popn, cnO, o_BAD, lgt, lst, isL, kil, st1, st2, entL, List.length_nil, List.length_cons, List.replicate, Nat.reduceAdd, Nat.reduceLeDiff, Nat.reduceSub, true_and, and_true, Nat.zero_le, ne_eq, qk_wi, ql_wi, qr_wi, qj_wi, qt_wi, qk_wj, ql_wj, qr_wj, qi_wj, qt_wj, qk_wr, ql_wr, qi_wr, qj_wr, qt_wr, qi_ws, qj_ws, qr_ws, Int.toNat_natCast, Int.toNat_zero, Int.reduceToNat, not_true_eq_false, not_false_eq_true, false_implies, implies_true, Option.some.injEq, reduceCtorEq, Sp0, true_or, or_true, or_self, wi_wi, wj_wj, k0, r0, s4c]
      repeat' (first | (with_reducible refine And.intro ?_ ?_) | (with_reducible intro))
      all_goals (try (first | with_reducible assumption | omega | (unfold inI; omega) | (unfold inL; omega) | exact cz_in _ _))
      refine ⟨qt hj, rfl, ?_, ?_, ?_, fun h2 e2 t2 i2 z1 z2 => ?_⟩
      · rw [qk_al, if_pos rfl]
      · rw [qt_al]
      · rw [qi_al, if_pos rfl]
      · have q6 := q2.eq e2 (by omega) (by omega) (by omega)
        have q7 := q6.wr1 i2 (MeC_I hjl z1 z2) (by omega)
        obtain ⟨-, ⟨kk0, -, -, -, -, kk1, ll1, kk2, ll2, kk3, ll3, -⟩, -⟩ := id q6
        have ki := i2.1
        have := ih _ q7 (by rw [qt_wr, t2, qq]; omega)
        simp only [wpS, o_c, o_cl, o_il, o_ll, o_al, o_is, o_ls, o_as, o_inc, o_add, o_sub, o_mul, o_and, o_or, o_xor, o_shl, o_shr, o_div, o_neg, o_ladd, o_lsub, o_lmul, o_ldiv, o_lrem, o_lneg, o_lcmp, o_i2l, o_l2i, o_dup, o_dup2, o_pop, o_go, o_nn, o_sw, swc, o_iret, o_zret, o_lret, o_vret, o_ieq, o_eq0, o_ine, o_ne0, o_ilt, o_lt0, o_ige, o_ge0, o_igt, o_gt0, o_ile, o_le0, o_iald, o_zald, o_lald, o_aald, o_iast, o_zast, o_last, o_aast, o_alen, o_gi, o_gr, o_pi, o_pz, o_pr, o_new, o_newa, o_copy, o_oinit, o_call, o_callV, o_callVc, o_callI, popn, cnO, o_BAD, lgt, lst, isL, kil, st1, st2, entL, List.length_nil, List.length_cons, List.replicate, Nat.reduceAdd, Nat.reduceLeDiff, Nat.reduceSub, true_and, and_true, Nat.zero_le, ne_eq, qk_wi, ql_wi, qr_wi, qj_wi, qt_wi, qk_wj, ql_wj, qr_wj, qi_wj, qt_wj, qk_wr, ql_wr, qi_wr, qj_wr, qt_wr, qi_ws, qj_ws, qr_ws, Int.toNat_natCast, Int.toNat_zero, Int.reduceToNat, not_true_eq_false, not_false_eq_true, false_implies, implies_true, Option.some.injEq, reduceCtorEq, Sp0, true_or, or_true, or_self, wi_wi, wj_wj, kk1, ll1]
        repeat' (first | (with_reducible refine And.intro ?_ ?_) | (with_reducible intro))
        all_goals (try (first | with_reducible assumption | omega | (unfold inI; omega) | (unfold inL; omega) | exact cz_in _ _))
        have eb : (76 - 5 * (j + 1), 1414 - 106 * (j + 1)) = (76 - 5 * j - 1 - 4, 1414 - 106 * j - 13 - 93) := by congr 1 <;> omega
        rw [eb] at this
        exact this
  have e01 : ¬ a = (a + 1) := by omega
  have e02 : ¬ a = (a + 2) := by omega
  have e03 : ¬ a = (a + 3) := by omega
  have e04 : ¬ a = (a + 4) := by omega
  have e10 : ¬ (a + 1) = a := by omega
  have e12 : ¬ (a + 1) = (a + 2) := by omega
  have e13 : ¬ (a + 1) = (a + 3) := by omega
  have e14 : ¬ (a + 1) = (a + 4) := by omega
  have e20 : ¬ (a + 2) = a := by omega
  have e21 : ¬ (a + 2) = (a + 1) := by omega
  have e23 : ¬ (a + 2) = (a + 3) := by omega
  have e24 : ¬ (a + 2) = (a + 4) := by omega
  have e30 : ¬ (a + 3) = a := by omega
  have e31 : ¬ (a + 3) = (a + 1) := by omega
  have e32 : ¬ (a + 3) = (a + 2) := by omega
  have e34 : ¬ (a + 3) = (a + 4) := by omega
  have e40 : ¬ (a + 4) = a := by omega
  have e41 : ¬ (a + 4) = (a + 1) := by omega
  have e42 : ¬ (a + 4) = (a + 2) := by omega
  have e43 : ¬ (a + 4) = (a + 3) := by omega
  show V i_X6_init x 0 _ [] h (80, 1458)
  refine s_X6_init_0 x ok _ _ _ _ ?_
  simp only [wpS, o_c, o_cl, o_il, o_ll, o_al, o_is, o_ls, o_as, o_inc, o_add, o_sub, o_mul, o_and, o_or, o_xor, o_shl, o_shr, o_div, o_neg, o_ladd, o_lsub, o_lmul, o_ldiv, o_lrem, o_lneg, o_lcmp, o_i2l, o_l2i, o_dup, o_dup2, o_pop, o_go, o_nn, o_sw, swc, o_iret, o_zret, o_lret, o_vret, o_ieq, o_eq0, o_ine, o_ne0, o_ilt, o_lt0, o_ige, o_ge0, o_igt, o_gt0, o_ile, o_le0, o_iald, o_zald, o_lald, o_aald, o_iast, o_zast, o_last, o_aast, o_alen, o_gi, o_gr, o_pi, o_pz, o_pr, o_new, o_newa, o_copy, o_oinit, o_call, o_callV, o_callVc, o_callI, popn, cnO, o_BAD, lgt, lst, isL, kil, st1, st2, entL, List.length_nil, List.length_cons, List.replicate, Nat.reduceAdd, Nat.reduceLeDiff, Nat.reduceSub, true_and, and_true, Nat.zero_le, ne_eq, qk_wi, ql_wi, qr_wi, qj_wi, qt_wi, qk_wj, ql_wj, qr_wj, qi_wj, qt_wj, qk_wr, ql_wr, qi_wr, qj_wr, qt_wr, qi_ws, qj_ws, qr_ws, Int.toNat_natCast, Int.toNat_zero, Int.reduceToNat, not_true_eq_false, not_false_eq_true, false_implies, implies_true, Option.some.injEq, reduceCtorEq, Sp0, true_or, or_true, or_self, wi_wi, wj_wj, qk_al, ql_al, qr_al, qt_al, ht, Nat.add_assoc, e01, e02, e03, e04, e10, e12, e13, e14, e20, e21, e23, e24, e30, e31, e32, e34, e40, e41, e42, e43, k0, ↓reduceIte]
  repeat' (first | (with_reducible refine And.intro ?_ ?_) | (with_reducible intro))
  all_goals (try (first | with_reducible assumption | omega | (unfold inI; omega) | (unfold inL; omega) | exact cz_in _ _))
  refine meas 0 (by omega) _ ⟨?_, ?_, fun m hm => by omega, fun m hm => by omega, fun m hm => by omega⟩ ?_
  · refine ⟨fun b hb => ⟨?_, ?_, ?_, ?_⟩, fun b hb => ?_⟩
    · simp only [qk_wr, qk_wi, qk_al, qt_wr, qt_wi, qt_al, ht]
      repeat rw [if_neg (by omega)]
    · simp only [ql_wr, ql_wi, ql_al, qt_wr, qt_wi, qt_al, ht]
      repeat rw [if_neg (by omega)]
    · simp only [qi_wr, qi_wi, qi_al, qt_wr, qt_wi, qt_al, ht]
      repeat rw [if_neg (by omega)]
    · simp only [qr_wr', qr_wi, qr_al, qt_wr, qt_wi, qt_al, ht]
      repeat rw [if_neg (by omega)]
    · simp only [qj_wr, qj_wi, qj_al, qt_wr, qt_wi, qt_al, ht]
      repeat rw [if_neg (by omega)]
  · simp only [qk_wr, qk_wi, qk_al, ql_wr, ql_wi, ql_al, qr_wr', qr_wi, qr_al, qt_wr, qt_wi, qt_al, ht, Nat.add_assoc, Nat.reduceAdd, fu, Nat.reduceEqDiff, e01, e02, e03, e04, e10, e12, e13, e14, e20, e21, e23, e24, e30, e31, e32, e34, e40, e41, e42, e43, k0, ↓reduceIte, true_and, and_true]
    all_goals (try simp)
  · simp only [qt_wr, qt_wi, qt_al, ht, Nat.add_assoc, Nat.reduceAdd, Nat.mul_zero, Nat.add_zero]

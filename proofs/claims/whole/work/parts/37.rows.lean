/-! ===== sums over a row ===== -/
theorem sg_swap (F : Nat → Nat → Int) (J : Nat) : ∀ N, sg (fun k => sg (fun j => F j k) J) N = sg (fun j => sg (fun k => F j k) N) J
  | 0 => by
    rw [sg_0]
    exact (sg_z (fun k _ => sg_0 _)).symm
  | N + 1 => by
    rw [sg_s, sg_swap F J N, ← sg_add]
    exact sg_c (fun j _ => by rw [sg_s])
theorem sg_shift {g : Nat → Int} {N v n : Nat} (hz : ∀ k, n < k → k < N → g k = 0) (h : n + v < N) : sg (fun k => gz g ((k : Int) - v)) N = sg g N := by
  obtain ⟨M, rfl⟩ : ∃ M, N = v + M := ⟨N - v, by omega⟩
  rw [sg_split (fun k => gz g ((k : Int) - v)) v M, sg_z (n := v) (fun k hk => gz_n (by omega)), Int.zero_add, Nat.add_comm v M, sg_split g M v, sg_z (n := v) (fun k hk => hz (M + k) (by omega) (by omega)), Int.add_zero]
  exact sg_c (fun k hk => by
    rw [show ((v + k : Nat) : Int) - v = (k : Int) by omega, gz_p])
theorem cvl_sum {d : Dd} {m cols n N : Nat} {s t : Int} {g : Nat → Int} (hz : ∀ k, n < k → k < N → g k = 0) (h : tpf d m cols s t n < N) : sg (cvl d m cols s t g) N = lot d m * sg g N := by
  have e := tpf_eq (d := d) (m := m) (cols := cols) (n := n) (iab_0 s) (iab_0 t)
  have e1 : sg (cvl d m cols s t g) N = sg (fun j => sg (fun k => mny d m (db d m + j) * gz g ((k : Int) - mvf d m cols s t j)) N) (rng d m + 1) := sg_swap (fun j k => mny d m (db d m + j) * gz g ((k : Int) - mvf d m cols s t j)) (rng d m + 1) N
  rw [e1]
  unfold lot
  rw [Int.mul_comm, ← sg_mul]
  refine sg_c (fun j hj => ?_)
  rw [sg_mul, Int.mul_comm]
  congr 1
  have hv := mvf_rg (d := d) (m := m) (cols := cols) (s := s) (t := t) (j := j) (by omega)
  obtain ⟨v, hv2⟩ : ∃ v : Nat, mvf d m cols s t j = (v : Int) := ⟨(mvf d m cols s t j).toNat, by omega⟩
  rw [hv2]
  exact sg_shift hz (by omega)
theorem mny_nn {d : Dd} {m j : Nat} (hI : InvM d m) (hj : j ≤ rng d m) : 0 ≤ mny d m (db d m + j) := by
  have h1 := hI.nb (db d m + j)
  have h2 := hI.rg
  rw [nmb_in (by omega) (by omega)] at h1
  exact h1.1
theorem cvl_nn {d : Dd} {m cols : Nat} {s t : Int} {g : Nat → Int} (hI : InvM d m) (hg : ∀ k, 0 ≤ g k) (k : Nat) : 0 ≤ cvl d m cols s t g k := by
  unfold cvl
  refine sg_nn (fun j hj => Int.mul_nonneg (mny_nn hI (by omega)) ?_)
  unfold gz
  split
  · omega
  · exact hg _
theorem lyR_nn {d : Dd} (s t : Nat → Int) (cols : Nat) (hI : ∀ m, m < 12 → InvM d m) : ∀ j, j ≤ 12 → ∀ k, 0 ≤ lyR d s t cols j k
  | 0, _, k => by
    show (0 : Int) ≤ if k = 0 then 1 else 0
    split <;> omega
  | j + 1, hj, k => by
    show 0 ≤ if dk d j = 0 ∧ (s j ≠ 0 ∨ t j ≠ 0) then cvl d j cols (s j) (t j) (lyR d s t cols j) k else lyR d s t cols j k
    split
    · exact cvl_nn (hI j (by omega)) (lyR_nn s t cols hI j (by omega)) k
    · exact lyR_nn s t cols hI j (by omega) k
theorem lyR_sum {d : Dd} {s t : Nat → Int} {cols N : Nat} (hN : ∀ j, j ≤ 12 → lyN d s t cols j < N) : ∀ j, j ≤ 12 → cpt d s t j ≤ 1000000000000 → sg (lyR d s t cols j) N = cpt d s t j
  | 0, _, _ => by
    have h0 : 0 < N := hN 0 (by omega)
    obtain ⟨M, rfl⟩ : ∃ M, N = 1 + M := ⟨N - 1, by omega⟩
    rw [sg_split, sg_z (n := M) (fun k hk => by show (if 1 + k = 0 then (1 : Int) else 0) = 0; rw [if_neg (by omega)])]
    rfl
  | j + 1, hj, h => by
    rw [cpt_s] at h ⊢
    have q : ¬ 1000000000000 < cpt d s t j := fun q => by rw [if_pos q] at h; omega
    have ih := lyR_sum hN j (by omega) (by omega)
    rw [if_neg q] at h ⊢
    by_cases c : dk d j = 0 ∧ (s j ≠ 0 ∨ t j ≠ 0)
    · rw [if_pos c, ← ih]
      have e1 : lyR d s t cols (j + 1) = cvl d j cols (s j) (t j) (lyR d s t cols j) := funext (fun k => if_pos c)
      have e2 : lyN d s t cols (j + 1) = tpf d j cols (s j) (t j) (lyN d s t cols j) := if_pos c
      rw [e1, cvl_sum (n := lyN d s t cols j) (fun k hk _ => lyR_z d s t cols j k hk) (by rw [← e2]; exact hN (j + 1) hj), Int.mul_comm]
    · rw [if_neg c]
      have e1 : lyR d s t cols (j + 1) = lyR d s t cols j := funext (fun k => if_neg c)
      rw [e1, ih]
theorem sg_grid (g : Nat → Int) (cols : Nat) : ∀ rows, sg (fun k => sg (fun q => g (k * cols + q)) cols) rows = sg g (rows * cols)
  | 0 => by rw [Nat.zero_mul]; rfl
  | r + 1 => by rw [sg_s, sg_grid g cols r, Nat.succ_mul, sg_split]
theorem sg_mn {f g : Nat → Int} : ∀ {n : Nat}, (∀ k, k < n → f k ≤ g k) → sg f n ≤ sg g n
  | 0, _ => Int.le_refl _
  | n + 1, h => by
    have h1 := sg_mn (n := n) (fun k hk => h k (by omega))
    have h2 := h n (by omega)
    rw [sg_s, sg_s]; omega
/-- the cells within ends -/
def rgt (g : Nat → Int) (rows cols : Nat) (lo hi le lo' hi' le' : Int) : Int := sg (fun k => if lo ≤ le + k ∧ le + k ≤ hi then sg (fun q => if lo' ≤ le' + q ∧ le' + q ≤ hi' then g (k * cols + q) else 0) cols else 0) rows
theorem rgt_rg {g : Nat → Int} (rows cols : Nat) (lo hi le lo' hi' le' : Int) (hg : ∀ k, 0 ≤ g k) : 0 ≤ rgt g rows cols lo hi le lo' hi' le' ∧ rgt g rows cols lo hi le lo' hi' le' ≤ sg g (rows * cols) := by
  unfold rgt
  rw [← sg_grid]
  have h0 : ∀ k, 0 ≤ sg (fun q => if lo' ≤ le' + q ∧ le' + q ≤ hi' then g (k * cols + q) else 0) cols := fun k => sg_nn (fun q _ => by
    have := hg (k * cols + q)
    split <;> omega)
  have h1 : ∀ k, sg (fun q => if lo' ≤ le' + q ∧ le' + q ≤ hi' then g (k * cols + q) else 0) cols ≤ sg (fun q => g (k * cols + q)) cols := fun k => sg_mn (fun q _ => by
    have := hg (k * cols + q)
    split <;> omega)
  refine ⟨sg_nn (fun k _ => ?_), sg_mn (fun k _ => ?_)⟩
  · have := h0 k
    split <;> omega
  · have := h0 k
    have := h1 k
    split <;> omega
/-! ===== the object ===== -/
theorem isCh.eqb {h h' : Hp} {p n : Nat} (H : isCh h p) (e : Eqb h h' n) (hn : p + 2 ≤ n) : isCh h' p := by
  unfold isCh at *
  rw [(e p (by omega)).1, (e p (by omega)).2.2.2, (e (p + 1) (by omega)).1, (e (p + 1) (by omega)).2.1]
  exact H
theorem isLo.eqb {h h' : Hp} {p n : Nat} (H : isLo h p) (e : Eqb h h' n) (hn : p + 2 ≤ n) : isLo h' p := by
  unfold isLo at *
  rw [(e p (by omega)).1, (e p (by omega)).2.2.2, (e (p + 1) (by omega)).1, (e (p + 1) (by omega)).2.1]
  exact H
theorem ChC.eqb {h h' : Hp} {p n c : Nat} {d : Dd} (H : ChC h p d c) (e : Eqb h h' n) (hn : p + 2 ≤ n) : ChC h' p d c := by
  unfold ChC at *
  rw [(e p (by omega)).2.2.1, (e (p + 1) (by omega)).2.2.1]
  exact H
theorem LoC.eqb {h h' : Hp} {p n c : Nat} {d : Dd} (H : LoC h p d c) (e : Eqb h h' n) (hn : p + 2 ≤ n) : LoC h' p d c := by
  unfold LoC at *
  rw [(e p (by omega)).2.2.1, (e (p + 1) (by omega)).2.2.1]
  exact H
theorem isSt.eqb {h h' : Hp} {a n : Nat} (H : isSt h a) (e : Eqb h h' n) (hn : a + 81 ≤ n) : isSt h' a := by
  unfold isSt at *
  rw [(e a (by omega)).1, (e a (by omega)).2.2.2, (e (a + 1) (by omega)).1, (e (a + 1) (by omega)).2.1, (e (a + 2) (by omega)).1, (e (a + 2) (by omega)).2.1, (e (a + 3) (by omega)).1, (e (a + 3) (by omega)).2.1, (e (a + 4) (by omega)).1, (e (a + 4) (by omega)).2.1, (e (a + 1) (by omega)).2.2.2, (e (a + 2) (by omega)).2.2.2, (e (a + 3) (by omega)).2.2.2]
  obtain ⟨h1, h2, h3, h4, h5, h6, h7, h8, h9, h10, h11, h12, h13, h14, h15, h16, h17, h18, h19⟩ := H
  exact ⟨h1, h2, h3, h4, h5, h6, h7, h8, h9, h10, h11, h12, h13, h14, fun m hm => (h15 m hm).eqb e (by omega), h16, fun m hm => (h17 m hm).eqb e (by omega), h18, fun m hm => (h19 m hm).eqb e (by omega)⟩
theorem StC.eqb {h h' : Hp} {a n : Nat} {d : Dd} (H : StC h a d) (e : Eqb h h' n) (hn : a + 81 ≤ n) : StC h' a d := by
  obtain ⟨h1, h2, h3, h4⟩ := H
  refine ⟨fun m hm => (h1 m hm).eqb e (by omega), fun m hm => (h2 m hm).eqb e (by omega), fun m hm => (h3 m hm).eqb e (by omega), ?_⟩
  rw [(e (a + 4) (by omega)).2.2.1]
  exact h4
theorem Stt.eqb {h h' : Hp} {a n : Nat} {d : Dd} (H : Stt h a d) (e : Eqb h h' n) (hn : a + 81 ≤ n) : Stt h' a d := ⟨H.1.eqb e hn, H.2.1.eqb e hn, H.2.2⟩
theorem Nw.eqb {h h' : Hp} {x a n : Nat} {d : Dd} (H : Nw h x a d) (e : Eqb h h' n) (hx : x < n) (hn : a + 81 ≤ n) : Nw h' x a d := by
  obtain ⟨h1, h2, h3⟩ := H
  refine ⟨?_, ?_, h3.eqb e hn⟩
  · rw [(e x hx).1]; exact h1
  · rw [(e x hx).2.2.2]; exact h2
/-- hf is h but for the Spread S, its row, and new cells -/
def Spr (h hf : Hp) (S R : Nat) : Prop := (∀ b, b < qt h → qk hf b = qk h b ∧ ql hf b = ql h b ∧ (b ≠ S → qr hf b = qr h b) ∧ (b ≠ S → b ≠ S + 2 → b ≠ S + 3 → qi hf b = qi h b) ∧ (b ≠ R → qj hf b = qj h b)) ∧ (∀ j, j ≠ 4 → qr hf S j = qr h S j) ∧ qt h ≤ qt hf
theorem Spr.rf (h : Hp) (S R : Nat) : Spr h h S R := ⟨fun _ _ => ⟨rfl, rfl, fun _ => rfl, fun _ _ _ => rfl, fun _ => rfl⟩, fun _ _ => rfl, Nat.le_refl _⟩
theorem Spr.wi (h : Hp) (S R : Nat) (f : Nat → Int) : Spr h (wi h S f) S R := ⟨fun _ _ => ⟨rfl, rfl, fun _ => rfl, fun n _ _ => qi_wn n, fun _ => rfl⟩, fun _ _ => rfl, Nat.le_refl _⟩
theorem Gro.spr {h h' : Hp} {S R R' : Nat} (g : Gro h h' S) (hR : R' = R ∨ qt h ≤ R') (f ca cb r : Nat → Int) : Spr h (ws h' S R' f ca cb r) S R := by
  refine ⟨fun b hb => ⟨(g.1 b hb).1, (g.1 b hb).2.1, (g.1 b hb).2.2.2, fun n1 n2 n3 => ?_, fun n => ?_⟩, g.2.1, g.2.2.1⟩
  · rw [qsn n1 n2 n3]; exact (g.1 b hb).2.2.1
  · rw [qsRn (by omega)]; exact g.2.2.2 b hb
theorem Spr.tr {h h1 h2 : Hp} {S R R1 : Nat} (a : Spr h h1 S R) (b : Spr h1 h2 S R1) (hR : R1 = R ∨ qt h ≤ R1) : Spr h h2 S R := by
  refine ⟨fun k hk => ?_, fun j hj => (b.2.1 j hj).trans (a.2.1 j hj), Nat.le_trans a.2.2 b.2.2⟩
  have hk2 : k < qt h1 := Nat.lt_of_lt_of_le hk a.2.2
  obtain ⟨a1, a2, a3, a4, a5⟩ := a.1 k hk
  obtain ⟨b1, b2, b3, b4, b5⟩ := b.1 k hk2
  exact ⟨b1.trans a1, b2.trans a2, fun n => (b3 n).trans (a3 n), fun n1 n2 n3 => (b4 n1 n2 n3).trans (a4 n1 n2 n3), fun n => (b5 (by omega)).trans (a5 n)⟩
theorem Spr.eqb {h hf : Hp} {S R : Nat} (g : Spr h hf S R) (hS : S ≤ qt h) : Eqb h hf S := fun b hb => by
  obtain ⟨a1, a2, a3, a4, a5⟩ := g.1 b (by omega)
  exact ⟨a1, a2, a4 (by omega) (by omega) (by omega), a3 (by omega)⟩
/-- the FitBench x, its plain chain and its Spread with its row R -/
def Fbs (h : Hp) (x : Nat) (d : Dd) (R : Nat) : Prop := Nw h x (x + 1) d ∧ qr h x 2 = some (x + 83) ∧ Chv h (x + 83) (fun _ => 0) ∧ (qi h (x + 83) 1 = 0 ∧ qi h (x + 83) 2 = 0) ∧ qr h x 4 = some (x + 89) ∧ isSp h (x + 89) R ∧ R < qt h ∧ x + 100 ≤ qt h
theorem Fbs.spr {h hf : Hp} {x R R' : Nat} {d : Dd} (H : Fbs h x d R) (g : Spr h hf (x + 89) R) (hs : isSp hf (x + 89) R') (hR : R' < qt hf) : Fbs hf x d R' := by
  obtain ⟨h1, h2, h3, h4, h5, h6, h7, h8⟩ := H
  have e := g.eqb (by omega)
  refine ⟨h1.eqb e (by omega) (by omega), ?_, h3.eqb e (by omega), ?_, ?_, hs, hR, Nat.le_trans h8 g.2.2⟩
  · rw [(e x (by omega)).2.2.2]; exact h2
  · rw [(e (x + 83) (by omega)).2.2.1]; exact h4
  · rw [(e x (by omega)).2.2.2]; exact h5

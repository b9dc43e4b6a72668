/-! ===== rows and images ===== -/
theorem Mo.rg {h h' : Hp} {y : Nat} (H : Mo h y) (r : Rg h h' y (y + 15)) : Mo h' y := by
  unfold Mo at *
  rw [(r y (by omega) (by omega)).1, (r y (by omega) (by omega)).2.2.2, (r (y + 1) (by omega) (by omega)).1, (r (y + 2) (by omega) (by omega)).1, (r (y + 3) (by omega) (by omega)).1, (r (y + 4) (by omega) (by omega)).1, (r (y + 5) (by omega) (by omega)).1, (r (y + 6) (by omega) (by omega)).1, (r (y + 7) (by omega) (by omega)).1, (r (y + 8) (by omega) (by omega)).1, (r (y + 9) (by omega) (by omega)).1, (r (y + 10) (by omega) (by omega)).1, (r (y + 11) (by omega) (by omega)).1, (r (y + 12) (by omega) (by omega)).1, (r (y + 13) (by omega) (by omega)).1, (r (y + 14) (by omega) (by omega)).1, (r (y + 1) (by omega) (by omega)).2.1, (r (y + 2) (by omega) (by omega)).2.1, (r (y + 3) (by omega) (by omega)).2.1, (r (y + 4) (by omega) (by omega)).2.1, (r (y + 5) (by omega) (by omega)).2.1, (r (y + 6) (by omega) (by omega)).2.1, (r (y + 7) (by omega) (by omega)).2.1, (r (y + 8) (by omega) (by omega)).2.1, (r (y + 9) (by omega) (by omega)).2.1, (r (y + 10) (by omega) (by omega)).2.1, (r (y + 11) (by omega) (by omega)).2.1, (r (y + 12) (by omega) (by omega)).2.1, (r (y + 13) (by omega) (by omega)).2.1, (r (y + 14) (by omega) (by omega)).2.1]
  exact H
theorem MS.rg {h h' : Hp} {y : Nat} {D : Dd} {kf : Nat → Int} (H : MS h y D kf) (r : Rg h h' y (y + 15)) : MS h' y D kf := ⟨H.1.rg r, by rw [(r (y + 1) (by omega) (by omega)).2.2.1]; exact H.2.1, by rw [(r (y + 2) (by omega) (by omega)).2.2.1]; exact H.2.2⟩
theorem pot_rw {l : Nat} (h : l = 2881 ∨ l = 24000 ∨ l = 200000) (c : Nat) : (gc l (rwL l c)).1 + (pot (rwL l c)).1 ≤ (pot l).1 ∧ (gc l (rwL l c)).2 + (pot (rwL l c)).2 ≤ (pot l).2 := by
  unfold gc pot rwL
  rcases h with rfl | rfl | rfl
  · by_cases z : c ≤ 2881 ∨ 200000 < c
    · rw [if_pos z]; simp
    · rw [if_neg z]
      by_cases z2 : c ≤ 24000
      · rw [if_pos z2]; simp
      · rw [if_neg z2]; simp
  · by_cases z : c ≤ 24000 ∨ 200000 < c
    · rw [if_pos z]; simp
    · rw [if_neg z, if_neg (show ¬ c ≤ 24000 by omega)]; simp
  · by_cases z : c ≤ 200000 ∨ 200000 < c
    · rw [if_pos z]; simp
    · omega
theorem pot_rt {d : Dd} {s t : Nat → Int} {l : Nat} (h : l = 2881 ∨ l = 24000 ∨ l = 200000) : (gc l (rtL d s t l)).1 + (pot (rtL d s t l)).1 ≤ (pot l).1 ∧ (gc l (rtL d s t l)).2 + (pot (rtL d s t l)).2 ≤ (pot l).2 := by
  unfold rtL
  by_cases z : 1000000000000 < cpt d s t 12
  · rw [if_pos z]; unfold gc; simp
  · rw [if_neg z]; exact pot_rw h _
theorem pot_self (l : Nat) : (gc l l).1 + (pot l).1 ≤ (pot l).1 ∧ (gc l l).2 + (pot l).2 ≤ (pot l).2 := by unfold gc; simp
/-- a call that lays a row -/
theorem CS.ov {h hf : Hp} {x R l2 : Nat} {D : Dd} {kd : Nat → Option Dd} {b : Nat × Nat} (hFB : FB h x D R) (hq : x + 115 ≤ qt h) (hK : Kp h x kd) (hB : Bdg kd (ql h R) b) (hp : (gc (ql h R) l2).1 + (pot l2).1 ≤ (pot (ql h R)).1 ∧ (gc (ql h R) l2).2 + (pot l2).2 ≤ (pot (ql h R)).2) (o : Ov h x R l2 hf) : CS hf x D kd (b.1 - (gc (ql h R) l2).1, b.2 - (gc (ql h R) l2).2) ∧ Rg h hf (x + 100) (x + 115) := by
  obtain ⟨R', s1, s2, s3, s4, s5⟩ := o
  have at' : ∀ q, q < qt h → q ≠ x + 89 → q ≠ x + 91 → q ≠ x + 92 → At h hf q := fun q h1 h2 h3 h4 => by
    have := s1.1 q h1
    exact ⟨this.1, this.2.1, this.2.2.2.1 h2 (by omega) (by omega), this.2.2.1 h2⟩
  have hqt := s1.2.2
  have r82 : qr hf (x + 82) = qr h (x + 82) := (at' (x + 82) (by omega) (by omega) (by omega) (by omega)).2.2.2
  have rx : qr hf x = qr h x := (at' x (by omega) (by omega) (by omega) (by omega)).2.2.2
  refine ⟨⟨R', ⟨hFB.1.spr s1 s2 s3, by rw [rx]; exact hFB.2.1, by rw [(at' (x + 82) (by omega) (by omega) (by omega) (by omega)).1]; exact hFB.2.2.1, by rw [(at' (x + 82) (by omega) (by omega) (by omega) (by omega)).2.1]; exact hFB.2.2.2.1, by rw [rx]; exact hFB.2.2.2.2.1, hFB.2.2.2.2.2.1.rg (fun q h1 h2 => at' q (by omega) (by omega) (by omega) (by omega)), by rw [rx]; exact hFB.2.2.2.2.2.2.1, hFB.2.2.2.2.2.2.2.rg (fun q h1 h2 => at' q (by omega) (by omega) (by omega) (by omega))⟩, by omega, ⟨fun p hp' => ?_, fun p p' q q' h1 h2 h3 h4 h5 => hK.2 p p' q q' h1 h2 h3 (by rw [← r82]; exact h4) (by rw [← r82]; exact h5)⟩, ?_⟩, fun q h1 h2 => at' q (by omega) (by omega) (by omega) (by omega)⟩
  · rcases hK.1 p hp' with ⟨z1, z2⟩ | ⟨q, e2, z1, z2, z3, z4, z5⟩
    · exact .inl ⟨z1, by rw [r82]; exact z2⟩
    · exact .inr ⟨q, e2, z1, by rw [r82]; exact z2, z3, by omega, z5.rg (fun c h1 h2 => at' c (by omega) (by omega) (by omega) (by omega))⟩
  · unfold Bdg at *
    rw [s5]
    dsimp only
    omega
theorem Kp.fn {h : Hp} {x : Nat} {kd kd' : Nat → Option Dd} (H : Kp h x kd) (e : ∀ p, p < 3 → (kd p = none ∧ kd' p = none) ∨ ∃ e e', kd p = some e ∧ kd' p = some e' ∧ ∀ k, k < 1382 → e' k = e k) : Kp h x kd' := by
  refine ⟨fun p hp => ?_, H.2⟩
  rcases e p hp with ⟨e1, e2⟩ | ⟨e1, e2, h1, h2, h3⟩
  · rcases H.1 p hp with ⟨z1, z2⟩ | ⟨q, e3, z1, z2, z3, z4, z5⟩
    · exact .inl ⟨e2, z2⟩
    · rw [e1] at z1; cases z1
  · rcases H.1 p hp with ⟨z1, z2⟩ | ⟨q, e3, z1, z2, z3, z4, z5⟩
    · rw [h1] at z1; cases z1
    · rw [h1] at z1
      cases z1
      exact .inr ⟨q, e2, h2, z2, z3, z4, z5.fn h3 (z5.2.2.fn h3)⟩
theorem imF_lo {D : Dd} {p k : Nat} (hk : k < 1382) : imF D p 1382 k = D k := if_neg (by omega)
theorem imF_at {D : Dd} {p k : Nat} (hk : k < 1382) : imF D p 1382 (1382 * (p + 1) + k) = D k := by
  unfold imF
  rw [if_pos (by omega), show 1382 * (p + 1) + k - 1382 * (p + 1) = k by omega]
theorem imF_ne {D : Dd} {p q k : Nat} (h : q ≠ p) (hk : k < 1382) : imF D p 1382 (1382 * (q + 1) + k) = D (1382 * (q + 1) + k) := if_neg (by omega)
/-- what stands behind image(p), D taken at place p -/
theorem LI.image {h1 : Hp} {x p : Nat} {b : Nat × Nat} {D : Dd} {kf : Nat → Int} (hp : p < 3) {R : Nat} (hFB : FB h1 x D R) (hq : x + 115 ≤ qt h1) (hM : MS h1 (x + 100) D kf) (hf : ∀ p, p < 3 → kf p = 0 ∨ kf p = 1) (hK1 : ∃ q, qr h1 (x + 82) p = some q ∧ x + 115 ≤ q ∧ q + 81 ≤ qt h1 ∧ Stt h1 q D) (hK2 : ∀ p', p' < 3 → p' ≠ p → (kf p' = 0 ∧ qr h1 (x + 82) p' = none) ∨ ∃ q, kf p' = 1 ∧ qr h1 (x + 82) p' = some q ∧ x + 115 ≤ q ∧ q + 81 ≤ qt h1 ∧ Stt h1 q (fun k => D (1382 * (p' + 1) + k))) (hK3 : ∀ p p' q q', p < 3 → p' < 3 → p ≠ p' → qr h1 (x + 82) p = some q → qr h1 (x + 82) p' = some q' → q + 81 ≤ q' ∨ q' + 81 ≤ q) (hB : Bdg (kdo (imF D p 1382) (fu kf p 1)) (ql h1 R) b) : LI (wi (wi h1 (x + 101) (imF D p 1382)) (x + 102) (fu kf p 1)) x b := by
  have e2 : Qx h1 (wi (wi h1 (x + 101) (imF D p 1382)) (x + 102) (fu kf p 1)) (pY x) := (Qx.wi h1 _ (by unfold pY; omega)).tr (Qx.wi _ _ (by unfold pY; omega))
  have hS := hFB.1.1.2.2
  have hS' : Stt h1 (x + 1) (imF D p 1382) := hS.fn (fun k hk => imF_lo hk) (hS.2.2.fn (fun k hk => imF_lo hk))
  have hFB' : FB h1 x (imF D p 1382) R := hFB.upd (Qx.rf h1 (fun _ => False)) (fun z => z) (fun z => z) hS'
  have hC : CS h1 x (imF D p 1382) (kdo (imF D p 1382) (fu kf p 1)) b := by
    refine ⟨R, hFB', hq, ⟨fun p' hp' => ?_, hK3⟩, hB⟩
    by_cases e : p' = p
    · subst e
      obtain ⟨q, z2, z3, z4, z5⟩ := hK1
      refine .inr ⟨q, _, by unfold kdo; rw [fu_s, if_pos rfl], z2, z3, z4, z5.fn (fun k hk => imF_at hk) (z5.2.2.fn (fun k hk => imF_at hk))⟩
    · rcases hK2 p' hp' e with ⟨z1, z2⟩ | ⟨q, z1, z2, z3, z4, z5⟩
      · exact .inl ⟨by unfold kdo; rw [fu_n e, z1, if_neg (by omega)], z2⟩
      · exact .inr ⟨q, _, by unfold kdo; rw [fu_n e, z1, if_pos rfl], z2, z3, z4, z5.fn (fun k hk => imF_ne e hk) (z5.2.2.fn (fun k hk => imF_ne e hk))⟩
  refine ⟨imF D p 1382, fu kf p 1, hC.chy e2, hM.upd e2 (by rw [qi_wn (by omega), qi_ws]) qi_ws, fun p' hp' => ?_⟩
  unfold fu
  split
  · exact .inr rfl
  · exact hf p' hp'

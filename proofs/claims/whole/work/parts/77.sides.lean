/-! ===== the two sides ===== -/
theorem u_best {h h' : Hp} {a : Nat} {D : Dd} {g : Nat → Int} (H : Stt h a D) (k : qk h' = qk h ∧ ql h' = ql h ∧ qr h' = qr h) (hq : ∀ b, a ≤ b → b < a + 81 → qi h' b = qi (wm h a g) b) (hg : ∀ m, m < 12 → g m = chG D (bst D).2 (gk D) m) (hn : (bst D).1 ≠ -1) : Stt h' a (bsD D) := by
  have hI := H.2.2
  have hp := bfs_pk hI (gk D) zz 0 (-1, zz) (Nat.le_refl _) (fun j hj => by omega) (fun q => absurd rfl q) hn
  have hr := chG_rg hp (gk D) (Nat.le_refl _)
  have other : ∀ i, ¬ (1346 ≤ i ∧ i < 1358) → bsD D i = D i := fun i hi => if_neg hi
  have d9 : ∀ m, m < 12 → dco (bsD D) m = chG D (bst D).2 (gk D) m := fun m hm => by
    unfold dco bsD
    rw [if_pos (by omega), show 1346 + m - 1346 = m by omega]
  have en : ∀ b, (∀ m, m < 12 → b ≠ a + 5 + 5 * m) → a ≤ b → b < a + 81 → qi h' b = qi h b := fun b h1 h2 h3 => by rw [hq b h2 h3, qm_n h1]
  refine ⟨H.1.same k, ⟨fun m hm => ?_, fun c hc => (H.2.1.2.1 c hc).same (fun b h1 h2 => en b (fun m hm => by omega) (by omega) (by omega)) (fun k hk => other k (by unfold posC at hk; omega)), fun l hl => (H.2.1.2.2.1 l hl).same (fun b h1 h2 => en b (fun m hm => by omega) (by omega) (by omega)) (fun k hk => other k (by unfold posL at hk; omega)), fun k hk => ?_⟩, ?_⟩
  · obtain ⟨a0, a1, a2, a3, a4, a6, a7, a8, a9, b1, b2, b3, b4⟩ := H.2.1.1 m hm
    unfold MeC
    rw [hq (a + 5 + 5 * m) (by omega) (by omega), qm_s hm, en (a + 5 + 5 * m + 1) (fun m' _ => by omega) (by omega) (by omega), en (a + 5 + 5 * m + 2) (fun m' _ => by omega) (by omega) (by omega), en (a + 5 + 5 * m + 3) (fun m' _ => by omega) (by omega) (by omega), en (a + 5 + 5 * m + 4) (fun m' _ => by omega) (by omega) (by omega)]
    exact ⟨a0.trans (other _ (by omega)).symm, a1.trans (other _ (by omega)).symm, a2.trans (other _ (by omega)).symm, a3.trans (other _ (by omega)).symm, a4.trans (other _ (by omega)).symm, a6.trans (other _ (by omega)).symm, a7.trans (other _ (by omega)).symm, a8.trans (other _ (by omega)).symm, by rw [d9 m hm, fu_s, hg m hm], fun j hj => (b1 j hj).trans (other _ (by omega)).symm, fun j hj => (b2 j hj).trans (other _ (by omega)).symm, fun j hj => (b3 j hj).trans (other _ (by omega)).symm, fun j hj => (b4 j hj).trans (other _ (by omega)).symm⟩
  · rw [en (a + 4) (fun m hm => by omega) (by omega) (by omega), H.2.1.2.2.2 k hk]
    exact (other _ (by omega)).symm
  · refine ⟨fun m hm => ?_, fun c hc => (hI.2.1 c hc).same (fun k hk => other k (by unfold posC at hk; omega)), fun l hl => (hI.2.2.1 l hl).same (fun k hk => other k (by unfold posL at hk; omega)), fun k hk => by rw [show dmt (bsD D) k = dmt D k from other _ (by omega)]; exact hI.2.2.2.1 k hk, by rw [grd_c (d := D) (d' := bsD D) (fun m hm => other _ (by omega))]; exact hI.2.2.2.2⟩
    have hIm := hI.1 m hm
    have el : lot (bsD D) m = lot D m := by
      unfold lot
      have er : rng (bsD D) m = rng D m := by unfold rng; rw [show da (bsD D) m = da D m from other _ (by omega), show db (bsD D) m = db D m from other _ (by omega)]
      rw [er]
      refine sg_c (fun j hj => ?_)
      have hr := hIm.rg
      have hb := hIm.b
      have ha := hIm.a
      unfold mny
      rw [show dh (bsD D) m = dh D m from other _ (by omega), show db (bsD D) m = db D m from other _ (by omega), show dn (bsD D) m (db D m + (j : Int) + 40).toNat = dn D m (db D m + (j : Int) + 40).toNat from other _ (by omega)]
    unfold InvM
    rw [el, d9 m hm, show dk (bsD D) m = dk D m from other _ (by omega), show ds (bsD D) m = ds D m from other _ (by omega), show db (bsD D) m = db D m from other _ (by omega), show da (bsD D) m = da D m from other _ (by omega), show dh (bsD D) m = dh D m from other _ (by omega), show dv (bsD D) m = dv D m from other _ (by omega), show df (bsD D) m = df D m from other _ (by omega), show dt (bsD D) m = dt D m from other _ (by omega)]
    refine ⟨hIm.k, hIm.s, hIm.b, hIm.a, hIm.h, fun j hj => ?_, hIm.l, hIm.v, fun l hl => ?_, hIm.f, hr m⟩
    · rw [show dn (bsD D) m j = dn D m j from other _ (by omega)]; exact hIm.n j hj
    · rw [show dlo (bsD D) m l = dlo D m l from other _ (by omega), show dup (bsD D) m l = dup D m l from other _ (by omega), show dpr (bsD D) m l = dpr D m l from other _ (by omega)]; exact hIm.w l hl
/-- the cells are the same, numbers alone changed, and those not among P -/
def Qx (h h' : Hp) (P : Nat → Prop) : Prop := (qk h' = qk h ∧ ql h' = ql h ∧ qr h' = qr h ∧ qt h' = qt h) ∧ ∀ b, ¬ P b → qi h' b = qi h b
theorem Qx.rf (h : Hp) (P : Nat → Prop) : Qx h h P := ⟨⟨rfl, rfl, rfl, rfl⟩, fun _ _ => rfl⟩
theorem Qx.wi (h : Hp) {P : Nat → Prop} {b : Nat} (f : Nat → Int) (hb : P b) : Qx h (wi h b f) P := ⟨⟨rfl, rfl, rfl, rfl⟩, fun c hc => qi_wn (fun e => hc (e ▸ hb))⟩
theorem Qx.wj (h : Hp) {P : Nat → Prop} (b : Nat) (f : Nat → Int) : Qx h (wj h b f) P := ⟨⟨rfl, rfl, rfl, rfl⟩, fun _ _ => rfl⟩
theorem Qx.tr {h h1 h2 : Hp} {P : Nat → Prop} (a : Qx h h1 P) (b : Qx h1 h2 P) : Qx h h2 P := ⟨⟨b.1.1.trans a.1.1, b.1.2.1.trans a.1.2.1, b.1.2.2.1.trans a.1.2.2.1, b.1.2.2.2.trans a.1.2.2.2⟩, fun c hc => (b.2 c hc).trans (a.2 c hc)⟩
/-- the class's cells that may change -/
def pX (x b : Nat) : Prop := x ≤ b ∧ b < x + 100 ∧ b ≠ x + 83 ∧ b ≠ x + 84
/-- the model's -/
def pY (x b : Nat) : Prop := x + 101 ≤ b ∧ b < x + 115
theorem Stt.qx {h h' : Hp} {a : Nat} {d : Dd} {P : Nat → Prop} (H : Stt h a d) (e : Qx h h' P) (hP : ∀ b, a ≤ b → b < a + 81 → ¬ P b) : Stt h' a d :=
  ⟨H.1.same ⟨e.1.1, e.1.2.1, e.1.2.2.1⟩, ⟨fun m hm => (H.2.1.1 m hm).same (fun b h1 h2 => e.2 b (hP b (by omega) (by omega))) ⟨rfl, rfl, rfl, rfl, rfl, rfl, rfl, rfl, rfl, fun _ _ => rfl, fun _ _ => rfl, fun _ _ => rfl, fun _ _ => rfl⟩, fun c hc => (H.2.1.2.1 c hc).same (fun b h1 h2 => e.2 b (hP b (by omega) (by omega))) (fun _ _ => rfl), fun l hl => (H.2.1.2.2.1 l hl).same (fun b h1 h2 => e.2 b (hP b (by omega) (by omega))) (fun _ _ => rfl), fun k hk => by rw [e.2 (a + 4) (hP _ (by omega) (by omega))]; exact H.2.1.2.2.2 k hk⟩, H.2.2⟩
theorem FB.upd {h h' : Hp} {x R : Nat} {d d' : Dd} {P : Nat → Prop} (H : FB h x d R) (e : Qx h h' P) (h83 : ¬ P (x + 83)) (h84 : ¬ P (x + 84)) (S : Stt h' (x + 1) d') : FB h' x d' R := by
  obtain ⟨⟨⟨a1, a2, a3⟩, b1, b2, b3, b4, b5, b6, b7⟩, c1, c2, c3, c4, c5, c6, c7⟩ := H
  obtain ⟨⟨e1, e2, e3, e4⟩, e5⟩ := e
  refine ⟨⟨⟨by rw [e1]; exact a1, by rw [e3]; exact a2, S⟩, by rw [e3]; exact b1, ?_, ?_, by rw [e3]; exact b4, ?_, by rw [e4]; exact b6, by rw [e4]; exact b7⟩, by rw [e3]; exact c1, by rw [e1]; exact c2, by rw [e2]; exact c3, by rw [e3]; exact c4, ?_, by rw [e3]; exact c6, ?_⟩
  · unfold Chv isCh at *
    rw [e1, e2, e3, e5 (x + 83 + 1) h84]
    exact b2
  · rw [e5 (x + 83) h83]; exact b3
  · unfold isSp at *
    rw [e1, e2, e3]; exact b5
  · unfold isDr at *
    rw [e1, e2, e3]; exact c5
  · unfold isCa at *
    rw [e1, e2, e3]; exact c7
/-- what is kept, and where -/
def Kp (h : Hp) (x : Nat) (kd : Nat → Option Dd) : Prop := (∀ p, p < 3 → (kd p = none ∧ qr h (x + 82) p = none) ∨ ∃ q e, kd p = some e ∧ qr h (x + 82) p = some q ∧ x + 115 ≤ q ∧ q + 81 ≤ qt h ∧ Stt h q e) ∧ ∀ p p' q q', p < 3 → p' < 3 → p ≠ p' → qr h (x + 82) p = some q → qr h (x + 82) p' = some q' → q + 81 ≤ q' ∨ q' + 81 ≤ q
def nN (kd : Nat → Option Dd) (p : Nat) : Nat := match kd p with
  | none => 1
  | some _ => 0
def nF (kd : Nat → Option Dd) : Nat := nN kd 0 + nN kd 1 + nN kd 2
def pot (l : Nat) : Nat × Nat := if l = 2881 then (2, 224000) else if l = 24000 then (1, 200000) else (0, 0)
def Bdg (kd : Nat → Option Dd) (l : Nat) (b : Nat × Nat) : Prop := 81 * nF kd + (pot l).1 ≤ b.1 ∧ 1462 * nF kd + (pot l).2 ≤ b.2
def CS (h : Hp) (x : Nat) (d : Dd) (kd : Nat → Option Dd) (b : Nat × Nat) : Prop := ∃ R, FB h x d R ∧ x + 115 ≤ qt h ∧ Kp h x kd ∧ Bdg kd (ql h R) b
def MS (h : Hp) (y : Nat) (D : Dd) (kf : Nat → Int) : Prop := Mo h y ∧ qi h (y + 1) = D ∧ qi h (y + 2) = kf
def kdo (D : Dd) (kf : Nat → Int) (p : Nat) : Option Dd := if kf p = 1 then some (fun k => D (1382 * (p + 1) + k)) else none
def LI (h : Hp) (x : Nat) (b : Nat × Nat) : Prop := ∃ (D : Dd) (kf : Nat → Int), CS h x D (kdo D kf) b ∧ MS h (x + 100) D kf ∧ ∀ p, p < 3 → kf p = 0 ∨ kf p = 1
theorem Kp.qx {h h' : Hp} {x : Nat} {kd : Nat → Option Dd} {P : Nat → Prop} (H : Kp h x kd) (e : Qx h h' P) (hP : ∀ b, x + 115 ≤ b → ¬ P b) : Kp h' x kd := by
  refine ⟨fun p hp => ?_, fun p p' q q' h1 h2 h3 h4 h5 => H.2 p p' q q' h1 h2 h3 (by rw [← e.1.2.2.1]; exact h4) (by rw [← e.1.2.2.1]; exact h5)⟩
  rcases H.1 p hp with ⟨z1, z2⟩ | ⟨q, e2, z1, z2, z3, z4, z5⟩
  · exact .inl ⟨z1, by rw [e.1.2.2.1]; exact z2⟩
  · exact .inr ⟨q, e2, z1, by rw [e.1.2.2.1]; exact z2, z3, by rw [e.1.2.2.2]; exact z4, z5.qx e (fun b h1 h2 => hP b (by omega))⟩
theorem CS.upd {h h' : Hp} {x : Nat} {d d' : Dd} {kd : Nat → Option Dd} {b : Nat × Nat} (H : CS h x d kd b) (e : Qx h h' (pX x)) (S : Stt h' (x + 1) d') : CS h' x d' kd b := by
  obtain ⟨R, h1, h2, h3, h4⟩ := H
  refine ⟨R, h1.upd e (by unfold pX; omega) (by unfold pX; omega) S, by rw [e.1.2.2.2]; exact h2, h3.qx e (fun b hb => by unfold pX; omega), by rw [e.1.2.1]; exact h4⟩
theorem MS.updx {h h' : Hp} {x : Nat} {D : Dd} {kf : Nat → Int} (H : MS h (x + 100) D kf) (e : Qx h h' (pX x)) : MS h' (x + 100) D kf := by
  obtain ⟨h1, h2, h3⟩ := H
  refine ⟨?_, by rw [e.2 _ (by unfold pX; omega)]; exact h2, by rw [e.2 _ (by unfold pX; omega)]; exact h3⟩
  unfold Mo at *
  rw [e.1.1, e.1.2.1, e.1.2.2.1]
  exact h1
theorem CS.chy {h h' : Hp} {x : Nat} {d : Dd} {kd : Nat → Option Dd} {b : Nat × Nat} (H : CS h x d kd b) (e : Qx h h' (pY x)) : CS h' x d kd b := by
  obtain ⟨R, h1, h2, h3, h4⟩ := H
  refine ⟨R, h1.upd e (by unfold pY; omega) (by unfold pY; omega) (h1.1.1.2.2.qx e (fun b _ _ => by unfold pY; omega)), by rw [e.1.2.2.2]; exact h2, h3.qx e (fun b hb => by unfold pY; omega), by rw [e.1.2.1]; exact h4⟩
theorem MS.upd {h h' : Hp} {x : Nat} {D D' : Dd} {kf kf' : Nat → Int} (H : MS h (x + 100) D kf) (e : Qx h h' (pY x)) (h1 : qi h' (x + 101) = D') (h2 : qi h' (x + 102) = kf') : MS h' (x + 100) D' kf' := by
  refine ⟨?_, h1, h2⟩
  have := H.1
  unfold Mo at *
  rw [e.1.1, e.1.2.1, e.1.2.2.1]
  exact this
theorem kdo_c {D D' : Dd} {kf : Nat → Int} (h : ∀ k, 1382 ≤ k → D' k = D k) : ∀ p, p < 3 → kdo D' kf p = kdo D kf p := fun p _ => by
  unfold kdo
  by_cases e : kf p = 1
  · rw [if_pos e, if_pos e]
    congr 1
    funext k
    exact h _ (by omega)
  · rw [if_neg e, if_neg e]
theorem Kp.kc {h : Hp} {x : Nat} {kd kd' : Nat → Option Dd} (H : Kp h x kd) (e : ∀ p, p < 3 → kd' p = kd p) : Kp h x kd' := ⟨fun p hp => by rw [e p hp]; exact H.1 p hp, H.2⟩
theorem nF_c {kd kd' : Nat → Option Dd} (e : ∀ p, p < 3 → kd' p = kd p) : nF kd' = nF kd := by unfold nF nN; rw [e 0 (by omega), e 1 (by omega), e 2 (by omega)]
theorem CS.kc {h : Hp} {x : Nat} {d : Dd} {kd kd' : Nat → Option Dd} {b : Nat × Nat} (H : CS h x d kd b) (e : ∀ p, p < 3 → kd' p = kd p) : CS h x d kd' b := by
  obtain ⟨R, h1, h2, h3, h4⟩ := H
  exact ⟨R, h1, h2, h3.kc e, by unfold Bdg at *; rw [nF_c e]; exact h4⟩
/-- a class-side write D -> D' and the model's write of the same give the relation again -/
theorem LI.both {h h1 h2 : Hp} {x : Nat} {b : Nat × Nat} {D D' : Dd} {kf : Nat → Int} (hC : CS h x D (kdo D kf) b) (hM : MS h (x + 100) D kf) (hf : ∀ p, p < 3 → kf p = 0 ∨ kf p = 1) (e1 : Qx h h1 (pX x)) (S : Stt h1 (x + 1) D') (e2 : Qx h1 h2 (pY x)) (hd : qi h2 (x + 101) = D') (hk : qi h2 (x + 102) = qi h1 (x + 102)) (hD : ∀ k, 1382 ≤ k → D' k = D k) : LI h2 x b :=
  ⟨D', kf, ((hC.upd e1 S).chy e2).kc (kdo_c hD), (hM.updx e1).upd e2 hd (by rw [hk]; exact (hM.updx e1).2.2), hf⟩

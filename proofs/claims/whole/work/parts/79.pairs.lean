/-! ===== each call, on both sides: what it answers, what it makes of the numbers ===== -/
noncomputable def rI {α : Type} (p : Prop) (a b : α) : α := @ite α p (Classical.propDecidable p) a b
theorem rI_t {α : Type} {p : Prop} {a b : α} (h : p) : rI p a b = a := if_pos h
theorem rI_f {α : Type} {p : Prop} {a b : α} (h : ¬ p) : rI p a b = b := if_neg h
/-- the class's side of a call that leaves D' -/
def N7 (h : Hp) (x : Nat) (D' : Dd) (K : RT) (r : AV) : Prop := ∀ h1, Qx h h1 (pX x) → Stt h1 (x + 1) D' → K (some r) h1
/-- the model's side -/
def N8 (h : Hp) (x : Nat) (D' : Dd) (K : RT) (r : AV) : Prop := ∀ h2, Qx h h2 (pY x) → qi h2 (x + 101) = D' → qi h2 (x + 102) = qi h (x + 102) → K (some r) h2
theorem N8.self {h : Hp} {x : Nat} {D' : Dd} {K : RT} {r : AV} (H : N8 h x D' K r) (e : qi h (x + 101) = D') : K (some r) h := H h (Qx.rf h _) e rfl
theorem N8.w1 {h : Hp} {x : Nat} {D' : Dd} {K : RT} {r : AV} (H : N8 h x D' K r) : K (some r) (wi h (x + 101) D') := H _ (Qx.wi h _ (by unfold pY; omega)) qi_ws (qi_wn (by omega))
theorem N7.w1 {h : Hp} {x : Nat} {D' : Dd} {K : RT} {r : AV} (H : N7 h x D' K r) {b : Nat} {f : Nat → Int} (hb : pX x b) (S : Stt (wi h b f) (x + 1) D') : K (some r) (wi h b f) := H _ (Qx.wi h _ hb) S
-- measure
noncomputable def rMs (m k s b e : Int) : Int := rI (msOk m k s b e) 1 0
noncomputable def fMs (D : Dd) (m k s b e : Int) : Dd := rI (msOk m k s b e) (mdF D m.toNat k s b e) D
theorem a7_measure {h : Hp} {x : Nat} {D : Dd} {K : RT} {m k s b e : Int} (H : Nw h x (x + 1) D) (i1 : inI m) (i2 : inI k) (i3 : inI s) (i4 : inI b) (i5 : inI e) (N : N7 h x (fMs D m k s b e) K (vi (rMs m k s b e))) : T_X7_measure [vr (some x), vi m, vi k, vi s, vi b, vi e] h K := by
  refine ⟨x, x + 1, m, k, s, b, e, D, rfl, H, i1, i2, i3, i4, i5, fun z => ?_, fun z => ?_⟩
  · unfold fMs rMs at N; rw [rI_f z, rI_f z] at N; exact N h (Qx.rf h _) H.2.2
  · unfold fMs rMs at N; rw [rI_t z, rI_t z] at N
    obtain ⟨z1, z2, z3, z4⟩ := z
    exact N.w1 (by unfold pX; omega) (u_measure H.2.2 (by omega) z2 z3 z4)
theorem a8_measure {h : Hp} {x : Nat} {D : Dd} {kf : Nat → Int} {K : RT} {m k s b e : Int} (H : MS h (x + 100) D kf) (hI : Inv D) (i1 : inI m) (i2 : inI k) (i3 : inI s) (i4 : inI b) (i5 : inI e) (N : N8 h x (fMs D m k s b e) K (vi (rMs m k s b e))) : T_X8_measure [vr (some (x + 100)), vi m, vi k, vi s, vi b, vi e] h K := by
  refine ⟨x + 100, m, k, s, b, e, rfl, H.1, i1, i2, i3, i4, i5, fun z => ?_, fun z => ?_⟩
  · unfold fMs rMs at N; rw [rI_f z, rI_f z] at N; exact N.self H.2.1
  · unfold fMs rMs at N; rw [rI_t z, rI_t z] at N; rw [H.2.1]; exact N.w1
-- book
def oBk (D : Dd) (m z n : Int) : Prop := (0 ≤ m ∧ m ≤ 11) ∧ (0 ≤ n ∧ n ≤ 9) ∧ bkOk D m.toNat z n
noncomputable def rBk (D : Dd) (m z n : Int) : Int := rI (oBk D m z n) 1 0
noncomputable def fBk (D : Dd) (m z n : Int) : Dd := rI (oBk D m z n) (bdF D m.toNat z n) D
theorem a7_book {h : Hp} {x : Nat} {D : Dd} {K : RT} {m z n : Int} (H : Nw h x (x + 1) D) (i1 : inI m) (i2 : inI z) (i3 : inI n) (N : N7 h x (fBk D m z n) K (vi (rBk D m z n))) : T_X7_book [vr (some x), vi m, vi z, vi n] h K := by
  refine ⟨x, x + 1, m, z, n, D, rfl, H, i1, i2, i3, fun q => ?_, fun q g hg => ?_⟩
  · unfold fBk rBk at N; rw [rI_f (show ¬ oBk D m z n from q), rI_f (show ¬ oBk D m z n from q)] at N; exact N h (Qx.rf h _) H.2.2
  · unfold fBk rBk at N; rw [rI_t (show oBk D m z n from q), rI_t (show oBk D m z n from q)] at N
    obtain ⟨z1, z2, z3⟩ := q
    exact N _ ((Qx.wi h _ (by unfold pX; omega)).tr (Qx.wi _ _ (by unfold pX; omega))) (u_book H.2.2 (by omega) z2 z3 hg)
theorem a8_book {h : Hp} {x : Nat} {D : Dd} {kf : Nat → Int} {K : RT} {m z n : Int} (H : MS h (x + 100) D kf) (hI : Inv D) (i1 : inI m) (i2 : inI z) (i3 : inI n) (N : N8 h x (fBk D m z n) K (vi (rBk D m z n))) : T_X8_book [vr (some (x + 100)), vi m, vi z, vi n] h K := by
  refine ⟨x + 100, m, z, n, rfl, H.1, by rw [H.2.1]; exact hI, i1, i2, i3, fun q => ?_, fun q => ?_⟩
  · rw [H.2.1] at q; unfold fBk rBk at N; rw [rI_f (show ¬ oBk D m z n from q), rI_f (show ¬ oBk D m z n from q)] at N; exact N.self H.2.1
  · rw [H.2.1] at q; unfold fBk rBk at N; rw [rI_t (show oBk D m z n from q), rI_t (show oBk D m z n from q)] at N; rw [H.2.1]; exact N.w1
-- tear
noncomputable def rTr (D : Dd) (m : Int) : Int := rI (0 ≤ m ∧ m ≤ 11) (dh D m.toNat) 0
noncomputable def fTr (D : Dd) (m : Int) : Dd := rI (0 ≤ m ∧ m ≤ 11) (fu D (48 + m.toNat) 0) D
theorem a7_tear {h : Hp} {x : Nat} {D : Dd} {K : RT} {m : Int} (H : Nw h x (x + 1) D) (i1 : inI m) (N : N7 h x (fTr D m) K (vi (rTr D m))) : T_X7_tear [vr (some x), vi m] h K := by
  refine ⟨x, x + 1, m, D, rfl, H, i1, fun q => ?_, fun q => ?_⟩
  · unfold fTr rTr at N; rw [rI_f q, rI_f q] at N; exact N h (Qx.rf h _) H.2.2
  · unfold fTr rTr at N; rw [rI_t q, rI_t q] at N
    exact N.w1 (by unfold pX; omega) (u_tear H.2.2 (by omega))
theorem a8_tear {h : Hp} {x : Nat} {D : Dd} {kf : Nat → Int} {K : RT} {m : Int} (H : MS h (x + 100) D kf) (hI : Inv D) (i1 : inI m) (N : N8 h x (fTr D m) K (vi (rTr D m))) : T_X8_tear [vr (some (x + 100)), vi m] h K := by
  refine ⟨x + 100, m, rfl, H.1, i1, fun M e hM => ?_, fun q => ?_, fun q q2 => ?_, fun q q2 => ?_⟩
  · rw [H.2.1]; have := (hI.1 M hM).h; unfold inI; omega
  · unfold fTr rTr at N; rw [rI_f q, rI_f q] at N; exact N.self H.2.1
  · rw [H.2.1] at q2; unfold fTr rTr at N; rw [rI_t q, rI_t q, q2] at N
    have e : fu D (48 + m.toNat) 0 = D := by rw [← q2]; exact fu_self D (48 + m.toNat)
    rw [e] at N; exact N.self H.2.1
  · rw [H.2.1] at q2; unfold fTr rTr at N; rw [rI_t q, rI_t q] at N
    have := (hI.1 m.toNat (by omega)).h
    rw [show dh D m.toNat = 1 by omega] at N
    rw [H.2.1]; exact N.w1
-- share
def oSh (c m s : Int) : Prop := (0 ≤ c ∧ c ≤ 5) ∧ (0 ≤ m ∧ m ≤ 11) ∧ (-3 ≤ s ∧ s ≤ 3)
noncomputable def rSh (c m s : Int) : Int := rI (oSh c m s) 1 0
noncomputable def fSh (D : Dd) (c m s : Int) : Dd := rI (oSh c m s) (fu D (1212 + 12 * c.toNat + m.toNat) s) D
theorem a7_share {h : Hp} {x : Nat} {D : Dd} {K : RT} {c m s : Int} (H : Nw h x (x + 1) D) (i1 : inI c) (i2 : inI m) (i3 : inI s) (N : N7 h x (fSh D c m s) K (vi (rSh c m s))) : T_X7_share [vr (some x), vi c, vi m, vi s] h K := by
  refine ⟨x, x + 1, c, m, s, D, rfl, H, i1, i2, i3, fun q => ?_, fun q => ?_⟩
  · unfold fSh rSh at N; rw [rI_f (show ¬ oSh c m s from q), rI_f (show ¬ oSh c m s from q)] at N; exact N h (Qx.rf h _) H.2.2
  · unfold fSh rSh at N; rw [rI_t (show oSh c m s from q), rI_t (show oSh c m s from q)] at N
    exact N.w1 (by unfold pX; omega) (u_share H.2.2 (by omega) (by omega) q.2.2)
theorem a8_share {h : Hp} {x : Nat} {D : Dd} {kf : Nat → Int} {K : RT} {c m s : Int} (H : MS h (x + 100) D kf) (hI : Inv D) (i1 : inI c) (i2 : inI m) (i3 : inI s) (N : N8 h x (fSh D c m s) K (vi (rSh c m s))) : T_X8_share [vr (some (x + 100)), vi c, vi m, vi s] h K := by
  refine ⟨x + 100, c, m, s, rfl, H.1, i1, i2, i3, fun q => ?_, fun q => ?_⟩
  · unfold fSh rSh at N; rw [rI_f (show ¬ oSh c m s from q), rI_f (show ¬ oSh c m s from q)] at N; exact N.self H.2.1
  · unfold fSh rSh at N; rw [rI_t (show oSh c m s from q), rI_t (show oSh c m s from q)] at N; rw [H.2.1]; exact N.w1
-- ends
def oEn (c lo hi : Int) : Prop := (0 ≤ c ∧ c ≤ 5) ∧ lo ≤ hi ∧ (-100000 ≤ lo ∧ hi ≤ 100000)
noncomputable def rEn (c lo hi : Int) : Int := rI (oEn c lo hi) 1 0
noncomputable def fEn (D : Dd) (c lo hi : Int) : Dd := rI (oEn c lo hi) (fu (fu D (1284 + c.toNat) lo) (1290 + c.toNat) hi) D
theorem a7_ends {h : Hp} {x : Nat} {D : Dd} {K : RT} {c lo hi : Int} (H : Nw h x (x + 1) D) (i1 : inI c) (i2 : inI lo) (i3 : inI hi) (N : N7 h x (fEn D c lo hi) K (vi (rEn c lo hi))) : T_X7_ends [vr (some x), vi c, vi lo, vi hi] h K := by
  refine ⟨x, x + 1, c, lo, hi, D, rfl, H, i1, i2, i3, fun q => ?_, fun q => ?_⟩
  · unfold fEn rEn at N; rw [rI_f (show ¬ oEn c lo hi from q), rI_f (show ¬ oEn c lo hi from q)] at N; exact N h (Qx.rf h _) H.2.2
  · unfold fEn rEn at N; rw [rI_t (show oEn c lo hi from q), rI_t (show oEn c lo hi from q)] at N
    exact N.w1 (by unfold pX; omega) (u_ends H.2.2 (by omega) q.2.1 q.2.2)
theorem a8_ends {h : Hp} {x : Nat} {D : Dd} {kf : Nat → Int} {K : RT} {c lo hi : Int} (H : MS h (x + 100) D kf) (hI : Inv D) (i1 : inI c) (i2 : inI lo) (i3 : inI hi) (N : N8 h x (fEn D c lo hi) K (vi (rEn c lo hi))) : T_X8_ends [vr (some (x + 100)), vi c, vi lo, vi hi] h K := by
  refine ⟨x + 100, c, lo, hi, rfl, H.1, i1, i2, i3, fun q => ?_, fun q => ?_⟩
  · unfold fEn rEn at N; rw [rI_f (show ¬ oEn c lo hi from q), rI_f (show ¬ oEn c lo hi from q)] at N; exact N.self H.2.1
  · unfold fEn rEn at N; rw [rI_t (show oEn c lo hi from q), rI_t (show oEn c lo hi from q)] at N; rw [H.2.1]; exact N.w1
-- join
noncomputable def rJn (m f t : Int) : Int := rI (jnOk m f t) 1 0
noncomputable def fJn (D : Dd) (m f t : Int) : Dd := rI (jnOk m f t) (fu (fu D (1188 + m.toNat) f) (1200 + m.toNat) t) D
theorem a7_join {h : Hp} {x : Nat} {D : Dd} {K : RT} {m f t : Int} (H : Nw h x (x + 1) D) (i1 : inI m) (i2 : inI f) (i3 : inI t) (N : N7 h x (fJn D m f t) K (vi (rJn m f t))) : T_X7_join [vr (some x), vi m, vi f, vi t] h K := by
  refine ⟨x, x + 1, m, f, t, D, rfl, H, i1, i2, i3, fun q => ?_, fun q => ?_⟩
  · unfold fJn rJn at N; rw [rI_f q, rI_f q] at N; exact N h (Qx.rf h _) H.2.2
  · unfold fJn rJn at N; rw [rI_t q, rI_t q] at N
    obtain ⟨q1, q2⟩ := q
    exact N.w1 (by unfold pX; omega) (u_join H.2.2 (by omega) q2)
theorem a8_join {h : Hp} {x : Nat} {D : Dd} {kf : Nat → Int} {K : RT} {m f t : Int} (H : MS h (x + 100) D kf) (hI : Inv D) (i1 : inI m) (i2 : inI f) (i3 : inI t) (N : N8 h x (fJn D m f t) K (vi (rJn m f t))) : T_X8_join [vr (some (x + 100)), vi m, vi f, vi t] h K := by
  refine ⟨x + 100, m, f, t, rfl, H.1, i1, i2, i3, fun q => ?_, fun q => ?_⟩
  · unfold fJn rJn at N; rw [rI_f q, rI_f q] at N; exact N.self H.2.1
  · unfold fJn rJn at N; rw [rI_t q, rI_t q] at N; rw [H.2.1]; exact N.w1
-- level
noncomputable def rLv (D : Dd) (m b e p : Int) : Int := rI (lvOk D m b e p) (dv D m.toNat + 1) (-1)
noncomputable def fLv (D : Dd) (m b e p : Int) : Dd := rI (lvOk D m b e p) (lvF D m.toNat b e p) D
theorem a7_level {h : Hp} {x : Nat} {D : Dd} {K : RT} {m b e p : Int} (H : Nw h x (x + 1) D) (i1 : inI m) (i2 : inI b) (i3 : inI e) (i4 : inI p) (N : N7 h x (fLv D m b e p) K (vi (rLv D m b e p))) : T_X7_level [vr (some x), vi m, vi b, vi e, vi p] h K := by
  refine ⟨x, x + 1, m, b, e, p, D, rfl, H, i1, i2, i3, i4, fun q => ?_, fun q => ?_⟩
  · unfold fLv rLv at N; rw [rI_f q, rI_f q] at N; exact N h (Qx.rf h _) H.2.2
  · unfold fLv rLv at N; rw [rI_t q, rI_t q] at N
    obtain ⟨q1, q2, q3, q4, q5⟩ := q
    refine N _ ?_ (u_level H.2.2 (by omega) q2 q3 q4 q5)
    unfold lvH
    exact (((Qx.wi h _ (by unfold pX; omega)).tr (Qx.wi _ _ (by unfold pX; omega))).tr (Qx.wi _ _ (by unfold pX; omega))).tr (Qx.wi _ _ (by unfold pX; omega))
theorem a8_level {h : Hp} {x : Nat} {D : Dd} {kf : Nat → Int} {K : RT} {m b e p : Int} (H : MS h (x + 100) D kf) (hI : Inv D) (i1 : inI m) (i2 : inI b) (i3 : inI e) (i4 : inI p) (N : N8 h x (fLv D m b e p) K (vi (rLv D m b e p))) : T_X8_level [vr (some (x + 100)), vi m, vi b, vi e, vi p] h K := by
  refine ⟨x + 100, m, b, e, p, rfl, H.1, by rw [H.2.1]; exact hI, i1, i2, i3, i4, fun q => ?_, fun q => ?_⟩
  · rw [H.2.1] at q; unfold fLv rLv at N; rw [rI_f q, rI_f q] at N; exact N.self H.2.1
  · rw [H.2.1] at q; unfold fLv rLv at N; rw [rI_t q, rI_t q] at N; rw [H.2.1]; exact N.w1
-- plain
noncomputable def rPl (D : Dd) (m : Int) : Int := rI (0 ≤ m ∧ m ≤ 11) (dv D m.toNat) (-1)
noncomputable def fPl (D : Dd) (m : Int) : Dd := rI (0 ≤ m ∧ m ≤ 11) (fu D (1032 + m.toNat) 0) D
theorem a7_plain {h : Hp} {x : Nat} {D : Dd} {K : RT} {m : Int} (H : Nw h x (x + 1) D) (i1 : inI m) (N : N7 h x (fPl D m) K (vi (rPl D m))) : T_X7_plain [vr (some x), vi m] h K := by
  refine ⟨x, x + 1, m, D, rfl, H, i1, fun q => ?_, fun q => ?_⟩
  · unfold fPl rPl at N; rw [rI_f q, rI_f q] at N; exact N h (Qx.rf h _) H.2.2
  · unfold fPl rPl at N; rw [rI_t q, rI_t q] at N
    exact N.w1 (by unfold pX; omega) (u_plain H.2.2 (by omega))
theorem a8_plain {h : Hp} {x : Nat} {D : Dd} {kf : Nat → Int} {K : RT} {m : Int} (H : MS h (x + 100) D kf) (hI : Inv D) (i1 : inI m) (N : N8 h x (fPl D m) K (vi (rPl D m))) : T_X8_plain [vr (some (x + 100)), vi m] h K := by
  refine ⟨x + 100, m, rfl, H.1, i1, fun q => ?_, fun q => ?_⟩
  · unfold fPl rPl at N; rw [rI_f q, rI_f q] at N; exact N.self H.2.1
  · unfold fPl rPl at N; rw [rI_t q, rI_t q] at N; rw [H.2.1]; exact N.w1
-- part
noncomputable def rPt (D : Dd) (l s : Int) : Int := rI (ptOk D l s) (dct D l.toNat + 1) (-1)
noncomputable def fPt (D : Dd) (l s : Int) : Dd := rI (ptOk D l s) (ptF D l.toNat s) D
theorem a7_part {h : Hp} {x : Nat} {D : Dd} {K : RT} {l s : Int} (H : Nw h x (x + 1) D) (i1 : inI l) (i2 : inI s) (N : N7 h x (fPt D l s) K (vi (rPt D l s))) : T_X7_part [vr (some x), vi l, vi s] h K := by
  refine ⟨x, x + 1, l, s, D, rfl, H, i1, i2, fun q => ?_, fun q => ?_⟩
  · unfold fPt rPt at N; rw [rI_f q, rI_f q] at N; exact N h (Qx.rf h _) H.2.2
  · unfold fPt rPt at N; rw [rI_t q, rI_t q] at N
    obtain ⟨q1, q2, q3⟩ := q
    exact N _ ((Qx.wi h _ (by unfold pX; omega)).tr (Qx.wi _ _ (by unfold pX; omega))) (u_part H.2.2 (by omega) q2 q3)
theorem a8_part {h : Hp} {x : Nat} {D : Dd} {kf : Nat → Int} {K : RT} {l s : Int} (H : MS h (x + 100) D kf) (hI : Inv D) (i1 : inI l) (i2 : inI s) (N : N8 h x (fPt D l s) K (vi (rPt D l s))) : T_X8_part [vr (some (x + 100)), vi l, vi s] h K := by
  refine ⟨x + 100, l, s, rfl, H.1, by rw [H.2.1]; exact hI, i1, i2, fun q => ?_, fun q => ?_⟩
  · rw [H.2.1] at q; unfold fPt rPt at N; rw [rI_f q, rI_f q] at N; exact N.self H.2.1
  · rw [H.2.1] at q; unfold fPt rPt at N; rw [rI_t q, rI_t q] at N; rw [H.2.1]; exact N.w1
-- sweep
noncomputable def rSw (D : Dd) (l : Int) : Int := rI (0 ≤ l ∧ l ≤ 1) (dct D l.toNat) (-1)
noncomputable def fSw (D : Dd) (l : Int) : Dd := rI (0 ≤ l ∧ l ≤ 1) (fu D (1296 + l.toNat) 0) D
theorem a7_sweep {h : Hp} {x : Nat} {D : Dd} {K : RT} {l : Int} (H : Nw h x (x + 1) D) (i1 : inI l) (N : N7 h x (fSw D l) K (vi (rSw D l))) : T_X7_sweep [vr (some x), vi l] h K := by
  refine ⟨x, x + 1, l, D, rfl, H, i1, fun q => ?_, fun q => ?_⟩
  · unfold fSw rSw at N; rw [rI_f q, rI_f q] at N; exact N h (Qx.rf h _) H.2.2
  · unfold fSw rSw at N; rw [rI_t q, rI_t q] at N
    exact N.w1 (by unfold pX; omega) (u_sweep H.2.2 (by omega))
theorem a8_sweep {h : Hp} {x : Nat} {D : Dd} {kf : Nat → Int} {K : RT} {l : Int} (H : MS h (x + 100) D kf) (hI : Inv D) (i1 : inI l) (N : N8 h x (fSw D l) K (vi (rSw D l))) : T_X8_sweep [vr (some (x + 100)), vi l] h K := by
  refine ⟨x + 100, l, rfl, H.1, i1, fun q => ?_, fun q => ?_⟩
  · unfold fSw rSw at N; rw [rI_f q, rI_f q] at N; exact N.self H.2.1
  · unfold fSw rSw at N; rw [rI_t q, rI_t q] at N; rw [H.2.1]; exact N.w1

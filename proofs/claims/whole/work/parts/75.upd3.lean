/-! ===== each call that writes, further ===== -/
theorem sg_one {f f' : Nat → Int} {m : Nat} : ∀ n, (∀ k, k < n → k ≠ m → f' k = f k) → sg f' n = sg f n + if m < n then f' m - f m else 0
  | 0, _ => by rw [sg_0, sg_0, if_neg (by omega)]; rfl
  | n + 1, h => by
    rw [sg_s, sg_s, sg_one n (fun k hk => h k (by omega))]
    by_cases e : n = m
    · subst e
      rw [if_neg (by omega), if_pos (by omega)]; omega
    · rw [h n (by omega) e]
      by_cases u : m < n
      · rw [if_pos u, if_pos (by omega)]; omega
      · rw [if_neg u, if_neg (by omega)]; omega
/-- measure m's numbers are as they were, but for its levels -/
theorem invM_lv {D D' : Dd} {m : Nat} (hIm : InvM D m) (o : ∀ i, (i = m ∨ i = 12 + m ∨ i = 24 + m ∨ i = 36 + m ∨ i = 48 + m ∨ (60 + 81 * m ≤ i ∧ i < 60 + 81 * m + 81) ∨ i = 1188 + m ∨ i = 1200 + m ∨ i = 1346 + m) → D' i = D i) (hv : 0 ≤ dv D' m ∧ dv D' m ≤ 4) (hw : ∀ l, l < 4 → (-40 ≤ dlo D' m l ∧ dlo D' m l ≤ 0) ∧ (0 ≤ dup D' m l ∧ dup D' m l ≤ 40) ∧ (0 ≤ dpr D' m l ∧ dpr D' m l ≤ 1000000)) : InvM D' m := by
  have el : lot D' m = lot D m := by
    unfold lot
    have er : rng D' m = rng D m := by unfold rng; rw [show da D' m = da D m from o _ (by omega), show db D' m = db D m from o _ (by omega)]
    rw [er]
    refine sg_c (fun j hj => ?_)
    have hr := hIm.rg
    have hb := hIm.b
    have ha := hIm.a
    unfold mny
    rw [show dh D' m = dh D m from o _ (by omega), show db D' m = db D m from o _ (by omega), show dn D' m (db D m + (j : Int) + 40).toNat = dn D m (db D m + (j : Int) + 40).toNat from o _ (by omega)]
  unfold InvM
  rw [el, show dk D' m = dk D m from o _ (by omega), show ds D' m = ds D m from o _ (by omega), show db D' m = db D m from o _ (by omega), show da D' m = da D m from o _ (by omega), show dh D' m = dh D m from o _ (by omega), show df D' m = df D m from o _ (by omega), show dt D' m = dt D m from o _ (by omega), show dco D' m = dco D m from o _ (by omega)]
  refine ⟨hIm.k, hIm.s, hIm.b, hIm.a, hIm.h, fun j hj => ?_, hIm.l, hv, hw, hIm.f, hIm.c⟩
  rw [show dn D' m j = dn D m j from o _ (by omega)]; exact hIm.n j hj
theorem grd_one {D D' : Dd} {m : Nat} (h : ∀ k, k < 12 → k ≠ m → dv D' k = dv D k) (hm : m < 12) : grd D' 12 = grd D 12 + ((if 0 < dv D' m then 1 else 0) - (if 0 < dv D m then 1 else 0)) := by
  have := sg_one (f := fun m => if 0 < dv D m then (1 : Int) else 0) (f' := fun m => if 0 < dv D' m then (1 : Int) else 0) (m := m) 12 (fun k h1 h2 => by rw [h k h1 h2])
  rw [if_pos hm] at this
  exact this
theorem u_plain {h : Hp} {a m : Nat} {D : Dd} (H : Stt h a D) (hm : m < 12) : Stt (wi h (a + 5 + 5 * m) (fu (qi h (a + 5 + 5 * m)) 8 0)) a (fu D (1032 + m) 0) := by
  have hI := H.2.2
  have hC := H.2.1.1 m hm
  have hIm := hI.1 m hm
  have other : ∀ i, i ≠ 1032 + m → fu D (1032 + m) 0 i = D i := fun i hi => fu_n hi
  have hD : ∀ k', ¬ posM m k' → fu D (1032 + m) 0 k' = D k' := fun k' hk => by unfold posM at hk; exact fu_n (by omega)
  have d8 : dv (fu D (1032 + m) 0) m = 0 := fu_s
  have hg := grd_one (D := D) (D' := fu D (1032 + m) 0) (m := m) (fun k h12 hk => other _ (by omega)) hm
  generalize fu D (1032 + m) 0 = D' at *
  refine H.me1 hm (k3 _ _ _) (fun b' _ _ hb => qi_wn (by omega)) hD ?_ ?_
  · refine mec_fld hC ?_ ?_ ?_ ?_ ?_ ?_ ?_ ?_ ?_ (fun j hj => other _ (by omega)) (fun j hj => other _ (by omega)) (fun j hj => other _ (by omega)) (fun j hj => other _ (by omega))
    · exact hC.1.trans (other _ (by omega)).symm
    · exact hC.2.1.trans (other _ (by omega)).symm
    · exact hC.2.2.1.trans (other _ (by omega)).symm
    · exact hC.2.2.2.1.trans (other _ (by omega)).symm
    · exact hC.2.2.2.2.1.trans (other _ (by omega)).symm
    · exact hC.2.2.2.2.2.1.trans (other _ (by omega)).symm
    · exact hC.2.2.2.2.2.2.1.trans (other _ (by omega)).symm
    · rw [d8]; rfl
    · exact hC.2.2.2.2.2.2.2.2.1.trans (other _ (by omega)).symm
  · refine hI.me hm hD (invM_lv hIm (fun i hi => other _ (by omega)) (by omega) (fun l hl => ?_)) ?_
    · rw [show dlo D' m l = dlo D m l from other _ (by omega), show dup D' m l = dup D m l from other _ (by omega), show dpr D' m l = dpr D m l from other _ (by omega)]; exact hIm.w l hl
    · rw [hg, d8, if_neg (by omega)]
      have := hI.2.2.2.2
      split <;> omega
theorem u_level {h : Hp} {a m : Nat} {D : Dd} {b e p : Int} (H : Stt h a D) (hm : m < 12) (h1 : canM b e) (h2 : 0 ≤ p ∧ p ≤ 1000000) (h3 : dv D m < 4) (h4 : ¬ (dv D m = 0 ∧ 8 ≤ grd D 12)) : Stt (lvH h (a + 5 + 5 * m) (dv D m) b e p) a (lvF D m b e p) := by
  have hI := H.2.2
  have hC := H.2.1.1 m hm
  have hIm := hI.1 m hm
  have hv := hIm.v
  unfold canM at h1
  obtain ⟨V, hV⟩ : ∃ V : Nat, dv D m = (V : Int) := ⟨(dv D m).toNat, by omega⟩
  have eF : lvF D m b e p = fu (fu (fu (fu D (1044 + (4 * m + V)) b) (1092 + (4 * m + V)) e) (1140 + (4 * m + V)) p) (1032 + m) ((V : Int) + 1) := by unfold lvF; rw [hV, Int.toNat_natCast]
  have eH : lvH h (a + 5 + 5 * m) (dv D m) b e p = wi (wi (wi (wi h (a + 5 + 5 * m + 2) (fu (qi h (a + 5 + 5 * m + 2)) V b)) (a + 5 + 5 * m + 3) (fu (qi h (a + 5 + 5 * m + 3)) V e)) (a + 5 + 5 * m + 4) (fu (qi h (a + 5 + 5 * m + 4)) V p)) (a + 5 + 5 * m) (fu (qi h (a + 5 + 5 * m)) 8 ((V : Int) + 1)) := by unfold lvH; rw [hV, Int.toNat_natCast]
  rw [eF, eH]
  have other : ∀ i, i ≠ 1044 + (4 * m + V) → i ≠ 1092 + (4 * m + V) → i ≠ 1140 + (4 * m + V) → i ≠ 1032 + m → fu (fu (fu (fu D (1044 + (4 * m + V)) b) (1092 + (4 * m + V)) e) (1140 + (4 * m + V)) p) (1032 + m) ((V : Int) + 1) i = D i := fun i a1 a2 a3 a4 => by rw [fu_n a4, fu_n a3, fu_n a2, fu_n a1]
  have d8 : dv (fu (fu (fu (fu D (1044 + (4 * m + V)) b) (1092 + (4 * m + V)) e) (1140 + (4 * m + V)) p) (1032 + m) ((V : Int) + 1)) m = (V : Int) + 1 := fu_s
  have dl : ∀ l, l < 4 → dlo (fu (fu (fu (fu D (1044 + (4 * m + V)) b) (1092 + (4 * m + V)) e) (1140 + (4 * m + V)) p) (1032 + m) ((V : Int) + 1)) m l = if l = V then b else dlo D m l := fun l hl => by
    unfold dlo
    by_cases u : l = V
    · rw [if_pos u, fu_n (by omega), fu_n (by omega), fu_n (by omega), u, Nat.add_assoc, fu_s]
    · rw [if_neg u]; exact other _ (by omega) (by omega) (by omega) (by omega)
  have du : ∀ l, l < 4 → dup (fu (fu (fu (fu D (1044 + (4 * m + V)) b) (1092 + (4 * m + V)) e) (1140 + (4 * m + V)) p) (1032 + m) ((V : Int) + 1)) m l = if l = V then e else dup D m l := fun l hl => by
    unfold dup
    by_cases u : l = V
    · rw [if_pos u, fu_n (by omega), fu_n (by omega), u, Nat.add_assoc, fu_s]
    · rw [if_neg u]; exact other _ (by omega) (by omega) (by omega) (by omega)
  have dp : ∀ l, l < 4 → dpr (fu (fu (fu (fu D (1044 + (4 * m + V)) b) (1092 + (4 * m + V)) e) (1140 + (4 * m + V)) p) (1032 + m) ((V : Int) + 1)) m l = if l = V then p else dpr D m l := fun l hl => by
    unfold dpr
    by_cases u : l = V
    · rw [if_pos u, fu_n (by omega), u, Nat.add_assoc, fu_s]
    · rw [if_neg u]; exact other _ (by omega) (by omega) (by omega) (by omega)
  have hg := grd_one (D := D) (D' := fu (fu (fu (fu D (1044 + (4 * m + V)) b) (1092 + (4 * m + V)) e) (1140 + (4 * m + V)) p) (1032 + m) ((V : Int) + 1)) (m := m) (fun k h12 hk => by
    unfold dv
    rw [fu_n (by omega), fu_n (by omega), fu_n (by omega), fu_n (by omega)]) hm
  generalize fu (fu (fu (fu D (1044 + (4 * m + V)) b) (1092 + (4 * m + V)) e) (1140 + (4 * m + V)) p) (1032 + m) ((V : Int) + 1) = D' at *
  have hD : ∀ k', ¬ posM m k' → D' k' = D k' := fun k' hk => by unfold posM at hk; exact other _ (by omega) (by omega) (by omega) (by omega)
  refine H.me1 hm ⟨rfl, rfl, rfl⟩ (fun b' _ _ hb => by rw [qi_wn (by omega), qi_wn (by omega), qi_wn (by omega), qi_wn (by omega)]) hD ?_ ?_
  · obtain ⟨a0, a1, a2, a3, a4, a6, a7, a8, a9, b1, b2, b3, b4⟩ := hC
    have n1 : a + 5 + 5 * m + 1 ≠ a + 5 + 5 * m := by omega
    unfold MeC
    rw [qi_ws, qi_wn (show a + 5 + 5 * m + 1 ≠ a + 5 + 5 * m by omega), qi_wn (show a + 5 + 5 * m + 1 ≠ a + 5 + 5 * m + 4 by omega), qi_wn (show a + 5 + 5 * m + 1 ≠ a + 5 + 5 * m + 3 by omega), qi_wn (show a + 5 + 5 * m + 1 ≠ a + 5 + 5 * m + 2 by omega), qi_wn (show a + 5 + 5 * m + 2 ≠ a + 5 + 5 * m by omega), qi_wn (show a + 5 + 5 * m + 2 ≠ a + 5 + 5 * m + 4 by omega), qi_wn (show a + 5 + 5 * m + 2 ≠ a + 5 + 5 * m + 3 by omega), qi_ws, qi_wn (show a + 5 + 5 * m + 3 ≠ a + 5 + 5 * m by omega), qi_wn (show a + 5 + 5 * m + 3 ≠ a + 5 + 5 * m + 4 by omega), qi_ws, qi_wn (show a + 5 + 5 * m + 4 ≠ a + 5 + 5 * m by omega), qi_ws]
    refine ⟨a0.trans (other _ (by omega) (by omega) (by omega) (by omega)).symm, a1.trans (other _ (by omega) (by omega) (by omega) (by omega)).symm, a2.trans (other _ (by omega) (by omega) (by omega) (by omega)).symm, a3.trans (other _ (by omega) (by omega) (by omega) (by omega)).symm, a4.trans (other _ (by omega) (by omega) (by omega) (by omega)).symm, a6.trans (other _ (by omega) (by omega) (by omega) (by omega)).symm, a7.trans (other _ (by omega) (by omega) (by omega) (by omega)).symm, by rw [d8, fu_s], a9.trans (other _ (by omega) (by omega) (by omega) (by omega)).symm, fun j hj => (b1 j hj).trans (other _ (by omega) (by omega) (by omega) (by omega)).symm, fun l hl => ?_, fun l hl => ?_, fun l hl => ?_⟩
    · rw [dl l hl]; unfold fu; rw [b2 l hl]
    · rw [du l hl]; unfold fu; rw [b3 l hl]
    · rw [dp l hl]; unfold fu; rw [b4 l hl]
  · refine hI.me hm hD (invM_lv hIm (fun i hi => other _ (by omega) (by omega) (by omega) (by omega)) (by omega) (fun l hl => ?_)) ?_
    · have hw := hIm.w l hl
      rw [dl l hl, du l hl, dp l hl]
      by_cases u : l = V
      · rw [if_pos u, if_pos u, if_pos u]; omega
      · rw [if_neg u, if_neg u, if_neg u]; exact hw
    · rw [hg, d8, if_pos (by omega)]
      have := hI.2.2.2.2
      split <;> omega
theorem u_book {h : Hp} {a m : Nat} {D : Dd} {z n : Int} {g : Nat → Int} (H : Stt h a D) (hm : m < 12) (hn : 0 ≤ n ∧ n ≤ 9) (hok : bkOk D m z n) (hg : ∀ j, j < 81 → g j = bkF D m z n j) : Stt (wi (wi h (a + 5 + 5 * m) (fu (qi h (a + 5 + 5 * m)) 4 1)) (a + 5 + 5 * m + 1) g) a (bdF D m z n) := by
  have hI := H.2.2
  have hC := H.2.1.1 m hm
  have hIm := hI.1 m hm
  have hb := hIm.b
  have ha := hIm.a
  have hr := hIm.rg
  obtain ⟨z1, z2, z3⟩ := hok
  have other : ∀ i, i ≠ 48 + m → ¬ (60 + 81 * m ≤ i ∧ i < 60 + 81 * m + 81) → bdF D m z n i = D i := fun i a1 a2 => by unfold bdF; rw [if_neg a1, if_neg a2]
  have d4 : dh (bdF D m z n) m = 1 := by unfold dh bdF; rw [if_pos rfl]
  have dnn : ∀ j, j < 81 → dn (bdF D m z n) m j = bkF D m z n j := fun j hj => by
    unfold dn bdF
    rw [if_neg (by omega), if_pos (by omega), show 60 + 81 * m + j - (60 + 81 * m) = j by omega]
  have hD : ∀ k', ¬ posM m k' → bdF D m z n k' = D k' := fun k' hk => by unfold posM at hk; exact other _ (by omega) (by omega)
  refine H.me1 hm ⟨rfl, rfl, rfl⟩ (fun b' _ _ hb => by rw [qi_wn (by omega), qi_wn (by omega)]) hD ?_ ?_
  · obtain ⟨a0, a1, a2, a3, a4, a6, a7, a8, a9, b1, b2, b3, b4⟩ := hC
    unfold MeC
    rw [qi_ws, qi_wn (show a + 5 + 5 * m ≠ a + 5 + 5 * m + 1 by omega), qi_ws, qi_wn (show a + 5 + 5 * m + 2 ≠ a + 5 + 5 * m + 1 by omega), qi_wn (show a + 5 + 5 * m + 2 ≠ a + 5 + 5 * m by omega), qi_wn (show a + 5 + 5 * m + 3 ≠ a + 5 + 5 * m + 1 by omega), qi_wn (show a + 5 + 5 * m + 3 ≠ a + 5 + 5 * m by omega), qi_wn (show a + 5 + 5 * m + 4 ≠ a + 5 + 5 * m + 1 by omega), qi_wn (show a + 5 + 5 * m + 4 ≠ a + 5 + 5 * m by omega)]
    exact ⟨a0.trans (other _ (by omega) (by omega)).symm, a1.trans (other _ (by omega) (by omega)).symm, a2.trans (other _ (by omega) (by omega)).symm, a3.trans (other _ (by omega) (by omega)).symm, by rw [d4, fu_s], a6.trans (other _ (by omega) (by omega)).symm, a7.trans (other _ (by omega) (by omega)).symm, a8.trans (other _ (by omega) (by omega)).symm, a9.trans (other _ (by omega) (by omega)).symm, fun j hj => by rw [hg j hj, dnn j hj], fun l hl => (b2 l hl).trans (other _ (by omega) (by omega)).symm, fun l hl => (b3 l hl).trans (other _ (by omega) (by omega)).symm, fun l hl => (b4 l hl).trans (other _ (by omega) (by omega)).symm⟩
  · refine hI.me hm hD ?_ (by rw [grd_c (dv_posM hm hD (other _ (by omega) (by omega)))]; exact hI.2.2.2.2)
    obtain ⟨p, hp⟩ : ∃ p : Nat, z = db D m + p := ⟨(z - db D m).toNat, by omega⟩
    have ebb : db (bdF D m z n) m = db D m := other _ (by omega) (by omega)
    have eaa : da (bdF D m z n) m = da D m := other _ (by omega) (by omega)
    have ern : rng (bdF D m z n) m = rng D m := by unfold rng; rw [ebb, eaa]
    have hbf : ∀ j, j < rng D m + 1 → mny (bdF D m z n) m (db D m + j) = if j = p then n else mny D m (db D m + j) := fun j hj => by
      unfold mny
      rw [d4, if_neg (by omega), dnn _ (by omega)]
      unfold bkF
      by_cases u : j = p
      · rw [if_pos u, if_pos (by omega)]
      · rw [if_neg u, if_neg (by omega)]
    have el : lot (bdF D m z n) m = lot D m + (n - mny D m z) := by
      unfold lot
      rw [ern, ebb, sg_c (g := fun j => if j = p then n else mny D m (db D m + j)) (fun j hj => hbf j hj), sg_one (f := fun j => mny D m (db D m + j)) (m := p) _ (fun k _ hk => if_neg hk), if_pos (by omega), if_pos rfl, ← hp]
    have hpt := sg_pt (f := fun j => mny D m (db D m + j)) (n := rng D m + 1) (fun k hk => mny_nn hIm (by omega)) p (by omega)
    change mny D m (db D m + p) ≤ lot D m at hpt
    rw [← hp] at hpt
    unfold InvM
    rw [el, d4, ebb, eaa, show dk (bdF D m z n) m = dk D m from other _ (by omega) (by omega), show ds (bdF D m z n) m = ds D m from other _ (by omega) (by omega), show dv (bdF D m z n) m = dv D m from other _ (by omega) (by omega), show df (bdF D m z n) m = df D m from other _ (by omega) (by omega), show dt (bdF D m z n) m = dt D m from other _ (by omega) (by omega), show dco (bdF D m z n) m = dco D m from other _ (by omega) (by omega)]
    refine ⟨hIm.k, hIm.s, hIm.b, hIm.a, .inr rfl, fun j hj => ?_, by omega, hIm.v, fun l hl => ?_, hIm.f, hIm.c⟩
    · rw [dnn j hj]
      have := hIm.n j hj
      unfold bkF
      split
      · exact hn
      · split <;> omega
    · rw [show dlo (bdF D m z n) m l = dlo D m l from other _ (by omega) (by omega), show dup (bdF D m z n) m l = dup D m l from other _ (by omega) (by omega), show dpr (bdF D m z n) m l = dpr D m l from other _ (by omega) (by omega)]; exact hIm.w l hl

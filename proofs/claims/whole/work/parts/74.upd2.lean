/-! ===== each call that writes: the state's cells tell the new numbers ===== -/
theorem lot_1 {d : Dd} {m : Nat} (h : dh d m = 0) : lot d m = (rng d m + 1 : Nat) := by
  unfold lot
  rw [sg_c (g := fun _ => 1) (fun j _ => by unfold mny; rw [if_pos h]), sg_1]
theorem k3 (h : Hp) (b : Nat) (f : Nat → Int) : qk (wi h b f) = qk h ∧ ql (wi h b f) = ql h ∧ qr (wi h b f) = qr h := ⟨rfl, rfl, rfl⟩
/-- the cells of measure m, when only its fields change -/
theorem mec_fld {h : Hp} {p m : Nat} {d d' : Dd} {f : Nat → Int} (H : MeC h p d m) (h0 : f 0 = dk d' m) (h1 : f 1 = ds d' m) (h2 : f 2 = db d' m) (h3 : f 3 = da d' m) (h4 : f 4 = dh d' m) (h6 : f 6 = df d' m) (h7 : f 7 = dt d' m) (h8 : f 8 = dv d' m) (h9 : f 12 = dco d' m) (e10 : ∀ j, j < 81 → dn d' m j = dn d m j) (e11 : ∀ l, l < 4 → dlo d' m l = dlo d m l) (e12 : ∀ l, l < 4 → dup d' m l = dup d m l) (e13 : ∀ l, l < 4 → dpr d' m l = dpr d m l) : MeC (wi h p f) p d' m := by
  obtain ⟨a0, a1, a2, a3, a4, a6, a7, a8, a9, b1, b2, b3, b4⟩ := H
  unfold MeC
  rw [qi_ws, qi_wn (show p + 1 ≠ p by omega), qi_wn (show p + 2 ≠ p by omega), qi_wn (show p + 3 ≠ p by omega), qi_wn (show p + 4 ≠ p by omega)]
  exact ⟨h0, h1, h2, h3, h4, h6, h7, h8, h9, fun j hj => (b1 j hj).trans (e10 j hj).symm, fun j hj => (b2 j hj).trans (e11 j hj).symm, fun j hj => (b3 j hj).trans (e12 j hj).symm, fun j hj => (b4 j hj).trans (e13 j hj).symm⟩
theorem u_measure {h : Hp} {a m : Nat} {D : Dd} {k s b e : Int} (H : Stt h a D) (hm : m < 12) (h1 : 0 ≤ k ∧ k ≤ 2) (h2 : -10000 ≤ s ∧ s ≤ 10000) (h3 : canM b e) : Stt (wi h (a + 5 + 5 * m) (msF (qi h (a + 5 + 5 * m)) k s b e)) a (mdF D m k s b e) := by
  have hI := H.2.2
  have hC := H.2.1.1 m hm
  have hD : ∀ k', ¬ posM m k' → mdF D m k s b e k' = D k' := fun k' hk => by
    unfold posM at hk
    unfold mdF
    rw [fu_n (by omega), fu_n (by omega), fu_n (by omega), fu_n (by omega), fu_n (by omega)]
  have d0 : dk (mdF D m k s b e) m = k := by unfold dk mdF; rw [fu_n (by omega), fu_n (by omega), fu_n (by omega), fu_n (by omega), fu_s]
  have d1 : ds (mdF D m k s b e) m = s := by unfold ds mdF; rw [fu_n (by omega), fu_n (by omega), fu_n (by omega), fu_s]
  have d2 : db (mdF D m k s b e) m = b := by unfold db mdF; rw [fu_n (by omega), fu_n (by omega), fu_s]
  have d3 : da (mdF D m k s b e) m = e := by unfold da mdF; rw [fu_n (by omega), fu_s]
  have d4 : dh (mdF D m k s b e) m = 0 := by unfold dh mdF; rw [fu_s]
  have other : ∀ i, (i ≠ m ∧ i ≠ 12 + m ∧ i ≠ 24 + m ∧ i ≠ 36 + m ∧ i ≠ 48 + m) → mdF D m k s b e i = D i := fun i hi => by
    unfold mdF
    rw [fu_n (by omega), fu_n (by omega), fu_n (by omega), fu_n (by omega), fu_n (by omega)]
  have hv : dv (mdF D m k s b e) m = dv D m := other _ (by omega)
  refine H.me1 hm (k3 _ _ _) (fun b' _ _ hb => qi_wn (by omega)) hD ?_ ?_
  · refine mec_fld hC ?_ ?_ ?_ ?_ ?_ ?_ ?_ ?_ ?_ (fun j hj => other _ (by omega)) (fun j hj => other _ (by omega)) (fun j hj => other _ (by omega)) (fun j hj => other _ (by omega))
    · rw [d0]; rfl
    · rw [d1]; rfl
    · rw [d2]; rfl
    · rw [d3]; rfl
    · rw [d4]; rfl
    · exact hC.2.2.2.2.2.1.trans (other _ (by omega)).symm
    · exact hC.2.2.2.2.2.2.1.trans (other _ (by omega)).symm
    · exact hC.2.2.2.2.2.2.2.1.trans (other _ (by omega)).symm
    · exact hC.2.2.2.2.2.2.2.2.1.trans (other _ (by omega)).symm
  · have hIm := hI.1 m hm
    unfold canM at h3
    refine hI.me hm hD ?_ (by rw [grd_c (dv_posM hm hD hv)]; exact hI.2.2.2.2)
    unfold InvM
    rw [lot_1 d4, d0, d1, d2, d3, d4, hv]
    refine ⟨h1, h2, by omega, by omega, .inl rfl, fun j hj => ?_, by omega, hIm.v, fun l hl => ?_, ?_, ?_⟩
    · rw [show dn (mdF D m k s b e) m j = dn D m j from other _ (by omega)]; exact hIm.n j hj
    · rw [show dlo (mdF D m k s b e) m l = dlo D m l from other _ (by omega), show dup (mdF D m k s b e) m l = dup D m l from other _ (by omega), show dpr (mdF D m k s b e) m l = dpr D m l from other _ (by omega)]; exact hIm.w l hl
    · rw [show df (mdF D m k s b e) m = df D m from other _ (by omega), show dt (mdF D m k s b e) m = dt D m from other _ (by omega)]; exact hIm.f
    · rw [show dco (mdF D m k s b e) m = dco D m from other _ (by omega)]; exact hIm.c
/-- one number of measure m's fields is written -/
theorem u_tear {h : Hp} {a m : Nat} {D : Dd} (H : Stt h a D) (hm : m < 12) : Stt (wi h (a + 5 + 5 * m) (fu (qi h (a + 5 + 5 * m)) 4 0)) a (fu D (48 + m) 0) := by
  have hI := H.2.2
  have hC := H.2.1.1 m hm
  have hIm := hI.1 m hm
  have hD : ∀ k', ¬ posM m k' → fu D (48 + m) 0 k' = D k' := fun k' hk => by unfold posM at hk; exact fu_n (by omega)
  have other : ∀ i, i ≠ 48 + m → fu D (48 + m) 0 i = D i := fun i hi => fu_n hi
  have d4 : dh (fu D (48 + m) 0) m = 0 := fu_s
  refine H.me1 hm (k3 _ _ _) (fun b' _ _ hb => qi_wn (by omega)) hD ?_ ?_
  · refine mec_fld hC ?_ ?_ ?_ ?_ ?_ ?_ ?_ ?_ ?_ (fun j hj => other _ (by omega)) (fun j hj => other _ (by omega)) (fun j hj => other _ (by omega)) (fun j hj => other _ (by omega))
    · exact hC.1.trans (other _ (by omega)).symm
    · exact hC.2.1.trans (other _ (by omega)).symm
    · exact hC.2.2.1.trans (other _ (by omega)).symm
    · exact hC.2.2.2.1.trans (other _ (by omega)).symm
    · rw [d4]; rfl
    · exact hC.2.2.2.2.2.1.trans (other _ (by omega)).symm
    · exact hC.2.2.2.2.2.2.1.trans (other _ (by omega)).symm
    · exact hC.2.2.2.2.2.2.2.1.trans (other _ (by omega)).symm
    · exact hC.2.2.2.2.2.2.2.2.1.trans (other _ (by omega)).symm
  · refine hI.me hm hD ?_ (by rw [grd_c (dv_posM hm hD (other _ (by omega)))]; exact hI.2.2.2.2)
    unfold InvM
    rw [lot_1 d4, d4, show dk (fu D (48 + m) 0) m = dk D m from other _ (by omega), show ds (fu D (48 + m) 0) m = ds D m from other _ (by omega), show db (fu D (48 + m) 0) m = db D m from other _ (by omega), show da (fu D (48 + m) 0) m = da D m from other _ (by omega), show dv (fu D (48 + m) 0) m = dv D m from other _ (by omega), show df (fu D (48 + m) 0) m = df D m from other _ (by omega), show dt (fu D (48 + m) 0) m = dt D m from other _ (by omega), show dco (fu D (48 + m) 0) m = dco D m from other _ (by omega)]
    refine ⟨hIm.k, hIm.s, hIm.b, hIm.a, .inl rfl, fun j hj => ?_, by omega, hIm.v, fun l hl => ?_, hIm.f, hIm.c⟩
    · rw [show dn (fu D (48 + m) 0) m j = dn D m j from other _ (by omega)]; exact hIm.n j hj
    · rw [show dlo (fu D (48 + m) 0) m l = dlo D m l from other _ (by omega), show dup (fu D (48 + m) 0) m l = dup D m l from other _ (by omega), show dpr (fu D (48 + m) 0) m l = dpr D m l from other _ (by omega)]; exact hIm.w l hl
theorem u_join {h : Hp} {a m : Nat} {D : Dd} {f t : Int} (H : Stt h a D) (hm : m < 12) (hj : (f = -1 ∧ t = -1) ∨ (0 ≤ f ∧ f ≤ 11 ∧ 0 ≤ t ∧ t ≤ 11 ∧ f ≠ t)) : Stt (wi h (a + 5 + 5 * m) (fu (fu (qi h (a + 5 + 5 * m)) 6 f) 7 t)) a (fu (fu D (1188 + m) f) (1200 + m) t) := by
  have hI := H.2.2
  have hC := H.2.1.1 m hm
  have hIm := hI.1 m hm
  have other : ∀ i, i ≠ 1188 + m → i ≠ 1200 + m → fu (fu D (1188 + m) f) (1200 + m) t i = D i := fun i h1 h2 => by rw [fu_n h2, fu_n h1]
  have hD : ∀ k', ¬ posM m k' → fu (fu D (1188 + m) f) (1200 + m) t k' = D k' := fun k' hk => by unfold posM at hk; exact other _ (by omega) (by omega)
  have d6 : df (fu (fu D (1188 + m) f) (1200 + m) t) m = f := by unfold df; rw [fu_n (by omega), fu_s]
  have d7 : dt (fu (fu D (1188 + m) f) (1200 + m) t) m = t := fu_s
  have hE : MeE D (fu (fu D (1188 + m) (df D m)) (1200 + m) (dt D m)) m := by
    rw [show df D m = D (1188 + m) from rfl, fu_self, show dt D m = D (1200 + m) from rfl, fu_self]
    exact ⟨rfl, rfl, rfl, rfl, rfl, rfl, rfl, rfl, rfl, fun _ _ => rfl, fun _ _ => rfl, fun _ _ => rfl, fun _ _ => rfl⟩
  generalize hd : fu (fu D (1188 + m) f) (1200 + m) t = D' at *
  refine H.me1 hm (k3 _ _ _) (fun b' _ _ hb => qi_wn (by omega)) hD ?_ ?_
  · refine mec_fld hC ?_ ?_ ?_ ?_ ?_ ?_ ?_ ?_ ?_ (fun j hj => other _ (by omega) (by omega)) (fun j hj => other _ (by omega) (by omega)) (fun j hj => other _ (by omega) (by omega)) (fun j hj => other _ (by omega) (by omega))
    · exact hC.1.trans (other _ (by omega) (by omega)).symm
    · exact hC.2.1.trans (other _ (by omega) (by omega)).symm
    · exact hC.2.2.1.trans (other _ (by omega) (by omega)).symm
    · exact hC.2.2.2.1.trans (other _ (by omega) (by omega)).symm
    · exact hC.2.2.2.2.1.trans (other _ (by omega) (by omega)).symm
    · rw [d6]; rfl
    · rw [d7]; rfl
    · exact hC.2.2.2.2.2.2.2.1.trans (other _ (by omega) (by omega)).symm
    · exact hC.2.2.2.2.2.2.2.2.1.trans (other _ (by omega) (by omega)).symm
  · refine hI.me hm hD ?_ (by rw [grd_c (dv_posM hm hD (other _ (by omega) (by omega)))]; exact hI.2.2.2.2)
    have o := fun i h1 h2 => other i h1 h2
    have el : lot D' m = lot D m := by
      unfold lot
      have er : rng D' m = rng D m := by unfold rng; rw [show da D' m = da D m from o _ (by omega) (by omega), show db D' m = db D m from o _ (by omega) (by omega)]
      rw [er]
      refine sg_c (fun j hj => ?_)
      have hr := hIm.rg
      have hb := hIm.b
      have ha := hIm.a
      unfold mny
      rw [show dh D' m = dh D m from o _ (by omega) (by omega), show db D' m = db D m from o _ (by omega) (by omega), show dn D' m (db D m + (j : Int) + 40).toNat = dn D m (db D m + (j : Int) + 40).toNat from o _ (by omega) (by omega)]
    unfold InvM
    rw [el, d6, d7, show dk D' m = dk D m from o _ (by omega) (by omega), show ds D' m = ds D m from o _ (by omega) (by omega), show db D' m = db D m from o _ (by omega) (by omega), show da D' m = da D m from o _ (by omega) (by omega), show dh D' m = dh D m from o _ (by omega) (by omega), show dv D' m = dv D m from o _ (by omega) (by omega), show dco D' m = dco D m from o _ (by omega) (by omega)]
    refine ⟨hIm.k, hIm.s, hIm.b, hIm.a, hIm.h, fun j hj => ?_, hIm.l, hIm.v, fun l hl => ?_, hj, hIm.c⟩
    · rw [show dn D' m j = dn D m j from o _ (by omega) (by omega)]; exact hIm.n j hj
    · rw [show dlo D' m l = dlo D m l from o _ (by omega) (by omega), show dup D' m l = dup D m l from o _ (by omega) (by omega), show dpr D' m l = dpr D m l from o _ (by omega) (by omega)]; exact hIm.w l hl

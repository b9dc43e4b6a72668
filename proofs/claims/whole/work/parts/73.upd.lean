/-! ===== a state's cells, one thing changed ===== -/
def MeE (d d' : Dd) (m : Nat) : Prop := dk d' m = dk d m ∧ ds d' m = ds d m ∧ db d' m = db d m ∧ da d' m = da d m ∧ dh d' m = dh d m ∧ df d' m = df d m ∧ dt d' m = dt d m ∧ dv d' m = dv d m ∧ dco d' m = dco d m ∧ (∀ j, j < 81 → dn d' m j = dn d m j) ∧ (∀ l, l < 4 → dlo d' m l = dlo d m l) ∧ (∀ l, l < 4 → dup d' m l = dup d m l) ∧ (∀ l, l < 4 → dpr d' m l = dpr d m l)
def posM (m k : Nat) : Prop := k = m ∨ k = 12 + m ∨ k = 24 + m ∨ k = 36 + m ∨ k = 48 + m ∨ (60 + 81 * m ≤ k ∧ k < 60 + 81 * m + 81) ∨ k = 1032 + m ∨ (1044 + 4 * m ≤ k ∧ k < 1044 + 4 * m + 4) ∨ (1092 + 4 * m ≤ k ∧ k < 1092 + 4 * m + 4) ∨ (1140 + 4 * m ≤ k ∧ k < 1140 + 4 * m + 4) ∨ k = 1188 + m ∨ k = 1200 + m ∨ k = 1346 + m
def posC (c k : Nat) : Prop := (1212 + 12 * c ≤ k ∧ k < 1212 + 12 * c + 12) ∨ k = 1284 + c ∨ k = 1290 + c
def posL (l k : Nat) : Prop := k = 1296 + l ∨ (1298 + 24 * l ≤ k ∧ k < 1298 + 24 * l + 24)
def posT (k : Nat) : Prop := 1358 ≤ k ∧ k < 1382
theorem MeE.of {d d' : Dd} {m : Nat} (h : ∀ k, posM m k → d' k = d k) : MeE d d' m := by
  unfold posM at h
  refine ⟨h _ (by omega), h _ (by omega), h _ (by omega), h _ (by omega), h _ (by omega), h _ (by omega), h _ (by omega), h _ (by omega), h _ (by omega), fun j hj => h _ (by omega), fun j hj => h _ (by omega), fun j hj => h _ (by omega), fun j hj => h _ (by omega)⟩
theorem posM_ne {m m' k : Nat} (hm : m < 12) (hm' : m' < 12) (h : m' ≠ m) (hk : posM m' k) : ¬ posM m k := by unfold posM at *; omega
theorem posMC {m c k : Nat} (hm : m < 12) (hc : c < 6) (hk : posC c k) : ¬ posM m k := by unfold posM posC at *; omega
theorem posML {m l k : Nat} (hm : m < 12) (hl : l < 2) (hk : posL l k) : ¬ posM m k := by unfold posM posL at *; omega
theorem posMT {m k : Nat} (hm : m < 12) (hk : posT k) : ¬ posM m k := by unfold posM posT at *; omega
theorem posCM {m c k : Nat} (hm : m < 12) (hc : c < 6) (hk : posM m k) : ¬ posC c k := by unfold posM posC at *; omega
theorem posC_ne {c c' k : Nat} (hc : c < 6) (hc' : c' < 6) (h : c' ≠ c) (hk : posC c' k) : ¬ posC c k := by unfold posC at *; omega
theorem posCL {c l k : Nat} (hc : c < 6) (hl : l < 2) (hk : posL l k) : ¬ posC c k := by unfold posC posL at *; omega
theorem posCT {c k : Nat} (hc : c < 6) (hk : posT k) : ¬ posC c k := by unfold posC posT at *; omega
theorem posLM {m l k : Nat} (hm : m < 12) (hl : l < 2) (hk : posM m k) : ¬ posL l k := by unfold posM posL at *; omega
theorem posLC {c l k : Nat} (hc : c < 6) (hl : l < 2) (hk : posC c k) : ¬ posL l k := by unfold posC posL at *; omega
theorem posL_ne {l l' k : Nat} (hl : l < 2) (hl' : l' < 2) (h : l' ≠ l) (hk : posL l' k) : ¬ posL l k := by unfold posL at *; omega
theorem posLT {l k : Nat} (hl : l < 2) (hk : posT k) : ¬ posL l k := by unfold posT posL at *; omega
theorem posTM {m k : Nat} (hm : m < 12) (hk : posM m k) : ¬ posT k := by unfold posM posT at *; omega
theorem posTC {c k : Nat} (hc : c < 6) (hk : posC c k) : ¬ posT k := by unfold posC posT at *; omega
theorem posTL {l k : Nat} (hl : l < 2) (hk : posL l k) : ¬ posT k := by unfold posL posT at *; omega
theorem MeC.same {h h' : Hp} {p : Nat} {d d' : Dd} {m : Nat} (H : MeC h p d m) (e : ∀ b, p ≤ b → b < p + 5 → qi h' b = qi h b) (E : MeE d d' m) : MeC h' p d' m := by
  unfold MeC at *
  unfold MeE at E
  obtain ⟨e1, e2, e3, e4, e5, e6, e7, e8, e9, e10, e11, e12, e13⟩ := E
  obtain ⟨h1, h2, h3, h4, h5, h6, h7, h8, h9, h10, h11, h12, h13⟩ := H
  rw [e p (by omega) (by omega), e (p + 1) (by omega) (by omega), e (p + 2) (by omega) (by omega), e (p + 3) (by omega) (by omega), e (p + 4) (by omega) (by omega)]
  exact ⟨h1.trans e1.symm, h2.trans e2.symm, h3.trans e3.symm, h4.trans e4.symm, h5.trans e5.symm, h6.trans e6.symm, h7.trans e7.symm, h8.trans e8.symm, h9.trans e9.symm, fun j hj => (h10 j hj).trans (e10 j hj).symm, fun j hj => (h11 j hj).trans (e11 j hj).symm, fun j hj => (h12 j hj).trans (e12 j hj).symm, fun j hj => (h13 j hj).trans (e13 j hj).symm⟩
theorem ChC.same {h h' : Hp} {p : Nat} {d d' : Dd} {c : Nat} (H : ChC h p d c) (e : ∀ b, p ≤ b → b < p + 2 → qi h' b = qi h b) (E : ∀ k, posC c k → d' k = d k) : ChC h' p d' c := by
  unfold posC at E
  unfold ChC at *
  rw [e p (by omega) (by omega), e (p + 1) (by omega) (by omega)]
  exact ⟨H.1.trans (E _ (by omega)).symm, H.2.1.trans (E _ (by omega)).symm, fun m hm => (H.2.2 m hm).trans (E _ (by omega)).symm⟩
theorem LoC.same {h h' : Hp} {p : Nat} {d d' : Dd} {l : Nat} (H : LoC h p d l) (e : ∀ b, p ≤ b → b < p + 2 → qi h' b = qi h b) (E : ∀ k, posL l k → d' k = d k) : LoC h' p d' l := by
  unfold posL at E
  unfold LoC at *
  rw [e p (by omega) (by omega), e (p + 1) (by omega) (by omega)]
  exact ⟨H.1.trans (E _ (by omega)).symm, fun m hm => (H.2 m hm).trans (E _ (by omega)).symm⟩
theorem isSt.same {h h' : Hp} {a : Nat} (H : isSt h a) (k : qk h' = qk h ∧ ql h' = ql h ∧ qr h' = qr h) : isSt h' a := by
  unfold isSt isMe isCh isLo at *
  rw [k.1, k.2.1, k.2.2]
  exact H
theorem Stt.me1 {h h' : Hp} {a m : Nat} {d d' : Dd} (H : Stt h a d) (hm : m < 12) (k : qk h' = qk h ∧ ql h' = ql h ∧ qr h' = qr h) (hq : ∀ b, a ≤ b → b < a + 81 → ¬ (a + 5 + 5 * m ≤ b ∧ b < a + 10 + 5 * m) → qi h' b = qi h b) (hd : ∀ k, ¬ posM m k → d' k = d k) (hM : MeC h' (a + 5 + 5 * m) d' m) (I : Inv d') : Stt h' a d' := by
  refine ⟨H.1.same k, ⟨fun m' hm' => ?_, fun c hc => (H.2.1.2.1 c hc).same (fun b h1 h2 => hq b (by omega) (by omega) (by omega)) (fun k hk => hd k (posMC hm hc hk)), fun l hl => (H.2.1.2.2.1 l hl).same (fun b h1 h2 => hq b (by omega) (by omega) (by omega)) (fun k hk => hd k (posML hm hl hk)), fun k hk => ?_⟩, I⟩
  · by_cases e : m' = m
    · subst e; exact hM
    · exact (H.2.1.1 m' hm').same (fun b h1 h2 => hq b (by omega) (by omega) (by omega)) (MeE.of (fun k hk => hd k (posM_ne hm hm' e hk)))
  · rw [hq (a + 4) (by omega) (by omega) (by omega), H.2.1.2.2.2 k hk]
    exact (hd _ (posMT hm (by unfold posT; omega))).symm
theorem Stt.ch1 {h h' : Hp} {a c : Nat} {d d' : Dd} (H : Stt h a d) (hc : c < 6) (k : qk h' = qk h ∧ ql h' = ql h ∧ qr h' = qr h) (hq : ∀ b, a ≤ b → b < a + 81 → ¬ (a + 65 + 2 * c ≤ b ∧ b < a + 67 + 2 * c) → qi h' b = qi h b) (hd : ∀ k, ¬ posC c k → d' k = d k) (hM : ChC h' (a + 65 + 2 * c) d' c) (I : Inv d') : Stt h' a d' := by
  refine ⟨H.1.same k, ⟨fun m hm => (H.2.1.1 m hm).same (fun b h1 h2 => hq b (by omega) (by omega) (by omega)) (MeE.of (fun k hk => hd k (posCM hm hc hk))), fun c' hc' => ?_, fun l hl => (H.2.1.2.2.1 l hl).same (fun b h1 h2 => hq b (by omega) (by omega) (by omega)) (fun k hk => hd k (posCL hc hl hk)), fun k hk => ?_⟩, I⟩
  · by_cases e : c' = c
    · subst e; exact hM
    · exact (H.2.1.2.1 c' hc').same (fun b h1 h2 => hq b (by omega) (by omega) (by omega)) (fun k hk => hd k (posC_ne hc hc' e hk))
  · rw [hq (a + 4) (by omega) (by omega) (by omega), H.2.1.2.2.2 k hk]
    exact (hd _ (posCT hc (by unfold posT; omega))).symm
theorem Stt.lo1 {h h' : Hp} {a l : Nat} {d d' : Dd} (H : Stt h a d) (hl : l < 2) (k : qk h' = qk h ∧ ql h' = ql h ∧ qr h' = qr h) (hq : ∀ b, a ≤ b → b < a + 81 → ¬ (a + 77 + 2 * l ≤ b ∧ b < a + 79 + 2 * l) → qi h' b = qi h b) (hd : ∀ k, ¬ posL l k → d' k = d k) (hM : LoC h' (a + 77 + 2 * l) d' l) (I : Inv d') : Stt h' a d' := by
  refine ⟨H.1.same k, ⟨fun m hm => (H.2.1.1 m hm).same (fun b h1 h2 => hq b (by omega) (by omega) (by omega)) (MeE.of (fun k hk => hd k (posLM hm hl hk))), fun c hc => (H.2.1.2.1 c hc).same (fun b h1 h2 => hq b (by omega) (by omega) (by omega)) (fun k hk => hd k (posLC hc hl hk)), fun l' hl' => ?_, fun k hk => ?_⟩, I⟩
  · by_cases e : l' = l
    · subst e; exact hM
    · exact (H.2.1.2.2.1 l' hl').same (fun b h1 h2 => hq b (by omega) (by omega) (by omega)) (fun k hk => hd k (posL_ne hl hl' e hk))
  · rw [hq (a + 4) (by omega) (by omega) (by omega), H.2.1.2.2.2 k hk]
    exact (hd _ (posLT hl (by unfold posT; omega))).symm
theorem Stt.mt1 {h h' : Hp} {a : Nat} {d d' : Dd} (H : Stt h a d) (k : qk h' = qk h ∧ ql h' = ql h ∧ qr h' = qr h) (hq : ∀ b, a ≤ b → b < a + 81 → b ≠ a + 4 → qi h' b = qi h b) (hd : ∀ k, ¬ posT k → d' k = d k) (hM : ∀ k, k < 24 → qi h' (a + 4) k = dmt d' k) (I : Inv d') : Stt h' a d' :=
  ⟨H.1.same k, ⟨fun m hm => (H.2.1.1 m hm).same (fun b h1 h2 => hq b (by omega) (by omega) (by omega)) (MeE.of (fun k hk => hd k (posTM hm hk))), fun c hc => (H.2.1.2.1 c hc).same (fun b h1 h2 => hq b (by omega) (by omega) (by omega)) (fun k hk => hd k (posTC hc hk)), fun l hl => (H.2.1.2.2.1 l hl).same (fun b h1 h2 => hq b (by omega) (by omega) (by omega)) (fun k hk => hd k (posTL hl hk)), hM⟩, I⟩
/-- the same state told by another function -/
theorem Stt.fn {h : Hp} {a : Nat} {d d' : Dd} (H : Stt h a d) (hd : ∀ k, k < 1382 → d' k = d k) (I : Inv d') : Stt h a d' :=
  ⟨H.1, ⟨fun m hm => (H.2.1.1 m hm).same (fun _ _ _ => rfl) (MeE.of (fun k hk => hd k (by unfold posM at hk; omega))), fun c hc => (H.2.1.2.1 c hc).same (fun _ _ _ => rfl) (fun k hk => hd k (by unfold posC at hk; omega)), fun l hl => (H.2.1.2.2.1 l hl).same (fun _ _ _ => rfl) (fun k hk => hd k (by unfold posL at hk; omega)), fun k hk => (H.2.1.2.2.2 k hk).trans (hd _ (by omega)).symm⟩, I⟩
/-! what holds of a state's numbers, one thing changed -/
theorem InvM.same {d d' : Dd} {m : Nat} (H : InvM d m) (E : MeE d d' m) : InvM d' m := by
  have hr := H.rg
  have hb := H.b
  have ha := H.a
  obtain ⟨e1, e2, e3, e4, e5, e6, e7, e8, e9, e10, e11, e12, e13⟩ := E
  have el : lot d' m = lot d m := by
    unfold lot
    have er : rng d' m = rng d m := by unfold rng; rw [e3, e4]
    rw [er]
    refine sg_c (fun j hj => ?_)
    unfold mny
    rw [e5, e3, e10 _ (by omega)]
  unfold InvM at *
  rw [e1, e2, e3, e4, e5, e6, e7, e8, e9, el]
  obtain ⟨h1, h2, h3, h4, h5, h6, h7, h8, h9, h10, h11⟩ := H
  exact ⟨h1, h2, h3, h4, h5, fun j hj => by rw [e10 j hj]; exact h6 j hj, h7, h8, fun l hl => by rw [e11 l hl, e12 l hl, e13 l hl]; exact h9 l hl, h10, h11⟩
theorem InvC.same {d d' : Dd} {c : Nat} (H : InvC d c) (E : ∀ k, posC c k → d' k = d k) : InvC d' c := by
  unfold posC at E
  unfold InvC at *
  have e1 : dcl d' c = dcl d c := E _ (by omega)
  have e2 : dch d' c = dch d c := E _ (by omega)
  rw [e1, e2]
  exact ⟨fun m hm => by rw [show dsh d' c m = dsh d c m from E _ (by omega)]; exact H.1 m hm, H.2⟩
theorem InvL.same {d d' : Dd} {l : Nat} (H : InvL d l) (E : ∀ k, posL l k → d' k = d k) : InvL d' l := by
  unfold posL at E
  unfold InvL at *
  have e1 : dct d' l = dct d l := E _ (by omega)
  rw [e1]
  exact ⟨H.1, fun m hm => by rw [show dpt d' l m = dpt d l m from E _ (by omega)]; exact H.2 m hm⟩
theorem grd_c {d d' : Dd} (h : ∀ m, m < 12 → dv d' m = dv d m) : grd d' 12 = grd d 12 := sg_c (fun m hm => by rw [h m hm])
theorem Inv.me {d d' : Dd} {m : Nat} (H : Inv d) (hm : m < 12) (hd : ∀ k, ¬ posM m k → d' k = d k) (hM : InvM d' m) (hg : grd d' 12 ≤ 8) : Inv d' :=
  ⟨fun m' hm' => by
    by_cases e : m' = m
    · subst e; exact hM
    · exact (H.1 m' hm').same (MeE.of (fun k hk => hd k (posM_ne hm hm' e hk))), fun c hc => (H.2.1 c hc).same (fun k hk => hd k (posMC hm hc hk)), fun l hl => (H.2.2.1 l hl).same (fun k hk => hd k (posML hm hl hk)), fun k hk => by
    rw [show dmt d' k = dmt d k from hd _ (posMT hm (by unfold posT; omega))]; exact H.2.2.2.1 k hk, hg⟩
theorem dv_posM {d d' : Dd} {m : Nat} (hm : m < 12) (hd : ∀ k, ¬ posM m k → d' k = d k) (hv : dv d' m = dv d m) : ∀ m', m' < 12 → dv d' m' = dv d m' := fun m' hm' => by
  by_cases e : m' = m
  · rw [e]; exact hv
  · exact hd _ (posM_ne hm hm' e (by unfold posM; omega))
theorem Inv.ch1 {d d' : Dd} {c : Nat} (H : Inv d) (hc : c < 6) (hd : ∀ k, ¬ posC c k → d' k = d k) (hM : InvC d' c) : Inv d' :=
  ⟨fun m hm => (H.1 m hm).same (MeE.of (fun k hk => hd k (posCM hm hc hk))), fun c' hc' => by
    by_cases e : c' = c
    · subst e; exact hM
    · exact (H.2.1 c' hc').same (fun k hk => hd k (posC_ne hc hc' e hk)), fun l hl => (H.2.2.1 l hl).same (fun k hk => hd k (posCL hc hl hk)), fun k hk => by
    rw [show dmt d' k = dmt d k from hd _ (posCT hc (by unfold posT; omega))]; exact H.2.2.2.1 k hk, by
    rw [grd_c (d := d) (fun m hm => hd _ (posCM hm hc (by unfold posM; omega)))]; exact H.2.2.2.2⟩
theorem Inv.lo1 {d d' : Dd} {l : Nat} (H : Inv d) (hl : l < 2) (hd : ∀ k, ¬ posL l k → d' k = d k) (hM : InvL d' l) : Inv d' :=
  ⟨fun m hm => (H.1 m hm).same (MeE.of (fun k hk => hd k (posLM hm hl hk))), fun c hc => (H.2.1 c hc).same (fun k hk => hd k (posLC hc hl hk)), fun l' hl' => by
    by_cases e : l' = l
    · subst e; exact hM
    · exact (H.2.2.1 l' hl').same (fun k hk => hd k (posL_ne hl hl' e hk)), fun k hk => by
    rw [show dmt d' k = dmt d k from hd _ (posLT hl (by unfold posT; omega))]; exact H.2.2.2.1 k hk, by
    rw [grd_c (d := d) (fun m hm => hd _ (posLM hm hl (by unfold posM; omega)))]; exact H.2.2.2.2⟩
theorem Inv.mt1 {d d' : Dd} (H : Inv d) (hd : ∀ k, ¬ posT k → d' k = d k) (hM : ∀ k, k < 24 → -1 ≤ dmt d' k ∧ dmt d' k ≤ 23) : Inv d' :=
  ⟨fun m hm => (H.1 m hm).same (MeE.of (fun k hk => hd k (posTM hm hk))), fun c hc => (H.2.1 c hc).same (fun k hk => hd k (posTC hc hk)), fun l hl => (H.2.2.1 l hl).same (fun k hk => hd k (posTL hl hk)), hM, by
    rw [grd_c (d := d) (fun m hm => hd _ (posTM hm (by unfold posM; omega)))]; exact H.2.2.2.2⟩
theorem Inv.fn {d d' : Dd} (H : Inv d) (hd : ∀ k, k < 1382 → d' k = d k) : Inv d' :=
  ⟨fun m hm => (H.1 m hm).same (MeE.of (fun k hk => hd k (by unfold posM at hk; omega))), fun c hc => (H.2.1 c hc).same (fun k hk => hd k (by unfold posC at hk; omega)), fun l hl => (H.2.2.1 l hl).same (fun k hk => hd k (by unfold posL at hk; omega)), fun k hk => by
    rw [show dmt d' k = dmt d k from hd _ (by omega)]; exact H.2.2.2.1 k hk, by
    rw [grd_c (d := d) (fun m hm => hd _ (by omega))]; exact H.2.2.2.2⟩

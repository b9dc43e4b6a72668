/-! ===== fields, new cells, copies ===== -/
theorem fvl_i {ty : FieldType} (h : ty = .int ∨ ty = .boolean) (z : Int) (r : Option Nat) : fvl ty z r = .int (jI z) := by
  rcases h with rfl | rfl <;> rfl
theorem fvl_r {ty : FieldType} (h : (match ty with | .array _ => true | .object _ => true | _ => false) = true) (z : Int) (r : Option Nat) : fvl ty z r = va_rf r := by
  cases ty <;> first | rfl | cases h
theorem fit_r {ty : FieldType} (h : (match ty with | .array _ => true | .object _ => true | _ => false) = true) (r : Option Nat) : narrow ty (va_rf r) = va_rf r ∧ fits ty (va_rf r) = true := by
  cases ty <;> first | (cases h; done) | (cases r <;> exact ⟨rfl, rfl⟩)
/-- what the tables say of a class of ours -/
def FOk (ci : Nat) (C : String) (T : u_T) (N : Nat) : Prop := vwCl[ci]? = some (C, T, N) ∧ (∀ w ∈ u_ws C T N, w ∈ gTbl) ∧ (∀ k, k < N → parseFieldDescriptor (T k).2.2.1 = some (tyC ci k)) ∧ (∀ a, a < N → ∀ b, b < N → a ≠ b → (T a).2.1 ≠ (T b).2.1)
section SNF
variable {i : MI} {pc : Nat}
theorem k_gi {ci k idx N : Nat} {C : String} {T : u_T} (hF : FOk ci C T N) (hk : k < N) (hty : tyC ci k = .int ∨ tyC ci k = .boolean) (hl : Cond.fieldLink i.2.2.1 idx (T k).1 (T k).2.1 (T k).2.2.1 ∈ gTbl) (hd : decode i.1 pc = .ok (.getfield idx, 3)) : Okop i pc (o_gi ci k) (pc + 3) := by
  rintro ⟨p, l, e, R, s, m, args, below, meth, c, g, Rt⟩ ⟨hx, hb, hml, hown, hts, hr, hnm, hlk, hKF, hR1, hR2⟩ ls st h b nx hnx hop
  intro H locs lsA cells slots hH hL hls hc hs
  unfold o_gi at hop
  split at hop
  · rename_i a r
    obtain ⟨h1, hop⟩ := hop
    have kk := hnx _ _ _ _ hop H locs lsA cells slots hH hL hls hc hs
    obtain ⟨cell, q1, q2, q3, q4⟩ := (hH.2.2.2.2.2 a).2.2.2.2 ci _ h1 hF.1
    obtain ⟨hS, hfc, kC, hkC, hkind⟩ := hKF.1.1 ci _ hF.1
    obtain ⟨cf, kf, fi, f, hi, hsl⟩ := hS k hk
    refine W.getf hx hb hown (hts _ hl) hi (u_facts hfc hkC (u_lays hts hF.2.1 hk) hi).1 q1 (by rw [q3]; exact fun h => by cases h) (v := .int (jI (qi h a k))) ?_ rfl rfl hd kk
    rw [hsl]; refine (q4 k hk).trans ?_; show some (fvl _ _ _) = _; rw [fvl_i hty]
  · exact hop.elim
theorem k_gr {ci k idx N : Nat} {C : String} {T : u_T} (hF : FOk ci C T N) (hk : k < N) (hty : (match tyC ci k with | .array _ => true | .object _ => true | _ => false) = true) (hl : Cond.fieldLink i.2.2.1 idx (T k).1 (T k).2.1 (T k).2.2.1 ∈ gTbl) (hd : decode i.1 pc = .ok (.getfield idx, 3)) : Okop i pc (o_gr ci k) (pc + 3) := by
  rintro ⟨p, l, e, R, s, m, args, below, meth, c, g, Rt⟩ ⟨hx, hb, hml, hown, hts, hr, hnm, hlk, hKF, hR1, hR2⟩ ls st h b nx hnx hop
  intro H locs lsA cells slots hH hL hls hc hs
  unfold o_gr at hop
  split at hop
  · rename_i a r
    obtain ⟨h1, hop⟩ := hop
    have kk := hnx _ _ _ _ hop H locs lsA cells slots hH hL hls hc hs
    obtain ⟨cell, q1, q2, q3, q4⟩ := (hH.2.2.2.2.2 a).2.2.2.2 ci _ h1 hF.1
    obtain ⟨hS, hfc, kC, hkC, hkind⟩ := hKF.1.1 ci _ hF.1
    obtain ⟨cf, kf, fi, f, hi, hsl⟩ := hS k hk
    refine W.getf hx hb hown (hts _ hl) hi (u_facts hfc hkC (u_lays hts hF.2.1 hk) hi).1 q1 (by rw [q3]; exact fun h => by cases h) (v := va_rf (qr h a k)) ?_ rfl rfl hd kk
    rw [hsl]; refine (q4 k hk).trans ?_; show some (fvl _ _ _) = _; rw [fvl_r hty]
  · exact hop.elim
theorem put_go {x : Ctx} {ci k idx N : Nat} {C : String} {T : u_T} (ok : OkC i x) (hF : FOk ci C T N) (hk : k < N) (hl : Cond.fieldLink i.2.2.1 idx (T k).1 (T k).2.1 (T k).2.2.1 ∈ gTbl) (hd : decode i.1 pc = .ok (.putfield idx, 3)) (hfn : (T k).2.2.2 = false ∨ ((T k).2.2.2 = true ∧ i.2.2.2.2.1 = "<init>" ∧ (T k).1 = i.2.2.1))
    {ls : LSt} {r : List AV} {h h' : Hp} {b : Nat × Nat} {a : Nat} {v : AV} (h1 : qk h a = 10 + ci) (hn : narrow (tyC ci k) (cv v) = cv v) (hf : fits (tyC ci k) (cv v) = true)
    (e1 : qk h' = qk h) (e2 : ql h' = ql h) (e3 : qt h' = qt h) (e4 : ∀ b, b ≠ a → qi h' b = qi h b) (e5 : qj h' = qj h) (e6 : ∀ b, b ≠ a → qr h' b = qr h b) (e7 : ∀ j, j < N → fvl (tyC ci j) (qi h' a j) (qr h' a j) = updV (fun j => fvl (tyC ci j) (qi h a j) (qr h a j)) k (cv v) j)
    (kk : V i x (pc + 3) ls r h' b) : V i x pc ls (v :: vr (some a) :: r) h b := by
  obtain ⟨p, l, e, R, s, m, args, below, meth, c, g, Rt⟩ := x
  obtain ⟨hx, hb, hml, hown, hts, hr, hnm, hlk, hKF, hR1, hR2⟩ := ok
  intro H locs lsA cells slots hH hL hls hc hs
  obtain ⟨cell, q1, q2, q3, q4⟩ := (hH.2.2.2.2.2 a).2.2.2.2 ci _ h1 hF.1
  have hap := va_apart (own := i.2.2.1) hts hF.2.1 (tyC ci) hF.2.2.1 hF.2.2.2 hKF.1 hF.1
  obtain ⟨hS, hfc, kC, hkC, hkind⟩ := hKF.1.1 ci _ hF.1
  obtain ⟨cf, kf, fi, f, hi, hsl⟩ := hS k hk
  have hst := (u_facts hfc hkC (u_lays hts hF.2.1 hk) hi).1
  have hlay := hts _ (hF.2.1 _ (u_in_lay hk))
  unfold u_lay at hlay
  have fin : ∀ H1 : Heap, H1[a]? = some (cell.setSlot f.slot (cv v)) → H1.size = H.size → (∀ q, q ≠ a → H1[q]? = H[q]?) → W p l e R s m args below meth c H1 (locs ++ [⟨a, f.slot⟩]) cells slots (MQ below (Qk g Rt) args s R.cells R.slots (fun q => g.2.2.2.1 ≤ q)) (F0 m (pc + 3) lsA (r.map cv)) := by
    intro H1 w1 w2 w3
    rw [hsl] at w1
    refine kk H1 _ lsA cells slots (hH.set e1 e2 e3 e4 (fun _ _ => by rw [e5]) e6 w2 w3 (hH.2.2.2.1 a (by omega)).1 (cAt_5 (by rw [e1]; exact h1) hF.1 ?_)) (lcs hL (hH.2.2.2.1 a (by omega)).1) hls hc hs
    exact t_OB.to (V := updV (fun j => fvl (tyC ci j) (qi h a j) (qr h a j)) k (cv v)) ⟨_, w1, q2, q3, t_set q4 hap hk (cv v)⟩ (fun j hj => (e7 j hj).symm)
  rcases hfn with hfin | ⟨hfin, hini, hdecl⟩
  · rw [if_neg (by rw [hfin]; decide)] at hlay
    have h6 := u_store hfc hkC hkind hlay hi (hF.2.2.1 k hk) hn hf
    exact W.putK hx hb (f := f) ⟨hown, hts _ hl, ⟨_, _, _, hi⟩, hst⟩ (by rw [q2]; exact h6) q1 q3 (by rw [hsl]; exact k2_hasslot (q4 k hk)) rfl rfl hd fin
  · rw [if_pos hfin] at hlay
    have hcf : m.cls = cf := by
      obtain ⟨_, _, c', _, _, _, -, -, hf', -, -, -, hown2, -⟩ := Cond.laysFinal_spec hlay
      have e1 : c' = cf := by have := hi.symm.trans hf'; simp at this; exact this.1.symm
      rw [hdecl] at hown2
      rw [← e1]; exact Option.some.inj (hown.symm.trans hown2)
    have h6 := u_fits hfc hkC hkind (Or.inr hlay) hi (hF.2.2.1 k hk) hn hf
    exact W.putFinK hx hb hown (hts _ hl) hi hst hcf (hnm.trans hini) (by rw [q2]; exact h6) q1 q3 (by rw [hsl]; exact k2_hasslot (q4 k hk)) rfl rfl hd fin
theorem k_pi {ci k idx N : Nat} {C : String} {T : u_T} (hF : FOk ci C T N) (hk : k < N) (hty : tyC ci k = .int) (hl : Cond.fieldLink i.2.2.1 idx (T k).1 (T k).2.1 (T k).2.2.1 ∈ gTbl) (hd : decode i.1 pc = .ok (.putfield idx, 3)) (hfn : (T k).2.2.2 = false ∨ ((T k).2.2.2 = true ∧ i.2.2.2.2.1 = "<init>" ∧ (T k).1 = i.2.2.1)) : Okop i pc (o_pi ci k) (pc + 3) := by
  intro x ok ls st h b nx hnx hop
  unfold o_pi at hop
  split at hop
  · rename_i z a r
    obtain ⟨h1, hop⟩ := hop
    refine put_go (v := vi z) (h' := wi h a (fu (qi h a) k z)) ok hF hk hl hd hfn h1 (by rw [hty]; rfl) (by rw [hty]; rfl) rfl rfl rfl (fun _ e => qi_wn e) rfl (fun _ _ => rfl) (fun j hj => ?_) (hnx _ _ _ _ hop)
    rw [qi_ws]
    unfold updV fu
    split
    · rename_i e; subst e; rw [hty]; rfl
    · rfl
  · exact hop.elim
theorem k_pz {ci k idx N : Nat} {C : String} {T : u_T} (hF : FOk ci C T N) (hk : k < N) (hty : tyC ci k = .boolean) (hl : Cond.fieldLink i.2.2.1 idx (T k).1 (T k).2.1 (T k).2.2.1 ∈ gTbl) (hd : decode i.1 pc = .ok (.putfield idx, 3)) (hfn : (T k).2.2.2 = false ∨ ((T k).2.2.2 = true ∧ i.2.2.2.2.1 = "<init>" ∧ (T k).1 = i.2.2.1)) : Okop i pc (o_pz ci k) (pc + 3) := by
  intro x ok ls st h b nx hnx hop
  unfold o_pz at hop
  split at hop
  · rename_i z a r
    obtain ⟨h1, hz, hop⟩ := hop
    refine put_go (v := vi z) (h' := wi h a (fu (qi h a) k z)) ok hF hk hl hd hfn h1 (by rw [hty]; rcases hz with rfl | rfl <;> rfl) (by rw [hty]; rcases hz with rfl | rfl <;> rfl) rfl rfl rfl (fun _ e => qi_wn e) rfl (fun _ _ => rfl) (fun j hj => ?_) (hnx _ _ _ _ hop)
    rw [qi_ws]
    unfold updV fu
    split
    · rename_i e; subst e; rw [hty]; rfl
    · rfl
  · exact hop.elim
theorem k_pr {ci k idx N : Nat} {C : String} {T : u_T} (hF : FOk ci C T N) (hk : k < N) (hty : (match tyC ci k with | .array _ => true | .object _ => true | _ => false) = true) (hl : Cond.fieldLink i.2.2.1 idx (T k).1 (T k).2.1 (T k).2.2.1 ∈ gTbl) (hd : decode i.1 pc = .ok (.putfield idx, 3)) (hfn : (T k).2.2.2 = false ∨ ((T k).2.2.2 = true ∧ i.2.2.2.2.1 = "<init>" ∧ (T k).1 = i.2.2.1)) : Okop i pc (o_pr ci k) (pc + 3) := by
  intro x ok ls st h b nx hnx hop
  unfold o_pr at hop
  split at hop
  · rename_i z a r
    obtain ⟨h1, hop⟩ := hop
    refine put_go (v := vr z) (h' := wr h a (fu (qr h a) k z)) ok hF hk hl hd hfn h1 (fit_r hty z).1 (fit_r hty z).2 rfl rfl rfl (fun _ _ => rfl) rfl (fun _ e => qr_wn e) (fun j hj => ?_) (hnx _ _ _ _ hop)
    rw [qr_ws]
    unfold updV fu
    split
    · rename_i e; subst e; rw [fvl_r hty]; rfl
    · rfl
  · exact hop.elim
theorem k_new {ci idx N : Nat} {C : String} {T : u_T} (hF : FOk ci C T N) (hdef : ∀ j, j < N → defaultValue (tyC ci j) = fvl (tyC ci j) 0 none) (hN : N < 2147483648) (hl : Cond.classLink i.2.2.1 idx C ∈ gTbl) (hin : Cond.instantiable C N ∈ gTbl) (hini : Cond.initialized C ∈ gTbl) (hd : decode i.1 pc = .ok (.new idx, 3)) : Okop i pc (o_new ci N) (pc + 3) := by
  rintro ⟨p, l, e, R, s, m, args, below, meth, c, g, Rt⟩ ⟨hx, hb, hml, hown, hts, hr, hnm, hlk, hKF, hR1, hR2⟩ ls st h b nx hnx hop
  intro H locs lsA cells slots hH hL hls hc hs
  obtain ⟨h1, h2, hop⟩ := hop
  have hKn := hKF.1.1 ci _ hF.1
  refine W.newcK hx hb hown (hts _ hl) (hts _ hin) (hts _ hini) rfl hd (by omega) (by omega) hKn.2.1 hH.1 fun H1 kC hkC e1 z1 o1 => ?_
  refine hnx _ _ _ _ hop H1 locs lsA (cells + 1) (slots + N) (hH.push (by rw [z1, hH.1]) (fun q hq => o1 q (by rw [← hH.1]; exact hq)) hN (cAt_5 (by rw [qk_al, if_pos rfl]) hF.1 ?_)) hL hls (by show cells + 1 + (b.1 - 1) ≤ R.cells; omega) (by show slots + N + (b.2 - N) ≤ R.slots; omega)
  rw [qi_al, qr_al, if_pos rfl, if_pos rfl]
  exact (u_born (tyC ci) hts hF.2.1 hKn hkC e1 hF.2.2.1).to hdef
theorem k_newa {k : Nat} {atype : ArrayType} (hk : (k = 1 ∧ atype = .int) ∨ (k = 2 ∧ atype = .long) ∨ (k = 3 ∧ atype = .boolean)) (hw : Cond.arrayClass (newarray.typeOf atype) ∈ gTbl) (hd : decode i.1 pc = .ok (.newarray atype, 2)) : Okop i pc (o_newa k) (pc + 2) := by
  rintro ⟨p, l, e, R, s, m, args, below, meth, c, g, Rt⟩ ⟨hx, hb, hml, hown, hts, hr, hnm, hlk, hKF, hR1, hR2⟩ ls st h b nx hnx hop
  intro H locs lsA cells slots hH hL hls hc hs
  unfold o_newa at hop
  split at hop
  · rename_i n r
    obtain ⟨h1, h2, h3, h4, hop⟩ := hop
    have hn : inI n := by unfold inI; omega
    refine va_newaK hx hb (hts _ hw) rfl hd rfl (by rw [← jI_0, jI_lt hn inI_0]; omega) (jI_clamp hn) (by rcases hk with ⟨-, rfl⟩ | ⟨-, rfl⟩ | ⟨-, rfl⟩ <;> (show n.toNat * _ ≤ _; first | omega | (simp [componentBytes, newarray.typeOf]; omega))) (by omega) (by omega) hH.1 (fun H1 cA e1 z1 o1 hAr hNm => ?_)
    refine hnx _ _ _ _ hop H1 locs lsA (cells + 1) (slots + n.toNat) (hH.push (by rw [z1, hH.1]) (fun q hq => o1 q (by rw [← hH.1]; exact hq)) (by omega) ?_) hL hls (by show cells + 1 + (b.1 - 1) ≤ R.cells; omega) (by show slots + n.toNat + (b.2 - n.toNat) ≤ R.slots; omega)
    rcases hk with ⟨rfl, rfl⟩ | ⟨rfl, rfl⟩ | ⟨rfl, rfl⟩
    · have ec : g.2.2.1 1 = cA := Option.some.inj ((hKF.2.1 1 (by omega) (by omega)).2.symm.trans hNm)
      exact cAt_1 (by rw [qk_al, if_pos rfl]) (by rw [e1, ec, ql_al, qi_al, if_pos rfl, if_pos rfl]; rfl)
    · have ec : g.2.2.1 2 = cA := Option.some.inj ((hKF.2.1 2 (by omega) (by omega)).2.symm.trans hNm)
      exact cAt_2 (by rw [qk_al, if_pos rfl]) (by rw [e1, ec, ql_al, qj_al, if_pos rfl, if_pos rfl]; rfl)
    · have ec : g.2.2.1 3 = cA := Option.some.inj ((hKF.2.1 3 (by omega) (by omega)).2.symm.trans hNm)
      exact cAt_3 (by rw [qk_al, if_pos rfl]) (by rw [e1, ec, ql_al, qi_al, if_pos rfl, if_pos rfl]; rfl)
  · exact hop.elim
theorem k_anew {k idx : Nat} {C : String} (h4 : 4 ≤ k) (h8 : k < 8) (hq : qty k = .object C) (hC : C ∈ aoN) (hl : Cond.classLink i.2.2.1 idx C ∈ gTbl) (hd : decode i.1 pc = .ok (.anewarray idx, 3)) : Okop i pc (o_newa k) (pc + 3) := by
  rintro ⟨p, l, e, R, s, m, args, below, meth, c, g, Rt⟩ ⟨hx, hb, hml, hown, hts, hr, hnm, hlk, hKF, hR1, hR2⟩ ls st h b nx hnx hop
  intro H locs lsA cells slots hH hL hls hc hs
  unfold o_newa at hop
  split at hop
  · rename_i n r
    obtain ⟨h1, h2, h3, h4', hop⟩ := hop
    have hn : inI n := by unfold inI; omega
    have hra := (hKF.2.1 k (by omega) h8).2
    rw [hq] at hra
    obtain ⟨kA0, comp0, k1, k2, k3, k4⟩ := hra
    refine W.anew hx hb hown (hts _ hl) (va_AO.use (hKF.2.2.2 C hC)) rfl hd rfl (by rw [← jI_0, jI_lt hn inI_0]; omega) (by rw [jI_clamp hn]; omega) (by omega) (by rw [jI_clamp hn]; omega) (fun cA kA comp f1 f2 f3 f4 => ?_)
    have ec : g.2.2.1 k = cA := Option.some.inj (k4.symm.trans f1)
    rw [jI_clamp hn, hH.1]
    refine hnx _ _ _ _ hop _ locs lsA (cells + 1) (slots + n.toNat) (hH.push (by rw [Array.size_push]) (fun q hq => by rw [Array.getElem?_push, if_neg (Nat.ne_of_lt hq)]) (by omega) ?_) hL hls (by show cells + 1 + (b.1 - 1) ≤ R.cells; omega) (by show slots + n.toNat + (b.2 - n.toNat) ≤ R.slots; omega)
    refine cAt_4 (k := k) (by rw [qk_al, if_pos rfl]) h4 h8 ?_
    rw [← hH.1, Array.getElem?_push_size, arrV_new, ec, hH.1, ql_al, qr_al, if_pos rfl, if_pos rfl]
    rfl
  · exact hop.elim
theorem cpy_va (f g : Nat → Int) (sp dp n : Nat) : (fun j => jI (cpy f g sp dp n j)) = va_cpy (fun j => jI (f j)) (fun j => jI (g j)) sp dp n := by
  funext j
  unfold cpy va_cpy
  split <;> rfl
theorem k_copy {idx : Nat} (hl : Cond.methodLink i.2.2.1 idx arraycopyName ∈ gTbl) (hnat : Cond.native arraycopyName ∈ gTbl) (hstat : Cond.static arraycopyName ∈ gTbl) (hini : Cond.initialized "java/lang/System" ∈ gTbl) (hlev : 1 ≤ i.2.2.2.2.2) (hd : decode i.1 pc = .ok (.invokestatic idx, 3)) : Okop i pc o_copy (pc + 3) := by
  rintro ⟨p, l, e, R, s, m, args, below, meth, c, g, Rt⟩ ⟨hx, hb, hml, hown, hts, hr, hnm, hlk, hKF, hR1, hR2⟩ ls st h b nx hnx hop
  intro H locs lsA cells slots hH hL hls hc hs
  unfold o_copy at hop
  split at hop
  · rename_i n dp d sp a r
    obtain ⟨hlen, ka, kd, h1, h2, h3, h4, h5, hop⟩ := hop
    have la := hH.2.2.2.2.1 a
    have ld := hH.2.2.2.2.1 d
    have in1 : inI sp := by unfold inI; omega
    have in2 : inI dp := by unfold inI; omega
    have in3 : inI n := by unfold inI; omega
    have hcat := cat_le r
    have c0 := (hH.2.2.2.2.2 a).1 ka
    have c1 := (hH.2.2.2.2.2 d).1 kd
    intro T hT X
    obtain ⟨-, k0, hk0, cm0, hkk0⟩ := (hKF.2.1 1 (by omega) (by omega)).1 (ql h a) (fun j => .int (jI (qi h a j)))
    obtain ⟨vm', X', step⟩ := X.arraycopy hx hown (hts _ hl) (hts _ hnat) (hts _ hstat) (hts _ hini) (src := a) (dst := d) (cs := arrV (g.2.2.1 1) (ql h a) (fun j => Value.int (jI (qi h a j)))) (cd := arrV (g.2.2.1 1) (ql h d) (fun j => Value.int (jI (qi h d j)))) (srcPos := jI sp) (destPos := jI dp) (n := jI n) (by rw [hT]; exact c0) (by rw [hT]; exact c1)
      (fun _ h => by cases h) (fun _ h => by cases h) (fun h => by cases h) (fun h => by cases h) hk0 hk0 hkk0 hkk0 rfl (by rw [← jI_0, jI_lt in1 inI_0]; omega) (by rw [← jI_0, jI_lt in2 inI_0]; omega) (by rw [← jI_0, jI_lt in3 inI_0]; omega)
      (by rw [jI_toInt in1, jI_toInt in3, arrV_size]; omega) (by rw [jI_toInt in2, jI_toInt in3, arrV_size]; omega)
      (fun vm₁ _ j hj => by
        rw [jI_clamp in3] at hj
        have e : (arrV (g.2.2.1 1) (ql h a) (fun j => Value.int (jI (qi h a j)))).slots.getD ((jI sp).toNatClampNeg + j) .null = .int (jI (qi h a ((jI sp).toNatClampNeg + j))) := by
          rw [jI_clamp in1, Array.getD_eq_getD_getElem?, arrV_read _ _ (by omega)]
          rfl
        rw [e]
        exact ⟨rfl, trivial⟩)
      (g := F0 m pc lsA (.int (jI n) :: .int (jI dp) :: .ref d :: .int (jI sp) :: .ref a :: r.map cv)) rfl (by rw [hml]; exact hls.1) (rest := r.map cv) rfl (by rw [hb]; exact hd) (by omega) (by
        have hw : nativeFrameWords "java/lang/System" "arraycopy" 5 + 11 + 8 ≤ 64 := by decide +kernel
        show 2 * 0 + _ + _ ≤ _
        omega)
    have e1 : copied (arrV (g.2.2.1 1) (ql h a) (fun j => Value.int (jI (qi h a j)))) (arrV (g.2.2.1 1) (ql h d) (fun j => Value.int (jI (qi h d j)))) (jI sp) (jI dp) (jI n) = arrV (g.2.2.1 1) (ql h d) (fun j => Value.int (jI (cpy (qi h a) (qi h d) sp.toNat dp.toNat n.toNat j))) := by
      have e0 := va_copied (fun z => Value.int z) (g.2.2.1 1) (g.2.2.1 1) (n0 := ql h a) (n1 := ql h d) (sp := (jI sp).toNatClampNeg) (dp := (jI dp).toNatClampNeg) (n := (jI n).toNatClampNeg) (fun j => jI (qi h a j)) (fun j => jI (qi h d j)) (by rw [jI_clamp in1, jI_clamp in3]; omega)
      rw [jI_clamp in1, jI_clamp in2, jI_clamp in3] at e0
      have e9 := congrFun (cpy_va (qi h a) (qi h d) sp.toNat dp.toNat n.toNat)
      have e8 : (fun j => Value.int (jI (cpy (qi h a) (qi h d) sp.toNat dp.toNat n.toNat j))) = fun j => Value.int (va_cpy (fun j => jI (qi h a j)) (fun j => jI (qi h d j)) sp.toNat dp.toNat n.toNat j) := by
        funext j
        rw [← e9 j]
      rw [e8]
      show (arrV _ _ _).storeRun (jI dp).toNatClampNeg ((arrV _ _ _).stretch (jI sp).toNatClampNeg (jI n).toNatClampNeg) = _
      rw [jI_clamp in1, jI_clamp in2, jI_clamp in3]
      exact e0
    rw [e1] at X' step
    have hdl : d < H.size := (Array.getElem?_eq_some_iff.mp c1).1
    obtain ⟨t, a1, b1⟩ := hnx _ _ _ _ hop (H.setIfInBounds d (arrV (g.2.2.1 1) (ql h d) (fun j => Value.int (jI (cpy (qi h a) (qi h d) sp.toNat dp.toNat n.toNat j))))) _ lsA cells slots
      (hH.wi (by simp) (fun q hq => by simp [Array.getElem?_setIfInBounds, Ne.symm hq]) (by omega) (cAt_1 kd (by rw [qi_ws]; simp [Array.getElem?_setIfInBounds, hdl]; rfl)))
      (fun q hq => by
        rcases List.mem_append.mp hq with h | h
        · exact hL q h
        · obtain ⟨z, -, hz⟩ := List.mem_map.mp h
          rw [← hz]
          exact (hH.2.2.2.1 d (by omega)).1) hls hc hs _ (by rw [← hT]; rfl) X'
    exact ⟨t, step t a1, b1⟩
  · exact hop.elim
end SNF

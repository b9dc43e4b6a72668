/-! ===== the heap: reads, writes, new cells ===== -/
theorem cAt.kept {g : Gh} {h h' : Hp} {H H1 : Heap} {a : Nat} (hc : cAt g h H a) (hk : qk h' a = qk h a) (hl : ql h' a = ql h a) (hi : qi h' a = qi h a) (hj : qj h' a = qj h a) (hr : qr h' a = qr h a) (hq : H1[a]? = H[a]?) : cAt g h' H1 a := by
  obtain ⟨c1, c2, c3, c4, c5⟩ := hc
  refine ⟨?_, ?_, ?_, ?_, ?_⟩
  · rw [hk, hl, hi, hq]; exact c1
  · rw [hk, hl, hj, hq]; exact c2
  · rw [hk, hl, hi, hq]; exact c3
  · rw [hk, hl, hr, hq]; exact c4
  · intro ci r h1 h2
    rw [hi, hr]
    exact (c5 ci r (by rw [← hk]; exact h1) h2).kept hq
theorem cAt_1 {g : Gh} {h : Hp} {H : Heap} {a : Nat} (hk : qk h a = 1) (hc : H[a]? = some (arrV (g.2.2.1 1) (ql h a) (fun j => .int (jI (qi h a j))))) : cAt g h H a :=
  ⟨fun _ => hc, fun e => by omega, fun e => by omega, fun k e h1 => by omega, fun ci r e => by omega⟩
theorem cAt_2 {g : Gh} {h : Hp} {H : Heap} {a : Nat} (hk : qk h a = 2) (hc : H[a]? = some (arrV (g.2.2.1 2) (ql h a) (fun j => .long (jL (qj h a j))))) : cAt g h H a :=
  ⟨fun e => by omega, fun _ => hc, fun e => by omega, fun k e h1 => by omega, fun ci r e => by omega⟩
theorem cAt_3 {g : Gh} {h : Hp} {H : Heap} {a : Nat} (hk : qk h a = 3) (hc : H[a]? = some (arrV (g.2.2.1 3) (ql h a) (fun j => .int (jI (qi h a j))))) : cAt g h H a :=
  ⟨fun e => by omega, fun e => by omega, fun _ => hc, fun k e h1 => by omega, fun ci r e => by omega⟩
theorem cAt_4 {g : Gh} {h : Hp} {H : Heap} {a k : Nat} (hk : qk h a = k) (h4 : 4 ≤ k) (h8 : k < 8) (hc : H[a]? = some (arrV (g.2.2.1 k) (ql h a) (fun j => va_rf (qr h a j)))) : cAt g h H a :=
  ⟨fun e => by omega, fun e => by omega, fun e => by omega, fun k' e _ _ => by have e2 : k' = k := e.symm.trans hk
                                                                               subst e2; exact hc, fun ci r e => by omega⟩
theorem cAt_5 {g : Gh} {h : Hp} {H : Heap} {a ci : Nat} {r : vw_C} (hk : qk h a = 10 + ci) (hr : vwCl[ci]? = some r) (hc : t_OB a (g.1 ci) r.2.2 (g.2.1 ci) H (fun j => fvl (tyC ci j) (qi h a j) (qr h a j))) : cAt g h H a :=
  ⟨fun e => by omega, fun e => by omega, fun e => by omega, fun k e _ _ => by omega, fun c2 r2 e2 e3 => by
    have e4 : c2 = ci := by omega
    subst e4
    cases hr.symm.trans e3
    exact hc⟩
theorem Hld.set {g : Gh} {h h' : Hp} {H H1 : Heap} {a : Nat} (hH : Hld g h H) (hk : qk h' = qk h) (hl : ql h' = ql h) (ht : qt h' = qt h) (hi : ∀ b, b ≠ a → qi h' b = qi h b) (hj : ∀ b, b ≠ a → qj h' b = qj h b) (hr : ∀ b, b ≠ a → qr h' b = qr h b) (hz : H1.size = H.size) (ho : ∀ q : Nat, q ≠ a → H1[q]? = H[q]?) (ha : g.2.2.2.1 ≤ a) (hc : cAt g h' H1 a) : Hld g h' H1 := by
  obtain ⟨c1, c2, c3, c4, c5, c6⟩ := hH
  refine ⟨by rw [hz, ht]; exact c1, by rw [ht]; exact c2, fun q hq => ?_, by rw [hk, ht]; exact c4, by rw [hl]; exact c5, fun q => ?_⟩
  · rw [ho q (by omega)]; exact c3 q hq
  · by_cases e : q = a
    · subst e; exact hc
    · exact (c6 q).kept (by rw [hk]) (by rw [hl]) (hi q e) (hj q e) (hr q e) (ho q e)
theorem Hld.wi {g : Gh} {h : Hp} {H H1 : Heap} {a : Nat} {f : Nat → Int} (hH : Hld g h H) (hz : H1.size = H.size) (ho : ∀ q : Nat, q ≠ a → H1[q]? = H[q]?) (hka : qk h a ≠ 0) (hc : cAt g (wi h a f) H1 a) : Hld g (wi h a f) H1 :=
  hH.set rfl rfl rfl (fun _ e => qi_wn e) (fun _ _ => rfl) (fun _ _ => rfl) hz ho (hH.2.2.2.1 a hka).1 hc
theorem Hld.wj {g : Gh} {h : Hp} {H H1 : Heap} {a : Nat} {f : Nat → Int} (hH : Hld g h H) (hz : H1.size = H.size) (ho : ∀ q : Nat, q ≠ a → H1[q]? = H[q]?) (hka : qk h a ≠ 0) (hc : cAt g (wj h a f) H1 a) : Hld g (wj h a f) H1 :=
  hH.set rfl rfl rfl (fun _ _ => rfl) (fun _ e => qj_wn e) (fun _ _ => rfl) hz ho (hH.2.2.2.1 a hka).1 hc
theorem Hld.wr {g : Gh} {h : Hp} {H H1 : Heap} {a : Nat} {f : Nat → Option Nat} (hH : Hld g h H) (hz : H1.size = H.size) (ho : ∀ q : Nat, q ≠ a → H1[q]? = H[q]?) (hka : qk h a ≠ 0) (hc : cAt g (wr h a f) H1 a) : Hld g (wr h a f) H1 :=
  hH.set rfl rfl rfl (fun _ _ => rfl) (fun _ _ => rfl) (fun _ e => qr_wn e) hz ho (hH.2.2.2.1 a hka).1 hc
theorem Hld.push {g : Gh} {h : Hp} {H H1 : Heap} {k n : Nat} (hH : Hld g h H) (hz : H1.size = H.size + 1) (ho : ∀ q : Nat, q < H.size → H1[q]? = H[q]?) (hn : n < 2147483648) (hc : cAt g (wn h k n) H1 (qt h)) : Hld g (wn h k n) H1 := by
  obtain ⟨c1, c2, c3, c4, c5, c6⟩ := hH
  refine ⟨by rw [hz, c1]; rfl, by rw [qt_al]; omega, fun q hq => ?_, fun q hq => ?_, fun q => ?_, fun q => ?_⟩
  · rw [ho q (by omega)]; exact c3 q hq
  · rw [qk_al] at hq
    rw [qt_al]
    split at hq
    · omega
    · have := c4 q hq; omega
  · rw [ql_al]
    split
    · exact hn
    · exact c5 q
  · by_cases e : q = qt h
    · subst e; exact hc
    · by_cases l : q < H.size
      · exact (c6 q).kept (by rw [qk_al, if_neg e]) (by rw [ql_al, if_neg e]) (by rw [qi_al, if_neg e]) (by rw [qj_al, if_neg e]) (by rw [qr_al, if_neg e]) (ho q l)
      · have e0 : qk (wn h k n) q = 0 := by
          rw [qk_al, if_neg e]
          by_cases z : qk h q = 0
          · exact z
          · have := c4 q z; omega
        exact ⟨fun x => by omega, fun x => by omega, fun x => by omega, fun _ x _ _ => by omega, fun _ _ x => by omega⟩
theorem lcs {g : Gh} {locs : List Loc} {a k : Nat} (hL : ∀ q ∈ locs, g.2.2.2.1 ≤ q.base) (ha : g.2.2.2.1 ≤ a) : ∀ q ∈ locs ++ [(⟨a, k⟩ : Loc)], g.2.2.2.1 ≤ q.base := fun q hq => by
  rcases List.mem_append.mp hq with h1 | h1
  · exact hL q h1
  · rw [List.mem_singleton.mp h1]; exact ha
theorem updV_i (f : Nat → Int) (k : Nat) (x : Int) : updV (fun j => Value.int (jI (f j))) k (.int (jI x)) = fun j => .int (jI (fu f k x j)) := by
  funext j; unfold updV fu; split <;> rfl
theorem updV_l (f : Nat → Int) (k : Nat) (x : Int) : updV (fun j => Value.long (jL (f j))) k (.long (jL x)) = fun j => .long (jL (fu f k x j)) := by
  funext j; unfold updV fu; split <;> rfl
theorem updV_r (f : Nat → Option Nat) (k : Nat) (x : Option Nat) : updV (fun j => va_rf (f j)) k (va_rf x) = fun j => va_rf (fu f k x j) := by
  funext j; unfold updV fu; split <;> rfl
/-! ops over the heap -/
def o_iald : OPP := fun ls st h b _ _ nx => match st with
  | .inl i :: .inr (.inr (some a)) :: r => qk h a = 1 ∧ 0 ≤ i ∧ i < (ql h a : Int) ∧ nx ls (vi (qi h a i.toNat) :: r) h b
  | _ => False
def o_zald : OPP := fun ls st h b _ _ nx => match st with
  | .inl i :: .inr (.inr (some a)) :: r => qk h a = 3 ∧ 0 ≤ i ∧ i < (ql h a : Int) ∧ nx ls (vi (qi h a i.toNat) :: r) h b
  | _ => False
def o_lald : OPP := fun ls st h b _ _ nx => match st with
  | .inl i :: .inr (.inr (some a)) :: r => qk h a = 2 ∧ 0 ≤ i ∧ i < (ql h a : Int) ∧ nx ls (vl (qj h a i.toNat) :: r) h b
  | _ => False
def o_aald : OPP := fun ls st h b _ _ nx => match st with
  | .inl i :: .inr (.inr (some a)) :: r => (4 ≤ qk h a ∧ qk h a < 8) ∧ 0 ≤ i ∧ i < (ql h a : Int) ∧ nx ls (vr (qr h a i.toNat) :: r) h b
  | _ => False
def o_iast : OPP := fun ls st h b _ _ nx => match st with
  | .inl x :: .inl i :: .inr (.inr (some a)) :: r => qk h a = 1 ∧ 0 ≤ i ∧ i < (ql h a : Int) ∧ nx ls r (wi h a (fu (qi h a) i.toNat x)) b
  | _ => False
def o_zast : OPP := fun ls st h b _ _ nx => match st with
  | .inl x :: .inl i :: .inr (.inr (some a)) :: r => qk h a = 3 ∧ 0 ≤ i ∧ i < (ql h a : Int) ∧ (x = 0 ∨ x = 1) ∧ nx ls r (wi h a (fu (qi h a) i.toNat x)) b
  | _ => False
def o_last : OPP := fun ls st h b _ _ nx => match st with
  | .inr (.inl x) :: .inl i :: .inr (.inr (some a)) :: r => qk h a = 2 ∧ 0 ≤ i ∧ i < (ql h a : Int) ∧ nx ls r (wj h a (fu (qj h a) i.toNat x)) b
  | _ => False
def o_aast (k ec : Nat) : OPP := fun ls st h b _ _ nx => match st with
  | .inr (.inr (some v)) :: .inl i :: .inr (.inr (some a)) :: r => qk h a = k ∧ qk h v = 10 + ec ∧ 0 ≤ i ∧ i < (ql h a : Int) ∧ nx ls r (wr h a (fu (qr h a) i.toNat (some v))) b
  | _ => False
def o_alen : OPP := fun ls st h b _ _ nx => match st with
  | .inr (.inr (some a)) :: r => (1 ≤ qk h a ∧ qk h a < 8) ∧ nx ls (vi (ql h a) :: r) h b
  | _ => False
def o_gi (ci k : Nat) : OPP := fun ls st h b _ _ nx => match st with
  | .inr (.inr (some a)) :: r => qk h a = 10 + ci ∧ nx ls (vi (qi h a k) :: r) h b
  | _ => False
def o_gr (ci k : Nat) : OPP := fun ls st h b _ _ nx => match st with
  | .inr (.inr (some a)) :: r => qk h a = 10 + ci ∧ nx ls (vr (qr h a k) :: r) h b
  | _ => False
def o_pi (ci k : Nat) : OPP := fun ls st h b _ _ nx => match st with
  | .inl z :: .inr (.inr (some a)) :: r => qk h a = 10 + ci ∧ nx ls r (wi h a (fu (qi h a) k z)) b
  | _ => False
def o_pz (ci k : Nat) : OPP := fun ls st h b _ _ nx => match st with
  | .inl z :: .inr (.inr (some a)) :: r => qk h a = 10 + ci ∧ (z = 0 ∨ z = 1) ∧ nx ls r (wi h a (fu (qi h a) k z)) b
  | _ => False
def o_pr (ci k : Nat) : OPP := fun ls st h b _ _ nx => match st with
  | .inr (.inr z) :: .inr (.inr (some a)) :: r => qk h a = 10 + ci ∧ nx ls r (wr h a (fu (qr h a) k z)) b
  | _ => False
def o_new (ci N : Nat) : OPP := fun ls st h b _ _ nx => 1 ≤ b.1 ∧ N ≤ b.2 ∧ nx ls (vr (some (qt h)) :: st) (wn h (10 + ci) N) (b.1 - 1, b.2 - N)
def o_newa (k : Nat) : OPP := fun ls st h b _ _ nx => match st with
  | .inl n :: r => 0 ≤ n ∧ n ≤ 60000000 ∧ 1 ≤ b.1 ∧ n.toNat ≤ b.2 ∧ nx ls (vr (some (qt h)) :: r) (wn h k n.toNat) (b.1 - 1, b.2 - n.toNat)
  | _ => False
def cpy (f g : Nat → Int) (sp dp n : Nat) : Nat → Int := fun j => if dp ≤ j ∧ j < dp + n then f (sp + (j - dp)) else g j
def o_copy : OPP := fun ls st h b _ _ nx => match st with
  | .inl n :: .inl dp :: .inr (.inr (some d)) :: .inl sp :: .inr (.inr (some a)) :: r => r.length ≤ 4 ∧ qk h a = 1 ∧ qk h d = 1 ∧ 0 ≤ sp ∧ 0 ≤ dp ∧ 0 ≤ n ∧ sp + n ≤ (ql h a : Int) ∧ dp + n ≤ (ql h d : Int) ∧ nx ls r (wi h d (cpy (qi h a) (qi h d) sp.toNat dp.toNat n.toNat)) b
  | _ => False
def o_oinit : OPP := fun ls st h b _ _ nx => match st with
  | .inr (.inr (some _)) :: r => r.length ≤ 4 ∧ nx ls r h b
  | _ => False
theorem cat_le : ∀ (r : List AV), ((r.map cv).map fun v => v.category).sum ≤ 2 * r.length
  | [] => by simp
  | v :: r => by
    have ih := cat_le r
    have h1 : (cv v).category ≤ 2 := by
      match v with
      | .inl _ => show (1 : Nat) ≤ 2; omega
      | .inr (.inl _) => show (2 : Nat) ≤ 2; omega
      | .inr (.inr none) => show (1 : Nat) ≤ 2; omega
      | .inr (.inr (some _)) => show (1 : Nat) ≤ 2; omega
    simp only [List.map_cons, List.sum_cons, List.length_cons]
    omega
section SNH
variable {i : MI} {pc : Nat}
theorem k_iald (hd : decode i.1 pc = .ok (.iaload, 1)) : Okop i pc o_iald (pc + 1) := by
  rintro ⟨p, l, e, R, s, m, args, below, meth, c, g, Rt⟩ ⟨hx, hb, hml, hown, hts, hr, hnm, hlk, hKF, hR1, hR2⟩ ls st h b nx hnx hop
  intro H locs lsA cells slots hH hL hls hc hs
  unfold o_iald at hop
  split at hop
  · rename_i j a r
    obtain ⟨h1, h2, h3, hop⟩ := hop
    have hn := hH.2.2.2.2.1 a
    have hj : inI j := by unfold inI; omega
    have kk := hnx _ _ _ _ hop H locs lsA cells slots hH hL hls hc hs
    refine W.iald (v := .int (jI (qi h a j.toNat))) hx hb ((hH.2.2.2.2.2 a).1 h1) ((hKF.2.1 1 (by omega) (by omega)).1 _ _) (fun q => by cases q) (by rw [arrV_size]; exact jI_in h2 h3 hn) (by rw [jI_clamp hj, arrV_read _ _ (by omega)]) rfl rfl hd kk
  · exact hop.elim
theorem k_zald (hd : decode i.1 pc = .ok (.baload, 1)) : Okop i pc o_zald (pc + 1) := by
  rintro ⟨p, l, e, R, s, m, args, below, meth, c, g, Rt⟩ ⟨hx, hb, hml, hown, hts, hr, hnm, hlk, hKF, hR1, hR2⟩ ls st h b nx hnx hop
  intro H locs lsA cells slots hH hL hls hc hs
  unfold o_zald at hop
  split at hop
  · rename_i j a r
    obtain ⟨h1, h2, h3, hop⟩ := hop
    have hn := hH.2.2.2.2.1 a
    have hj : inI j := by unfold inI; omega
    have kk := hnx _ _ _ _ hop H locs lsA cells slots hH hL hls hc hs
    refine W.zald (v := .int (jI (qi h a j.toNat))) hx hb ((hH.2.2.2.2.2 a).2.2.1 h1) ((hKF.2.1 3 (by omega) (by omega)).1 _ _) (fun q => by cases q) (by rw [arrV_size]; exact jI_in h2 h3 hn) (by rw [jI_clamp hj, arrV_read _ _ (by omega)]) rfl rfl hd kk
  · exact hop.elim
theorem k_lald (hd : decode i.1 pc = .ok (.laload, 1)) : Okop i pc o_lald (pc + 1) := by
  rintro ⟨p, l, e, R, s, m, args, below, meth, c, g, Rt⟩ ⟨hx, hb, hml, hown, hts, hr, hnm, hlk, hKF, hR1, hR2⟩ ls st h b nx hnx hop
  intro H locs lsA cells slots hH hL hls hc hs
  unfold o_lald at hop
  split at hop
  · rename_i j a r
    obtain ⟨h1, h2, h3, hop⟩ := hop
    have hn := hH.2.2.2.2.1 a
    have hj : inI j := by unfold inI; omega
    have kk := hnx _ _ _ _ hop H locs lsA cells slots hH hL hls hc hs
    refine W.lald (v := .long (jL (qj h a j.toNat))) hx hb ((hH.2.2.2.2.2 a).2.1 h1) ((hKF.2.1 2 (by omega) (by omega)).1 _ _) (fun q => by cases q) (by rw [arrV_size]; exact jI_in h2 h3 hn) (by rw [jI_clamp hj, arrV_read _ _ (by omega)]) rfl rfl hd kk
  · exact hop.elim
theorem qty_ref {k : Nat} (h4 : 4 ≤ k) (h8 : k < 8) : (qty k).isReference = true := by
  have : k = 4 ∨ k = 5 ∨ k = 6 ∨ k = 7 := by omega
  rcases this with rfl | rfl | rfl | rfl <;> rfl
theorem k_aald (hd : decode i.1 pc = .ok (.aaload, 1)) : Okop i pc o_aald (pc + 1) := by
  rintro ⟨p, l, e, R, s, m, args, below, meth, c, g, Rt⟩ ⟨hx, hb, hml, hown, hts, hr, hnm, hlk, hKF, hR1, hR2⟩ ls st h b nx hnx hop
  intro H locs lsA cells slots hH hL hls hc hs
  unfold o_aald at hop
  split at hop
  · rename_i j a r
    obtain ⟨⟨h4, h8⟩, h2, h3, hop⟩ := hop
    have hn := hH.2.2.2.2.1 a
    have hj : inI j := by unfold inI; omega
    have kk := hnx _ _ _ _ hop H locs lsA cells slots hH hL hls hc hs
    refine W.aald (v := va_rf (qr h a j.toNat)) (ty := qty (qk h a)) hx hb ((hH.2.2.2.2.2 a).2.2.2.1 _ rfl h4 h8) ((hKF.2.1 _ (by omega) h8).1 _ _) (qty_ref h4 h8) (fun q => by cases q) (by rw [arrV_size]; exact jI_in h2 h3 hn) (by rw [jI_clamp hj, arrV_read _ _ (by omega)]) rfl rfl hd kk
  · exact hop.elim
theorem k_iast (hd : decode i.1 pc = .ok (.iastore, 1)) : Okop i pc o_iast (pc + 1) := by
  rintro ⟨p, l, e, R, s, m, args, below, meth, c, g, Rt⟩ ⟨hx, hb, hml, hown, hts, hr, hnm, hlk, hKF, hR1, hR2⟩ ls st h b nx hnx hop
  intro H locs lsA cells slots hH hL hls hc hs
  unfold o_iast at hop
  split at hop
  · rename_i z j a r
    obtain ⟨h1, h2, h3, hop⟩ := hop
    have hn := hH.2.2.2.2.1 a
    have hj : inI j := by unfold inI; omega
    refine W.iast hx hb ((hH.2.2.2.2.2 a).1 h1) ((hKF.2.1 1 (by omega) (by omega)).1 _ _) (fun q => by cases q) (by rw [arrV_size]; exact jI_in h2 h3 hn) rfl rfl hd (fun H1 e1 e2 e3 => ?_)
    refine hnx _ _ _ _ hop H1 _ lsA cells slots (hH.wi e2 e3 (by omega) (cAt_1 h1 ?_)) (lcs hL (hH.2.2.2.1 a (by omega)).1) hls hc hs
    rw [e1, arrV_store, jI_clamp hj, updV_i, qi_ws]; rfl
  · exact hop.elim
theorem k_zast (hd : decode i.1 pc = .ok (.bastore, 1)) : Okop i pc o_zast (pc + 1) := by
  rintro ⟨p, l, e, R, s, m, args, below, meth, c, g, Rt⟩ ⟨hx, hb, hml, hown, hts, hr, hnm, hlk, hKF, hR1, hR2⟩ ls st h b nx hnx hop
  intro H locs lsA cells slots hH hL hls hc hs
  unfold o_zast at hop
  split at hop
  · rename_i z j a r
    obtain ⟨h1, h2, h3, hz, hop⟩ := hop
    have hn := hH.2.2.2.2.1 a
    have hj : inI j := by unfold inI; omega
    have hnar : narrow .boolean (.int (jI z)) = .int (jI z) := by rcases hz with rfl | rfl <;> rfl
    refine W.zast hx hb ((hH.2.2.2.2.2 a).2.2.1 h1) ((hKF.2.1 3 (by omega) (by omega)).1 _ _) (fun q => by cases q) (by rw [arrV_size]; exact jI_in h2 h3 hn) rfl rfl hd (fun H1 e1 e2 e3 => ?_)
    rw [hnar] at e1
    refine hnx _ _ _ _ hop H1 _ lsA cells slots (hH.wi e2 e3 (by omega) (cAt_3 h1 ?_)) (lcs hL (hH.2.2.2.1 a (by omega)).1) hls hc hs
    rw [e1, arrV_store, jI_clamp hj, updV_i, qi_ws]; rfl
  · exact hop.elim
theorem k_last (hd : decode i.1 pc = .ok (.lastore, 1)) : Okop i pc o_last (pc + 1) := by
  rintro ⟨p, l, e, R, s, m, args, below, meth, c, g, Rt⟩ ⟨hx, hb, hml, hown, hts, hr, hnm, hlk, hKF, hR1, hR2⟩ ls st h b nx hnx hop
  intro H locs lsA cells slots hH hL hls hc hs
  unfold o_last at hop
  split at hop
  · rename_i z j a r
    obtain ⟨h1, h2, h3, hop⟩ := hop
    have hn := hH.2.2.2.2.1 a
    have hj : inI j := by unfold inI; omega
    refine W.last hx hb ((hH.2.2.2.2.2 a).2.1 h1) ((hKF.2.1 2 (by omega) (by omega)).1 _ _) (fun q => by cases q) (by rw [arrV_size]; exact jI_in h2 h3 hn) rfl rfl hd (fun H1 e1 e2 e3 => ?_)
    refine hnx _ _ _ _ hop H1 _ lsA cells slots (hH.wj e2 e3 (by omega) (cAt_2 h1 ?_)) (lcs hL (hH.2.2.2.1 a (by omega)).1) hls hc hs
    rw [e1, arrV_store, jI_clamp hj, updV_l, qj_ws]; rfl
  · exact hop.elim
theorem k_aast {k ec : Nat} {r0 : vw_C} (hd : decode i.1 pc = .ok (.aastore, 1)) (h4 : 4 ≤ k) (h8 : k < 8) (hr0 : vwCl[ec]? = some r0) (hq : qty k = .object r0.1) : Okop i pc (o_aast k ec) (pc + 1) := by
  rintro ⟨p, l, e, R, s, m, args, below, meth, c, g, Rt⟩ ⟨hx, hb, hml, hown, hts, hr, hnm, hlk, hKF, hR1, hR2⟩ ls st h b nx hnx hop
  intro H locs lsA cells slots hH hL hls hc hs
  unfold o_aast at hop
  split at hop
  · rename_i v j a r
    obtain ⟨h1, hv, h2, h3, hop⟩ := hop
    have hn := hH.2.2.2.2.1 a
    have hj : inI j := by unfold inI; omega
    obtain ⟨cellV, g1, g2, g3, -⟩ := (hH.2.2.2.2.2 v).2.2.2.2 ec r0 hv hr0
    have hcls := (hKF.1.1 ec r0 hr0).2
    have hra := (hKF.2.1 k (by omega) h8).2
    rw [hq] at hra
    obtain ⟨kA, comp, k1, k2, k3, -⟩ := hra
    have hcomp : comp = g.1 ec := Option.some.inj (k3.symm.trans hcls.1)
    subst hcomp
    have hasg := va_assign hcls
    obtain ⟨kC, hkC, -⟩ := hcls.2
    refine W.aast hx hb ((hH.2.2.2.2.2 a).2.2.2.1 _ h1 h4 h8) (fun q h => by cases h) (fun h => by cases h) k1 k2 rfl hkC ⟨by rw [← jI_0, jI_lt hj inI_0]; omega, by rw [arrV_size, jI_clamp hj]; omega⟩ g1 (fun q h => by rw [g3] at h; cases h) (by rw [g2]; exact hkC) (by rw [g2]; exact hasg) rfl rfl hd (fun H1 e1 e2 e3 => ?_)
    refine hnx _ _ _ _ hop H1 _ lsA cells slots (hH.wr e2 e3 (by omega) (cAt_4 h1 h4 h8 ?_)) (lcs hL (hH.2.2.2.1 a (by omega)).1) hls hc hs
    rw [e1, arrV_store, jI_clamp hj, show Value.ref v = va_rf (some v) from rfl, updV_r, qr_ws]; rfl
  · exact hop.elim
theorem k_alen (hd : decode i.1 pc = .ok (.arraylength, 1)) : Okop i pc o_alen (pc + 1) := by
  rintro ⟨p, l, e, R, s, m, args, below, meth, c, g, Rt⟩ ⟨hx, hb, hml, hown, hts, hr, hnm, hlk, hKF, hR1, hR2⟩ ls st h b nx hnx hop
  intro H locs lsA cells slots hH hL hls hc hs
  unfold o_alen at hop
  split at hop
  · rename_i a r
    obtain ⟨⟨h1, h8⟩, hop⟩ := hop
    have kk := hnx _ _ _ _ hop H locs lsA cells slots hH hL hls hc hs
    have hcell : ∃ z : Nat → Value, H[a]? = some (arrV (g.2.2.1 (qk h a)) (ql h a) z) := by
      rcases (show qk h a = 1 ∨ qk h a = 2 ∨ qk h a = 3 ∨ 4 ≤ qk h a by omega) with q | q | q | q
      · exact ⟨_, by rw [(hH.2.2.2.2.2 a).1 q, q]⟩
      · exact ⟨_, by rw [(hH.2.2.2.2.2 a).2.1 q, q]⟩
      · exact ⟨_, by rw [(hH.2.2.2.2.2 a).2.2.1 q, q]⟩
      · exact ⟨_, (hH.2.2.2.2.2 a).2.2.2.1 _ rfl q h8⟩
    obtain ⟨z, hz⟩ := hcell
    exact W.alen (n := jI (ql h a)) hx hb hz ((hKF.2.1 _ h1 h8).1 _ _) (by rw [arrV_size]; unfold jI; rw [Int32.ofInt_eq_ofNat]) rfl rfl hd kk
  · exact hop.elim
theorem k_oinit {idx : Nat} (hd : decode i.1 pc = .ok (.invokespecial idx, 3)) (hl : Cond.methodLink i.2.2.1 idx Lib.objectInit ∈ gTbl) (hi : Cond.instanceMethod Lib.objectInit ∈ gTbl) (hco : Cond.code Lib.objectInit ⟨#[0xb1]⟩ 1 none ∈ gTbl) (hlev : 1 ≤ i.2.2.2.2.2) : Okop i pc o_oinit (pc + 3) := by
  rintro ⟨p, l, e, R, s, m, args, below, meth, c, g, Rt⟩ ⟨hx, hb, hml, hown, hts, hr, hnm, hlk, hKF, hR1, hR2⟩ ls st h b nx hnx hop
  intro H locs lsA cells slots hH hL hls hc hs
  unfold o_oinit at hop
  split at hop
  · rename_i a r
    obtain ⟨h4, hop⟩ := hop
    have hcat := cat_le r
    exact W.objInit hx hb hown (hts _ hl) (hts _ hi) (hts _ hco) rfl (by rw [hml]; exact hls.1) rfl hd (by omega) (by show 2 * 0 + _ + 12 ≤ _; omega) (hnx _ _ _ _ hop H locs lsA cells slots hH hL hls hc hs)
  · exact hop.elim
end SNH

/-! ===== each call, on both sides, further ===== -/
-- match
noncomputable def rMt (D : Dd) (lo hi : Int) : Int := rI (mtOk lo hi) (mtc D lo hi).2.2.2 (-1)
noncomputable def fMt (D : Dd) (lo hi : Int) : Dd := rI (mtOk lo hi) (mtD D lo hi) D
theorem a7_match {h : Hp} {x : Nat} {D : Dd} {K : RT} {lo hi : Int} (H : Nw h x (x + 1) D) (i1 : inI lo) (i2 : inI hi) (N : N7 h x (fMt D lo hi) K (vi (rMt D lo hi))) : T_X7_match [vr (some x), vi lo, vi hi] h K := by
  refine ⟨x, x + 1, lo, hi, D, rfl, H, i1, i2, fun q => ?_, fun q g hg => ?_⟩
  · unfold fMt rMt at N; rw [rI_f q, rI_f q] at N; exact N h (Qx.rf h _) H.2.2
  · unfold fMt rMt at N; rw [rI_t q, rI_t q] at N
    exact N.w1 (by unfold pX; omega) (u_match H.2.2 hg)
theorem a8_match {h : Hp} {x : Nat} {D : Dd} {kf : Nat → Int} {K : RT} {lo hi : Int} (H : MS h (x + 100) D kf) (hI : Inv D) (i1 : inI lo) (i2 : inI hi) (N : N8 h x (fMt D lo hi) K (vi (rMt D lo hi))) : T_X8_match [vr (some (x + 100)), vi lo, vi hi] h K := by
  refine ⟨x + 100, lo, hi, rfl, H.1, by rw [H.2.1]; exact hI, i1, i2, fun q => ?_, fun q a b => ?_⟩
  · unfold fMt rMt at N; rw [rI_f q, rI_f q] at N; exact N.self H.2.1
  · unfold fMt rMt at N; rw [rI_t q, rI_t q] at N; rw [H.2.1]
    exact N _ (((Qx.wi h _ (by unfold pY; omega)).tr (Qx.wi _ _ (by unfold pY; omega))).tr (Qx.wi _ _ (by unfold pY; omega))) (by rw [qi_wn (by omega), qi_wn (by omega), qi_ws]) (by rw [qi_wn (by omega), qi_wn (by omega), qi_wn (by omega)])
-- round
noncomputable def rdW (D : Dd) (c : Nat) : List Pth → Int × Dd
  | [] => (0, D)
  | [p] => (p.length, rdD D c p)
  | _ => (-2, D)
noncomputable def rdR (D : Dd) (c f t : Int) : Int × Dd := rI (rdOk c f t) (rdW D c.toNat (wys D f t)) (-1, D)
theorem rdW_2 {D : Dd} {c : Nat} {L : List Pth} (h : 2 ≤ L.length) : rdW D c L = (-2, D) := by
  match L, h with
  | p :: q :: L, _ => rfl
theorem a7_round {h : Hp} {x : Nat} {D : Dd} {K : RT} {c f t : Int} (H : Nw h x (x + 1) D) (r3 : qr h x 3 = some (x + 85)) (hdr : isDr h (x + 85)) (i1 : inI c) (i2 : inI f) (i3 : inI t) (N : N7 h x (rdR D c f t).2 K (vi (rdR D c f t).1)) : T_X7_round [vr (some x), vi c, vi f, vi t] h K := by
  refine ⟨x, x + 1, x + 85, c, f, t, D, rfl, H, r3, hdr, by omega, i1, i2, i3, fun q => ?_, fun q u v => ?_⟩
  · unfold rdR at N; rw [rI_f q] at N; exact N h (Qx.rf h _) H.2.2
  · unfold rdR at N; rw [rI_t q] at N
    have e1 : Qx h (dW h (x + 85) u v) (pX x) := (Qx.wi h _ (by unfold pX; omega)).tr (Qx.wi _ _ (by unfold pX; omega))
    have S1 : Stt (dW h (x + 85) u v) (x + 1) D := by
      have := H.2.2.qx (P := fun b => b = x + 87 ∨ b = x + 86) (h' := dW h (x + 85) u v) ((Qx.wi h _ (.inl rfl)).tr (Qx.wi _ _ (.inr rfl))) (fun b h1 h2 => by omega)
      exact this
    refine ⟨fun e => ?_, fun e => ?_, fun p e s hs => ?_⟩
    · rw [e] at N; exact N _ e1 S1
    · rw [rdW_2 e] at N; exact N _ e1 S1
    · rw [e] at N
      unfold rdOk at q
      obtain ⟨F, rfl, hF⟩ : ∃ F : Nat, f = (F : Int) ∧ F < 12 := ⟨f.toNat, by omega, by omega⟩
      have hst := pth_ok 12 (F : Int) (2 ^ (F : Int).toNat) p (by rw [show pth D t 12 (F : Int) (2 ^ (F : Int).toNat) = wys D F t from rfl, e]; exact List.mem_singleton.mpr rfl)
      have hrgk := fun k (_ : k < 12) => mark_rg (k := k) p zz hst (by unfold zz; omega) (by unfold zz; omega)
      exact N _ (e1.tr (Qx.wi _ _ (by unfold pX; omega))) (u_round S1 (by omega) hs hrgk)
theorem a8_round {h : Hp} {x : Nat} {D : Dd} {kf : Nat → Int} {K : RT} {c f t : Int} (H : MS h (x + 100) D kf) (hI : Inv D) (i1 : inI c) (i2 : inI f) (i3 : inI t) (N : N8 h x (rdR D c f t).2 K (vi (rdR D c f t).1)) : T_X8_round [vr (some (x + 100)), vi c, vi f, vi t] h K := by
  refine ⟨x + 100, c, f, t, rfl, H.1, by rw [H.2.1]; exact hI, i1, i2, i3, fun q => ?_, fun q w b g => ?_⟩
  · unfold rdR at N; rw [rI_f q] at N; exact N.self H.2.1
  · unfold rdR at N; rw [rI_t q] at N
    rw [H.2.1]
    have e1 : ∀ d : Dd, Qx h (rH h (x + 100) d w b g) (pY x) := fun d => (((Qx.wi h _ (by unfold pY; omega)).tr (Qx.wi _ _ (by unfold pY; omega))).tr (Qx.wi _ _ (by unfold pY; omega))).tr (Qx.wi _ _ (by unfold pY; omega))
    have k2 : ∀ d : Dd, qi (rH h (x + 100) d w b g) (x + 102) = qi h (x + 102) := fun d => by unfold rH; rw [qi_wn (by omega), qi_wn (by omega), qi_wn (by omega), qi_wn (by omega)]
    refine ⟨fun e => ?_, fun e => ?_, fun p e => ?_⟩
    · rw [e] at N; exact N _ (e1 D) rH_1 (k2 D)
    · rw [rdW_2 e] at N; exact N _ (e1 D) rH_1 (k2 D)
    · rw [e] at N; exact N _ (e1 _) rH_1 (k2 _)
-- best
noncomputable def fBs (D : Dd) : Dd := rI ((bst D).1 = -1) D (bsD D)
theorem a7_best {h : Hp} {x : Nat} {D : Dd} {K : RT} (H : Nw h x (x + 1) D) (r5 : qr h x 5 = some (x + 93)) (hca : isCa h (x + 93)) (N : N7 h x (fBs D) K (vl (bst D).1)) : T_X7_best [vr (some x)] h K := by
  have qw : ∀ (h1 : Hp) (F : Nat → Nat → Int), Qx h1 (wc h1 (x + 93) F) (pX x) := fun h1 F => ⟨⟨rfl, rfl, rfl, rfl⟩, fun b hb => qc_n (by unfold pX at hb; omega)⟩
  refine ⟨x, x + 1, x + 93, D, rfl, H, r5, hca, by omega, fun F => ⟨fun q => ?_, fun q g hg => ?_⟩⟩
  · unfold fBs at N; rw [rI_t q, q] at N
    exact N _ (qw h F) (H.2.2.qx (P := fun b => x + 93 ≤ b) ⟨⟨rfl, rfl, rfl, rfl⟩, fun b hb => qc_n (by omega)⟩ (fun b h1 h2 => by omega))
  · unfold fBs at N; rw [rI_f q] at N
    have e1 : Qx h (wm h (x + 1) g) (pX x) := ⟨⟨rfl, rfl, rfl, rfl⟩, fun b hb => qm_n (fun m hm => by unfold pX at hb; omega)⟩
    exact N _ (e1.tr (qw _ F)) (u_best H.2.2 ⟨rfl, rfl, rfl⟩ (fun b h1 h2 => qc_n (by omega)) hg q)
theorem a8_best {h : Hp} {x : Nat} {D : Dd} {kf : Nat → Int} {K : RT} (H : MS h (x + 100) D kf) (hI : Inv D) (N : N8 h x (fBs D) K (vl (bst D).1)) : T_X8_best [vr (some (x + 100))] h K := by
  refine ⟨x + 100, rfl, H.1, by rw [H.2.1]; exact hI, fun a f => ?_⟩
  rw [H.2.1]
  have e1 : ∀ d : Dd, Qx h (wi (wi (wi h (x + 100 + 1) d) (x + 100 + 9) a) (x + 100 + 10) f) (pY x) := fun d => ((Qx.wi h _ (by unfold pY; omega)).tr (Qx.wi _ _ (by unfold pY; omega))).tr (Qx.wi _ _ (by unfold pY; omega))
  refine ⟨fun q => ?_, fun q => ?_⟩
  · unfold fBs at N; rw [rI_t q, q] at N
    exact N _ (e1 D) (by rw [qi_wn (by omega), qi_wn (by omega), qi_ws]) (by rw [qi_wn (by omega), qi_wn (by omega), qi_wn (by omega)])
  · unfold fBs at N; rw [rI_f q] at N
    exact N _ (e1 _) (by rw [qi_wn (by omega), qi_wn (by omega), qi_ws]) (by rw [qi_wn (by omega), qi_wn (by omega), qi_wn (by omega)])
-- over
theorem a7_over {h : Hp} {x : Nat} {D : Dd} {K : RT} (H : Nw h x (x + 1) D) (r3 : qr h x 3 = some (x + 85)) (hdr : isDr h (x + 85)) (N : N7 h x D K (vi (clC D 12).2)) : T_X7_over [vr (some x)] h K :=
  ⟨x, x + 1, x + 85, D, rfl, H, r3, hdr, by omega, fun g => N.w1 (by unfold pX; omega) (H.2.2.qx (P := fun b => b = x + 88) (Qx.wi h g rfl) (fun b h1 h2 => by omega))⟩
theorem a8_over {h : Hp} {x : Nat} {D : Dd} {kf : Nat → Int} {K : RT} (H : MS h (x + 100) D kf) (hI : Inv D) (N : N8 h x D K (vi (clC D 12).2)) : T_X8_over [vr (some (x + 100))] h K := by
  refine ⟨x + 100, rfl, H.1, by rw [H.2.1]; exact hI, fun g => ?_⟩
  rw [H.2.1, ← (cl_eq hI.1 12 (Nat.le_refl _)).1]
  exact N _ (Qx.wi h _ (by unfold pY; omega)) (by rw [qi_wn (by omega)]; exact H.2.1) (qi_wn (by omega))
-- calls that change nothing
theorem a7_of {h : Hp} {x : Nat} {D : Dd} {K : RT} {m w : Int} (H : Nw h x (x + 1) D) (i1 : inI m) (i2 : inI w) (N : N7 h x D K (vi (ofF D m w))) : T_X7_of [vr (some x), vi m, vi w] h K := ⟨x, x + 1, m, w, D, rfl, H, i1, i2, N h (Qx.rf h _) H.2.2⟩
theorem a8_of {h : Hp} {x : Nat} {D : Dd} {kf : Nat → Int} {K : RT} {m w : Int} (H : MS h (x + 100) D kf) (_ : Inv D) (i1 : inI m) (i2 : inI w) (N : N8 h x D K (vi (ofF D m w))) : T_X8_of [vr (some (x + 100)), vi m, vi w] h K := ⟨x + 100, m, w, rfl, H.1, i1, i2, by rw [H.2.1]; exact N.self H.2.1⟩
theorem a7_chain {h : Hp} {x : Nat} {D : Dd} {K : RT} {m w : Int} (H : Nw h x (x + 1) D) (i1 : inI m) (i2 : inI w) (N : N7 h x D K (vi (chnF D m w))) : T_X7_chain [vr (some x), vi m, vi w] h K := ⟨x, x + 1, m, w, D, rfl, H, i1, i2, N h (Qx.rf h _) H.2.2⟩
theorem a8_chain {h : Hp} {x : Nat} {D : Dd} {kf : Nat → Int} {K : RT} {m w : Int} (H : MS h (x + 100) D kf) (hI : Inv D) (i1 : inI m) (i2 : inI w) (N : N8 h x D K (vi (chnF D m w))) : T_X8_chain [vr (some (x + 100)), vi m, vi w] h K := ⟨x + 100, m, w, rfl, H.1, by rw [H.2.1]; exact hI, i1, i2, by rw [H.2.1]; exact N.self H.2.1⟩
theorem a7_worst {h : Hp} {x : Nat} {D : Dd} {K : RT} {m w : Int} (H : Nw h x (x + 1) D) (i1 : inI m) (i2 : inI w) (N : N7 h x D K (vi (wstF D m w))) : T_X7_worst [vr (some x), vi m, vi w] h K := ⟨x, x + 1, m, w, D, rfl, H, i1, i2, N h (Qx.rf h _) H.2.2⟩
theorem a8_worst {h : Hp} {x : Nat} {D : Dd} {kf : Nat → Int} {K : RT} {m w : Int} (H : MS h (x + 100) D kf) (hI : Inv D) (i1 : inI m) (i2 : inI w) (N : N8 h x D K (vi (wstF D m w))) : T_X8_worst [vr (some (x + 100)), vi m, vi w] h K := ⟨x + 100, m, w, rfl, H.1, by rw [H.2.1]; exact hI, i1, i2, by rw [H.2.1]; exact N.self H.2.1⟩
theorem a7_pull {h : Hp} {x : Nat} {D : Dd} {K : RT} {m w : Int} (H : Nw h x (x + 1) D) (i1 : inI m) (i2 : inI w) (N : N7 h x D K (vi (pulF D m w))) : T_X7_pull [vr (some x), vi m, vi w] h K := ⟨x, x + 1, m, w, D, rfl, H, i1, i2, N h (Qx.rf h _) H.2.2⟩
theorem a8_pull {h : Hp} {x : Nat} {D : Dd} {kf : Nat → Int} {K : RT} {m w : Int} (H : MS h (x + 100) D kf) (hI : Inv D) (i1 : inI m) (i2 : inI w) (N : N8 h x D K (vi (pulF D m w))) : T_X8_pull [vr (some (x + 100)), vi m, vi w] h K := ⟨x + 100, m, w, rfl, H.1, by rw [H.2.1]; exact hI, i1, i2, by rw [H.2.1]; exact N.self H.2.1⟩
theorem a7_corner {h : Hp} {x : Nat} {D : Dd} {K : RT} {c m w : Int} (H : Nw h x (x + 1) D) (i1 : inI c) (i2 : inI m) (i3 : inI w) (N : N7 h x D K (vi (crnF D c m w))) : T_X7_corner [vr (some x), vi c, vi m, vi w] h K := ⟨x, x + 1, c, m, w, D, rfl, H, i1, i2, i3, N h (Qx.rf h _) H.2.2⟩
theorem a8_corner {h : Hp} {x : Nat} {D : Dd} {kf : Nat → Int} {K : RT} {c m w : Int} (H : MS h (x + 100) D kf) (hI : Inv D) (i1 : inI c) (i2 : inI m) (i3 : inI w) (N : N8 h x D K (vi (crnF D c m w))) : T_X8_corner [vr (some (x + 100)), vi c, vi m, vi w] h K := ⟨x + 100, c, m, w, rfl, H.1, by rw [H.2.1]; exact hI, i1, i2, i3, by rw [H.2.1]; exact N.self H.2.1⟩
theorem a7_always {h : Hp} {x : Nat} {D : Dd} {K : RT} {c : Int} (H : Nw h x (x + 1) D) (i1 : inI c) (N : N7 h x D K (vi (alwF D c))) : T_X7_always [vr (some x), vi c] h K := ⟨x, x + 1, c, D, rfl, H, i1, N h (Qx.rf h _) H.2.2⟩
theorem a8_always {h : Hp} {x : Nat} {D : Dd} {kf : Nat → Int} {K : RT} {c : Int} (H : MS h (x + 100) D kf) (hI : Inv D) (i1 : inI c) (N : N8 h x D K (vi (alwF D c))) : T_X8_always [vr (some (x + 100)), vi c] h K := ⟨x + 100, c, rfl, H.1, by rw [H.2.1]; exact hI, i1, by rw [H.2.1]; exact N.self H.2.1⟩
theorem a7_choice {h : Hp} {x : Nat} {D : Dd} {K : RT} {c : Int} (H : Nw h x (x + 1) D) (i1 : inI c) (N : N7 h x D K (vi (choF D c))) : T_X7_choice [vr (some x), vi c] h K := ⟨x, x + 1, c, D, rfl, H, i1, N h (Qx.rf h _) H.2.2⟩
theorem a8_choice {h : Hp} {x : Nat} {D : Dd} {kf : Nat → Int} {K : RT} {c : Int} (H : MS h (x + 100) D kf) (_ : Inv D) (i1 : inI c) (N : N8 h x D K (vi (choF D c))) : T_X8_choice [vr (some (x + 100)), vi c] h K := ⟨x + 100, c, rfl, H.1, i1, by rw [H.2.1]; exact N.self H.2.1⟩
theorem a7_mate {h : Hp} {x : Nat} {D : Dd} {K : RT} {c : Int} (H : Nw h x (x + 1) D) (i1 : inI c) (N : N7 h x D K (vi (matF D c))) : T_X7_mate [vr (some x), vi c] h K := ⟨x, x + 1, c, D, rfl, H, i1, N h (Qx.rf h _) H.2.2⟩
theorem a8_mate {h : Hp} {x : Nat} {D : Dd} {kf : Nat → Int} {K : RT} {c : Int} (H : MS h (x + 100) D kf) (_ : Inv D) (i1 : inI c) (N : N8 h x D K (vi (matF D c))) : T_X8_mate [vr (some (x + 100)), vi c] h K := ⟨x + 100, c, rfl, H.1, i1, by rw [H.2.1]; exact N.self H.2.1⟩
theorem qx_cH (h : Hp) (x : Nat) (u v : Nat → Int) : Qx h (cH h (x + 100) u v) (pY x) := (Qx.wj h _ _).tr (Qx.wj _ _ _)
theorem a7_mean {h : Hp} {x R : Nat} {D : Dd} {K : RT} {m w : Int} (H : Fbs h x D R) (i1 : inI m) (i2 : inI w) (N : N7 h x D K (vl (meaF D m w))) : T_X7_mean [vr (some x), vi m, vi w] h K := ⟨x, R, m, w, D, rfl, H, i1, i2, N h (Qx.rf h _) H.1.2.2⟩
theorem a8_mean {h : Hp} {x : Nat} {D : Dd} {kf : Nat → Int} {K : RT} {m w : Int} (H : MS h (x + 100) D kf) (hI : Inv D) (i1 : inI m) (i2 : inI w) (N : N8 h x D K (vl (meaF D m w))) : T_X8_mean [vr (some (x + 100)), vi m, vi w] h K := ⟨x + 100, m, w, rfl, H.1, by rw [H.2.1]; exact hI, i1, i2, fun u v => by rw [H.2.1]; exact N _ (qx_cH h x u v) H.2.1 rfl⟩
theorem a8_chance {h : Hp} {x : Nat} {D : Dd} {kf : Nat → Int} {K : RT} {m w : Int} (H : MS h (x + 100) D kf) (hI : Inv D) (i1 : inI m) (i2 : inI w) (N : N8 h x D K (vl (chaF D m w))) : T_X8_chance [vr (some (x + 100)), vi m, vi w] h K := ⟨x + 100, m, w, rfl, H.1, by rw [H.2.1]; exact hI, i1, i2, fun u v => by rw [H.2.1]; exact N _ (qx_cH h x u v) H.2.1 rfl⟩
theorem a8_both {h : Hp} {x : Nat} {D : Dd} {kf : Nat → Int} {K : RT} {c e w : Int} (H : MS h (x + 100) D kf) (hI : Inv D) (i1 : inI c) (i2 : inI e) (i3 : inI w) (N : N8 h x D K (vl (botF D c e w))) : T_X8_both [vr (some (x + 100)), vi c, vi e, vi w] h K := ⟨x + 100, c, e, w, rfl, H.1, by rw [H.2.1]; exact hI, i1, i2, i3, fun u v => by rw [H.2.1]; exact N _ (qx_cH h x u v) H.2.1 rfl⟩

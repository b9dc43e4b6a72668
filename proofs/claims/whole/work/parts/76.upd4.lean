/-! ===== each call that writes: chains, lots, mates, choices ===== -/
theorem u_share {h : Hp} {a c m : Nat} {D : Dd} {s : Int} (H : Stt h a D) (hc : c < 6) (hm : m < 12) (hs : -3 ≤ s ∧ s ≤ 3) : Stt (wi h (a + 65 + 2 * c + 1) (fu (qi h (a + 65 + 2 * c + 1)) m s)) a (fu D (1212 + 12 * c + m) s) := by
  have hI := H.2.2
  have hC := H.2.1.2.1 c hc
  have hD : ∀ k, ¬ posC c k → fu D (1212 + 12 * c + m) s k = D k := fun k hk => by unfold posC at hk; exact fu_n (by omega)
  have d1 : ∀ j, j < 12 → dsh (fu D (1212 + 12 * c + m) s) c j = if j = m then s else dsh D c j := fun j hj => by
    unfold dsh
    by_cases u : j = m
    · rw [if_pos u, u, fu_s]
    · rw [if_neg u, fu_n (by omega)]
  refine H.ch1 hc (k3 _ _ _) (fun b _ _ hb => qi_wn (by omega)) hD ?_ (hI.ch1 hc hD ?_)
  · unfold ChC
    rw [qi_wn (by omega), qi_ws]
    refine ⟨hC.1.trans (show dcl (fu D (1212 + 12 * c + m) s) c = dcl D c from fu_n (by omega)).symm, hC.2.1.trans (show dch (fu D (1212 + 12 * c + m) s) c = dch D c from fu_n (by omega)).symm, fun j hj => ?_⟩
    rw [d1 j hj]
    unfold fu
    rw [hC.2.2 j hj]
  · have := hI.2.1 c hc
    unfold InvC
    rw [show dcl (fu D (1212 + 12 * c + m) s) c = dcl D c from fu_n (by omega), show dch (fu D (1212 + 12 * c + m) s) c = dch D c from fu_n (by omega)]
    refine ⟨fun j hj => ?_, this.2⟩
    rw [d1 j hj]
    split
    · exact hs
    · exact this.1 j hj
theorem u_ends {h : Hp} {a c : Nat} {D : Dd} {lo hi : Int} (H : Stt h a D) (hc : c < 6) (h1 : lo ≤ hi) (h2 : -100000 ≤ lo ∧ hi ≤ 100000) : Stt (wi h (a + 65 + 2 * c) (fu (fu (qi h (a + 65 + 2 * c)) 1 lo) 2 hi)) a (fu (fu D (1284 + c) lo) (1290 + c) hi) := by
  have hI := H.2.2
  have hC := H.2.1.2.1 c hc
  have hD : ∀ k, ¬ posC c k → fu (fu D (1284 + c) lo) (1290 + c) hi k = D k := fun k hk => by unfold posC at hk; rw [fu_n (by omega), fu_n (by omega)]
  have e1 : dcl (fu (fu D (1284 + c) lo) (1290 + c) hi) c = lo := by unfold dcl; rw [fu_n (by omega), fu_s]
  have e2 : dch (fu (fu D (1284 + c) lo) (1290 + c) hi) c = hi := fu_s
  have e3 : ∀ j, j < 12 → dsh (fu (fu D (1284 + c) lo) (1290 + c) hi) c j = dsh D c j := fun j hj => by unfold dsh; rw [fu_n (by omega), fu_n (by omega)]
  refine H.ch1 hc (k3 _ _ _) (fun b _ _ hb => qi_wn (by omega)) hD ?_ (hI.ch1 hc hD ?_)
  · unfold ChC
    rw [qi_ws, qi_wn (by omega), e1, e2]
    exact ⟨rfl, rfl, fun j hj => by rw [e3 j hj]; exact hC.2.2 j hj⟩
  · have := hI.2.1 c hc
    unfold InvC
    rw [e1, e2]
    exact ⟨fun j hj => by rw [e3 j hj]; exact this.1 j hj, by omega⟩
theorem u_round {h : Hp} {a c : Nat} {D : Dd} {p : Pth} {s : Nat → Int} (H : Stt h a D) (hc : c < 6) (hs : ∀ k, k < 12 → s k = mark zz p k) (hr : ∀ k, k < 12 → -1 ≤ mark zz p k ∧ mark zz p k ≤ 1) : Stt (wi h (a + 65 + 2 * c + 1) s) a (rdD D c p) := by
  have hI := H.2.2
  have hC := H.2.1.2.1 c hc
  have other : ∀ k, ¬ (1212 + 12 * c ≤ k ∧ k < 1212 + 12 * c + 12) → rdD D c p k = D k := fun k hk => if_neg hk
  have hD : ∀ k, ¬ posC c k → rdD D c p k = D k := fun k hk => by unfold posC at hk; exact other k (by omega)
  have d1 : ∀ j, j < 12 → dsh (rdD D c p) c j = mark zz p j := fun j hj => by
    unfold dsh rdD
    rw [if_pos (by omega), show 1212 + 12 * c + j - (1212 + 12 * c) = j by omega]
  refine H.ch1 hc (k3 _ _ _) (fun b _ _ hb => qi_wn (by omega)) hD ?_ (hI.ch1 hc hD ?_)
  · unfold ChC
    rw [qi_wn (by omega), qi_ws]
    exact ⟨hC.1.trans (other _ (by omega)).symm, hC.2.1.trans (other _ (by omega)).symm, fun j hj => by rw [d1 j hj, hs j hj]⟩
  · have := hI.2.1 c hc
    unfold InvC
    rw [show dcl (rdD D c p) c = dcl D c from other _ (by omega), show dch (rdD D c p) c = dch D c from other _ (by omega)]
    exact ⟨fun j hj => by have := hr j hj; rw [d1 j hj]; omega, this.2⟩
theorem u_sweep {h : Hp} {a l : Nat} {D : Dd} (H : Stt h a D) (hl : l < 2) : Stt (wi h (a + 77 + 2 * l) (fu (qi h (a + 77 + 2 * l)) 1 0)) a (fu D (1296 + l) 0) := by
  have hI := H.2.2
  have hC := H.2.1.2.2.1 l hl
  have hD : ∀ k, ¬ posL l k → fu D (1296 + l) 0 k = D k := fun k hk => by unfold posL at hk; exact fu_n (by omega)
  have e1 : dct (fu D (1296 + l) 0) l = 0 := fu_s
  have e3 : ∀ j, j < 24 → dpt (fu D (1296 + l) 0) l j = dpt D l j := fun j hj => fu_n (by omega)
  refine H.lo1 hl (k3 _ _ _) (fun b _ _ hb => qi_wn (by omega)) hD ?_ (hI.lo1 hl hD ?_)
  · unfold LoC
    rw [qi_ws, qi_wn (by omega), e1]
    exact ⟨rfl, fun j hj => by rw [e3 j hj]; exact hC.2 j hj⟩
  · have := hI.2.2.1 l hl
    unfold InvL
    rw [e1]
    exact ⟨by omega, fun j hj => by rw [e3 j hj]; exact this.2 j hj⟩
theorem u_part {h : Hp} {a l : Nat} {D : Dd} {s : Int} (H : Stt h a D) (hl : l < 2) (hs : -10000 ≤ s ∧ s ≤ 10000) (hc : dct D l < 24) : Stt (wi (wi h (a + 77 + 2 * l + 1) (fu (qi h (a + 77 + 2 * l + 1)) (dct D l).toNat s)) (a + 77 + 2 * l) (fu (qi h (a + 77 + 2 * l)) 1 (dct D l + 1))) a (ptF D l s) := by
  have hI := H.2.2
  have hC := H.2.1.2.2.1 l hl
  have hL := hI.2.2.1 l hl
  obtain ⟨N, hN⟩ : ∃ N : Nat, dct D l = (N : Int) := ⟨(dct D l).toNat, by have := hL.1; omega⟩
  unfold ptF
  rw [hN, Int.toNat_natCast]
  have hD : ∀ k, ¬ posL l k → fu (fu D (1298 + 24 * l + N) s) (1296 + l) ((N : Int) + 1) k = D k := fun k hk => by unfold posL at hk; rw [fu_n (by omega), fu_n (by omega)]
  have e1 : dct (fu (fu D (1298 + 24 * l + N) s) (1296 + l) ((N : Int) + 1)) l = (N : Int) + 1 := fu_s
  have e3 : ∀ j, j < 24 → dpt (fu (fu D (1298 + 24 * l + N) s) (1296 + l) ((N : Int) + 1)) l j = if j = N then s else dpt D l j := fun j hj => by
    unfold dpt
    rw [fu_n (by omega)]
    by_cases u : j = N
    · rw [if_pos u, u, fu_s]
    · rw [if_neg u, fu_n (by omega)]
  refine H.lo1 hl ⟨rfl, rfl, rfl⟩ (fun b _ _ hb => by rw [qi_wn (by omega), qi_wn (by omega)]) hD ?_ (hI.lo1 hl hD ?_)
  · unfold LoC
    rw [qi_ws, qi_wn (show a + 77 + 2 * l + 1 ≠ a + 77 + 2 * l by omega), qi_ws, e1]
    refine ⟨by rw [fu_s], fun j hj => ?_⟩
    rw [e3 j hj]
    unfold fu
    rw [hC.2 j hj]
  · unfold InvL
    rw [e1]
    refine ⟨by omega, fun j hj => ?_⟩
    rw [e3 j hj]
    split
    · exact hs
    · exact hL.2 j hj
theorem mtS_rg {f0 f1 : Nat → Int} {c0 c1 : Nat} {lo hi : Int} (h : c1 ≤ 24) : ∀ n k, -1 ≤ (mtS f0 f1 c0 c1 lo hi n).2.2.1 k ∧ (mtS f0 f1 c0 c1 lo hi n).2.2.1 k ≤ 23
  | 0, k => by show (-1 : Int) ≤ -1 ∧ (-1 : Int) ≤ 23; omega
  | n + 1, k => by
    have ih := mtS_rg (f0 := f0) (f1 := f1) (c0 := c0) (lo := lo) (hi := hi) h n k
    rw [mtS_s]
    split
    · exact ih
    · rename_i q
      show -1 ≤ fu _ _ _ k ∧ fu _ _ _ k ≤ 23
      unfold fu
      split
      · rcases lwF_rng f1 (mtS f0 f1 c0 c1 lo hi n).2.1 (f0 (lwF f0 (mtS f0 f1 c0 c1 lo hi n).1 (-10000) 10000 c0).toNat + lo) (f0 (lwF f0 (mtS f0 f1 c0 c1 lo hi n).1 (-10000) 10000 c0).toNat + hi) c1 with z | ⟨B, z1, z2, -⟩
        · exact absurd z q
        · rw [z2]; omega
      · exact ih
theorem u_match {h : Hp} {a : Nat} {D : Dd} {lo hi : Int} {g : Nat → Int} (H : Stt h a D) (hg : ∀ k, k < 24 → g k = (mtc D lo hi).2.2.1 k) : Stt (wi h (a + 4) g) a (mtD D lo hi) := by
  have hI := H.2.2
  have hD : ∀ k, ¬ posT k → mtD D lo hi k = D k := fun k hk => if_neg hk
  have d1 : ∀ k, k < 24 → dmt (mtD D lo hi) k = (mtc D lo hi).2.2.1 k := fun k hk => by
    unfold dmt mtD
    rw [if_pos (by omega), show 1358 + k - 1358 = k by omega]
  refine H.mt1 (k3 _ _ _) (fun b _ _ hb => qi_wn (by omega)) hD (fun k hk => by rw [qi_ws, hg k hk, d1 k hk]) (hI.mt1 hD (fun k hk => ?_))
  rw [d1 k hk]
  have := (hI.2.2.1 1 (by omega)).1
  exact mtS_rg (by omega) _ _
theorem bfs_pk {d : Dd} (hI : Inv d) : ∀ (n : Nat) (pk : Nat → Int) (pr : Int) (b : Bst), n ≤ gk d → (∀ j, j < gk d - n → 0 ≤ pk j ∧ pk j < 4) → (b.1 ≠ -1 → ∀ j, j < gk d → 0 ≤ b.2 j ∧ b.2 j < 4) → ((bfs d n pk pr b).1 ≠ -1 → ∀ j, j < gk d → 0 ≤ (bfs d n pk pr b).2 j ∧ (bfs d n pk pr b).2 j < 4) := by
  intro n
  induction n with
  | zero =>
    intro pk pr b _ h1 h2
    unfold bfs
    split
    · exact fun _ => h1
    · exact h2
  | succ n ih =>
    intro pk pr b hn h1 h2
    unfold bfs
    have hg := gl_ok (d := d) (i := gk d - (n + 1)) (by omega)
    have hv := (hI.1 _ hg.1).v
    have : ∀ k, k ≤ (dv d (gl d (gk d - (n + 1)))).toNat → ((lpF (fun l b => bfs d n (fu pk (gk d - (n + 1)) l) (pr + dpr d (gl d (gk d - (n + 1))) l) b) k b).1 ≠ -1 → ∀ j, j < gk d → 0 ≤ (lpF (fun l b => bfs d n (fu pk (gk d - (n + 1)) l) (pr + dpr d (gl d (gk d - (n + 1))) l) b) k b).2 j ∧ (lpF (fun l b => bfs d n (fu pk (gk d - (n + 1)) l) (pr + dpr d (gl d (gk d - (n + 1))) l) b) k b).2 j < 4) := by
      intro k
      induction k with
      | zero => intro _; exact h2
      | succ k ihk =>
        intro hk
        refine ih _ _ _ (by omega) (fun j hj => ?_) (ihk (by omega))
        unfold fu
        split
        · omega
        · exact h1 j (by omega)
    exact this _ (Nat.le_refl _)
theorem chG_rg {d : Dd} {p : Nat → Int} (h : ∀ j, j < gk d → 0 ≤ p j ∧ p j < 4) : ∀ i, i ≤ gk d → ∀ m, -1 ≤ chG d p i m ∧ chG d p i m ≤ 3
  | 0, _, m => by show (-1 : Int) ≤ -1 ∧ (-1 : Int) ≤ 3; omega
  | i + 1, hi, m => by
    have ih := chG_rg h i (by omega) m
    have := h i (by omega)
    show -1 ≤ fu _ _ _ m ∧ fu _ _ _ m ≤ 3
    unfold fu
    split
    · omega
    · exact ih

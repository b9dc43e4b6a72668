/-! ===== care: the pure part ===== -/
/-- the measures that have a level in a choice, in order -/
def gdB (d : Dd) (m : Nat) : Bool := decide (dk d m = 0) && decide (0 < dv d m)
theorem gdB_iff {d : Dd} {m : Nat} : gdB d m = true ↔ gdd d m := by unfold gdB gdd; simp
def gls (d : Dd) : Nat → List Nat
  | 0 => []
  | m + 1 => if gdB d m = true then gls d m ++ [m] else gls d m
theorem gls_mem {d : Dd} {q : Nat} : ∀ {n : Nat}, q ∈ gls d n → q < n ∧ gdd d q
  | 0, h => by cases h
  | n + 1, h => by
    unfold gls at h
    split at h
    · rename_i e
      rcases List.mem_append.mp h with h | h
      · exact ⟨by have := (gls_mem h).1; omega, (gls_mem h).2⟩
      · have := List.mem_singleton.mp h
        subst this
        exact ⟨by omega, gdB_iff.mp e⟩
    · exact ⟨by have := (gls_mem h).1; omega, (gls_mem h).2⟩
theorem gls_len {d : Dd} : ∀ n, ((gls d n).length : Int) ≤ grd d n
  | 0 => by unfold gls grd; exact Int.le_refl _
  | n + 1 => by
    have ih := gls_len (d := d) n
    have e : grd d (n + 1) = grd d n + if 0 < dv d n then 1 else 0 := rfl
    rw [e]
    unfold gls
    split
    · rename_i q
      have := (gdB_iff.mp q).2
      rw [if_pos this, List.length_append]
      simp
      exact ih
    · split <;> omega
theorem gls_mono {d : Dd} (n : Nat) : ∀ k, (gls d n).length ≤ (gls d (n + k)).length
  | 0 => Nat.le_refl _
  | k + 1 => by
    have := gls_mono (d := d) n k
    rw [← Nat.add_assoc]
    conv => rhs; unfold gls
    split
    · rw [List.length_append]; omega
    · exact this
abbrev gk (d : Dd) : Nat := (gls d 12).length
def gl (d : Dd) (i : Nat) : Nat := (gls d 12).getD i 0
theorem gl_ok {d : Dd} {i : Nat} (h : i < gk d) : gl d i < 12 ∧ gdd d (gl d i) := by
  unfold gl
  rw [List.getD_eq_getElem?_getD, List.getElem?_eq_getElem h]
  exact gls_mem (List.getElem_mem h)
theorem gk_le {d : Dd} (h : Inv d) : gk d ≤ 8 := by
  have h1 := gls_len (d := d) 12
  have h2 := h.2.2.2.2
  unfold gk
  omega
/-- the least price of a measure's levels, and of all from the i-th on -/
def mpr (d : Dd) (m : Nat) : Nat → Int
  | 0 => 1000000
  | n + 1 => if dpr d m n < mpr d m n then dpr d m n else mpr d m n
theorem mpr_le {d : Dd} {m : Nat} : ∀ n l, l < n → mpr d m n ≤ dpr d m l
  | 0, l, h => by omega
  | n + 1, l, h => by
    unfold mpr
    by_cases e : l = n
    · subst e; split <;> omega
    · have := mpr_le (d := d) (m := m) n l (by omega)
      split <;> omega
theorem mpr_rg {d : Dd} {m : Nat} (h : InvM d m) : ∀ n, n ≤ 4 → 0 ≤ mpr d m n ∧ mpr d m n ≤ 1000000
  | 0, _ => by unfold mpr; omega
  | n + 1, hn => by
    have ih := mpr_rg h n (by omega)
    have := (h.w n (by omega)).2.2
    unfold mpr
    split <;> omega
def rsp (d : Dd) : Nat → Int
  | 0 => 0
  | n + 1 => rsp d n + mpr d (gl d (gk d - (n + 1))) (dv d (gl d (gk d - (n + 1)))).toNat
/-- the rest of the prices from place i on -/
def rst (d : Dd) (i : Nat) : Int := rsp d (gk d - i)
theorem rst_s {d : Dd} {i : Nat} (h : i < gk d) : rst d i = rst d (i + 1) + mpr d (gl d i) (dv d (gl d i)).toNat := by
  unfold rst
  obtain ⟨n, hn⟩ : ∃ n, gk d - i = n + 1 := ⟨gk d - i - 1, by omega⟩
  rw [hn, show gk d - (i + 1) = n by omega]
  show rsp d n + _ = _
  rw [show gk d - (n + 1) = i by omega]
theorem rsp_rg {d : Dd} (hI : Inv d) : ∀ n, n ≤ gk d → 0 ≤ rsp d n ∧ rsp d n ≤ n * 1000000
  | 0, _ => by unfold rsp; simp
  | n + 1, h => by
    have ih := rsp_rg hI n (by omega)
    have hg := gl_ok (d := d) (i := gk d - (n + 1)) (by omega)
    have hm := hI.1 _ hg.1
    have := mpr_rg hm (dv d (gl d (gk d - (n + 1)))).toNat (by have := hm.v; omega)
    unfold rsp
    push_cast
    omega
/-- what a level takes of a chain's room -/
def clo (d : Dd) (c i : Nat) (l : Int) : Int := dsh d c (gl d i) * (if 0 < dsh d c (gl d i) then dlo d (gl d i) l.toNat else dup d (gl d i) l.toNat)
def chi (d : Dd) (c i : Nat) (l : Int) : Int := dsh d c (gl d i) * (if 0 < dsh d c (gl d i) then dup d (gl d i) l.toNat else dlo d (gl d i) l.toNat)
theorem clo_le {d : Dd} {c i : Nat} {l : Int} (hI : Inv d) (hc : c < 6) (hi : i < gk d) (h0 : 0 ≤ l) (h1 : l < 4) : -120 ≤ clo d c i l ∧ clo d c i l ≤ 0 ∧ 0 ≤ chi d c i l ∧ chi d c i l ≤ 120 := by
  have hg := gl_ok hi
  have hw := (hI.1 _ hg.1).w l.toNat (by omega)
  have hs := (hI.2.1 c hc).1 _ hg.1
  have b1 := mul_rg (x := dsh d c (gl d i)) (a := 3) hs.1 hs.2 (y := dlo d (gl d i) l.toNat) (b := 40) (by omega) (by omega) (by omega)
  have b2 := mul_rg (x := dsh d c (gl d i)) (a := 3) hs.1 hs.2 (y := dup d (gl d i) l.toNat) (b := 40) (by omega) (by omega) (by omega)
  unfold clo chi
  split
  · have p1 := Int.mul_nonpos_of_nonneg_of_nonpos (a := dsh d c (gl d i)) (b := dlo d (gl d i) l.toNat) (by omega) (by omega)
    have p2 := Int.mul_nonneg (a := dsh d c (gl d i)) (b := dup d (gl d i) l.toNat) (by omega) (by omega)
    omega
  · have p1 := Int.mul_nonneg (a := -dsh d c (gl d i)) (b := dup d (gl d i) l.toNat) (by omega) (by omega)
    have p2 := Int.mul_nonneg (a := -dsh d c (gl d i)) (b := -dlo d (gl d i) l.toNat) (by omega) (by omega)
    rw [Int.neg_mul] at p1
    rw [Int.neg_mul_neg] at p2
    omega
/-- the rooms at the start: behind the measures without a choice -/
def lsN (d : Dd) (c n : Nat) : Int := plG d (dsh d c) + sg (fun m => if gdB d m = true then 0 else dsh d c m * les d m (dsh d c m)) n
def gtN (d : Dd) (c n : Nat) : Int := plG d (dsh d c) + sg (fun m => if gdB d m = true then 0 else dsh d c m * les d m (-dsh d c m)) n
noncomputable def rl0 (d : Dd) (c : Nat) : Int := if askI (dsh d c) = 1 then lsN d c 12 - dcl d c else 1000000000
noncomputable def rh0 (d : Dd) (c : Nat) : Int := if askI (dsh d c) = 1 then dch d c - gtN d c 12 else 1000000000
noncomputable def rl (d : Dd) (c i : Nat) (pk : Nat → Int) : Int := rl0 d c + sg (fun j => clo d c j (pk j)) i
noncomputable def rh (d : Dd) (c i : Nat) (pk : Nat → Int) : Int := rh0 d c - sg (fun j => chi d c j (pk j)) i
/-- the rooms behind the first i levels are there -/
def rok (d : Dd) (i : Nat) (pk : Nat → Int) : Prop := ∀ c, c < 6 → 0 ≤ rl d c i pk ∧ 0 ≤ rh d c i pk
def pkOk (d : Dd) (i : Nat) (pk : Nat → Int) : Prop := ∀ j, j < i → 0 ≤ pk j ∧ pk j < dv d (gl d j)
theorem rok_down {d : Dd} {i : Nat} {pk : Nat → Int} (hI : Inv d) (hi : i < gk d) (hp : 0 ≤ pk i ∧ pk i < dv d (gl d i)) (h : rok d (i + 1) pk) : rok d i pk := fun c hc => by
  have h1 := h c hc
  have hv := (hI.1 _ (gl_ok hi).1).v
  have h2 := clo_le (l := pk i) hI hc hi hp.1 (by omega)
  unfold rl rh at h1 ⊢
  rw [sg_s, sg_s] at h1
  omega
theorem rok_c {d : Dd} {i : Nat} {pk pj : Nat → Int} (h : ∀ j, j < i → pk j = pj j) : rok d i pk ↔ rok d i pj := by
  have e : ∀ c, rl d c i pk = rl d c i pj ∧ rh d c i pk = rh d c i pj := fun c => by
    unfold rl rh
    rw [sg_c (fun j hj => by rw [h j hj]), sg_c (f := fun j => chi d c j (pk j)) (fun j hj => by rw [h j hj])]
    exact ⟨rfl, rfl⟩
  exact ⟨fun q c hc => by rw [← (e c).1, ← (e c).2]; exact q c hc, fun q c hc => by rw [(e c).1, (e c).2]; exact q c hc⟩
/-! the search of all choices, in their order -/
def lpF {β : Type} (f : Nat → β → β) : Nat → β → β
  | 0, b => b
  | n + 1, b => f n (lpF f n b)
abbrev Bst : Type := Int × (Nat → Int)
noncomputable def bfs (d : Dd) : Nat → (Nat → Int) → Int → Bst → Bst
  | 0, pk, pr, b => @ite Bst (rok d (gk d) pk ∧ (b.1 = -1 ∨ pr < b.1)) (Classical.propDecidable _) (pr, pk) b
  | n + 1, pk, pr, b => lpF (fun l b => bfs d n (fu pk (gk d - (n + 1)) l) (pr + dpr d (gl d (gk d - (n + 1))) l) b) (dv d (gl d (gk d - (n + 1)))).toNat b
theorem lpF_id {β : Type} {f : Nat → β → β} {b : β} : ∀ n, (∀ l, l < n → f l b = b) → lpF f n b = b
  | 0, _ => rfl
  | n + 1, h => by
    show f n (lpF f n b) = b
    rw [lpF_id n (fun l hl => h l (by omega)), h n (by omega)]
/-- a search that can't be cheaper changes nothing -/
theorem bfs_dear {d : Dd} : ∀ (n : Nat) (pk : Nat → Int) (pr : Int) (b : Bst), n ≤ gk d → b.1 ≠ -1 → b.1 ≤ pr + rst d (gk d - n) → bfs d n pk pr b = b
  | 0, pk, pr, b, _, h1, h2 => by
    unfold bfs
    rw [if_neg]
    intro q
    rcases q.2 with q | q
    · exact h1 q
    · unfold rst at h2
      rw [show gk d - (gk d - 0) = 0 by omega] at h2
      have : rsp d 0 = 0 := rfl
      omega
  | n + 1, pk, pr, b, hn, h1, h2 => by
    unfold bfs
    refine lpF_id _ (fun l hl => ?_)
    refine bfs_dear n _ _ b (by omega) h1 ?_
    rw [rst_s (by omega), show gk d - (n + 1) + 1 = gk d - n by omega] at h2
    have := mpr_le (d := d) (m := gl d (gk d - (n + 1))) _ l hl
    omega
theorem rok_fu {d : Dd} {i j : Nat} {pk : Nat → Int} {v : Int} (h : i ≤ j) : rok d i (fu pk j v) ↔ rok d i pk := rok_c (fun k hk => fu_n (by omega))
/-- a search without room changes nothing -/
theorem bfs_tight {d : Dd} (hI : Inv d) : ∀ (n : Nat) (pk : Nat → Int) (pr : Int) (b : Bst), n ≤ gk d → ¬ rok d (gk d - n) pk → bfs d n pk pr b = b
  | 0, pk, pr, b, _, h => by
    unfold bfs
    rw [if_neg]
    intro q
    exact h q.1
  | n + 1, pk, pr, b, hn, h => by
    unfold bfs
    refine lpF_id _ (fun l hl => ?_)
    refine bfs_tight hI n _ _ b (by omega) (fun q => h ?_)
    rw [← rok_fu (j := gk d - (n + 1)) (v := (l : Int)) (Nat.le_refl _)]
    refine rok_down hI (by omega) ?_ (by rw [show gk d - (n + 1) + 1 = gk d - n by omega]; exact q)
    rw [fu_s]
    omega

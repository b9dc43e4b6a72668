/-! ===== the search of all choices, over the measures ===== -/
def prT (d : Dd) (a : Nat → Int) (m : Nat) : Int := if gdB d m = true then dpr d m (a m).toNat else 0
noncomputable def lfS (d : Dd) (a : Nat → Int) (b : Bst) : Bst := @ite Bst (good d a ∧ (b.1 = -1 ∨ sg (prT d a) 12 < b.1)) (Classical.propDecidable _) (sg (prT d a) 12, a) b
noncomputable def sF (d : Dd) : Nat → (Nat → Int) → Bst → Bst
  | 0, a, b => lfS d a b
  | n + 1, a, b => if gdB d (12 - (n + 1)) = true then lpF (fun l b => sF d n (fu a (12 - (n + 1)) l) b) (dv d (12 - (n + 1))).toNat b else sF d n a b
theorem gls_t {d : Dd} {m : Nat} (z : gdB d m = true) : gls d (m + 1) = gls d m ++ [m] := by
  conv => lhs; unfold gls
  rw [if_pos z]
theorem gls_f {d : Dd} {m : Nat} (z : ¬ gdB d m = true) : gls d (m + 1) = gls d m := by
  conv => lhs; unfold gls
  rw [if_neg z]
theorem gls_pre (d : Dd) (n : Nat) : ∀ k, ∃ r, gls d (n + k) = gls d n ++ r
  | 0 => ⟨[], by rw [Nat.add_zero, List.append_nil]⟩
  | k + 1 => by
    obtain ⟨r, e⟩ := gls_pre d n k
    rw [← Nat.add_assoc]
    by_cases z : gdB d (n + k) = true
    · exact ⟨r ++ [n + k], by rw [gls_t z, e, List.append_assoc]⟩
    · exact ⟨r, by rw [gls_f z]; exact e⟩
theorem gl_at {d : Dd} {m : Nat} (hm : m < 12) (z : gdB d m = true) : gl d (gls d m).length = m := by
  obtain ⟨r, e⟩ := gls_pre d (m + 1) (12 - (m + 1))
  rw [show m + 1 + (12 - (m + 1)) = 12 by omega, gls_t z] at e
  unfold gl
  rw [e]
  simp
theorem gl_lt {d : Dd} {M j : Nat} (hM : M ≤ 12) (hj : j < (gls d M).length) : gl d j < M := by
  obtain ⟨r, e⟩ := gls_pre d M (12 - M)
  rw [show M + (12 - M) = 12 by omega] at e
  have : gl d j = (gls d M)[j] := by
    unfold gl
    rw [e, List.getD_eq_getElem?_getD, List.getElem?_append_left hj, List.getElem?_eq_getElem hj]
    rfl
  rw [this]
  exact (gls_mem (List.getElem_mem hj)).1
theorem sg_gls (d : Dd) (F : Nat → Int) : ∀ M, M ≤ 12 → sg (fun m => if gdB d m = true then F m else 0) M = sg (fun j => F (gl d j)) (gls d M).length
  | 0, _ => rfl
  | M + 1, h => by
    rw [sg_s, sg_gls d F M (by omega)]
    by_cases z : gdB d M = true
    · rw [if_pos z, gls_t z, List.length_append, List.length_singleton, sg_s, gl_at (by omega) z]
    · rw [if_neg z, gls_f z, Int.add_zero]
theorem good_rok {d : Dd} {a pk : Nat → Int} (h : ∀ j, j < gk d → a (gl d j) = pk j) : good d a ↔ rok d (gk d) pk := by
  have one : ∀ c, c < 6 → (gdOk d a c ↔ 0 ≤ rl d c (gk d) pk ∧ 0 ≤ rh d c (gk d) pk) := by
    intro c hc
    have e1 : sg (fun m => if gdB d m = true then dsh d c m * (if 0 < dsh d c m then dlo d m (a m).toNat else dup d m (a m).toNat) else 0) 12 = sg (fun j => clo d c j (pk j)) (gk d) := by
      rw [sg_gls d (fun m => dsh d c m * (if 0 < dsh d c m then dlo d m (a m).toNat else dup d m (a m).toNat)) 12 (by omega)]
      refine sg_c (fun j hj => ?_)
      unfold clo
      rw [h j hj]
    have e2 : sg (fun m => if gdB d m = true then dsh d c m * (if 0 < dsh d c m then dup d m (a m).toNat else dlo d m (a m).toNat) else 0) 12 = sg (fun j => chi d c j (pk j)) (gk d) := by
      rw [sg_gls d (fun m => dsh d c m * (if 0 < dsh d c m then dup d m (a m).toNat else dlo d m (a m).toNat)) 12 (by omega)]
      refine sg_c (fun j hj => ?_)
      unfold chi
      rw [h j hj]
    have f1 : sg (gloT d a c) 12 = lsN d c 12 + sg (fun j => clo d c j (pk j)) (gk d) := by
      rw [← e1]
      unfold lsN plG
      rw [← sg_add, ← sg_add]
      refine sg_c (fun m _ => ?_)
      unfold gloT loM hiM lwM hgM les
      by_cases z : gdB d m = true
      · rw [if_pos z, if_pos z, if_pos z, if_pos z, Int.mul_add]; omega
      · rw [if_neg z, if_neg z, if_neg z, if_neg z]
        rw [← Int.mul_add, Int.add_zero]
        rcases Int.lt_trichotomy (dsh d c m) 0 with s | s | s
        · grind
        · rw [s, Int.zero_mul, Int.zero_mul]
        · grind
    have f2 : sg (ghiT d a c) 12 = gtN d c 12 + sg (fun j => chi d c j (pk j)) (gk d) := by
      rw [← e2]
      unfold gtN plG
      rw [← sg_add, ← sg_add]
      refine sg_c (fun m _ => ?_)
      unfold ghiT loM hiM lwM hgM les
      by_cases z : gdB d m = true
      · rw [if_pos z, if_pos z, if_pos z, if_pos z, Int.mul_add]; omega
      · rw [if_neg z, if_neg z, if_neg z, if_neg z]
        rw [← Int.mul_add, Int.add_zero]
        rcases Int.lt_trichotomy (dsh d c m) 0 with s | s | s
        · grind
        · rw [s, Int.zero_mul, Int.zero_mul]
        · grind
    unfold gdOk rl rh rl0 rh0
    by_cases q : ask (dsh d c)
    · have e : askI (dsh d c) = 1 := if_pos q
      rw [if_pos e, if_pos e, f1, f2]
      constructor
      · intro w
        have := w q
        omega
      · intro w _
        omega
    · have e : ¬ askI (dsh d c) = 1 := by
        unfold askI
        rw [if_neg q]
        omega
      rw [if_neg e, if_neg e]
      have hz : ∀ m, m < 12 → dsh d c m = 0 := fun m hm => by
        by_cases u : dsh d c m = 0
        · exact u
        · exact absurd ⟨m, hm, u⟩ q
      have z1 : sg (fun j => clo d c j (pk j)) (gk d) = 0 := sg_z (fun j hj => by
        unfold clo
        rw [hz _ (gl_ok hj).1, Int.zero_mul])
      have z2 : sg (fun j => chi d c j (pk j)) (gk d) = 0 := sg_z (fun j hj => by
        unfold chi
        rw [hz _ (gl_ok hj).1, Int.zero_mul])
      rw [z1, z2]
      exact ⟨fun _ => by omega, fun _ w => absurd w q⟩
  exact ⟨fun w c hc => (one c hc).mp (w c hc), fun w c hc => (one c hc).mpr (w c hc)⟩
def Rb (d : Dd) (b b' : Bst) : Prop := b.1 = b'.1 ∧ (b.1 ≠ -1 → ∀ j, j < gk d → b.2 (gl d j) = b'.2 j)
theorem sF_bfs {d : Dd} (hI : Inv d) : ∀ n, n ≤ 12 → ∀ (a pk : Nat → Int) (pr : Int) (b b' : Bst), (∀ j, j < (gls d (12 - n)).length → a (gl d j) = pk j) → pr = sg (prT d a) (12 - n) → Rb d b b' → Rb d (sF d n a b) (bfs d (gk d - (gls d (12 - n)).length) pk pr b') := by
  intro n
  induction n with
  | zero =>
    intro _ a pk pr b b' ha hp hR
    have hg := good_rok (d := d) (a := a) (pk := pk) ha
    have e : gk d - (gls d (12 - 0)).length = 0 := Nat.sub_self _
    rw [e]
    have hp2 : pr = sg (prT d a) 12 := hp
    unfold sF lfS bfs
    rw [← hp2, hR.1]
    by_cases z : good d a ∧ (b'.1 = -1 ∨ pr < b'.1)
    · rw [if_pos z, if_pos ⟨hg.mp z.1, z.2⟩]
      exact ⟨rfl, fun _ => ha⟩
    · rw [if_neg z, if_neg (fun w => z ⟨hg.mpr w.1, w.2⟩)]
      exact hR
  | succ n ih =>
    intro hn a pk pr b b' ha hp hR
    have em : 12 - n = 12 - (n + 1) + 1 := by omega
    rw [em] at ih
    unfold sF
    generalize hm : 12 - (n + 1) = m at *
    have hm12 : m < 12 := by omega
    by_cases z : gdB d m = true
    · rw [if_pos z]
      have hat := gl_at hm12 z
      have hlen : (gls d (m + 1)).length = (gls d m).length + 1 := by rw [gls_t z, List.length_append, List.length_singleton]
      have hmono : (gls d (m + 1)).length ≤ gk d := by
        obtain ⟨r, e⟩ := gls_pre d (m + 1) (12 - (m + 1))
        rw [show m + 1 + (12 - (m + 1)) = 12 by omega] at e
        unfold gk
        rw [e, List.length_append]
        omega
      rw [hlen] at ih hmono
      obtain ⟨r, hr⟩ : ∃ r, gk d - (gls d m).length = r + 1 := ⟨gk d - (gls d m).length - 1, by omega⟩
      rw [hr]
      unfold bfs
      rw [show gk d - (r + 1) = (gls d m).length by omega, hat]
      rw [show gk d - ((gls d m).length + 1) = r by omega] at ih
      generalize (dv d m).toNat = N
      induction N with
      | zero => exact hR
      | succ N ih2 =>
        refine ih (by omega) _ _ _ _ _ ?_ ?_ ih2
        · intro j hj
          by_cases u : j = (gls d m).length
          · rw [u, hat, fu_s, fu_s]
          · have := gl_lt (M := m) (by omega) (show j < (gls d m).length by omega)
            rw [fu_n (by omega), fu_n u]
            exact ha j (by omega)
        · rw [sg_s, hp]
          congr 1
          · refine sg_c (fun k hk => ?_)
            unfold prT
            rw [fu_n (by omega)]
          · unfold prT
            rw [if_pos z, fu_s, Int.toNat_natCast]
    · rw [if_neg z]
      rw [gls_f z] at ih
      refine ih (by omega) a pk pr b b' ha ?_ hR
      rw [sg_s, hp]
      unfold prT
      rw [if_neg z, Int.add_zero]
theorem sF_bst {d : Dd} (hI : Inv d) {a : Nat → Int} (ha : ∀ m, m < 12 → a m = 0) (f : Nat → Int) : Rb d (sF d 12 a (-1, f)) (bst d) := sF_bfs hI 12 (Nat.le_refl _) a zz 0 (-1, f) (-1, zz) (fun j hj => by simp [gls] at hj) rfl ⟨rfl, fun q => absurd rfl q⟩
theorem chG_eq {d : Dd} {p a : Nat → Int} (h : ∀ j, j < gk d → a (gl d j) = p j) : ∀ M, M ≤ 12 → ∀ m, m < 12 → chG d p (gls d M).length m = if m < M ∧ gdB d m = true then a m else -1
  | 0, _, m, _ => by
    show (-1 : Int) = _
    rw [if_neg (by omega)]
  | M + 1, hM, m, hm => by
    have ih := chG_eq h M (by omega) m hm
    by_cases z : gdB d M = true
    · have hmono : (gls d (M + 1)).length ≤ gk d := by
        obtain ⟨r, e⟩ := gls_pre d (M + 1) (12 - (M + 1))
        rw [show M + 1 + (12 - (M + 1)) = 12 by omega] at e
        unfold gk
        rw [e, List.length_append]
        omega
      rw [gls_t z, List.length_append, List.length_singleton] at hmono ⊢
      show fu (chG d p (gls d M).length) (gl d (gls d M).length) (p (gls d M).length) m = _
      rw [gl_at (by omega) z, ← h _ (by omega), gl_at (by omega) z]
      unfold fu
      by_cases u : m = M
      · subst u
        rw [if_pos rfl, if_pos ⟨by omega, z⟩]
      · rw [if_neg u, ih]
        by_cases w : m < M ∧ gdB d m = true
        · rw [if_pos w, if_pos ⟨by omega, w.2⟩]
        · rw [if_neg w, if_neg (fun v => w ⟨by omega, v.2⟩)]
    · rw [gls_f z, ih]
      by_cases w : m < M ∧ gdB d m = true
      · rw [if_pos w, if_pos ⟨by omega, w.2⟩]
      · rw [if_neg w, if_neg (fun v => w ⟨by
          rcases Nat.lt_or_ge m M with u | u
          · exact u
          · rw [show m = M by omega] at v
            exact absurd v.2 z, v.2⟩)]
/-- the choice that is told behind a search -/
noncomputable def bsD (d : Dd) : Dd := fun k => if 1346 ≤ k ∧ k < 1358 then chG d (bst d).2 (gk d) (k - 1346) else d k
def fsOk (d : Dd) (f : Nat → Int) (b : Bst) : Prop := b.1 ≠ -1 → ∀ m, m < 12 → f m = if gdB d m = true then b.2 m else -1
theorem prT_rg {d : Dd} {a : Nat → Int} (hI : Inv d) (h : dgOk d a) : ∀ n, n ≤ 12 → 0 ≤ sg (prT d a) n ∧ sg (prT d a) n ≤ grd d n * 1000000
  | 0, _ => by unfold grd; rw [sg_0, sg_0]; omega
  | n + 1, hn => by
    have ih := prT_rg hI h n (by omega)
    have e : grd d (n + 1) = grd d n + if 0 < dv d n then 1 else 0 := rfl
    have hm := hI.1 n (by omega)
    rw [sg_s, e]
    by_cases z : gdB d n = true
    · have hz := h n (by omega) z
      have hv := hm.v
      have hw := (hm.w (a n).toNat (by omega)).2.2
      have ep : prT d a n = dpr d n (a n).toNat := if_pos z
      rw [ep, if_pos (gdB_iff.mp z).2]
      omega
    · have ep : prT d a n = 0 := if_neg z
      rw [ep]
      split <;> omega

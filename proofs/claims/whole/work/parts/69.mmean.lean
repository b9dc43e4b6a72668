/-! ===== FitBenchModel.mean ===== -/
theorem sg_shift1 {g : Nat → Int} {N v n : Nat} (hz : ∀ k, n < k → k < N → g k = 0) (h : n + v < N) : sg (fun k => (k : Int) * gz g ((k : Int) - v)) N = sg (fun k => (k : Int) * g k) N + v * sg g N := by
  obtain ⟨M, rfl⟩ : ∃ M, N = v + M := ⟨N - v, by omega⟩
  rw [sg_split]
  have e0 : sg (fun k => (k : Int) * gz g ((k : Int) - v)) v = 0 := sg_z (fun k hk => by
    unfold gz
    rw [if_pos (by omega), Int.mul_zero])
  have e1 : sg (fun k => ((v + k : Nat) : Int) * gz g (((v + k : Nat) : Int) - v)) M = sg (fun k => (k : Int) * g k + v * g k) M := sg_c (fun k _ => by
    unfold gz
    rw [if_neg (by omega), show (((v + k : Nat) : Int) - v).toNat = k by omega, ← Int.add_mul]
    congr 1
    push_cast
    omega)
  rw [e0, e1, sg_add, sg_mul, Int.zero_add]
  have x1 : sg (fun k => (k : Int) * g k) M = sg (fun k => (k : Int) * g k) (v + M) := sg_ext (by omega) (fun k h1 h2 => by rw [hz k (by omega) h2, Int.mul_zero])
  have x2 : sg g M = sg g (v + M) := sg_ext (by omega) (fun k h1 h2 => hz k (by omega) h2)
  rw [x1, x2]
theorem upf_0 (r i : Nat) : upf 0 r i = 0 := by unfold upf; rw [if_neg (by omega), Int.zero_mul]
theorem mom {d : Dd} {m : Nat} (hI : InvM d m) (s : Int) : sg (fun i => mny d m (db d m + i) * upf s (rng d m) i) (rng d m + 1) = s * (msm d m - (if 0 < s then db d m else da d m) * lot d m) := by
  have e : s * (msm d m - (if 0 < s then db d m else da d m) * lot d m) = sg (fun i => s * ((db d m + i) * mny d m (db d m + i) + -(if 0 < s then db d m else da d m) * mny d m (db d m + i))) (rng d m + 1) := by
    rw [sg_mul, sg_add, sg_mul, Int.neg_mul]
    rfl
  rw [e]
  refine sg_c (fun i hi => ?_)
  have hr := hI.rg.2
  unfold upf
  generalize mny d m (db d m + i) = n
  by_cases z : 0 < s
  · rw [if_pos z, if_pos z, ← Int.add_mul, show db d m + (i : Int) + -db d m = i by omega, Int.mul_comm, Int.mul_assoc]
  · rw [if_neg z, if_neg z, ← Int.add_mul, show db d m + (i : Int) + -da d m = (i : Int) - rng d m by omega, Int.mul_comm, Int.mul_assoc]
theorem cvl_m1 {d : Dd} {m n N : Nat} {s : Int} {g : Nat → Int} (hI : InvM d m) (hz : ∀ k, n < k → k < N → g k = 0) (h : tpf d m 1 s 0 n < N) : sg (fun k => (k : Int) * cvl d m 1 s 0 g k) N = lot d m * sg (fun k => (k : Int) * g k) N + sg g N * (s * (msm d m - (if 0 < s then db d m else da d m) * lot d m)) := by
  have et := tpf_eq (d := d) (m := m) (cols := 1) (n := n) (iab_0 s) (iab_0 0)
  have e1 : sg (fun k => (k : Int) * cvl d m 1 s 0 g k) N = sg (fun k => sg (fun i => mny d m (db d m + i) * ((k : Int) * gz g ((k : Int) - mvf d m 1 s 0 i))) (rng d m + 1)) N := sg_c (fun k _ => by
    unfold cvl
    rw [← sg_mul]
    refine sg_c (fun i _ => ?_)
    rw [← Int.mul_assoc, ← Int.mul_assoc, Int.mul_comm (k : Int)])
  rw [e1, sg_swap (fun i k => mny d m (db d m + i) * ((k : Int) * gz g ((k : Int) - mvf d m 1 s 0 i)))]
  have e2 : sg (fun i => sg (fun k => mny d m (db d m + i) * ((k : Int) * gz g ((k : Int) - mvf d m 1 s 0 i))) N) (rng d m + 1) = sg (fun i => sg (fun k => (k : Int) * g k) N * mny d m (db d m + i) + sg g N * (mny d m (db d m + i) * upf s (rng d m) i)) (rng d m + 1) := sg_c (fun i hi => by
    rw [sg_mul]
    have hr := mvf_rg (d := d) (m := m) (cols := 1) (s := s) (t := 0) (j := i) (by omega)
    have hu : mvf d m 1 s 0 i = upf s (rng d m) i := by
      unfold mvf
      rw [upf_0]
      omega
    have hur := upf_rg (s := s) (r := rng d m) (j := i) (by omega)
    obtain ⟨v, hv⟩ : ∃ v : Nat, upf s (rng d m) i = (v : Int) := ⟨(upf s (rng d m) i).toNat, by omega⟩
    rw [hu, hv] at hr
    rw [hu, hv, sg_shift1 hz (by omega), Int.mul_add, Int.mul_comm (mny d m (db d m + i)), Int.mul_comm (v : Int), ← Int.mul_assoc, Int.mul_comm (mny d m (db d m + i)), Int.mul_assoc])
  rw [e2, sg_add, sg_mul, sg_mul, mom hI, Int.mul_comm (lot d m)]
  rfl
theorem mea_go {d : Dd} {s : Nat → Int} {N : Nat} {A : Int} (hI : ∀ m, m < 12 → InvM d m) (hN : ∀ j, j ≤ 12 → lyN d s (fun _ => 0) 1 j < N) (hc : ∀ j, j ≤ 12 → cpt d s (fun _ => 0) j ≤ 1000000000000) : ∀ j, j ≤ 12 → ∀ c : Int, A = cpt d s (fun _ => 0) j * c → c * (sg (fun k => (k : Int) * lyR d s (fun _ => 0) 1 j k) N + cpt d s (fun _ => 0) j * sg (fun m => s m * les d m (s m)) j) = sg (meaT d s A) j := by
  intro j
  induction j with
  | zero =>
    intro _ c _
    have e : sg (fun k => (k : Int) * lyR d s (fun _ => 0) 1 0 k) N = 0 := sg_z (fun k _ => by
      show (k : Int) * (if k = 0 then 1 else 0) = 0
      by_cases z : k = 0
      · rw [z]; rfl
      · rw [if_neg z, Int.mul_zero])
    rw [e, sg_0, sg_0, Int.mul_zero, Int.add_zero, Int.mul_zero]
  | succ j ih =>
    intro hj c hA
    have hIj := hI j (by omega)
    have hlot := hIj.l
    rw [cpt_s, if_neg (by have := hc j (by omega); omega)] at hA ⊢
    rw [sg_s, sg_s]
    by_cases z : dk d j = 0 ∧ (s j ≠ 0 ∨ (0 : Int) ≠ 0)
    · have hs0 : s j ≠ 0 := by have := z.2; omega
      rw [if_pos z] at hA ⊢
      have e1 : sg (fun k => (k : Int) * lyR d s (fun _ => 0) 1 (j + 1) k) N = sg (fun k => (k : Int) * cvl d j 1 (s j) 0 (lyR d s (fun _ => 0) 1 j) k) N := sg_c (fun k _ => by
        have : lyR d s (fun _ => 0) 1 (j + 1) k = cvl d j 1 (s j) 0 (lyR d s (fun _ => 0) 1 j) k := if_pos z
        rw [this])
      have hn1 := hN (j + 1) hj
      have en : lyN d s (fun _ => 0) 1 (j + 1) = tpf d j 1 (s j) 0 (lyN d s (fun _ => 0) 1 j) := if_pos z
      rw [en] at hn1
      rw [e1, cvl_m1 hIj (fun k h1 _ => lyR_z d s (fun _ => 0) 1 j k h1) hn1, lyR_sum hN j (by omega) (hc j (by omega))]
      have el : les d j (s j) = if 0 < s j then db d j else da d j := by
        unfold les
        rw [if_neg (by omega)]
      have em : meaT d s A j = A.tdiv (lot d j) * msm d j * s j := if_pos ⟨z.1, hs0⟩
      have ed : A.tdiv (lot d j) = cpt d s (fun _ => 0) j * c := by
        rw [hA, show cpt d s (fun _ => 0) j * lot d j * c = lot d j * (cpt d s (fun _ => 0) j * c) by rw [Int.mul_comm (cpt d s (fun _ => 0) j), Int.mul_assoc]]
        exact Int.mul_tdiv_cancel_left _ (by omega)
      have i1 := ih (by omega) (lot d j * c) (by rw [hA, Int.mul_assoc])
      rw [em, ed, ← i1, el]
      generalize sg (fun k => (k : Int) * lyR d s (fun _ => 0) 1 j k) N = M
      generalize sg (fun m => s m * les d m (s m)) j = L
      generalize cpt d s (fun _ => 0) j = P
      generalize (if 0 < s j then db d j else da d j) = X
      generalize s j = S
      generalize lot d j = l
      generalize msm d j = q
      grind
    · rw [if_neg z] at hA ⊢
      have e1 : sg (fun k => (k : Int) * lyR d s (fun _ => 0) 1 (j + 1) k) N = sg (fun k => (k : Int) * lyR d s (fun _ => 0) 1 j k) N := sg_c (fun k _ => by
        have : lyR d s (fun _ => 0) 1 (j + 1) k = lyR d s (fun _ => 0) 1 j k := if_neg z
        rw [this])
      have el : s j * les d j (s j) = 0 := by
        unfold les
        by_cases z1 : dk d j ≠ 0 ∨ s j = 0
        · rw [if_pos z1, Int.mul_zero]
        · exact absurd ⟨by omega, by omega⟩ z
      have em : meaT d s A j = 0 := if_neg (fun w => z ⟨w.1, .inl w.2⟩)
      rw [e1, el, em, Int.add_zero, Int.add_zero]
      exact ih (by omega) c hA
theorem mea_eq {d : Dd} {s : Nat → Int} (hI : ∀ m, m < 12 → InvM d m) (hs : ∀ m, m < 12 → -3 ≤ s m ∧ s m ≤ 3) {W : Nat} (hW : wdG d s = (W : Int)) (hc : cpt d s (fun _ => 0) 12 ≤ 1000000000000) : sg (fun k => lyR d s (fun _ => 0) 1 12 k * (leG d s + k)) (W + 1) = meaS d s (cpt d s (fun _ => 0) 12) := by
  have hN : ∀ j, j ≤ 12 → lyN d s (fun _ => 0) 1 j < W + 1 := fun j hj => by
    have := lyN_cells (d := d) (s := s) (t := fun _ => 0) hI hs (fun m _ => by show (-3 : Int) ≤ 0 ∧ (0 : Int) ≤ 3; omega) j hj
    rw [wdG_0, hW, Int.toNat_natCast, Int.toNat_zero, Nat.zero_add, Nat.mul_one] at this
    exact this
  have hcj : ∀ j, j ≤ 12 → cpt d s (fun _ => 0) j ≤ 1000000000000 := fun j hj => by
    refine Classical.byContradiction (fun q => ?_)
    have := cpt_stay (d := d) (s := s) (t := fun _ => 0) (n := j) (by omega) (12 - j)
    rw [show j + (12 - j) = 12 by omega] at this
    omega
  have h1 := mea_go (A := cpt d s (fun _ => 0) 12) hI hN hcj 12 (Nat.le_refl _) 1 (by omega)
  have h2 := lyR_sum hN 12 (Nat.le_refl _) hc
  have e : sg (fun k => lyR d s (fun _ => 0) 1 12 k * (leG d s + k)) (W + 1) = sg (fun k => leG d s * lyR d s (fun _ => 0) 1 12 k + (k : Int) * lyR d s (fun _ => 0) 1 12 k) (W + 1) := sg_c (fun k _ => by rw [Int.mul_add, Int.mul_comm _ (leG d s), Int.mul_comm _ (k : Int)])
  rw [e, sg_add, sg_mul, h2]
  unfold meaS
  rw [← h1]
  unfold leG
  grind

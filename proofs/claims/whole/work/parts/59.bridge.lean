/-! ===== a chain with itself, and with the plain one ===== -/
theorem cpt_cc (d : Dd) (s : Nat → Int) : ∀ n, cpt d s s n = cpt d s (fun _ => 0) n
  | 0 => rfl
  | n + 1 => by
    rw [cpt_s, cpt_s, cpt_cc d s n]
    have e : (dk d n = 0 ∧ (s n ≠ 0 ∨ s n ≠ 0)) ↔ (dk d n = 0 ∧ (s n ≠ 0 ∨ (0 : Int) ≠ 0)) := by
      constructor
      · rintro ⟨h1, h2⟩
        exact ⟨h1, .inl (h2.elim id id)⟩
      · rintro ⟨h1, h2⟩
        exact ⟨h1, .inl (h2.elim id (fun z => absurd rfl z))⟩
    split
    · rfl
    · by_cases q : dk d n = 0 ∧ (s n ≠ 0 ∨ s n ≠ 0)
      · rw [if_pos q, if_pos (e.mp q)]
      · rw [if_neg q, if_neg (fun z => q (e.mpr z))]
theorem rcd_dec (d : Dd) (s : Nat → Int) (lo hi share step : Int) : ∀ k, 1 ≤ shN d s lo hi share step k
  | 0 => Int.le_refl _
  | k + 1 => by
    have ih := rcd_dec d s lo hi share step k
    by_cases z : rcd d s 12 k
    · rw [shN_t z]; split <;> omega
    · rw [shN_f z]; exact ih

/-! ===== my own layer: an abstract machine over whole numbers, its heap a bundle of functions ===== -/
abbrev AV : Type := Int ⊕ Int ⊕ Option Nat
abbrev vi (z : Int) : AV := Sum.inl z
abbrev vl (z : Int) : AV := Sum.inr (Sum.inl z)
abbrev vr (r : Option Nat) : AV := Sum.inr (Sum.inr r)
def jI (z : Int) : Int32 := Int32.ofInt z
def jL (z : Int) : Int64 := Int64.ofInt z
def cv (v : AV) : Value := match v with
  | .inl z => .int (jI z)
  | .inr (.inl z) => .long (jL z)
  | .inr (.inr r) => va_rf r
def inI (z : Int) : Prop := -2147483648 ≤ z ∧ z ≤ 2147483647
def inL (z : Int) : Prop := -9223372036854775808 ≤ z ∧ z ≤ 9223372036854775807
/-- kinds, lengths, ints, longs, references, the next address -/
abbrev Hp : Type := (Nat → Nat) × (Nat → Nat) × (Nat → Nat → Int) × (Nat → Nat → Int) × (Nat → Nat → Option Nat) × Nat
def qk (h : Hp) (a : Nat) : Nat := h.1 a
def ql (h : Hp) (a : Nat) : Nat := h.2.1 a
def qi (h : Hp) (a : Nat) : Nat → Int := h.2.2.1 a
def qj (h : Hp) (a : Nat) : Nat → Int := h.2.2.2.1 a
def qr (h : Hp) (a : Nat) : Nat → Option Nat := h.2.2.2.2.1 a
def qt (h : Hp) : Nat := h.2.2.2.2.2
def fu {α : Type} (f : Nat → α) (k : Nat) (v : α) : Nat → α := fun j => if j = k then v else f j
def wi (h : Hp) (a : Nat) (f : Nat → Int) : Hp := (h.1, h.2.1, fu h.2.2.1 a f, h.2.2.2)
def wj (h : Hp) (a : Nat) (f : Nat → Int) : Hp := (h.1, h.2.1, h.2.2.1, fu h.2.2.2.1 a f, h.2.2.2.2)
def wr (h : Hp) (a : Nat) (f : Nat → Option Nat) : Hp := (h.1, h.2.1, h.2.2.1, h.2.2.2.1, fu h.2.2.2.2.1 a f, h.2.2.2.2.2)
def wn (h : Hp) (k n : Nat) : Hp := (fu h.1 h.2.2.2.2.2 k, fu h.2.1 h.2.2.2.2.2 n, fu h.2.2.1 h.2.2.2.2.2 (fun _ => 0), fu h.2.2.2.1 h.2.2.2.2.2 (fun _ => 0), fu h.2.2.2.2.1 h.2.2.2.2.2 (fun _ => none), h.2.2.2.2.2 + 1)
theorem fu_s {α : Type} {f : Nat → α} {k : Nat} {v : α} : fu f k v k = v := if_pos rfl
theorem fu_n {α : Type} {f : Nat → α} {k j : Nat} {v : α} (h : j ≠ k) : fu f k v j = f j := if_neg h
theorem fu_uu {α : Type} (f : Nat → α) (k : Nat) (v w : α) : fu (fu f k v) k w = fu f k w := by
  funext j
  by_cases h : j = k
  · subst h; rw [fu_s, fu_s]
  · rw [fu_n h, fu_n h, fu_n h]
theorem fu_comm {α : Type} (f : Nat → α) {k l : Nat} (hkl : k ≠ l) (v w : α) : fu (fu f k v) l w = fu (fu f l w) k v := by
  funext j
  unfold fu
  by_cases h : j = k <;> by_cases h2 : j = l <;> simp [h, h2] <;> omega
theorem fu_self {α : Type} (f : Nat → α) (k : Nat) : fu f k (f k) = f := by
  funext j
  by_cases h : j = k
  · subst h; rw [fu_s]
  · rw [fu_n h]
theorem qi_wi (h : Hp) (a : Nat) (f : Nat → Int) (b : Nat) : qi (wi h a f) b = if b = a then f else qi h b := rfl
theorem qi_ws {h : Hp} {a : Nat} {f : Nat → Int} : qi (wi h a f) a = f := if_pos rfl
theorem qi_wn {h : Hp} {a b : Nat} {f : Nat → Int} (n : b ≠ a) : qi (wi h a f) b = qi h b := if_neg n
theorem qj_ws {h : Hp} {a : Nat} {f : Nat → Int} : qj (wj h a f) a = f := if_pos rfl
theorem qj_wn {h : Hp} {a b : Nat} {f : Nat → Int} (n : b ≠ a) : qj (wj h a f) b = qj h b := if_neg n
theorem qr_ws {h : Hp} {a : Nat} {f : Nat → Option Nat} : qr (wr h a f) a = f := if_pos rfl
theorem qr_wn {h : Hp} {a b : Nat} {f : Nat → Option Nat} (n : b ≠ a) : qr (wr h a f) b = qr h b := if_neg n
theorem qk_wi (h : Hp) (a : Nat) (f : Nat → Int) : qk (wi h a f) = qk h := rfl
theorem ql_wi (h : Hp) (a : Nat) (f : Nat → Int) : ql (wi h a f) = ql h := rfl
theorem qj_wi (h : Hp) (a : Nat) (f : Nat → Int) : qj (wi h a f) = qj h := rfl
theorem qr_wi (h : Hp) (a : Nat) (f : Nat → Int) : qr (wi h a f) = qr h := rfl
theorem qt_wi (h : Hp) (a : Nat) (f : Nat → Int) : qt (wi h a f) = qt h := rfl
theorem qk_wj (h : Hp) (a : Nat) (f : Nat → Int) : qk (wj h a f) = qk h := rfl
theorem ql_wj (h : Hp) (a : Nat) (f : Nat → Int) : ql (wj h a f) = ql h := rfl
theorem qi_wj (h : Hp) (a : Nat) (f : Nat → Int) : qi (wj h a f) = qi h := rfl
theorem qr_wj (h : Hp) (a : Nat) (f : Nat → Int) : qr (wj h a f) = qr h := rfl
theorem qt_wj (h : Hp) (a : Nat) (f : Nat → Int) : qt (wj h a f) = qt h := rfl
theorem qk_wr (h : Hp) (a : Nat) (f : Nat → Option Nat) : qk (wr h a f) = qk h := rfl
theorem ql_wr (h : Hp) (a : Nat) (f : Nat → Option Nat) : ql (wr h a f) = ql h := rfl
theorem qi_wr (h : Hp) (a : Nat) (f : Nat → Option Nat) : qi (wr h a f) = qi h := rfl
theorem qj_wr (h : Hp) (a : Nat) (f : Nat → Option Nat) : qj (wr h a f) = qj h := rfl
theorem qt_wr (h : Hp) (a : Nat) (f : Nat → Option Nat) : qt (wr h a f) = qt h := rfl
theorem qk_al (h : Hp) (k n b : Nat) : qk (wn h k n) b = if b = qt h then k else qk h b := rfl
theorem ql_al (h : Hp) (k n b : Nat) : ql (wn h k n) b = if b = qt h then n else ql h b := rfl
theorem qi_al (h : Hp) (k n b : Nat) : qi (wn h k n) b = if b = qt h then (fun _ => 0) else qi h b := rfl
theorem qj_al (h : Hp) (k n b : Nat) : qj (wn h k n) b = if b = qt h then (fun _ => 0) else qj h b := rfl
theorem qr_al (h : Hp) (k n b : Nat) : qr (wn h k n) b = if b = qt h then (fun _ => none) else qr h b := rfl
theorem qt_al (h : Hp) (k n : Nat) : qt (wn h k n) = qt h + 1 := rfl
theorem wi_wi (h : Hp) (a : Nat) (f g : Nat → Int) : wi (wi h a f) a g = wi h a g := by
  unfold wi; simp only [fu_uu]
theorem wj_wj (h : Hp) (a : Nat) (f g : Nat → Int) : wj (wj h a f) a g = wj h a g := by
  unfold wj; simp only [fu_uu]
theorem wi_self (h : Hp) (a : Nat) : wi h a (qi h a) = h := by
  unfold wi qi; rw [fu_self]
theorem wj_self (h : Hp) (a : Nat) : wj h a (qj h a) = h := by
  unfold wj qj; rw [fu_self]
theorem wi_comm (h : Hp) {a b : Nat} (n : a ≠ b) (f g : Nat → Int) : wi (wi h a f) b g = wi (wi h b g) a f := by
  unfold wi; simp only [fu_comm _ n]
theorem wi_wj (h : Hp) (a b : Nat) (f g : Nat → Int) : wi (wj h a f) b g = wj (wi h b g) a f := rfl
/-! numbers -/
theorem jI_lit (n : Nat) : jI (OfNat.ofNat n) = OfNat.ofNat n := rfl
theorem jI_add (a b : Int) : jI a + jI b = jI (a + b) := (Int32.ofInt_add a b).symm
theorem jI_sub (a b : Int) : jI a - jI b = jI (a - b) := (Int32.ofInt_sub a b).symm
theorem jI_mul (a b : Int) : jI a * jI b = jI (a * b) := (Int32.ofInt_mul a b).symm
theorem jI_neg (a : Int) : -jI a = jI (-a) := (Int32.ofInt_neg a).symm
theorem jL_add (a b : Int) : jL a + jL b = jL (a + b) := (Int64.ofInt_add a b).symm
theorem jL_sub (a b : Int) : jL a - jL b = jL (a - b) := (Int64.ofInt_sub a b).symm
theorem jL_mul (a b : Int) : jL a * jL b = jL (a * b) := (Int64.ofInt_mul a b).symm
theorem jL_neg (a : Int) : -jL a = jL (-a) := (Int64.ofInt_neg a).symm
theorem jI_toInt {z : Int} (h : inI z) : (jI z).toInt = z := by
  obtain ⟨h1, h2⟩ := h
  unfold jI
  rw [Int32.toInt_ofInt]
  exact Int.bmod_eq_of_le (by simp [Int32.size]; omega) (by simp [Int32.size]; omega)
theorem jL_toInt {z : Int} (h : inL z) : (jL z).toInt = z := by
  obtain ⟨h1, h2⟩ := h
  unfold jL
  rw [Int64.toInt_ofInt]
  exact Int.bmod_eq_of_le (by simp [Int64.size]; omega) (by simp [Int64.size]; omega)
theorem jI_self (x : Int32) : jI x.toInt = x := Int32.ofInt_toInt x
theorem jL_self (x : Int64) : jL x.toInt = x := Int64.ofInt_toInt x
theorem inI_of (x : Int32) : inI x.toInt := ⟨by have := Int32.le_toInt x; simpa using this, by have := Int32.toInt_lt x; simp at this; omega⟩
theorem inL_of (x : Int64) : inL x.toInt := ⟨by have := Int64.le_toInt x; simpa using this, by have := Int64.toInt_lt x; simp at this; omega⟩
theorem jI_lt {a b : Int} (ha : inI a) (hb : inI b) : jI a < jI b ↔ a < b := by
  rw [Int32.lt_iff_toInt_lt, jI_toInt ha, jI_toInt hb]
theorem jI_le {a b : Int} (ha : inI a) (hb : inI b) : jI a ≤ jI b ↔ a ≤ b := by
  rw [Int32.le_iff_toInt_le, jI_toInt ha, jI_toInt hb]
theorem jI_eq {a b : Int} (ha : inI a) (hb : inI b) : jI a = jI b ↔ a = b := by
  rw [← Int32.toInt_inj, jI_toInt ha, jI_toInt hb]
theorem jI_0 : jI 0 = 0 := rfl
theorem inI_0 : inI 0 := by unfold inI; omega
theorem jL_lt {a b : Int} (ha : inL a) (hb : inL b) : jL a < jL b ↔ a < b := by
  rw [Int64.lt_iff_toInt_lt, jL_toInt ha, jL_toInt hb]
theorem jL_eq {a b : Int} (ha : inL a) (hb : inL b) : jL a = jL b ↔ a = b := by
  rw [← Int64.toInt_inj, jL_toInt ha, jL_toInt hb]
theorem inL_0 : inL 0 := by unfold inL; omega
theorem inL_inI {a : Int} (h : inI a) : inL a := by unfold inI at h; unfold inL; omega
theorem jI_wide {a : Int} (h : inI a) : (jI a).toInt64 = jL a := by
  apply Int64.toInt_inj.mp
  rw [Int32.toInt_toInt64, jI_toInt h, jL_toInt (inL_inI h)]
theorem jL_small (a : Int) : (jL a).toInt32 = jI a := by
  unfold jL jI
  simp
theorem jI_clamp {a : Int} (h : inI a) : (jI a).toNatClampNeg = a.toNat := by
  show (jI a).toInt.toNat = _
  rw [jI_toInt h]
theorem jI_in {i : Int} {n : Nat} (h0 : 0 ≤ i) (h1 : i < n) (hn : n < 2147483648) : ¬ (jI i < 0 ∨ n ≤ (jI i).toNatClampNeg) := by
  have hi : inI i := by unfold inI; omega
  rw [jI_clamp hi, ← jI_0, jI_lt hi inI_0]
  omega
theorem jI_div {a b : Int} (ha : inI a) (hb : inI b) (_ : b ≠ 0) : jI a / jI b = jI (a.tdiv b) := by
  apply Int32.toInt_inj.mp
  rw [Int32.toInt_div, jI_toInt ha, jI_toInt hb]
  unfold jI
  rw [Int32.toInt_ofInt]
theorem jL_div {a b : Int} (ha : inL a) (hb : inL b) (_ : b ≠ 0) : jL a / jL b = jL (a.tdiv b) := by
  apply Int64.toInt_inj.mp
  rw [Int64.toInt_div, jL_toInt ha, jL_toInt hb]
  unfold jL
  rw [Int64.toInt_ofInt]
theorem jL_rem {a b : Int} (ha : inL a) (hb : inL b) (h : b ≠ 0) : jL a - jL a / jL b * jL b = jL (a.tmod b) := by
  rw [jL_div ha hb h, jL_mul, jL_sub]
  congr 1
  rw [Int.tmod_def, Int.mul_comm]
/-- the answer of lcmp -/
def cz (a b : Int) : Int := if b < a then 1 else if a = b then 0 else -1
theorem jL_cmp {a b : Int} (ha : inL a) (hb : inL b) : lg_cmp (jL a) (jL b) = jI (cz a b) := by
  unfold lg_cmp cz
  simp only [gt_iff_lt, jL_lt hb ha, jL_eq ha hb]
  split
  · rfl
  · split <;> rfl
theorem cz_in (a b : Int) : inI (cz a b) := by unfold cz inI; split <;> (try split) <;> omega
theorem cz_lt {a b : Int} : cz a b < 0 ↔ a < b := by unfold cz; split <;> (try split) <;> omega
theorem cz_le {a b : Int} : cz a b ≤ 0 ↔ a ≤ b := by unfold cz; split <;> (try split) <;> omega
theorem cz_gt {a b : Int} : 0 < cz a b ↔ b < a := by unfold cz; split <;> (try split) <;> omega
theorem cz_ge {a b : Int} : 0 ≤ cz a b ↔ b ≤ a := by unfold cz; split <;> (try split) <;> omega
theorem cz_eq {a b : Int} : cz a b = 0 ↔ a = b := by unfold cz; split <;> (try split) <;> omega

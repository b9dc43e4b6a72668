/-! ===== the state as the reference lays it in one row d ===== -/
abbrev Dd : Type := Nat → Int
def dk (d : Dd) (m : Nat) : Int := d m
def ds (d : Dd) (m : Nat) : Int := d (12 + m)
def db (d : Dd) (m : Nat) : Int := d (24 + m)
def da (d : Dd) (m : Nat) : Int := d (36 + m)
def dh (d : Dd) (m : Nat) : Int := d (48 + m)
def dn (d : Dd) (m j : Nat) : Int := d (60 + 81 * m + j)
def dv (d : Dd) (m : Nat) : Int := d (1032 + m)
def dlo (d : Dd) (m l : Nat) : Int := d (1044 + 4 * m + l)
def dup (d : Dd) (m l : Nat) : Int := d (1092 + 4 * m + l)
def dpr (d : Dd) (m l : Nat) : Int := d (1140 + 4 * m + l)
def df (d : Dd) (m : Nat) : Int := d (1188 + m)
def dt (d : Dd) (m : Nat) : Int := d (1200 + m)
def dsh (d : Dd) (c m : Nat) : Int := d (1212 + 12 * c + m)
def dcl (d : Dd) (c : Nat) : Int := d (1284 + c)
def dch (d : Dd) (c : Nat) : Int := d (1290 + c)
def dct (d : Dd) (l : Nat) : Int := d (1296 + l)
def dpt (d : Dd) (l k : Nat) : Int := d (1298 + 24 * l + k)
def dco (d : Dd) (m : Nat) : Int := d (1346 + m)
def dmt (d : Dd) (k : Nat) : Int := d (1358 + k)
/-- sums -/
def sg (f : Nat → Int) : Nat → Int
  | 0 => 0
  | n + 1 => sg f n + f n
theorem sg_0 (f : Nat → Int) : sg f 0 = 0 := rfl
theorem sg_s (f : Nat → Int) (n : Nat) : sg f (n + 1) = sg f n + f n := rfl
theorem sg_c {f g : Nat → Int} : ∀ {n : Nat}, (∀ k, k < n → f k = g k) → sg f n = sg g n
  | 0, _ => rfl
  | n + 1, h => by rw [sg_s, sg_s, sg_c (fun k hk => h k (by omega)), h n (by omega)]
theorem sg_add (f g : Nat → Int) : ∀ n, sg (fun k => f k + g k) n = sg f n + sg g n
  | 0 => rfl
  | n + 1 => by rw [sg_s, sg_s, sg_s, sg_add f g n]; omega
theorem sg_mul (c : Int) (f : Nat → Int) : ∀ n, sg (fun k => c * f k) n = c * sg f n
  | 0 => by rw [sg_0, sg_0, Int.mul_zero]
  | n + 1 => by rw [sg_s, sg_s, sg_mul c f n, Int.mul_add]
theorem sg_ge {f : Nat → Int} {c : Int} : ∀ {n : Nat}, (∀ k, k < n → c ≤ f k) → n * c ≤ sg f n
  | 0, _ => by simp [sg_0]
  | n + 1, h => by
    have h1 := sg_ge (n := n) (fun k hk => h k (by omega))
    have h2 := h n (by omega)
    rw [sg_s]
    have h3 : ((n + 1 : Nat) : Int) * c = n * c + c := by rw [Int.natCast_add, Int.add_mul]; simp
    omega
theorem sg_le {f : Nat → Int} {c : Int} : ∀ {n : Nat}, (∀ k, k < n → f k ≤ c) → sg f n ≤ n * c
  | 0, _ => by simp [sg_0]
  | n + 1, h => by
    have h1 := sg_le (n := n) (fun k hk => h k (by omega))
    have h2 := h n (by omega)
    rw [sg_s]
    have h3 : ((n + 1 : Nat) : Int) * c = n * c + c := by rw [Int.natCast_add, Int.add_mul]; simp
    omega
theorem sg_pt {f : Nat → Int} : ∀ {n : Nat}, (∀ k, k < n → 0 ≤ f k) → ∀ j, j < n → f j ≤ sg f n
  | 0, _, j, h => by omega
  | n + 1, h, j, hj => by
    rw [sg_s]
    have h0 := h n (by omega)
    by_cases e : j = n
    · subst e
      have := sg_ge (f := f) (c := 0) (n := j) (fun k hk => h k (by omega))
      rw [Int.mul_zero] at this
      omega
    · have := sg_pt (f := f) (n := n) (fun k hk => h k (by omega)) j (by omega)
      omega
theorem sg_nn {f : Nat → Int} {n : Nat} (h : ∀ k, k < n → 0 ≤ f k) : 0 ≤ sg f n := by
  have := sg_ge (f := f) (c := 0) (n := n) h
  rw [Int.mul_zero] at this
  exact this
theorem sg_z {f : Nat → Int} {n : Nat} (h : ∀ k, k < n → f k = 0) : sg f n = 0 := by
  have h1 := sg_le (f := f) (c := 0) (n := n) (fun k hk => by rw [h k hk]; omega)
  have h2 := sg_ge (f := f) (c := 0) (n := n) (fun k hk => by rw [h k hk]; omega)
  rw [Int.mul_zero] at h1 h2
  omega
theorem sg_split (f : Nat → Int) (m : Nat) : ∀ n, sg f (m + n) = sg f m + sg (fun k => f (m + k)) n
  | 0 => by rw [Nat.add_zero, sg_0, Int.add_zero]
  | n + 1 => by rw [← Nat.add_assoc, sg_s, sg_s, sg_split f m n, Int.add_assoc]
/-! loops, from behind -/
theorem bwd {P : Nat → Prop} (N : Nat) (h0 : P N) (hs : ∀ j, j < N → P (j + 1) → P j) : ∀ j, j ≤ N → P j := by
  intro j hj
  obtain ⟨n, hn⟩ : ∃ n, j + n = N := ⟨N - j, by omega⟩
  induction n generalizing j with
  | zero => rw [show j = N by omega]; exact h0
  | succ n ih => exact hs j (by omega) (ih (j + 1) (by omega) (by omega))
theorem bwdI {P : Int → Prop} (N : Int) (h0 : P N) (hs : ∀ j, j < N → P (j + 1) → P j) : ∀ j, j ≤ N → P j := by
  intro j hj
  obtain ⟨n, hn⟩ : ∃ n : Nat, j + n = N := ⟨(N - j).toNat, by omega⟩
  induction n generalizing j with
  | zero => rw [show j = N by omega]; exact h0
  | succ n ih => exact hs j (by omega) (ih (j + 1) (by omega) (by omega))
/-! numbers of a measure -/
def mny (d : Dd) (m : Nat) (z : Int) : Int := if dh d m = 0 then 1 else dn d m (z + 40).toNat
def nmb (d : Dd) (m : Nat) (z : Int) : Int := if z < db d m ∨ da d m < z then 0 else mny d m z
def rng (d : Dd) (m : Nat) : Nat := (da d m - db d m).toNat
def lot (d : Dd) (m : Nat) : Int := sg (fun j => mny d m (db d m + j)) (rng d m + 1)
def msm (d : Dd) (m : Nat) : Int := sg (fun j => (db d m + j) * mny d m (db d m + j)) (rng d m + 1)
/-- the miss that makes a share least -/
def les (d : Dd) (m : Nat) (s : Int) : Int := if dk d m ≠ 0 ∨ s = 0 then 0 else if 0 < s then db d m else da d m
def mrg (d : Dd) (m : Nat) : Int := if dk d m = 0 then da d m - db d m else 0
def InvM (d : Dd) (m : Nat) : Prop := (0 ≤ dk d m ∧ dk d m ≤ 2) ∧ (-10000 ≤ ds d m ∧ ds d m ≤ 10000) ∧ (-40 ≤ db d m ∧ db d m ≤ 0) ∧ (0 ≤ da d m ∧ da d m ≤ 40) ∧ (dh d m = 0 ∨ dh d m = 1) ∧ (∀ j, j < 81 → 0 ≤ dn d m j ∧ dn d m j ≤ 9) ∧ 0 < lot d m ∧ (0 ≤ dv d m ∧ dv d m ≤ 4) ∧
  (∀ l, l < 4 → (-40 ≤ dlo d m l ∧ dlo d m l ≤ 0) ∧ (0 ≤ dup d m l ∧ dup d m l ≤ 40) ∧ (0 ≤ dpr d m l ∧ dpr d m l ≤ 1000000)) ∧ ((df d m = -1 ∧ dt d m = -1) ∨ (0 ≤ df d m ∧ df d m ≤ 11 ∧ 0 ≤ dt d m ∧ dt d m ≤ 11 ∧ df d m ≠ dt d m)) ∧ (-1 ≤ dco d m ∧ dco d m ≤ 3)
def InvC (d : Dd) (c : Nat) : Prop := (∀ m, m < 12 → -3 ≤ dsh d c m ∧ dsh d c m ≤ 3) ∧ -100000 ≤ dcl d c ∧ dcl d c ≤ dch d c ∧ dch d c ≤ 100000
def InvL (d : Dd) (l : Nat) : Prop := (0 ≤ dct d l ∧ dct d l ≤ 24) ∧ ∀ k, k < 24 → -10000 ≤ dpt d l k ∧ dpt d l k ≤ 10000
def grd (d : Dd) (n : Nat) : Int := sg (fun m => if 0 < dv d m then 1 else 0) n
def Inv (d : Dd) : Prop := (∀ m, m < 12 → InvM d m) ∧ (∀ c, c < 6 → InvC d c) ∧ (∀ l, l < 2 → InvL d l) ∧ (∀ k, k < 24 → -1 ≤ dmt d k ∧ dmt d k ≤ 23) ∧ grd d 12 ≤ 8
theorem InvM.k {d : Dd} {m : Nat} (h : InvM d m) : 0 ≤ dk d m ∧ dk d m ≤ 2 := h.1
theorem InvM.s {d : Dd} {m : Nat} (h : InvM d m) : -10000 ≤ ds d m ∧ ds d m ≤ 10000 := h.2.1
theorem InvM.b {d : Dd} {m : Nat} (h : InvM d m) : -40 ≤ db d m ∧ db d m ≤ 0 := h.2.2.1
theorem InvM.a {d : Dd} {m : Nat} (h : InvM d m) : 0 ≤ da d m ∧ da d m ≤ 40 := h.2.2.2.1
theorem InvM.h {d : Dd} {m : Nat} (h : InvM d m) : dh d m = 0 ∨ dh d m = 1 := h.2.2.2.2.1
theorem InvM.n {d : Dd} {m : Nat} (h : InvM d m) : ∀ j, j < 81 → 0 ≤ dn d m j ∧ dn d m j ≤ 9 := h.2.2.2.2.2.1
theorem InvM.l {d : Dd} {m : Nat} (h : InvM d m) : 0 < lot d m := h.2.2.2.2.2.2.1
theorem InvM.v {d : Dd} {m : Nat} (h : InvM d m) : 0 ≤ dv d m ∧ dv d m ≤ 4 := h.2.2.2.2.2.2.2.1
theorem InvM.w {d : Dd} {m : Nat} (h : InvM d m) : ∀ l, l < 4 → (-40 ≤ dlo d m l ∧ dlo d m l ≤ 0) ∧ (0 ≤ dup d m l ∧ dup d m l ≤ 40) ∧ (0 ≤ dpr d m l ∧ dpr d m l ≤ 1000000) := h.2.2.2.2.2.2.2.2.1
theorem InvM.f {d : Dd} {m : Nat} (h : InvM d m) : (df d m = -1 ∧ dt d m = -1) ∨ (0 ≤ df d m ∧ df d m ≤ 11 ∧ 0 ≤ dt d m ∧ dt d m ≤ 11 ∧ df d m ≠ dt d m) := h.2.2.2.2.2.2.2.2.2.1
theorem InvM.c {d : Dd} {m : Nat} (h : InvM d m) : -1 ≤ dco d m ∧ dco d m ≤ 3 := h.2.2.2.2.2.2.2.2.2.2
theorem InvM.ny {d : Dd} {m : Nat} (h : InvM d m) {z : Int} (h1 : -40 ≤ z) (h2 : z ≤ 40) : 0 ≤ mny d m z ∧ mny d m z ≤ 9 := by
  unfold mny
  split
  · omega
  · exact h.n _ (by omega)
theorem InvM.nb {d : Dd} {m : Nat} (h : InvM d m) (z : Int) : 0 ≤ nmb d m z ∧ nmb d m z ≤ 9 := by
  have hb := h.b
  have ha := h.a
  unfold nmb
  split
  · omega
  · exact h.ny (by omega) (by omega)
theorem nmb_in {d : Dd} {m : Nat} {z : Int} (h1 : db d m ≤ z) (h2 : z ≤ da d m) : nmb d m z = mny d m z := by
  unfold nmb
  rw [if_neg (by omega)]
theorem InvM.rg {d : Dd} {m : Nat} (h : InvM d m) : rng d m ≤ 80 ∧ (rng d m : Int) = da d m - db d m := by
  have hb := h.b
  have ha := h.a
  unfold rng
  omega
theorem lot_le {d : Dd} {m : Nat} (h : InvM d m) {n : Nat} (hn : n ≤ rng d m + 1) : 0 ≤ sg (fun j => mny d m (db d m + j)) n ∧ sg (fun j => mny d m (db d m + j)) n ≤ n * 9 := by
  have hr := h.rg
  have hb := h.b
  have ha := h.a
  have hp : ∀ k, k < n → 0 ≤ mny d m (db d m + k) ∧ mny d m (db d m + k) ≤ 9 := fun k hk => h.ny (by omega) (by omega)
  exact ⟨sg_nn (fun k hk => (hp k hk).1), sg_le (fun k hk => (hp k hk).2)⟩
theorem InvM.lt {d : Dd} {m : Nat} (h : InvM d m) : lot d m ≤ 729 := by
  have := (lot_le h (Nat.le_refl (rng d m + 1))).2
  have hr := h.rg
  unfold lot
  push_cast at this
  omega
/-! ===== shapes of the class's objects ===== -/
def isMe (h : Hp) (p : Nat) : Prop := qk h p = 14 ∧ qr h p 5 = some (p + 1) ∧ qr h p 9 = some (p + 2) ∧ qr h p 10 = some (p + 3) ∧ qr h p 11 = some (p + 4) ∧ qk h (p + 1) = 1 ∧ ql h (p + 1) = 81 ∧ qk h (p + 2) = 1 ∧ ql h (p + 2) = 4 ∧ qk h (p + 3) = 1 ∧ ql h (p + 3) = 4 ∧ qk h (p + 4) = 1 ∧ ql h (p + 4) = 4
def isCh (h : Hp) (p : Nat) : Prop := qk h p = 11 ∧ qr h p 0 = some (p + 1) ∧ qk h (p + 1) = 1 ∧ ql h (p + 1) = 12
def isLo (h : Hp) (p : Nat) : Prop := qk h p = 13 ∧ qr h p 0 = some (p + 1) ∧ qk h (p + 1) = 1 ∧ ql h (p + 1) = 24
def MeC (h : Hp) (p : Nat) (d : Dd) (m : Nat) : Prop := qi h p 0 = dk d m ∧ qi h p 1 = ds d m ∧ qi h p 2 = db d m ∧ qi h p 3 = da d m ∧ qi h p 4 = dh d m ∧ qi h p 6 = df d m ∧ qi h p 7 = dt d m ∧ qi h p 8 = dv d m ∧ qi h p 12 = dco d m ∧ (∀ j, j < 81 → qi h (p + 1) j = dn d m j) ∧ (∀ l, l < 4 → qi h (p + 2) l = dlo d m l) ∧ (∀ l, l < 4 → qi h (p + 3) l = dup d m l) ∧ (∀ l, l < 4 → qi h (p + 4) l = dpr d m l)
def ChC (h : Hp) (p : Nat) (d : Dd) (c : Nat) : Prop := qi h p 1 = dcl d c ∧ qi h p 2 = dch d c ∧ (∀ m, m < 12 → qi h (p + 1) m = dsh d c m)
def LoC (h : Hp) (p : Nat) (d : Dd) (l : Nat) : Prop := qi h p 1 = dct d l ∧ (∀ k, k < 24 → qi h (p + 1) k = dpt d l k)
def isSt (h : Hp) (a : Nat) : Prop := qk h a = 16 ∧ qr h a 0 = some (a + 1) ∧ qr h a 1 = some (a + 2) ∧ qr h a 2 = some (a + 3) ∧ qr h a 3 = some (a + 4) ∧ qk h (a + 1) = 4 ∧ ql h (a + 1) = 12 ∧ qk h (a + 2) = 5 ∧ ql h (a + 2) = 6 ∧ qk h (a + 3) = 6 ∧ ql h (a + 3) = 2 ∧ qk h (a + 4) = 1 ∧ ql h (a + 4) = 24 ∧
  (∀ m, m < 12 → qr h (a + 1) m = some (a + 5 + 5 * m)) ∧ (∀ m, m < 12 → isMe h (a + 5 + 5 * m)) ∧ (∀ c, c < 6 → qr h (a + 2) c = some (a + 65 + 2 * c)) ∧ (∀ c, c < 6 → isCh h (a + 65 + 2 * c)) ∧ (∀ l, l < 2 → qr h (a + 3) l = some (a + 77 + 2 * l)) ∧ (∀ l, l < 2 → isLo h (a + 77 + 2 * l))
def StC (h : Hp) (a : Nat) (d : Dd) : Prop := (∀ m, m < 12 → MeC h (a + 5 + 5 * m) d m) ∧ (∀ c, c < 6 → ChC h (a + 65 + 2 * c) d c) ∧ (∀ l, l < 2 → LoC h (a + 77 + 2 * l) d l) ∧ (∀ k, k < 24 → qi h (a + 4) k = dmt d k)

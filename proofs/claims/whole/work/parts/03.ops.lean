/-! ===== locals ===== -/
abbrev LSt : Type := List (Option AV)
def lgt : LSt → Nat → Option AV
  | [], _ => none
  | x :: _, 0 => x
  | _ :: xs, n + 1 => lgt xs n
def lst : LSt → Nat → Option AV → LSt
  | [], _, _ => []
  | _ :: xs, 0, v => v :: xs
  | x :: xs, n + 1, v => x :: lst xs n v
def isL (v : Option AV) : Bool := match v with
  | some (.inr (.inl _)) => true
  | _ => false
def kil (ls : LSt) (i : Nat) : LSt := match i with
  | 0 => ls
  | j + 1 => match isL (lgt ls j) with
    | true => lst ls j none
    | false => ls
def st1 (ls : LSt) (i : Nat) (v : AV) : LSt := lst (kil ls i) i (some v)
def st2 (ls : LSt) (i : Nat) (v : AV) : LSt := lst (lst (kil ls i) i (some v)) (i + 1) none
def asc (ls : LSt) : List (Nat × Value) := (List.range ls.length).filterMap (fun j => (lgt ls j).map fun v => (j, cv v))
theorem lgt_lt : ∀ {ls : LSt} {j : Nat} {v : AV}, lgt ls j = some v → j < ls.length
  | [], _, _, h => by cases h
  | _ :: _, 0, _, _ => Nat.zero_lt_succ _
  | _ :: xs, n + 1, v, h => Nat.succ_lt_succ (lgt_lt (ls := xs) h)
theorem asc_mem {ls : LSt} {j : Nat} {v : AV} (h : lgt ls j = some v) : (j, cv v) ∈ asc ls :=
  List.mem_filterMap.mpr ⟨j, List.mem_range.mpr (lgt_lt h), by rw [h]; rfl⟩
theorem asc_of {ls : LSt} {q : Nat × Value} (h : q ∈ asc ls) : ∃ v, lgt ls q.1 = some v ∧ q.2 = cv v := by
  obtain ⟨j, -, hj⟩ := List.mem_filterMap.mp h
  cases hv : lgt ls j with
  | none => rw [hv] at hj; cases hj
  | some v => rw [hv] at hj; cases hj; exact ⟨v, hv, rfl⟩
theorem lgt_lst_s : ∀ {ls : LSt} {i : Nat} {v : Option AV} {w : AV}, lgt (lst ls i v) i = some w → v = some w
  | [], _, _, _, h => by cases h
  | _ :: _, 0, _, _, h => h
  | _ :: xs, n + 1, v, w, h => lgt_lst_s (ls := xs) (i := n) h
theorem lgt_lst_n : ∀ {ls : LSt} {i j : Nat} {v : Option AV}, j ≠ i → lgt (lst ls i v) j = lgt ls j
  | [], _, _, _, _ => rfl
  | _ :: _, 0, 0, _, h => absurd rfl h
  | _ :: _, 0, _ + 1, _, _ => rfl
  | _ :: _, _ + 1, 0, _, _ => rfl
  | _ :: xs, n + 1, m + 1, v, h => lgt_lst_n (ls := xs) (i := n) (j := m) (v := v) (fun e => h (congrArg Nat.succ e))
theorem kil_le {ls : LSt} {i j : Nat} {v : AV} (h : lgt (kil ls i) j = some v) : lgt ls j = some v ∧ ¬ (j + 1 = i ∧ isL (some v) = true) := by
  cases i with
  | zero => exact ⟨h, fun q => by omega⟩
  | succ k =>
    have h : lgt (match isL (lgt ls k) with | true => lst ls k none | false => ls) j = some v := h
    cases hk : isL (lgt ls k) with
    | true =>
      rw [hk] at h
      by_cases e : j = k
      · subst e
        have := lgt_lst_s h
        cases this
      · rw [show lgt (match true with | true => lst ls k none | false => ls) j = lgt (lst ls k none) j from rfl, lgt_lst_n e] at h
        exact ⟨h, fun q => e (by omega)⟩
    | false =>
      rw [hk] at h
      have h : lgt ls j = some v := h
      refine ⟨h, fun q => ?_⟩
      have e : j = k := by omega
      subst e
      rw [h] at hk
      rw [hk] at q
      cases q.2
theorem cv_cat {v : AV} (h : isL (some v) = false) : (cv v).category = 1 := by
  match v, h with
  | .inl _, _ => rfl
  | .inr (.inr none), _ => rfl
  | .inr (.inr (some _)), _ => rfl
theorem cv_catL (z : Int) : (cv (vl z)).category = 2 := rfl
def Lcl (lsA : Array Slot) (nL : Nat) (ls : LSt) : Prop := lsA.size = nL ∧ lv_wf lsA ∧ ∀ (j : Nat) (v : AV), lgt ls j = some v → lsA[j]? = some (.val (cv v))
theorem Lcl.has {lsA : Array Slot} {nL : Nat} {ls : LSt} (h : Lcl lsA nL ls) : lv_has lsA nL (asc ls) := ⟨h.1, h.2.1, fun q hq => by
  obtain ⟨v, h1, h2⟩ := asc_of hq
  rw [h2]
  exact h.2.2 q.1 v h1⟩
theorem Lcl.of {lsA : Array Slot} {nL : Nat} {ls : LSt} {lv : List (Nat × Value)} (h : lv_has lsA nL lv) (hh : ∀ (j : Nat) (v : AV), lgt ls j = some v → (j, cv v) ∈ lv) : Lcl lsA nL ls :=
  ⟨h.1, h.2.1, fun j v hv => h.2.2 _ (hh j v hv)⟩
theorem st1_in {ls : LSt} {i : Nat} {v : AV} (j : Nat) (w : AV) (h : lgt (st1 ls i v) j = some w) : (j, cv w) ∈ (i, cv v) :: (asc ls).filter (fun q => !(q.1 == i) && !(q.1 + 1 == i && q.2.category == 2)) := by
  by_cases e : j = i
  · subst e
    cases lgt_lst_s h
    exact List.mem_cons_self
  · unfold st1 at h
    rw [lgt_lst_n e] at h
    obtain ⟨h1, h2⟩ := kil_le h
    refine List.mem_cons_of_mem _ (List.mem_filter.mpr ⟨asc_mem h1, ?_⟩)
    have e1 : (j == i) = false := by simp [e]
    by_cases e2 : j + 1 = i
    · have hl : isL (some w) = false := by
        cases hw : isL (some w) with
        | true => exact absurd ⟨e2, hw⟩ h2
        | false => rfl
      simp [e1, cv_cat hl]
    · simp [e, e2]
theorem st2_in {ls : LSt} {i : Nat} {v : AV} (j : Nat) (w : AV) (h : lgt (st2 ls i v) j = some w) : (j, cv w) ∈ (i, cv v) :: (asc ls).filter (fun q => !(q.1 == i) && (!(q.1 == i + 1) && !(q.1 + 1 == i && q.2.category == 2))) := by
  unfold st2 at h
  by_cases e0 : j = i + 1
  · subst e0
    have := lgt_lst_s h
    cases this
  · rw [lgt_lst_n e0] at h
    by_cases e : j = i
    · subst e
      cases lgt_lst_s h
      exact List.mem_cons_self
    · rw [lgt_lst_n e] at h
      obtain ⟨h1, h2⟩ := kil_le h
      refine List.mem_cons_of_mem _ (List.mem_filter.mpr ⟨asc_mem h1, ?_⟩)
      by_cases e2 : j + 1 = i
      · have hl : isL (some w) = false := by
          cases hw : isL (some w) with
          | true => exact absurd ⟨e2, hw⟩ h2
          | false => rfl
        simp [e, e0, cv_cat hl]
      · simp [e, e0, e2]
def entL : Nat → List AV → LSt
  | n, [] => List.replicate n none
  | n, .inr (.inl z) :: vs => some (vl z) :: none :: entL (n - 2) vs
  | n, v :: vs => some v :: entL (n - 1) vs

/-! ===== the world ===== -/
def vwCl : List vw_C := [(RX0, TX0, 8), (RX1, TX1, 3), (RX2, TX2, 3), (RX3, TX3, 2), (RX4, TX4, 13), (RX5, TX5, 9), (RX6, TX6, 4), (RX7, TX7, 6), (RX8, TX8, 14)]
def qty : Nat → FieldType := fun k => match k with
  | 1 => .int
  | 2 => .long
  | 3 => .boolean
  | 4 => .object "FitBench$Measure"
  | 5 => .object "FitBench$Chain"
  | 6 => .object "FitBench$Lot"
  | _ => .object "FitBench$State"
def tyC : Nat → Nat → FieldType := fun c => match c with
  | 0 => tyX0 | 1 => tyX1 | 2 => tyX2 | 3 => tyX3 | 4 => tyX4 | 5 => tyX5 | 6 => tyX6 | 7 => tyX7 | _ => tyX8
/-- class numbers, field slots, array classes, the first address that is ours, the heap below it -/
abbrev Gh : Type := (Nat → ClassId) × (Nat → Nat → Nat) × (Nat → ClassId) × Nat × Heap
def fvl (ty : FieldType) (z : Int) (r : Option Nat) : Value := match ty with
  | .int => .int (jI z)
  | .boolean => .int (jI z)
  | _ => va_rf r
def cAt (g : Gh) (h : Hp) (H : Heap) (a : Nat) : Prop :=
  (qk h a = 1 → H[a]? = some (arrV (g.2.2.1 1) (ql h a) (fun j => .int (jI (qi h a j))))) ∧
  (qk h a = 2 → H[a]? = some (arrV (g.2.2.1 2) (ql h a) (fun j => .long (jL (qj h a j))))) ∧
  (qk h a = 3 → H[a]? = some (arrV (g.2.2.1 3) (ql h a) (fun j => .int (jI (qi h a j))))) ∧
  (∀ k, qk h a = k → 4 ≤ k → k < 8 → H[a]? = some (arrV (g.2.2.1 k) (ql h a) (fun j => va_rf (qr h a j)))) ∧
  (∀ (ci : Nat) (r : vw_C), qk h a = 10 + ci → vwCl[ci]? = some r → t_OB a (g.1 ci) r.2.2 (g.2.1 ci) H (fun j => fvl (tyC ci j) (qi h a j) (qr h a j)))
def Hld (g : Gh) (h : Hp) (H : Heap) : Prop := H.size = qt h ∧ g.2.2.2.1 ≤ qt h ∧ (∀ q, q < g.2.2.2.1 → H[q]? = g.2.2.2.2[q]?) ∧ (∀ a, qk h a ≠ 0 → g.2.2.2.1 ≤ a ∧ a < qt h) ∧ (∀ a, ql h a < 2147483648) ∧ ∀ a, cAt g h H a
def gTbl : List Cond := lw_tbl.filter goodWord
def nestW : List (String × Nat × MethodName) := [(RX6, 33, yX4_init), (RX6, 34, yX1_init), (RX6, 35, yX3_init), (RX7, 22, yX1_init), (RX7, 29, yX2_init), (RX7, 36, yX5_init), (RX7, 43, yX0_init), (RX2, 46, yX7_isFace), (RX3, 19, yX7_within)]
def aoN : List String := ["FitBench$Measure", "FitBench$Chain", "FitBench$Lot", "FitBench$State"]
def KF (g : Gh) (U : State) : Prop := va_K (g.1, g.2.1) vwCl [] U ∧ (∀ k, 1 ≤ k → k < 8 → ArrOfT U (g.2.2.1 k) (qty k) ∧ va_RA U (g.2.2.1 k) (qty k)) ∧ (∀ w ∈ nestW, va_Nw (.methodLinkNest w.1 w.2.1 w.2.2 "FitBench") U) ∧ (∀ C ∈ aoN, va_AO C U)
theorem KF.moved {g : Gh} {s U : State} (hW : s.WarmedH U.vm) (h : KF g s) : KF g U :=
  ⟨va_K.moved hW.alike h.1, fun k h1 h2 => ⟨arrOfT_moved hW.alike (h.2.1 k h1 h2).1, (h.2.1 k h1 h2).2.moved hW.alike⟩, fun w hw => va_Nw.warmM hW (h.2.2.1 w hw), fun C hC => (h.2.2.2 C hC).moved hW.alike⟩
theorem KF.same {g : Gh} {s U : State} (e : s.vm = U.vm) (h : KF g s) : KF g U :=
  ⟨va_K.moved (by rw [e]; exact Vm.Alike.refl _) h.1, fun k h1 h2 => ⟨arrOfT_moved (by rw [e]; exact Vm.Alike.refl _) (h.2.1 k h1 h2).1, (h.2.1 k h1 h2).2.moved (by rw [e]; exact Vm.Alike.refl _)⟩, fun w hw => va_Nw.same rfl e (h.2.2.1 w hw), fun C hC => (h.2.2.2 C hC).moved (by rw [e]; exact Vm.Alike.refl _)⟩
/-! ===== methods and the judgement ===== -/
/-- code, locals, own class, return type, name, level -/
abbrev MI : Type := ByteArray × Nat × String × Option FieldType × String × Nat
abbrev KT : Type := Nat → LSt → List AV → Hp → Nat × Nat → Prop
abbrev NX : Type := LSt → List AV → Hp → Nat × Nat → Prop
abbrev RT : Type := Option AV → Hp → Prop
abbrev OPP : Type := LSt → List AV → Hp → Nat × Nat → KT → RT → NX → Prop
abbrev Ctx : Type := Program × Launch × Env × Room × State × MethodId × Array Value × List Frame × Method × Code × Gh × RT
def rmL (lev : Nat) (b : Nat × Nat) : Room := { frames := lev, cells := b.1, slots := b.2, locals := 64 * lev }
def Qk (g : Gh) (Rt : RT) : Array Value → State → Outcome → State → Prop := fun _ _ o t => ∃ (r : Option AV) (h : Hp), o = .returned (r.map cv) ∧ Rt r h ∧ Hld g h t.heap
def OkC (i : MI) (x : Ctx) : Prop := match x with
  | (p, _, _, R, s, m, args, _, meth, c, g, _) => p.tables.exec = Jvm.exec ∧ c.code = i.1 ∧ c.maxLocals = i.2.1 ∧ s.vm.findClass i.2.2.1 = some m.cls ∧ (∀ w ∈ gTbl, w.before args s = true) ∧ meth.sig.returnType = i.2.2.2.1 ∧ meth.name = i.2.2.2.2.1 ∧ meth.locks = false ∧ KF g s ∧ R.frames = i.2.2.2.2.2 ∧ R.locals = 64 * i.2.2.2.2.2
def V (i : MI) (x : Ctx) (pc : Nat) (ls : LSt) (st : List AV) (h : Hp) (b : Nat × Nat) : Prop := match x with
  | (p, l, e, R, s, m, args, below, meth, c, g, Rt) => ∀ (H : Heap) (locs : List Loc) (lsA : Array Slot) (cells slots : Nat), Hld g h H → (∀ q ∈ locs, g.2.2.2.1 ≤ q.base) → Lcl lsA i.2.1 ls → cells + b.1 ≤ R.cells → slots + b.2 ≤ R.slots →
      W p l e R s m args below meth c H locs cells slots (MQ below (Qk g Rt) args s R.cells R.slots (fun q => g.2.2.2.1 ≤ q)) (F0 m pc lsA (st.map cv))
def xR (x : Ctx) : RT := x.2.2.2.2.2.2.2.2.2.2.2
def Okop (i : MI) (pc : Nat) (op : OPP) (pe : Nat) : Prop := ∀ (x : Ctx), OkC i x → ∀ (ls : LSt) (st : List AV) (h : Hp) (b : Nat × Nat) (nx : NX), (∀ ls' st' h' b', nx ls' st' h' b' → V i x pe ls' st' h' b') → op ls st h b (V i x) (xR x) nx → V i x pc ls st h b
def wpS : List OPP → Nat → LSt → List AV → Hp → Nat × Nat → KT → RT → Prop
  | [], pe, ls, st, h, b, K, _ => K pe ls st h b
  | o :: os, pe, ls, st, h, b, K, Rt => o ls st h b K Rt (fun ls' st' h' b' => wpS os pe ls' st' h' b' K Rt)
def Seg (i : MI) (pc : Nat) (os : List OPP) (pe : Nat) : Prop := ∀ (x : Ctx), OkC i x → ∀ (ls : LSt) (st : List AV) (h : Hp) (b : Nat × Nat), wpS os pe ls st h b (V i x) (xR x) → V i x pc ls st h b
theorem Seg.nil {i : MI} {pc : Nat} : Seg i pc [] pc := fun _ _ _ _ _ _ k => k
theorem Seg.cons {i : MI} {pc pd pe : Nat} {o : OPP} {os : List OPP} (ho : Okop i pc o pd) (h : Seg i pd os pe) : Seg i pc (o :: os) pe :=
  fun x ok ls st hh b k => ho x ok ls st hh b _ (fun ls' st' h' b' q => h x ok ls' st' h' b' q) k
/-! ===== ops that don't touch the heap ===== -/

def o_c (z : Int) : OPP := fun ls st h b _ _ nx => nx ls (vi z :: st) h b
def o_cl (z : Int) : OPP := fun ls st h b _ _ nx => nx ls (vl z :: st) h b
def o_il (i : Nat) : OPP := fun ls st h b _ _ nx => match lgt ls i with
  | some (.inl z) => nx ls (vi z :: st) h b
  | _ => False
def o_ll (i : Nat) : OPP := fun ls st h b _ _ nx => match lgt ls i with
  | some (.inr (.inl z)) => nx ls (vl z :: st) h b
  | _ => False
def o_al (i : Nat) : OPP := fun ls st h b _ _ nx => match lgt ls i with
  | some (.inr (.inr z)) => nx ls (vr z :: st) h b
  | _ => False
def o_is (i : Nat) : OPP := fun ls st h b _ _ nx => match st with
  | .inl z :: r => nx (st1 ls i (vi z)) r h b
  | _ => False
def o_ls (i : Nat) : OPP := fun ls st h b _ _ nx => match st with
  | .inr (.inl z) :: r => nx (st2 ls i (vl z)) r h b
  | _ => False
def o_as (i : Nat) : OPP := fun ls st h b _ _ nx => match st with
  | .inr (.inr z) :: r => nx (st1 ls i (vr z)) r h b
  | _ => False
def o_inc (i : Nat) (n : Int) : OPP := fun ls st h b _ _ nx => match lgt ls i with
  | some (.inl z) => nx (st1 ls i (vi (z + n))) st h b
  | _ => False
def o_add : OPP := fun ls st h b _ _ nx => match st with
  | .inl y :: .inl x :: r => nx ls (vi (x + y) :: r) h b
  | _ => False
def o_sub : OPP := fun ls st h b _ _ nx => match st with
  | .inl y :: .inl x :: r => nx ls (vi (x - y) :: r) h b
  | _ => False
def o_mul : OPP := fun ls st h b _ _ nx => match st with
  | .inl y :: .inl x :: r => nx ls (vi (x * y) :: r) h b
  | _ => False
def o_and : OPP := fun ls st h b _ _ nx => match st with
  | .inl y :: .inl x :: r => nx ls (vi ((jI x &&& jI y).toInt) :: r) h b
  | _ => False
def o_or : OPP := fun ls st h b _ _ nx => match st with
  | .inl y :: .inl x :: r => nx ls (vi ((jI x ||| jI y).toInt) :: r) h b
  | _ => False
def o_xor : OPP := fun ls st h b _ _ nx => match st with
  | .inl y :: .inl x :: r => nx ls (vi ((jI x ^^^ jI y).toInt) :: r) h b
  | _ => False
def o_shl : OPP := fun ls st h b _ _ nx => match st with
  | .inl y :: .inl x :: r => nx ls (vi ((jI x <<< (jI y &&& 31)).toInt) :: r) h b
  | _ => False
def o_shr : OPP := fun ls st h b _ _ nx => match st with
  | .inl y :: .inl x :: r => nx ls (vi ((jI x >>> (jI y &&& 31)).toInt) :: r) h b
  | _ => False
def o_div : OPP := fun ls st h b _ _ nx => match st with
  | .inl y :: .inl x :: r => inI x ∧ inI y ∧ y ≠ 0 ∧ nx ls (vi (x.tdiv y) :: r) h b
  | _ => False
def o_neg : OPP := fun ls st h b _ _ nx => match st with
  | .inl x :: r => nx ls (vi (-x) :: r) h b
  | _ => False
def o_ladd : OPP := fun ls st h b _ _ nx => match st with
  | .inr (.inl y) :: .inr (.inl x) :: r => nx ls (vl (x + y) :: r) h b
  | _ => False
def o_lsub : OPP := fun ls st h b _ _ nx => match st with
  | .inr (.inl y) :: .inr (.inl x) :: r => nx ls (vl (x - y) :: r) h b
  | _ => False
def o_lmul : OPP := fun ls st h b _ _ nx => match st with
  | .inr (.inl y) :: .inr (.inl x) :: r => nx ls (vl (x * y) :: r) h b
  | _ => False
def o_ldiv : OPP := fun ls st h b _ _ nx => match st with
  | .inr (.inl y) :: .inr (.inl x) :: r => inL x ∧ inL y ∧ y ≠ 0 ∧ nx ls (vl (x.tdiv y) :: r) h b
  | _ => False
def o_lrem : OPP := fun ls st h b _ _ nx => match st with
  | .inr (.inl y) :: .inr (.inl x) :: r => inL x ∧ inL y ∧ y ≠ 0 ∧ nx ls (vl (x.tmod y) :: r) h b
  | _ => False
def o_lneg : OPP := fun ls st h b _ _ nx => match st with
  | .inr (.inl x) :: r => nx ls (vl (-x) :: r) h b
  | _ => False
def o_lcmp : OPP := fun ls st h b _ _ nx => match st with
  | .inr (.inl y) :: .inr (.inl x) :: r => inL x ∧ inL y ∧ nx ls (vi (cz x y) :: r) h b
  | _ => False
def o_i2l : OPP := fun ls st h b _ _ nx => match st with
  | .inl x :: r => inI x ∧ nx ls (vl x :: r) h b
  | _ => False
def o_l2i : OPP := fun ls st h b _ _ nx => match st with
  | .inr (.inl x) :: r => nx ls (vi x :: r) h b
  | _ => False
def o_dup : OPP := fun ls st h b _ _ nx => match st with
  | .inl x :: r => nx ls (vi x :: vi x :: r) h b
  | .inr (.inr x) :: r => nx ls (vr x :: vr x :: r) h b
  | _ => False
def o_dup2 : OPP := fun ls st h b _ _ nx => match st with
  | .inl x :: .inr (.inr y) :: r => nx ls (vi x :: vr y :: vi x :: vr y :: r) h b
  | _ => False
def o_pop : OPP := fun ls st h b _ _ nx => match st with
  | .inl _ :: r => nx ls r h b
  | .inr (.inr _) :: r => nx ls r h b
  | _ => False
def o_go (t : Nat) : OPP := fun ls st h b K _ _ => K t ls st h b
def o_nn (t : Nat) : OPP := fun ls st h b K _ nx => match st with
  | .inr (.inr x) :: r => (x ≠ none → K t ls r h b) ∧ (x = none → nx ls r h b)
  | _ => False
def swc : Int → List Nat → Int → (Nat → Prop) → Prop
  | _, [], _, _ => True
  | lo, t :: ts, z, k => (z = lo → k t) ∧ swc (lo + 1) ts z k
def o_sw (lo : Int) (ts : List Nat) (d : Nat) : OPP := fun ls st h b K _ _ => match st with
  | .inl z :: r => inI z ∧ swc lo ts z (fun t => K t ls r h b) ∧ ((z < lo ∨ lo + (ts.length : Int) ≤ z) → K d ls r h b)
  | _ => False
def o_iret : OPP := fun _ st h _ _ Rt _ => match st with
  | [.inl z] => Rt (some (vi z)) h
  | _ => False
def o_zret : OPP := fun _ st h _ _ Rt _ => match st with
  | [.inl z] => (z = 0 ∨ z = 1) ∧ Rt (some (vi z)) h
  | _ => False
def o_lret : OPP := fun _ st h _ _ Rt _ => match st with
  | [.inr (.inl z)] => Rt (some (vl z)) h
  | _ => False
def o_vret : OPP := fun _ st h _ _ Rt _ => match st with
  | [] => Rt none h
  | _ => False
def o_ieq (t : Nat) : OPP := fun ls st h b K _ nx => match st with
  | .inl y :: .inl x :: r => inI x ∧ inI y ∧ (x = y → K t ls r h b) ∧ (¬ x = y → nx ls r h b)
  | _ => False
def o_eq0 (t : Nat) : OPP := fun ls st h b K _ nx => match st with
  | .inl x :: r => inI x ∧ (x = 0 → K t ls r h b) ∧ (¬ x = 0 → nx ls r h b)
  | _ => False
def o_ine (t : Nat) : OPP := fun ls st h b K _ nx => match st with
  | .inl y :: .inl x :: r => inI x ∧ inI y ∧ (¬ x = y → K t ls r h b) ∧ (x = y → nx ls r h b)
  | _ => False
def o_ne0 (t : Nat) : OPP := fun ls st h b K _ nx => match st with
  | .inl x :: r => inI x ∧ (¬ x = 0 → K t ls r h b) ∧ (x = 0 → nx ls r h b)
  | _ => False
def o_ilt (t : Nat) : OPP := fun ls st h b K _ nx => match st with
  | .inl y :: .inl x :: r => inI x ∧ inI y ∧ (x < y → K t ls r h b) ∧ (¬ x < y → nx ls r h b)
  | _ => False
def o_lt0 (t : Nat) : OPP := fun ls st h b K _ nx => match st with
  | .inl x :: r => inI x ∧ (x < 0 → K t ls r h b) ∧ (¬ x < 0 → nx ls r h b)
  | _ => False
def o_ige (t : Nat) : OPP := fun ls st h b K _ nx => match st with
  | .inl y :: .inl x :: r => inI x ∧ inI y ∧ (y ≤ x → K t ls r h b) ∧ (¬ y ≤ x → nx ls r h b)
  | _ => False
def o_ge0 (t : Nat) : OPP := fun ls st h b K _ nx => match st with
  | .inl x :: r => inI x ∧ (0 ≤ x → K t ls r h b) ∧ (¬ 0 ≤ x → nx ls r h b)
  | _ => False
def o_igt (t : Nat) : OPP := fun ls st h b K _ nx => match st with
  | .inl y :: .inl x :: r => inI x ∧ inI y ∧ (y < x → K t ls r h b) ∧ (¬ y < x → nx ls r h b)
  | _ => False
def o_gt0 (t : Nat) : OPP := fun ls st h b K _ nx => match st with
  | .inl x :: r => inI x ∧ (0 < x → K t ls r h b) ∧ (¬ 0 < x → nx ls r h b)
  | _ => False
def o_ile (t : Nat) : OPP := fun ls st h b K _ nx => match st with
  | .inl y :: .inl x :: r => inI x ∧ inI y ∧ (x ≤ y → K t ls r h b) ∧ (¬ x ≤ y → nx ls r h b)
  | _ => False
def o_le0 (t : Nat) : OPP := fun ls st h b K _ nx => match st with
  | .inl x :: r => inI x ∧ (x ≤ 0 → K t ls r h b) ∧ (¬ x ≤ 0 → nx ls r h b)
  | _ => False
section SND
variable {i : MI} {pc : Nat}
theorem k_iconst {n : Int} (hd : decode i.1 pc = .ok (.iconst n, 1)) : Okop i pc (o_c n) (pc + 1) := by
  rintro ⟨p, l, e, R, s, m, args, below, meth, c, g, Rt⟩ ⟨hx, hb, hml, hown, hts, hr, hnm, hlk, hKF, hR1, hR2⟩ ls st h b nx hnx hop
  intro H locs lsA cells slots hH hL hls hc hs
  exact lv_iconst hx hb hd rfl (hnx _ _ _ _ hop H locs lsA cells slots hH hL hls hc hs)
theorem k_bipush {n : Int} (hd : decode i.1 pc = .ok (.bipush n, 2)) (hn : (Int8.ofInt n).toInt32 = jI n) : Okop i pc (o_c n) (pc + 2) := by
  rintro ⟨p, l, e, R, s, m, args, below, meth, c, g, Rt⟩ ⟨hx, hb, hml, hown, hts, hr, hnm, hlk, hKF, hR1, hR2⟩ ls st h b nx hnx hop
  intro H locs lsA cells slots hH hL hls hc hs
  exact lv_bipush hx hb hd hn (hnx _ _ _ _ hop H locs lsA cells slots hH hL hls hc hs)
theorem k_sipush {n : Int} (hd : decode i.1 pc = .ok (.sipush n, 3)) (hn : (Int16.ofInt n).toInt32 = jI n) : Okop i pc (o_c n) (pc + 3) := by
  rintro ⟨p, l, e, R, s, m, args, below, meth, c, g, Rt⟩ ⟨hx, hb, hml, hown, hts, hr, hnm, hlk, hKF, hR1, hR2⟩ ls st h b nx hnx hop
  intro H locs lsA cells slots hH hL hls hc hs
  exact lv_sipush hx hb hd hn (hnx _ _ _ _ hop H locs lsA cells slots hH hL hls hc hs)
theorem k_lconst {n : Fin 2} {z : Int} (hd : decode i.1 pc = .ok (.lconst n, 1)) (hn : Int64.ofNat (n : Nat) = jL z) : Okop i pc (o_cl z) (pc + 1) := by
  rintro ⟨p, l, e, R, s, m, args, below, meth, c, g, Rt⟩ ⟨hx, hb, hml, hown, hts, hr, hnm, hlk, hKF, hR1, hR2⟩ ls st h b nx hnx hop
  intro H locs lsA cells slots hH hL hls hc hs
  exact lv_lconst hx hb hd hn (hnx _ _ _ _ hop H locs lsA cells slots hH hL hls hc hs)
theorem k_ldc {idx : Nat} {z : Int} (hd : decode i.1 pc = .ok (.ldc idx, 2)) (hw : Cond.constant i.2.2.1 idx (jI z) ∈ gTbl) : Okop i pc (o_c z) (pc + 2) := by
  rintro ⟨p, l, e, R, s, m, args, below, meth, c, g, Rt⟩ ⟨hx, hb, hml, hown, hts, hr, hnm, hlk, hKF, hR1, hR2⟩ ls st h b nx hnx hop
  intro H locs lsA cells slots hH hL hls hc hs
  exact lv_ldc hx hb hown (hts _ hw) hd (hnx _ _ _ _ hop H locs lsA cells slots hH hL hls hc hs)
theorem k_ldc2 {idx : Nat} {z : Int} (hd : decode i.1 pc = .ok (.ldc2_w idx, 3)) (hw : Cond.constantLong i.2.2.1 idx (jL z) ∈ gTbl) : Okop i pc (o_cl z) (pc + 3) := by
  rintro ⟨p, l, e, R, s, m, args, below, meth, c, g, Rt⟩ ⟨hx, hb, hml, hown, hts, hr, hnm, hlk, hKF, hR1, hR2⟩ ls st h b nx hnx hop
  intro H locs lsA cells slots hH hL hls hc hs
  exact lv_ldc2 hx hb hown (hts _ hw) hd (hnx _ _ _ _ hop H locs lsA cells slots hH hL hls hc hs)
theorem k_il {j : Nat} (hd : decode i.1 pc = .ok (.iload j, 2)) : Okop i pc (o_il j) (pc + 2) := by
  rintro ⟨p, l, e, R, s, m, args, below, meth, c, g, Rt⟩ ⟨hx, hb, hml, hown, hts, hr, hnm, hlk, hKF, hR1, hR2⟩ ls st h b nx hnx hop
  intro H locs lsA cells slots hH hL hls hc hs
  unfold o_il at hop
  split at hop
  · rename_i z hz; exact lv_iload hx hb hd (hls.2.2 _ _ hz) (hnx _ _ _ _ hop H locs lsA cells slots hH hL hls hc hs)
  · exact hop.elim
theorem k_iln {j : Fin 4} (hd : decode i.1 pc = .ok (.iload_n j, 1)) : Okop i pc (o_il j) (pc + 1) := by
  rintro ⟨p, l, e, R, s, m, args, below, meth, c, g, Rt⟩ ⟨hx, hb, hml, hown, hts, hr, hnm, hlk, hKF, hR1, hR2⟩ ls st h b nx hnx hop
  intro H locs lsA cells slots hH hL hls hc hs
  unfold o_il at hop
  split at hop
  · rename_i z hz; exact lv_iload_n hx hb hd rfl (hls.2.2 _ _ hz) (hnx _ _ _ _ hop H locs lsA cells slots hH hL hls hc hs)
  · exact hop.elim
theorem k_ll {j : Nat} (hd : decode i.1 pc = .ok (.lload j, 2)) : Okop i pc (o_ll j) (pc + 2) := by
  rintro ⟨p, l, e, R, s, m, args, below, meth, c, g, Rt⟩ ⟨hx, hb, hml, hown, hts, hr, hnm, hlk, hKF, hR1, hR2⟩ ls st h b nx hnx hop
  intro H locs lsA cells slots hH hL hls hc hs
  unfold o_ll at hop
  split at hop
  · rename_i z hz; exact lv_lload hx hb hd (hls.2.2 _ _ hz) (hnx _ _ _ _ hop H locs lsA cells slots hH hL hls hc hs)
  · exact hop.elim
theorem k_lln {j : Fin 4} (hd : decode i.1 pc = .ok (.lload_n j, 1)) : Okop i pc (o_ll j) (pc + 1) := by
  rintro ⟨p, l, e, R, s, m, args, below, meth, c, g, Rt⟩ ⟨hx, hb, hml, hown, hts, hr, hnm, hlk, hKF, hR1, hR2⟩ ls st h b nx hnx hop
  intro H locs lsA cells slots hH hL hls hc hs
  unfold o_ll at hop
  split at hop
  · rename_i z hz; exact lv_lload_n hx hb hd rfl (hls.2.2 _ _ hz) (hnx _ _ _ _ hop H locs lsA cells slots hH hL hls hc hs)
  · exact hop.elim
theorem k_al {j : Nat} (hd : decode i.1 pc = .ok (.aload j, 2)) : Okop i pc (o_al j) (pc + 2) := by
  rintro ⟨p, l, e, R, s, m, args, below, meth, c, g, Rt⟩ ⟨hx, hb, hml, hown, hts, hr, hnm, hlk, hKF, hR1, hR2⟩ ls st h b nx hnx hop
  intro H locs lsA cells slots hH hL hls hc hs
  unfold o_al at hop
  split at hop
  · rename_i z hz
    have kk := hnx _ _ _ _ hop H locs lsA cells slots hH hL hls hc hs
    have hl := hls.2.2 _ _ hz
    cases z with
    | none => exact lv_aloadN hx hb hd hl kk
    | some a => exact lv_aload hx hb hd hl kk
  · exact hop.elim
theorem k_aln {j : Fin 4} (hd : decode i.1 pc = .ok (.aload_n j, 1)) : Okop i pc (o_al j) (pc + 1) := by
  rintro ⟨p, l, e, R, s, m, args, below, meth, c, g, Rt⟩ ⟨hx, hb, hml, hown, hts, hr, hnm, hlk, hKF, hR1, hR2⟩ ls st h b nx hnx hop
  intro H locs lsA cells slots hH hL hls hc hs
  unfold o_al at hop
  split at hop
  · rename_i z hz
    have kk := hnx _ _ _ _ hop H locs lsA cells slots hH hL hls hc hs
    have hl := hls.2.2 _ _ hz
    cases z with
    | none => exact lv_aload_nN hx hb hd rfl hl kk
    | some a => exact lv_aload_n hx hb hd rfl hl kk
  · exact hop.elim
theorem k_is {j : Nat} (hd : decode i.1 pc = .ok (.istore j, 2)) (hj : j < i.2.1) : Okop i pc (o_is j) (pc + 2) := by
  rintro ⟨p, l, e, R, s, m, args, below, meth, c, g, Rt⟩ ⟨hx, hb, hml, hown, hts, hr, hnm, hlk, hKF, hR1, hR2⟩ ls st h b nx hnx hop
  intro H locs lsA cells slots hH hL hls hc hs
  unfold o_is at hop
  split at hop
  · exact lv_istore hx hb hd hls.has hj rfl (fun ls2 hl2 => hnx _ _ _ _ hop H locs ls2 cells slots hH hL (Lcl.of hl2 (fun j v hv => st1_in j v hv)) hc hs)
  · exact hop.elim
theorem k_isn {j : Fin 4} (hd : decode i.1 pc = .ok (.istore_n j, 1)) (hj : (j : Nat) < i.2.1) : Okop i pc (o_is j) (pc + 1) := by
  rintro ⟨p, l, e, R, s, m, args, below, meth, c, g, Rt⟩ ⟨hx, hb, hml, hown, hts, hr, hnm, hlk, hKF, hR1, hR2⟩ ls st h b nx hnx hop
  intro H locs lsA cells slots hH hL hls hc hs
  unfold o_is at hop
  split at hop
  · exact lv_istore_n hx hb hd rfl hls.has hj rfl (fun ls2 hl2 => hnx _ _ _ _ hop H locs ls2 cells slots hH hL (Lcl.of hl2 (fun j v hv => st1_in j v hv)) hc hs)
  · exact hop.elim
theorem k_ls {j : Nat} (hd : decode i.1 pc = .ok (.lstore j, 2)) (hj : j + 1 < i.2.1) : Okop i pc (o_ls j) (pc + 2) := by
  rintro ⟨p, l, e, R, s, m, args, below, meth, c, g, Rt⟩ ⟨hx, hb, hml, hown, hts, hr, hnm, hlk, hKF, hR1, hR2⟩ ls st h b nx hnx hop
  intro H locs lsA cells slots hH hL hls hc hs
  unfold o_ls at hop
  split at hop
  · exact lv_lstore hx hb hd hls.has hj rfl (fun ls2 hl2 => hnx _ _ _ _ hop H locs ls2 cells slots hH hL (Lcl.of hl2 (fun j v hv => st2_in j v hv)) hc hs)
  · exact hop.elim
theorem k_lsn {j : Fin 4} (hd : decode i.1 pc = .ok (.lstore_n j, 1)) (hj : (j : Nat) + 1 < i.2.1) : Okop i pc (o_ls j) (pc + 1) := by
  rintro ⟨p, l, e, R, s, m, args, below, meth, c, g, Rt⟩ ⟨hx, hb, hml, hown, hts, hr, hnm, hlk, hKF, hR1, hR2⟩ ls st h b nx hnx hop
  intro H locs lsA cells slots hH hL hls hc hs
  unfold o_ls at hop
  split at hop
  · exact lv_lstore_n hx hb hd rfl hls.has hj rfl (fun ls2 hl2 => hnx _ _ _ _ hop H locs ls2 cells slots hH hL (Lcl.of hl2 (fun j v hv => st2_in j v hv)) hc hs)
  · exact hop.elim
theorem k_as {j : Nat} (hd : decode i.1 pc = .ok (.astore j, 2)) (hj : j < i.2.1) : Okop i pc (o_as j) (pc + 2) := by
  rintro ⟨p, l, e, R, s, m, args, below, meth, c, g, Rt⟩ ⟨hx, hb, hml, hown, hts, hr, hnm, hlk, hKF, hR1, hR2⟩ ls st h b nx hnx hop
  intro H locs lsA cells slots hH hL hls hc hs
  unfold o_as at hop
  split at hop
  · rename_i z r
    cases z with
    | none => exact lv_astoreN hx hb hd hls.has hj rfl (fun ls2 hl2 => hnx _ _ _ _ hop H locs ls2 cells slots hH hL (Lcl.of hl2 (fun j v hv => st1_in j v hv)) hc hs)
    | some a => exact lv_astore hx hb hd hls.has hj rfl (fun ls2 hl2 => hnx _ _ _ _ hop H locs ls2 cells slots hH hL (Lcl.of hl2 (fun j v hv => st1_in j v hv)) hc hs)
  · exact hop.elim
theorem k_asn {j : Fin 4} (hd : decode i.1 pc = .ok (.astore_n j, 1)) (hj : (j : Nat) < i.2.1) : Okop i pc (o_as j) (pc + 1) := by
  rintro ⟨p, l, e, R, s, m, args, below, meth, c, g, Rt⟩ ⟨hx, hb, hml, hown, hts, hr, hnm, hlk, hKF, hR1, hR2⟩ ls st h b nx hnx hop
  intro H locs lsA cells slots hH hL hls hc hs
  unfold o_as at hop
  split at hop
  · rename_i z r
    cases z with
    | none => exact lv_astore_nN hx hb hd rfl hls.has hj rfl (fun ls2 hl2 => hnx _ _ _ _ hop H locs ls2 cells slots hH hL (Lcl.of hl2 (fun j v hv => st1_in j v hv)) hc hs)
    | some a => exact lv_astore_n hx hb hd rfl hls.has hj rfl (fun ls2 hl2 => hnx _ _ _ _ hop H locs ls2 cells slots hH hL (Lcl.of hl2 (fun j v hv => st1_in j v hv)) hc hs)
  · exact hop.elim
theorem k_inc {j : Nat} {n : Int} (hd : decode i.1 pc = .ok (.iinc j n, 3)) (hj : j < i.2.1) : Okop i pc (o_inc j n) (pc + 3) := by
  rintro ⟨p, l, e, R, s, m, args, below, meth, c, g, Rt⟩ ⟨hx, hb, hml, hown, hts, hr, hnm, hlk, hKF, hR1, hR2⟩ ls st h b nx hnx hop
  intro H locs lsA cells slots hH hL hls hc hs
  unfold o_inc at hop
  split at hop
  · rename_i z hz
    obtain ⟨k, hk⟩ := List.mem_iff_getElem?.mp (asc_mem hz)
    exact lv_iinc (v := jI (z + n)) hx hb hd hls.has hk (jI_add z n) hj rfl (fun ls2 hl2 => hnx _ _ _ _ hop H locs ls2 cells slots hH hL (Lcl.of hl2 (fun j v hv => st1_in (v := vi (z + n)) j v hv)) hc hs)
  · exact hop.elim
theorem k_add (hd : decode i.1 pc = .ok (.iadd, 1)) : Okop i pc o_add (pc + 1) := by
  rintro ⟨p, l, e, R, s, m, args, below, meth, c, g, Rt⟩ ⟨hx, hb, hml, hown, hts, hr, hnm, hlk, hKF, hR1, hR2⟩ ls st h b nx hnx hop
  intro H locs lsA cells slots hH hL hls hc hs
  unfold o_add at hop
  split at hop
  · refine lv_iadd hx hb hd ?_; rw [jI_add]; exact hnx _ _ _ _ hop H locs lsA cells slots hH hL hls hc hs
  · exact hop.elim
theorem k_sub (hd : decode i.1 pc = .ok (.isub, 1)) : Okop i pc o_sub (pc + 1) := by
  rintro ⟨p, l, e, R, s, m, args, below, meth, c, g, Rt⟩ ⟨hx, hb, hml, hown, hts, hr, hnm, hlk, hKF, hR1, hR2⟩ ls st h b nx hnx hop
  intro H locs lsA cells slots hH hL hls hc hs
  unfold o_sub at hop
  split at hop
  · refine lv_isub hx hb hd ?_; rw [jI_sub]; exact hnx _ _ _ _ hop H locs lsA cells slots hH hL hls hc hs
  · exact hop.elim
theorem k_mul (hd : decode i.1 pc = .ok (.imul, 1)) : Okop i pc o_mul (pc + 1) := by
  rintro ⟨p, l, e, R, s, m, args, below, meth, c, g, Rt⟩ ⟨hx, hb, hml, hown, hts, hr, hnm, hlk, hKF, hR1, hR2⟩ ls st h b nx hnx hop
  intro H locs lsA cells slots hH hL hls hc hs
  unfold o_mul at hop
  split at hop
  · refine lv_imul hx hb hd ?_; rw [jI_mul]; exact hnx _ _ _ _ hop H locs lsA cells slots hH hL hls hc hs
  · exact hop.elim
theorem k_and (hd : decode i.1 pc = .ok (.iand, 1)) : Okop i pc o_and (pc + 1) := by
  rintro ⟨p, l, e, R, s, m, args, below, meth, c, g, Rt⟩ ⟨hx, hb, hml, hown, hts, hr, hnm, hlk, hKF, hR1, hR2⟩ ls st h b nx hnx hop
  intro H locs lsA cells slots hH hL hls hc hs
  unfold o_and at hop
  split at hop
  · refine lv_iand hx hb hd ?_; have kk := hnx _ _ _ _ hop H locs lsA cells slots hH hL hls hc hs; simp only [List.map_cons, cv, jI_self] at kk; exact kk
  · exact hop.elim
theorem k_or (hd : decode i.1 pc = .ok (.ior, 1)) : Okop i pc o_or (pc + 1) := by
  rintro ⟨p, l, e, R, s, m, args, below, meth, c, g, Rt⟩ ⟨hx, hb, hml, hown, hts, hr, hnm, hlk, hKF, hR1, hR2⟩ ls st h b nx hnx hop
  intro H locs lsA cells slots hH hL hls hc hs
  unfold o_or at hop
  split at hop
  · refine lv_ior hx hb hd ?_; have kk := hnx _ _ _ _ hop H locs lsA cells slots hH hL hls hc hs; simp only [List.map_cons, cv, jI_self] at kk; exact kk
  · exact hop.elim
theorem k_xor (hd : decode i.1 pc = .ok (.ixor, 1)) : Okop i pc o_xor (pc + 1) := by
  rintro ⟨p, l, e, R, s, m, args, below, meth, c, g, Rt⟩ ⟨hx, hb, hml, hown, hts, hr, hnm, hlk, hKF, hR1, hR2⟩ ls st h b nx hnx hop
  intro H locs lsA cells slots hH hL hls hc hs
  unfold o_xor at hop
  split at hop
  · refine lv_ixor hx hb hd ?_; have kk := hnx _ _ _ _ hop H locs lsA cells slots hH hL hls hc hs; simp only [List.map_cons, cv, jI_self] at kk; exact kk
  · exact hop.elim
theorem k_shl (hd : decode i.1 pc = .ok (.ishl, 1)) : Okop i pc o_shl (pc + 1) := by
  rintro ⟨p, l, e, R, s, m, args, below, meth, c, g, Rt⟩ ⟨hx, hb, hml, hown, hts, hr, hnm, hlk, hKF, hR1, hR2⟩ ls st h b nx hnx hop
  intro H locs lsA cells slots hH hL hls hc hs
  unfold o_shl at hop
  split at hop
  · refine lv_ishl hx hb hd ?_; have kk := hnx _ _ _ _ hop H locs lsA cells slots hH hL hls hc hs; simp only [List.map_cons, cv, jI_self] at kk; exact kk
  · exact hop.elim
theorem k_shr (hd : decode i.1 pc = .ok (.ishr, 1)) : Okop i pc o_shr (pc + 1) := by
  rintro ⟨p, l, e, R, s, m, args, below, meth, c, g, Rt⟩ ⟨hx, hb, hml, hown, hts, hr, hnm, hlk, hKF, hR1, hR2⟩ ls st h b nx hnx hop
  intro H locs lsA cells slots hH hL hls hc hs
  unfold o_shr at hop
  split at hop
  · refine lv_ishr hx hb hd ?_; have kk := hnx _ _ _ _ hop H locs lsA cells slots hH hL hls hc hs; simp only [List.map_cons, cv, jI_self] at kk; exact kk
  · exact hop.elim
theorem k_neg (hd : decode i.1 pc = .ok (.ineg, 1)) : Okop i pc o_neg (pc + 1) := by
  rintro ⟨p, l, e, R, s, m, args, below, meth, c, g, Rt⟩ ⟨hx, hb, hml, hown, hts, hr, hnm, hlk, hKF, hR1, hR2⟩ ls st h b nx hnx hop
  intro H locs lsA cells slots hH hL hls hc hs
  unfold o_neg at hop
  split at hop
  · refine lv_ineg hx hb hd ?_; rw [jI_neg]; exact hnx _ _ _ _ hop H locs lsA cells slots hH hL hls hc hs
  · exact hop.elim
theorem k_div (hd : decode i.1 pc = .ok (.idiv, 1)) : Okop i pc o_div (pc + 1) := by
  rintro ⟨p, l, e, R, s, m, args, below, meth, c, g, Rt⟩ ⟨hx, hb, hml, hown, hts, hr, hnm, hlk, hKF, hR1, hR2⟩ ls st h b nx hnx hop
  intro H locs lsA cells slots hH hL hls hc hs
  unfold o_div at hop
  split at hop
  · obtain ⟨h1, h2, h3, hop⟩ := hop; refine lv_idiv hx hb hd (fun q => h3 ((jI_eq h2 inI_0).mp q)) ?_; rw [jI_div h1 h2 h3]; exact hnx _ _ _ _ hop H locs lsA cells slots hH hL hls hc hs
  · exact hop.elim
theorem k_ladd (hd : decode i.1 pc = .ok (.ladd, 1)) : Okop i pc o_ladd (pc + 1) := by
  rintro ⟨p, l, e, R, s, m, args, below, meth, c, g, Rt⟩ ⟨hx, hb, hml, hown, hts, hr, hnm, hlk, hKF, hR1, hR2⟩ ls st h b nx hnx hop
  intro H locs lsA cells slots hH hL hls hc hs
  unfold o_ladd at hop
  split at hop
  · refine lv_ladd hx hb hd ?_; rw [jL_add]; exact hnx _ _ _ _ hop H locs lsA cells slots hH hL hls hc hs
  · exact hop.elim
theorem k_lsub (hd : decode i.1 pc = .ok (.lsub, 1)) : Okop i pc o_lsub (pc + 1) := by
  rintro ⟨p, l, e, R, s, m, args, below, meth, c, g, Rt⟩ ⟨hx, hb, hml, hown, hts, hr, hnm, hlk, hKF, hR1, hR2⟩ ls st h b nx hnx hop
  intro H locs lsA cells slots hH hL hls hc hs
  unfold o_lsub at hop
  split at hop
  · refine lv_lsub hx hb hd ?_; rw [jL_sub]; exact hnx _ _ _ _ hop H locs lsA cells slots hH hL hls hc hs
  · exact hop.elim
theorem k_lmul (hd : decode i.1 pc = .ok (.lmul, 1)) : Okop i pc o_lmul (pc + 1) := by
  rintro ⟨p, l, e, R, s, m, args, below, meth, c, g, Rt⟩ ⟨hx, hb, hml, hown, hts, hr, hnm, hlk, hKF, hR1, hR2⟩ ls st h b nx hnx hop
  intro H locs lsA cells slots hH hL hls hc hs
  unfold o_lmul at hop
  split at hop
  · refine lv_lmul hx hb hd ?_; rw [jL_mul]; exact hnx _ _ _ _ hop H locs lsA cells slots hH hL hls hc hs
  · exact hop.elim
theorem k_lneg (hd : decode i.1 pc = .ok (.lneg, 1)) : Okop i pc o_lneg (pc + 1) := by
  rintro ⟨p, l, e, R, s, m, args, below, meth, c, g, Rt⟩ ⟨hx, hb, hml, hown, hts, hr, hnm, hlk, hKF, hR1, hR2⟩ ls st h b nx hnx hop
  intro H locs lsA cells slots hH hL hls hc hs
  unfold o_lneg at hop
  split at hop
  · refine lv_lneg hx hb hd ?_; rw [jL_neg]; exact hnx _ _ _ _ hop H locs lsA cells slots hH hL hls hc hs
  · exact hop.elim
theorem k_ldiv (hd : decode i.1 pc = .ok (.ldiv, 1)) : Okop i pc o_ldiv (pc + 1) := by
  rintro ⟨p, l, e, R, s, m, args, below, meth, c, g, Rt⟩ ⟨hx, hb, hml, hown, hts, hr, hnm, hlk, hKF, hR1, hR2⟩ ls st h b nx hnx hop
  intro H locs lsA cells slots hH hL hls hc hs
  unfold o_ldiv at hop
  split at hop
  · obtain ⟨h1, h2, h3, hop⟩ := hop; refine lv_ldiv hx hb hd (fun q => h3 ((jL_eq h2 inL_0).mp q)) ?_; rw [jL_div h1 h2 h3]; exact hnx _ _ _ _ hop H locs lsA cells slots hH hL hls hc hs
  · exact hop.elim
theorem k_lrem (hd : decode i.1 pc = .ok (.lrem, 1)) : Okop i pc o_lrem (pc + 1) := by
  rintro ⟨p, l, e, R, s, m, args, below, meth, c, g, Rt⟩ ⟨hx, hb, hml, hown, hts, hr, hnm, hlk, hKF, hR1, hR2⟩ ls st h b nx hnx hop
  intro H locs lsA cells slots hH hL hls hc hs
  unfold o_lrem at hop
  split at hop
  · obtain ⟨h1, h2, h3, hop⟩ := hop; refine lv_lrem hx hb hd (fun q => h3 ((jL_eq h2 inL_0).mp q)) ?_; rw [jL_rem h1 h2 h3]; exact hnx _ _ _ _ hop H locs lsA cells slots hH hL hls hc hs
  · exact hop.elim
theorem k_lcmp (hd : decode i.1 pc = .ok (.lcmp, 1)) : Okop i pc o_lcmp (pc + 1) := by
  rintro ⟨p, l, e, R, s, m, args, below, meth, c, g, Rt⟩ ⟨hx, hb, hml, hown, hts, hr, hnm, hlk, hKF, hR1, hR2⟩ ls st h b nx hnx hop
  intro H locs lsA cells slots hH hL hls hc hs
  unfold o_lcmp at hop
  split at hop
  · obtain ⟨h1, h2, hop⟩ := hop; refine W.lcmp hx hb hd ?_; rw [jL_cmp h1 h2]; exact hnx _ _ _ _ hop H locs lsA cells slots hH hL hls hc hs
  · exact hop.elim
theorem k_i2l (hd : decode i.1 pc = .ok (.i2l, 1)) : Okop i pc o_i2l (pc + 1) := by
  rintro ⟨p, l, e, R, s, m, args, below, meth, c, g, Rt⟩ ⟨hx, hb, hml, hown, hts, hr, hnm, hlk, hKF, hR1, hR2⟩ ls st h b nx hnx hop
  intro H locs lsA cells slots hH hL hls hc hs
  unfold o_i2l at hop
  split at hop
  · obtain ⟨h1, hop⟩ := hop; exact lv_i2l hx hb hd (jI_wide h1) (hnx _ _ _ _ hop H locs lsA cells slots hH hL hls hc hs)
  · exact hop.elim
theorem k_l2i (hd : decode i.1 pc = .ok (.l2i, 1)) : Okop i pc o_l2i (pc + 1) := by
  rintro ⟨p, l, e, R, s, m, args, below, meth, c, g, Rt⟩ ⟨hx, hb, hml, hown, hts, hr, hnm, hlk, hKF, hR1, hR2⟩ ls st h b nx hnx hop
  intro H locs lsA cells slots hH hL hls hc hs
  unfold o_l2i at hop
  split at hop
  · exact lv_l2i hx hb hd (jL_small _) (hnx _ _ _ _ hop H locs lsA cells slots hH hL hls hc hs)
  · exact hop.elim
theorem k_dup (hd : decode i.1 pc = .ok (.dup, 1)) : Okop i pc o_dup (pc + 1) := by
  rintro ⟨p, l, e, R, s, m, args, below, meth, c, g, Rt⟩ ⟨hx, hb, hml, hown, hts, hr, hnm, hlk, hKF, hR1, hR2⟩ ls st h b nx hnx hop
  intro H locs lsA cells slots hH hL hls hc hs
  unfold o_dup at hop
  split at hop
  · exact lv_dup hx hb hd rfl (hnx _ _ _ _ hop H locs lsA cells slots hH hL hls hc hs)
  · rename_i z r
    exact lv_dup hx hb hd (cv_cat (v := vr z) rfl) (hnx _ _ _ _ hop H locs lsA cells slots hH hL hls hc hs)
  · exact hop.elim
theorem k_dup2 (hd : decode i.1 pc = .ok (.dup2, 1)) : Okop i pc o_dup2 (pc + 1) := by
  rintro ⟨p, l, e, R, s, m, args, below, meth, c, g, Rt⟩ ⟨hx, hb, hml, hown, hts, hr, hnm, hlk, hKF, hR1, hR2⟩ ls st h b nx hnx hop
  intro H locs lsA cells slots hH hL hls hc hs
  unfold o_dup2 at hop
  split at hop
  · rename_i z y r
    exact lv_dup2_11 hx hb hd rfl (cv_cat (v := vr y) rfl) (hnx _ _ _ _ hop H locs lsA cells slots hH hL hls hc hs)
  · exact hop.elim
theorem k_pop (hd : decode i.1 pc = .ok (.pop, 1)) : Okop i pc o_pop (pc + 1) := by
  rintro ⟨p, l, e, R, s, m, args, below, meth, c, g, Rt⟩ ⟨hx, hb, hml, hown, hts, hr, hnm, hlk, hKF, hR1, hR2⟩ ls st h b nx hnx hop
  intro H locs lsA cells slots hH hL hls hc hs
  unfold o_pop at hop
  split at hop
  · exact lv_pop hx hb hd rfl (hnx _ _ _ _ hop H locs lsA cells slots hH hL hls hc hs)
  · rename_i z r
    exact lv_pop hx hb hd (cv_cat (v := vr z) rfl) (hnx _ _ _ _ hop H locs lsA cells slots hH hL hls hc hs)
  · exact hop.elim
theorem k_go {off : Int} {t : Nat} (hd : decode i.1 pc = .ok (.goto off, 3)) (ht : (pc : Int) + off = (t : Int)) {pe : Nat} : Okop i pc (o_go t) pe := by
  rintro ⟨p, l, e, R, s, m, args, below, meth, c, g, Rt⟩ ⟨hx, hb, hml, hown, hts, hr, hnm, hlk, hKF, hR1, hR2⟩ ls st h b nx hnx hop
  intro H locs lsA cells slots hH hL hls hc hs
  exact lv_goto hx hb hd ht (hop H locs lsA cells slots hH hL hls hc hs)
theorem k_nn {off : Int} {t : Nat} (hd : decode i.1 pc = .ok (.ifnonnull off, 3)) (ht : (pc : Int) + off = (t : Int)) : Okop i pc (o_nn t) (pc + 3) := by
  rintro ⟨p, l, e, R, s, m, args, below, meth, c, g, Rt⟩ ⟨hx, hb, hml, hown, hts, hr, hnm, hlk, hKF, hR1, hR2⟩ ls st h b nx hnx hop
  intro H locs lsA cells slots hH hL hls hc hs
  unfold o_nn at hop
  split at hop
  · rename_i z r
    cases z with
    | none => exact lv_ifnonnullN hx hb hd (hnx _ _ _ _ (hop.2 rfl) H locs lsA cells slots hH hL hls hc hs)
    | some a => exact lv_ifnonnull hx hb hd ht (hop.1 (fun q => by cases q) H locs lsA cells slots hH hL hls hc hs)
  · exact hop.elim
theorem k_ieq {off : Int} {t : Nat} (hd : decode i.1 pc = .ok (.if_icmp .eq off, 3)) (ht : (pc : Int) + off = (t : Int)) : Okop i pc (o_ieq t) (pc + 3) := by
  rintro ⟨p, l, e, R, s, m, args, below, meth, c, g, Rt⟩ ⟨hx, hb, hml, hown, hts, hr, hnm, hlk, hKF, hR1, hR2⟩ ls st h b nx hnx hop
  intro H locs lsA cells slots hH hL hls hc hs
  unfold o_ieq at hop
  split at hop
  · obtain ⟨h1, h2, ho1, ho2⟩ := hop; exact lv_icmp_eq hx hb hd ht (fun q => ho1 ((jI_eq h1 h2).mp q) H locs lsA cells slots hH hL hls hc hs) (fun q => hnx _ _ _ _ (ho2 (fun z => q ((jI_eq h1 h2).mpr z))) H locs lsA cells slots hH hL hls hc hs)
  · exact hop.elim
theorem k_eq0 {off : Int} {t : Nat} (hd : decode i.1 pc = .ok (.ifCond .eq off, 3)) (ht : (pc : Int) + off = (t : Int)) : Okop i pc (o_eq0 t) (pc + 3) := by
  rintro ⟨p, l, e, R, s, m, args, below, meth, c, g, Rt⟩ ⟨hx, hb, hml, hown, hts, hr, hnm, hlk, hKF, hR1, hR2⟩ ls st h b nx hnx hop
  intro H locs lsA cells slots hH hL hls hc hs
  unfold o_eq0 at hop
  split at hop
  · obtain ⟨h1, ho1, ho2⟩ := hop; exact lv_if_eq hx hb hd ht (fun q => ho1 ((jI_eq h1 inI_0).mp q) H locs lsA cells slots hH hL hls hc hs) (fun q => hnx _ _ _ _ (ho2 (fun z => q ((jI_eq h1 inI_0).mpr z))) H locs lsA cells slots hH hL hls hc hs)
  · exact hop.elim
theorem k_ine {off : Int} {t : Nat} (hd : decode i.1 pc = .ok (.if_icmp .ne off, 3)) (ht : (pc : Int) + off = (t : Int)) : Okop i pc (o_ine t) (pc + 3) := by
  rintro ⟨p, l, e, R, s, m, args, below, meth, c, g, Rt⟩ ⟨hx, hb, hml, hown, hts, hr, hnm, hlk, hKF, hR1, hR2⟩ ls st h b nx hnx hop
  intro H locs lsA cells slots hH hL hls hc hs
  unfold o_ine at hop
  split at hop
  · obtain ⟨h1, h2, ho1, ho2⟩ := hop; exact lv_icmp_ne hx hb hd ht (fun q => ho1 ((not_congr (jI_eq h1 h2)).mp q) H locs lsA cells slots hH hL hls hc hs) (fun q => hnx _ _ _ _ (ho2 ((jI_eq h1 h2).mp q)) H locs lsA cells slots hH hL hls hc hs)
  · exact hop.elim
theorem k_ne0 {off : Int} {t : Nat} (hd : decode i.1 pc = .ok (.ifCond .ne off, 3)) (ht : (pc : Int) + off = (t : Int)) : Okop i pc (o_ne0 t) (pc + 3) := by
  rintro ⟨p, l, e, R, s, m, args, below, meth, c, g, Rt⟩ ⟨hx, hb, hml, hown, hts, hr, hnm, hlk, hKF, hR1, hR2⟩ ls st h b nx hnx hop
  intro H locs lsA cells slots hH hL hls hc hs
  unfold o_ne0 at hop
  split at hop
  · obtain ⟨h1, ho1, ho2⟩ := hop; exact lv_if_ne hx hb hd ht (fun q => ho1 ((not_congr (jI_eq h1 inI_0)).mp q) H locs lsA cells slots hH hL hls hc hs) (fun q => hnx _ _ _ _ (ho2 ((jI_eq h1 inI_0).mp q)) H locs lsA cells slots hH hL hls hc hs)
  · exact hop.elim
theorem k_ilt {off : Int} {t : Nat} (hd : decode i.1 pc = .ok (.if_icmp .lt off, 3)) (ht : (pc : Int) + off = (t : Int)) : Okop i pc (o_ilt t) (pc + 3) := by
  rintro ⟨p, l, e, R, s, m, args, below, meth, c, g, Rt⟩ ⟨hx, hb, hml, hown, hts, hr, hnm, hlk, hKF, hR1, hR2⟩ ls st h b nx hnx hop
  intro H locs lsA cells slots hH hL hls hc hs
  unfold o_ilt at hop
  split at hop
  · obtain ⟨h1, h2, ho1, ho2⟩ := hop; exact lv_icmp_lt hx hb hd ht (fun q => ho1 ((jI_lt h1 h2).mp q) H locs lsA cells slots hH hL hls hc hs) (fun q => hnx _ _ _ _ (ho2 (fun z => q ((jI_lt h1 h2).mpr z))) H locs lsA cells slots hH hL hls hc hs)
  · exact hop.elim
theorem k_lt0 {off : Int} {t : Nat} (hd : decode i.1 pc = .ok (.ifCond .lt off, 3)) (ht : (pc : Int) + off = (t : Int)) : Okop i pc (o_lt0 t) (pc + 3) := by
  rintro ⟨p, l, e, R, s, m, args, below, meth, c, g, Rt⟩ ⟨hx, hb, hml, hown, hts, hr, hnm, hlk, hKF, hR1, hR2⟩ ls st h b nx hnx hop
  intro H locs lsA cells slots hH hL hls hc hs
  unfold o_lt0 at hop
  split at hop
  · obtain ⟨h1, ho1, ho2⟩ := hop; exact lv_if_lt hx hb hd ht (fun q => ho1 ((jI_lt h1 inI_0).mp q) H locs lsA cells slots hH hL hls hc hs) (fun q => hnx _ _ _ _ (ho2 (fun z => q ((jI_lt h1 inI_0).mpr z))) H locs lsA cells slots hH hL hls hc hs)
  · exact hop.elim
theorem k_ige {off : Int} {t : Nat} (hd : decode i.1 pc = .ok (.if_icmp .ge off, 3)) (ht : (pc : Int) + off = (t : Int)) : Okop i pc (o_ige t) (pc + 3) := by
  rintro ⟨p, l, e, R, s, m, args, below, meth, c, g, Rt⟩ ⟨hx, hb, hml, hown, hts, hr, hnm, hlk, hKF, hR1, hR2⟩ ls st h b nx hnx hop
  intro H locs lsA cells slots hH hL hls hc hs
  unfold o_ige at hop
  split at hop
  · obtain ⟨h1, h2, ho1, ho2⟩ := hop; exact lv_icmp_ge hx hb hd ht (fun q => ho1 ((jI_le h2 h1).mp q) H locs lsA cells slots hH hL hls hc hs) (fun q => hnx _ _ _ _ (ho2 (fun z => q ((jI_le h2 h1).mpr z))) H locs lsA cells slots hH hL hls hc hs)
  · exact hop.elim
theorem k_ge0 {off : Int} {t : Nat} (hd : decode i.1 pc = .ok (.ifCond .ge off, 3)) (ht : (pc : Int) + off = (t : Int)) : Okop i pc (o_ge0 t) (pc + 3) := by
  rintro ⟨p, l, e, R, s, m, args, below, meth, c, g, Rt⟩ ⟨hx, hb, hml, hown, hts, hr, hnm, hlk, hKF, hR1, hR2⟩ ls st h b nx hnx hop
  intro H locs lsA cells slots hH hL hls hc hs
  unfold o_ge0 at hop
  split at hop
  · obtain ⟨h1, ho1, ho2⟩ := hop; exact lv_if_ge hx hb hd ht (fun q => ho1 ((jI_le inI_0 h1).mp q) H locs lsA cells slots hH hL hls hc hs) (fun q => hnx _ _ _ _ (ho2 (fun z => q ((jI_le inI_0 h1).mpr z))) H locs lsA cells slots hH hL hls hc hs)
  · exact hop.elim
theorem k_igt {off : Int} {t : Nat} (hd : decode i.1 pc = .ok (.if_icmp .gt off, 3)) (ht : (pc : Int) + off = (t : Int)) : Okop i pc (o_igt t) (pc + 3) := by
  rintro ⟨p, l, e, R, s, m, args, below, meth, c, g, Rt⟩ ⟨hx, hb, hml, hown, hts, hr, hnm, hlk, hKF, hR1, hR2⟩ ls st h b nx hnx hop
  intro H locs lsA cells slots hH hL hls hc hs
  unfold o_igt at hop
  split at hop
  · obtain ⟨h1, h2, ho1, ho2⟩ := hop; exact lv_icmp_gt hx hb hd ht (fun q => ho1 ((jI_lt h2 h1).mp q) H locs lsA cells slots hH hL hls hc hs) (fun q => hnx _ _ _ _ (ho2 (fun z => q ((jI_lt h2 h1).mpr z))) H locs lsA cells slots hH hL hls hc hs)
  · exact hop.elim
theorem k_gt0 {off : Int} {t : Nat} (hd : decode i.1 pc = .ok (.ifCond .gt off, 3)) (ht : (pc : Int) + off = (t : Int)) : Okop i pc (o_gt0 t) (pc + 3) := by
  rintro ⟨p, l, e, R, s, m, args, below, meth, c, g, Rt⟩ ⟨hx, hb, hml, hown, hts, hr, hnm, hlk, hKF, hR1, hR2⟩ ls st h b nx hnx hop
  intro H locs lsA cells slots hH hL hls hc hs
  unfold o_gt0 at hop
  split at hop
  · obtain ⟨h1, ho1, ho2⟩ := hop; exact lv_if_gt hx hb hd ht (fun q => ho1 ((jI_lt inI_0 h1).mp q) H locs lsA cells slots hH hL hls hc hs) (fun q => hnx _ _ _ _ (ho2 (fun z => q ((jI_lt inI_0 h1).mpr z))) H locs lsA cells slots hH hL hls hc hs)
  · exact hop.elim
theorem k_ile {off : Int} {t : Nat} (hd : decode i.1 pc = .ok (.if_icmp .le off, 3)) (ht : (pc : Int) + off = (t : Int)) : Okop i pc (o_ile t) (pc + 3) := by
  rintro ⟨p, l, e, R, s, m, args, below, meth, c, g, Rt⟩ ⟨hx, hb, hml, hown, hts, hr, hnm, hlk, hKF, hR1, hR2⟩ ls st h b nx hnx hop
  intro H locs lsA cells slots hH hL hls hc hs
  unfold o_ile at hop
  split at hop
  · obtain ⟨h1, h2, ho1, ho2⟩ := hop; exact lv_icmp_le hx hb hd ht (fun q => ho1 ((jI_le h1 h2).mp q) H locs lsA cells slots hH hL hls hc hs) (fun q => hnx _ _ _ _ (ho2 (fun z => q ((jI_le h1 h2).mpr z))) H locs lsA cells slots hH hL hls hc hs)
  · exact hop.elim
theorem k_le0 {off : Int} {t : Nat} (hd : decode i.1 pc = .ok (.ifCond .le off, 3)) (ht : (pc : Int) + off = (t : Int)) : Okop i pc (o_le0 t) (pc + 3) := by
  rintro ⟨p, l, e, R, s, m, args, below, meth, c, g, Rt⟩ ⟨hx, hb, hml, hown, hts, hr, hnm, hlk, hKF, hR1, hR2⟩ ls st h b nx hnx hop
  intro H locs lsA cells slots hH hL hls hc hs
  unfold o_le0 at hop
  split at hop
  · obtain ⟨h1, ho1, ho2⟩ := hop; exact lv_if_le hx hb hd ht (fun q => ho1 ((jI_le h1 inI_0).mp q) H locs lsA cells slots hH hL hls hc hs) (fun q => hnx _ _ _ _ (ho2 (fun z => q ((jI_le h1 inI_0).mpr z))) H locs lsA cells slots hH hL hls hc hs)
  · exact hop.elim
theorem swc_get : ∀ {lo : Int} {ts : List Nat} {z : Int} {k : Nat → Prop} (_ : swc lo ts z k) (j : Nat) (t : Nat), ts[j]? = some t → z = lo + j → k t
  | _, [], _, _, _, _, _, h, _ => by simp at h
  | lo, t0 :: ts, z, k, hs, 0, t, h, e => by
    simp at h
    subst h
    exact hs.1 (by simpa using e)
  | lo, t0 :: ts, z, k, hs, j + 1, t, h, e => swc_get (lo := lo + 1) (ts := ts) hs.2 j t (by simpa using h) (by rw [e]; push_cast; omega)
theorem k_sw {d lo hi : Int} {offs : Array Int} {len : Nat} {ts : List Nat} {dt : Nat} (hd : decode i.1 pc = .ok (.tableswitch d lo hi offs, len)) (hdt : (pc : Int) + d = (dt : Int)) (hn : offs.size = ts.length) (hhi : hi = lo + (ts.length : Int) - 1) (hts0 : offs.toList.map (fun o => (pc : Int) + o) = ts.map (fun t => ((t : Nat) : Int))) {pe : Nat} : Okop i pc (o_sw lo ts dt) pe := by
  rintro ⟨p, l, e, R, s, m, args, below, meth, c, g, Rt⟩ ⟨hx, hb, hml, hown, hts, hr, hnm, hlk, hKF, hR1, hR2⟩ ls st h b nx hnx hop
  intro H locs lsA cells slots hH hL hls hc hs
  unfold o_sw at hop
  split at hop
  · rename_i z r
    obtain ⟨h1, hsw, hdf⟩ := hop
    by_cases q : z < lo ∨ lo + (ts.length : Int) ≤ z
    · exact lv_tableOut hx hb hd (by rw [jI_toInt h1]; omega) hdt (hdf q H locs lsA cells slots hH hL hls hc hs)
    · have hj : (z - lo).toNat < ts.length := by omega
      obtain ⟨t, ht⟩ : ∃ t, ts[(z - lo).toNat]? = some t := ⟨_, List.getElem?_eq_getElem hj⟩
      obtain ⟨o, ho⟩ : ∃ o, offs[(z - lo).toNat]? = some o := ⟨_, Array.getElem?_eq_getElem (by omega)⟩
      have e : (offs.toList.map (fun o => (pc : Int) + o))[(z - lo).toNat]? = (ts.map (fun t => ((t : Nat) : Int)))[(z - lo).toNat]? := by rw [hts0]
      rw [List.getElem?_map, List.getElem?_map, ht, Array.getElem?_toList, ho] at e
      refine lv_tableIn hx hb hd (by rw [jI_toInt h1]; omega) (by rw [jI_toInt h1]; omega) (by rw [jI_toInt h1]; exact ho) (Option.some.inj e) ?_
      exact swc_get hsw _ t ht (by omega) H locs lsA cells slots hH hL hls hc hs
  · exact hop.elim
theorem k_iret (hd : decode i.1 pc = .ok (.ireturn, 1)) (hrt : i.2.2.2.1 = some .int) {pe : Nat} : Okop i pc o_iret pe := by
  rintro ⟨p, l, e, R, s, m, args, below, meth, c, g, Rt⟩ ⟨hx, hb, hml, hown, hts, hr, hnm, hlk, hKF, hR1, hR2⟩ ls st h b nx hnx hop
  intro H locs lsA cells slots hH hL hls hc hs
  unfold o_iret at hop
  split at hop
  · rename_i z
    refine W.widen (k := R.cells) (n := R.slots) (by omega) (by omega) ?_
    exact W.iret hx hb (hr.trans hrt) (fun t ht _ => ⟨some (vi z), h, rfl, hop, by rw [ht]; exact hH⟩) hL hd
  · exact hop.elim
theorem k_zret (hd : decode i.1 pc = .ok (.ireturn, 1)) (hrt : i.2.2.2.1 = some .boolean) {pe : Nat} : Okop i pc o_zret pe := by
  rintro ⟨p, l, e, R, s, m, args, below, meth, c, g, Rt⟩ ⟨hx, hb, hml, hown, hts, hr, hnm, hlk, hKF, hR1, hR2⟩ ls st h b nx hnx hop
  intro H locs lsA cells slots hH hL hls hc hs
  unfold o_zret at hop
  split at hop
  · rename_i z
    obtain ⟨hz, hop⟩ := hop
    refine W.widen (k := R.cells) (n := R.slots) (by omega) (by omega) ?_
    exact W.zret hx hb (hr.trans hrt) (by rcases hz with rfl | rfl <;> rfl) (fun t ht _ => ⟨some (vi z), h, rfl, hop, by rw [ht]; exact hH⟩) hL hd
  · exact hop.elim
theorem k_lret (hd : decode i.1 pc = .ok (.lreturn, 1)) (hrt : i.2.2.2.1 = some .long) {pe : Nat} : Okop i pc o_lret pe := by
  rintro ⟨p, l, e, R, s, m, args, below, meth, c, g, Rt⟩ ⟨hx, hb, hml, hown, hts, hr, hnm, hlk, hKF, hR1, hR2⟩ ls st h b nx hnx hop
  intro H locs lsA cells slots hH hL hls hc hs
  unfold o_lret at hop
  split at hop
  · rename_i z
    refine W.widen (k := R.cells) (n := R.slots) (by omega) (by omega) ?_
    exact W.lret hx hb (hr.trans hrt) (fun t ht _ => ⟨some (vl z), h, rfl, hop, by rw [ht]; exact hH⟩) hL hd
  · exact hop.elim
theorem k_vret (hd : decode i.1 pc = .ok (.return_, 1)) (hrt : i.2.2.2.1 = none) {pe : Nat} : Okop i pc o_vret pe := by
  rintro ⟨p, l, e, R, s, m, args, below, meth, c, g, Rt⟩ ⟨hx, hb, hml, hown, hts, hr, hnm, hlk, hKF, hR1, hR2⟩ ls st h b nx hnx hop
  intro H locs lsA cells slots hH hL hls hc hs
  unfold o_vret at hop
  split at hop
  · refine W.widen (k := R.cells) (n := R.slots) (by omega) (by omega) ?_
    exact W.vret hx hb (hr.trans hrt) (fun t ht _ => ⟨none, h, rfl, hop, by rw [ht]; exact hH⟩) hL hd
  · exact hop.elim
end SND

/-! ===== calls ===== -/
/-- a method's contract: what it may make (cells, slots), and what it does, told as a transformer of what is wanted behind it -/
abbrev Sp : Type := (List AV → Hp → Nat × Nat) × (List AV → Hp → RT → Prop)
abbrev TT : Type := List AV → Hp → RT → Prop
def popn : Nat → List AV → List AV → Option (List AV × List AV)
  | 0, st, acc => some (acc, st)
  | _ + 1, [], _ => none
  | n + 1, v :: st, acc => popn n st (v :: acc)
def cnO : Option AV → List AV → List AV
  | none, r => r
  | some v, r => v :: r
def o_call (n : Nat) (T : TT) : OPP := fun ls st h b _ _ nx => match popn n st [] with
  | some (as, r) => r.length ≤ 4 ∧ T as h (fun v h' => nx ls (cnO v r) h' b)
  | none => False
def o_callV (ci n : Nat) (T : TT) : OPP := fun ls st h b _ _ nx => match popn (n + 1) st [] with
  | some (.inr (.inr (some a)) :: as, r) => qk h a = 10 + ci ∧ r.length ≤ 4 ∧ T (vr (some a) :: as) h (fun v h' => nx ls (cnO v r) h' b)
  | _ => False
def o_callVc (ci n : Nat) (S : Sp) : OPP := fun ls st h b _ _ nx => match popn (n + 1) st [] with
  | some (.inr (.inr (some a)) :: as, r) => qk h a = 10 + ci ∧ r.length ≤ 4 ∧ (S.1 (vr (some a) :: as) h).1 ≤ b.1 ∧ (S.1 (vr (some a) :: as) h).2 ≤ b.2 ∧ S.2 (vr (some a) :: as) h (fun v h' => nx ls (cnO v r) h' (b.1 - (S.1 (vr (some a) :: as) h).1, b.2 - (S.1 (vr (some a) :: as) h).2))
  | _ => False
def o_callI (S : Sp) : OPP := fun ls st h b _ _ nx => match st with
  | .inr (.inr (some a)) :: r => r.length ≤ 4 ∧ (S.1 [vr (some a)] h).1 ≤ b.1 ∧ (S.1 [vr (some a)] h).2 ≤ b.2 ∧ S.2 [vr (some a)] h (fun v h' => nx ls (cnO v r) h' (b.1 - (S.1 [vr (some a)] h).1, b.2 - (S.1 [vr (some a)] h).2))
  | _ => False
def Sp0 (T : TT) : Sp := (fun _ _ => (0, 0), T)
def wy (y : MethodName) (cc : ByteArray) (nL : Nat) (ret : Option FieldType) : List Cond := .code y cc nL ret :: gTbl
def Pk (g : Gh) (as : List AV) (h : Hp) : Array Value → State → Prop := va_Pc (as.map cv) (fun U => KF g U ∧ Hld g h U.heap)
/-- the contract S of the method y (of level lev) is met -/
def Mth (y : MethodName) (cc : ByteArray) (nL : Nat) (ret : Option FieldType) (lev : Nat) (S : Sp) : Prop :=
  ∀ (l : Launch) (g : Gh) (as : List AV) (h : Hp) (Rt : RT), S.2 as h Rt → Met l y (wy y cc nL ret) (rmL lev (S.1 as h)) (Pk g as h) (Qk g Rt) (S.1 as h).1 (S.1 as h).2 (fun q => g.2.2.2.1 ≤ q)
theorem gTbl_good : ∀ w ∈ gTbl, goodWord w = true := fun _ h => (List.mem_filter.mp h).2
theorem gTbl_of {w : Cond} (h : w ∈ lw_tbl) (hg : goodWord w = true) : w ∈ gTbl := List.mem_filter.mpr ⟨h, hg⟩
theorem gTbl_in {y : MethodName} {cc : ByteArray} {nL : Nat} {ret : Option FieldType} (h : Cond.code y cc nL ret ∈ gTbl) : GoodIn gTbl (wy y cc nL ret) := fun w hw => by
  rcases List.mem_cons.mp hw with e | e
  · subst e; exact ⟨h, good_of_word (gTbl_good _ h)⟩
  · exact ⟨e, good_of_word (gTbl_good _ e)⟩
theorem Pk.blind (g : Gh) (as : List AV) (h : Hp) : FrameBlind (Pk g as h) := fun a U gg mk q => by
  obtain ⟨q0, q1, q2⟩ := q
  exact ⟨q0, KF.same (s := U) rfl q1, q2⟩
section SNC
variable {p : Program} {l : Launch} {e : Env} {R : Room} {s : State} {m : MethodId} {args : Array Value} {below : List Frame} {meth : Method} {c : Code} {H : Heap} {locs : List Loc} {cells slots mc ms pc : Nat} {Q : State → Prop} {g : Gh} {lsA : Array Slot} {rest st0 : List Value} {a : Array Value} {K0 : RT}
theorem mx_call (hr : va_Run p l e R s m args below meth c H locs cells slots mc ms (F0 m pc lsA st0) rest (Qk g K0 a) (fun q => g.2.2.2.1 ≤ q)) (hL : ∀ q ∈ locs, g.2.2.2.1 ≤ q.base)
    (kk : ∀ (r : Option AV) (h1 : Hp) (H1 : Heap) (locs1 : List Loc), K0 r h1 → Hld g h1 H1 → (∀ q ∈ locs1, g.2.2.2.1 ≤ q.base) → W p l e R s m args below meth c H1 locs1 (cells + mc) (slots + ms) Q (F0 m (pc + 3) lsA ((r.map cv).toList ++ rest))) : W p l e R s m args below meth c H locs cells slots Q (F0 m pc lsA st0) := by
  intro T hT X
  obtain ⟨v, st₀, t, T', L, h0, X', hL', e1, e2, ⟨r, h1, hv, hK, hH⟩, st⟩ := hr T hT X
  cases hv
  obtain ⟨t2, a1, b1⟩ := kk r h1 T'.heap (locs ++ L) hK (by rw [e1]; exact hH) (fun q hq => by
    rcases List.mem_append.mp hq with h | h
    · exact hL q h
    · exact hL' q h) T' rfl X'
  exact ⟨t2, st t2 a1, b1⟩
end SNC
theorem cnO_cv (r : Option AV) (rest : List AV) : (cnO r rest).map cv = (r.map cv).toList ++ rest.map cv := by
  cases r <;> rfl
theorem popn_eq : ∀ {n : Nat} {st acc as r : List AV}, popn n st acc = some (as, r) → ∃ xs, as = xs.reverse ++ acc ∧ st = xs ++ r ∧ xs.length = n
  | 0, st, acc, as, r, h => by cases h; exact ⟨[], rfl, rfl, rfl⟩
  | _ + 1, [], _, _, _, h => by cases h
  | n + 1, v :: st, acc, as, r, h => by
    obtain ⟨xs, h1, h2, h3⟩ := popn_eq (n := n) (st := st) (acc := v :: acc) h
    exact ⟨v :: xs, by rw [h1]; simp, by rw [h2]; rfl, by rw [List.length_cons, h3]⟩
section SNM
variable {i : MI} {pc : Nat}
/-- what a call site needs of its callee beside the contract -/
def Cok (i : MI) (y : MethodName) (cc : ByteArray) (nL : Nat) (ret : Option FieldType) (lev n : Nat) : Prop := Cond.code y cc nL ret ∈ gTbl ∧ Cond.initialized y.cls ∈ gTbl ∧ (y.cls ≠ "java/lang/invoke/MethodHandle" ∧ y.cls ≠ "java/lang/invoke/VarHandle" ∧ (parseMethodDescriptor y.desc).map (fun d => d.parameters.length) = some n) ∧ lev + 1 ≤ i.2.2.2.2.2 ∧ nL ≤ 45
theorem Cok.room {i : MI} {y : MethodName} {cc : ByteArray} {nL : Nat} {ret : Option FieldType} {lev n : Nat} {b : Nat × Nat} {R : Room} (h : Cok i y cc nL ret lev n) (h1 : R.frames = i.2.2.2.2.2) (h2 : R.locals = 64 * i.2.2.2.2.2) : (rmL lev b).frames + 1 ≤ R.frames ∧ 8 + (nL + 11) + (rmL lev b).locals ≤ R.locals := by
  obtain ⟨-, -, -, h3, h4⟩ := h
  show lev + 1 ≤ _ ∧ 8 + (nL + 11) + 64 * lev ≤ _
  rw [h1, h2]
  omega
theorem k_call {idx nL lev n : Nat} {y : MethodName} {cc : ByteArray} {ret : Option FieldType} {T : TT} (hM : Mth y cc nL ret lev (Sp0 T)) (hC : Cok i y cc nL ret lev n) (hl : Cond.methodLink i.2.2.1 idx y ∈ gTbl) (hst : Cond.static y ∈ gTbl) (hd : decode i.1 pc = .ok (.invokestatic idx, 3)) : Okop i pc (o_call n T) (pc + 3) := by
  rintro ⟨p, l, e, R, s, m, args, below, meth, c, g, Rt⟩ ⟨hx, hb, hml, hown, hts, hr, hnm, hlk, hKF, hR1, hR2⟩ ls st h b nx hnx hop
  intro H locs lsA cells slots hH hL hls hc hs
  unfold o_call at hop
  split at hop
  · rename_i as r hpop
    obtain ⟨h4, hop⟩ := hop
    obtain ⟨xs, e1, e2, e3⟩ := popn_eq hpop
    rw [List.append_nil] at e1
    subst e2
    have hcat := cat_le r
    refine mx_call (va_runS (As := as.map cv) (rest := r.map cv) ⟨hx, hb, hml, hown, hts⟩ (hM l g as h _ hop) ⟨callB_of n hts (gTbl_in hC.1) rfl rfl rfl (hts _ hC.2.1) (hts _ hl) hC.2.2.1 (hC.room hR1 hR2), hts _ hst⟩ ⟨Pk.blind g as h, fun U hU hW => ⟨rfl, hKF.moved hW, by rw [hU]; exact hH⟩⟩ rfl (by rw [e1]; simp [e3]) hls.1 (by rw [e1]; simp) (lv_room (by omega)) hd ⟨by show cells + 0 ≤ _; omega, by show slots + 0 ≤ _; omega⟩) hL (fun v h1 H1 locs1 hk hH1 hL1 => ?_)
    have kk := hnx _ _ _ _ hk H1 locs1 lsA cells slots hH1 hL1 hls hc hs
    rw [cnO_cv] at kk
    exact kk
  · exact hop.elim
theorem k_callN {idx nL lev n : Nat} {y : MethodName} {cc : ByteArray} {ret : Option FieldType} {T : TT} (hM : Mth y cc nL ret lev (Sp0 T)) (hC : Cok i y cc nL ret lev n) (hl : (i.2.2.1, idx, y) ∈ nestW) (hst : Cond.static y ∈ gTbl) (hd : decode i.1 pc = .ok (.invokestatic idx, 3)) : Okop i pc (o_call n T) (pc + 3) := by
  rintro ⟨p, l, e, R, s, m, args, below, meth, c, g, Rt⟩ ⟨hx, hb, hml, hown, hts, hr, hnm, hlk, hKF, hR1, hR2⟩ ls st h b nx hnx hop
  intro H locs lsA cells slots hH hL hls hc hs
  unfold o_call at hop
  split at hop
  · rename_i as r hpop
    obtain ⟨h4, hop⟩ := hop
    obtain ⟨xs, e1, e2, e3⟩ := popn_eq hpop
    rw [List.append_nil] at e1
    subst e2
    have hcat := cat_le r
    refine mx_call (va_runSN (As := as.map cv) (rest := r.map cv) ⟨hx, hb, hml, hown, hts⟩ (hM l g as h _ hop) ⟨va_cnB n hts (gTbl_in hC.1) rfl rfl rfl (hKF.2.2.1 _ hl) (hts _ hC.2.1) hC.2.2.1 (hC.room hR1 hR2), hts _ hst, trivial⟩ ⟨Pk.blind g as h, fun U hU hW => ⟨rfl, hKF.moved hW, by rw [hU]; exact hH⟩⟩ rfl (by rw [e1]; simp [e3]) hls.1 (by rw [e1]; simp) (lv_room (by omega)) hd ⟨by show cells + 0 ≤ _; omega, by show slots + 0 ≤ _; omega⟩) hL (fun v h1 H1 locs1 hk hH1 hL1 => ?_)
    have kk := hnx _ _ _ _ hk H1 locs1 lsA cells slots hH1 hL1 hls hc hs
    rw [cnO_cv] at kk
    exact kk
  · exact hop.elim
theorem k_callVc {ci idx nL lev n : Nat} {y : MethodName} {cc : ByteArray} {ret : Option FieldType} {S : Sp} {r0 : vw_C} (hM : Mth y cc nL ret lev S) (hC : Cok i y cc nL ret lev n) (hr0 : vwCl[ci]? = some r0) (hl : Cond.methodLink i.2.2.1 idx y ∈ gTbl) (hin : Cond.instanceMethod y ∈ gTbl) (hse : Cond.selects r0.1 y y ∈ gTbl) (hd : decode i.1 pc = .ok (.invokevirtual idx, 3)) : Okop i pc (o_callVc ci n S) (pc + 3) := by
  rintro ⟨p, l, e, R, s, m, args, below, meth, c, g, Rt⟩ ⟨hx, hb, hml, hown, hts, hr, hnm, hlk, hKF, hR1, hR2⟩ ls st h b nx hnx hop
  intro H locs lsA cells slots hH hL hls hc hs
  unfold o_callVc at hop
  split at hop
  · rename_i a as r hpop
    obtain ⟨hk, h4, hb1, hb2, hop⟩ := hop
    obtain ⟨xs, e1, e2, e3⟩ := popn_eq hpop
    rw [List.append_nil] at e1
    subst e2
    have hcat := cat_le r
    have hxs : xs = as.reverse ++ [vr (some a)] := by
      have := congrArg List.reverse e1
      simpa using this.symm
    obtain ⟨cell, q1, q2, q3, -⟩ := (hH.2.2.2.2.2 a).2.2.2.2 ci _ hk hr0
    refine mx_call (va_runV (b := a) (As := as.map cv) (rest := r.map cv) (C := r0.1) ⟨hx, hb, hml, hown, hts⟩ (hM l g (vr (some a) :: as) h _ hop) ⟨callB_of n hts (gTbl_in hC.1) rfl rfl rfl (hts _ hC.2.1) (hts _ hl) hC.2.2.1 (hC.room hR1 hR2), hts _ hin, hts _ hse⟩ ⟨Pk.blind g _ h, ⟨cell, q1, by rw [q3]; rfl, by rw [q2]; exact (hKF.1.1 ci _ hr0).2.1⟩, fun U hU hW => ⟨rfl, hKF.moved hW, by rw [hU]; exact hH⟩⟩ rfl (by rw [hxs] at e3; simp at e3; simp [e3]) hls.1 (by rw [hxs]; simp [cv, va_rf]) (lv_room (by omega)) hd ⟨by omega, by omega⟩) hL (fun v h1 H1 locs1 hk hH1 hL1 => ?_)
    have kk := hnx _ _ _ _ hk H1 locs1 lsA (cells + (S.1 (vr (some a) :: as) h).1) (slots + (S.1 (vr (some a) :: as) h).2) hH1 hL1 hls (by show cells + (S.1 (vr (some a) :: as) h).1 + (b.1 - (S.1 (vr (some a) :: as) h).1) ≤ R.cells; omega) (by show slots + (S.1 (vr (some a) :: as) h).2 + (b.2 - (S.1 (vr (some a) :: as) h).2) ≤ R.slots; omega)
    rw [cnO_cv] at kk
    exact kk
  · exact hop.elim
theorem k_callV {ci idx nL lev n : Nat} {y : MethodName} {cc : ByteArray} {ret : Option FieldType} {T : TT} {r0 : vw_C} (hM : Mth y cc nL ret lev (Sp0 T)) (hC : Cok i y cc nL ret lev n) (hr0 : vwCl[ci]? = some r0) (hl : Cond.methodLink i.2.2.1 idx y ∈ gTbl) (hin : Cond.instanceMethod y ∈ gTbl) (hse : Cond.selects r0.1 y y ∈ gTbl) (hd : decode i.1 pc = .ok (.invokevirtual idx, 3)) : Okop i pc (o_callV ci n T) (pc + 3) := by
  intro x ok ls st h b nx hnx hop
  refine k_callVc hM hC hr0 hl hin hse hd x ok ls st h b nx hnx ?_
  unfold o_callV at hop
  unfold o_callVc
  split at hop
  · rename_i a as r hpop
    exact ⟨hop.1, hop.2.1, Nat.zero_le _, Nat.zero_le _, hop.2.2⟩
  · exact hop.elim
theorem k_callI {idx nL lev : Nat} {y : MethodName} {cc : ByteArray} {S : Sp} (hM : Mth y cc nL none lev S) (hC : Cok i y cc nL none lev 0) (hl : Cond.methodLink i.2.2.1 idx y ∈ gTbl) (hin : Cond.instanceMethod y ∈ gTbl) (hy : y.name = "<init>") (hd : decode i.1 pc = .ok (.invokespecial idx, 3)) : Okop i pc (o_callI S) (pc + 3) := by
  rintro ⟨p, l, e, R, s, m, args, below, meth, c, g, Rt⟩ ⟨hx, hb, hml, hown, hts, hr, hnm, hlk, hKF, hR1, hR2⟩ ls st h b nx hnx hop
  intro H locs lsA cells slots hH hL hls hc hs
  unfold o_callI at hop
  split at hop
  · rename_i a r
    obtain ⟨h4, hb1, hb2, hop⟩ := hop
    have hcat := cat_le r
    refine mx_call (va_runI (b := a) (As := []) (rest := r.map cv) ⟨hx, hb, hml, hown, hts⟩ (hM l g [vr (some a)] h _ hop) ⟨callB_of 0 hts (gTbl_in hC.1) rfl rfl rfl (hts _ hC.2.1) (hts _ hl) hC.2.2.1 (hC.room hR1 hR2), hy, hts _ hin⟩ ⟨Pk.blind g _ h, fun U hU hW => ⟨rfl, hKF.moved hW, by rw [hU]; exact hH⟩⟩ rfl rfl hls.1 rfl (lv_room (by omega)) hd ⟨by omega, by omega⟩) hL (fun v h1 H1 locs1 hk hH1 hL1 => ?_)
    have kk := hnx _ _ _ _ hk H1 locs1 lsA (cells + (S.1 [vr (some a)] h).1) (slots + (S.1 [vr (some a)] h).2) hH1 hL1 hls (by show cells + (S.1 [vr (some a)] h).1 + (b.1 - (S.1 [vr (some a)] h).1) ≤ R.cells; omega) (by show slots + (S.1 [vr (some a)] h).2 + (b.2 - (S.1 [vr (some a)] h).2) ≤ R.slots; omega)
    rw [cnO_cv] at kk
    exact kk
  · exact hop.elim
theorem k_callIN {idx nL lev : Nat} {y : MethodName} {cc : ByteArray} {S : Sp} (hM : Mth y cc nL none lev S) (hC : Cok i y cc nL none lev 0) (hl : (i.2.2.1, idx, y) ∈ nestW) (hin : Cond.instanceMethod y ∈ gTbl) (hy : y.name = "<init>") (hd : decode i.1 pc = .ok (.invokespecial idx, 3)) : Okop i pc (o_callI S) (pc + 3) := by
  rintro ⟨p, l, e, R, s, m, args, below, meth, c, g, Rt⟩ ⟨hx, hb, hml, hown, hts, hr, hnm, hlk, hKF, hR1, hR2⟩ ls st h b nx hnx hop
  intro H locs lsA cells slots hH hL hls hc hs
  unfold o_callI at hop
  split at hop
  · rename_i a r
    obtain ⟨h4, hb1, hb2, hop⟩ := hop
    have hcat := cat_le r
    refine mx_call (va_runIN (b := a) (As := []) (rest := r.map cv) ⟨hx, hb, hml, hown, hts⟩ (hM l g [vr (some a)] h _ hop) ⟨va_cnB 0 hts (gTbl_in hC.1) rfl rfl rfl (hKF.2.2.1 _ hl) (hts _ hC.2.1) hC.2.2.1 (hC.room hR1 hR2), hy, hts _ hin⟩ ⟨Pk.blind g _ h, fun U hU hW => ⟨rfl, hKF.moved hW, by rw [hU]; exact hH⟩⟩ rfl rfl hls.1 rfl (lv_room (by omega)) hd ⟨by omega, by omega⟩) hL (fun v h1 H1 locs1 hk hH1 hL1 => ?_)
    have kk := hnx _ _ _ _ hk H1 locs1 lsA (cells + (S.1 [vr (some a)] h).1) (slots + (S.1 [vr (some a)] h).2) hH1 hL1 hls (by show cells + (S.1 [vr (some a)] h).1 + (b.1 - (S.1 [vr (some a)] h).1) ≤ R.cells; omega) (by show slots + (S.1 [vr (some a)] h).2 + (b.2 - (S.1 [vr (some a)] h).2) ≤ R.slots; omega)
    rw [cnO_cv] at kk
    exact kk
  · exact hop.elim
end SNM
/-! ===== a method from its body ===== -/
theorem ent_in : ∀ (n k : Nat) (as : List AV) (j : Nat) (v : AV), lgt (entL n as) j = some v → (k + j, cv v) ∈ lv_args k (as.map cv)
  | n, k, [], j, v, h => by
    exfalso
    have : ∀ (n j : Nat), lgt (List.replicate n none) j = none := by
      intro n
      induction n with
      | zero => intro j; rfl
      | succ n ih => intro j; cases j with
        | zero => rfl
        | succ j => exact ih j
    rw [show entL n [] = List.replicate n none from by unfold entL; rfl, this] at h
    cases h
  | n, k, .inl z :: vs, j, v, h => by
    cases j with
    | zero => cases h; exact List.mem_cons_self
    | succ j =>
      have := ent_in (n - 1) (k + 1) vs j v h
      refine List.mem_cons_of_mem _ ?_
      rw [show k + (j + 1) = k + 1 + j by omega]
      exact this
  | n, k, .inr (.inl z) :: vs, j, v, h => by
    match j, h with
    | 0, h => cases h; exact List.mem_cons_self
    | 1, h => cases h
    | j + 2, h =>
      have := ent_in (n - 2) (k + 2) vs j v h
      refine List.mem_cons_of_mem _ ?_
      rw [show k + (j + 2) = k + 2 + j by omega]
      exact this
  | n, k, .inr (.inr none) :: vs, j, v, h => by
    cases j with
    | zero => cases h; exact List.mem_cons_self
    | succ j =>
      have := ent_in (n - 1) (k + 1) vs j v h
      refine List.mem_cons_of_mem _ ?_
      rw [show k + (j + 1) = k + 1 + j by omega]
      exact this
  | n, k, .inr (.inr (some z)) :: vs, j, v, h => by
    cases j with
    | zero => cases h; exact List.mem_cons_self
    | succ j =>
      have := ent_in (n - 1) (k + 1) vs j v h
      refine List.mem_cons_of_mem _ ?_
      rw [show k + (j + 1) = k + 1 + j by omega]
      exact this
def aln : List AV → Nat
  | [] => 0
  | .inr (.inl _) :: vs => aln vs + 2
  | _ :: vs => aln vs + 1
theorem aln_sl : ∀ as : List AV, (lg_sl (as.map cv)).length = aln as
  | [] => rfl
  | .inl z :: vs => by
    have := aln_sl vs
    unfold lg_sl at this
    simp [lg_sl, cv, Value.category, aln] at this ⊢
    omega
  | .inr (.inl z) :: vs => by
    have := aln_sl vs
    unfold lg_sl at this
    simp [lg_sl, cv, Value.category, aln] at this ⊢
    omega
  | .inr (.inr none) :: vs => by
    have := aln_sl vs
    unfold lg_sl at this
    simp [lg_sl, cv, va_rf, Value.category, aln] at this ⊢
    omega
  | .inr (.inr (some z)) :: vs => by
    have := aln_sl vs
    unfold lg_sl at this
    simp [lg_sl, cv, va_rf, Value.category, aln] at this ⊢
    omega
theorem Mth.of {y : MethodName} {cc : ByteArray} {nL lev : Nat} {ret : Option FieldType} {S : Sp} (hy : plainName y.cls = true)
    (body : ∀ (x : Ctx) (as : List AV) (h : Hp), OkC (cc, nL, y.cls, ret, y.name, lev) x → S.2 as h (xR x) → aln as ≤ nL ∧ V (cc, nL, y.cls, ret, y.name, lev) x 0 (entL nL as) [] h (S.1 as h)) : Mth y cc nL ret lev S := by
  intro l g as h Rt hS
  refine Met.ofW (cc := cc) (maxL := nL) (ret := ret) hy rfl ?_
  intro p e s m args below meth c s₁ B hml hv
  obtain ⟨rfl, hKF, hH⟩ := hv
  have hts := atoms_spec (ws := wy y cc nL ret) B.pre
  obtain ⟨hal, hV⟩ := body (p, l, e, rmL lev (S.1 as h), s, m, (as.map cv).toArray, below, meth, c, g, Rt) as h ⟨B.exec, B.bytes, hml, findClass_of_methodNamed B.named, fun w hw => hts w (List.mem_cons_of_mem _ hw), B.returns, (name_of_methodNamed B.named B.method).1, B.notSynchronized, hKF, rfl, rfl⟩ hS
  have hl := lv_entry (as.map cv) (n := nL) (by rw [aln_sl]; exact hal)
  rw [lg_entry_eq]
  refine hV s.heap [] _ 0 0 hH (fun _ h => by cases h) (Lcl.of hl (fun j v hv => ?_)) (by show 0 + _ ≤ (S.1 as h).1; omega) (by show 0 + _ ≤ (S.1 as h).2; omega)
  have := ent_in nL 0 as j v hv
  rw [Nat.zero_add] at this
  exact this

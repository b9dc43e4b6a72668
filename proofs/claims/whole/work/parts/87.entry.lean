/-! ===== what holds at the law's entry ===== -/
theorem room_mono {s : State} {pl : Platform} {r r' : Room} (h : s.hasRoom pl r = true) (h1 : r'.frames ≤ r.frames) (h2 : r'.cells ≤ r.cells) (h3 : r'.slots ≤ r.slots) (h4 : r'.locals ≤ r.locals) : s.hasRoom pl r' = true := by
  simp only [State.hasRoom, Bool.and_eq_true, decide_eq_true_eq] at h ⊢
  obtain ⟨⟨⟨⟨a1, a2, a3, a4, a5, a6⟩, a7⟩, a8⟩, a9⟩ := h
  exact ⟨⟨⟨⟨by omega, by omega, by omega, by omega, by omega, a6⟩, by omega⟩, by omega⟩, a9⟩
theorem arr_of {s : State} {c : ClassId} {k : Class} {comp : ClassId} {ty : FieldType} (hk : s.vm.classes[c]? = some k) (hkind : k.kind = .array comp ty) : ArrOfT s c ty := fun _ _ => ⟨fun _ q => (by cases q), k, hk, comp, hkind⟩
theorem nest_in : ∀ w ∈ nestW, Cond.methodLinkNest w.1 w.2.1 w.2.2 "FitBench" ∈ lw_tbl := by decide +kernel
theorem ao_in : ∀ C ∈ aoN, Cond.arrayOver (.object C) ∈ lw_tbl := by decide +kernel
theorem kf_start {s : State} {args : Array Value} (hts : ∀ w ∈ lw_tbl, w.before args s = true) : ∃ g : Gh, g.2.2.2.1 = s.heap.size ∧ g.2.2.2.2 = s.heap ∧ KF g s := by
  obtain ⟨c0, i0, h0⟩ := u_known (C := RX0) (T := TX0) (N := 8) (n := 8) hts (fun w hw => (List.mem_filter.mp (fo_0.2.1 w hw)).1) (hts (.instantiable RX0 8) (by decide +kernel))
  obtain ⟨c1, i1, h1⟩ := u_known (C := RX1) (T := TX1) (N := 3) (n := 3) hts (fun w hw => (List.mem_filter.mp (fo_1.2.1 w hw)).1) (hts (.instantiable RX1 3) (by decide +kernel))
  obtain ⟨c2, i2, h2⟩ := u_known (C := RX2) (T := TX2) (N := 3) (n := 3) hts (fun w hw => (List.mem_filter.mp (fo_2.2.1 w hw)).1) (hts (.instantiable RX2 3) (by decide +kernel))
  obtain ⟨c3, i3, h3⟩ := u_known (C := RX3) (T := TX3) (N := 2) (n := 2) hts (fun w hw => (List.mem_filter.mp (fo_3.2.1 w hw)).1) (hts (.instantiable RX3 2) (by decide +kernel))
  obtain ⟨c4, i4, h4⟩ := u_known (C := RX4) (T := TX4) (N := 13) (n := 13) hts (fun w hw => (List.mem_filter.mp (fo_4.2.1 w hw)).1) (hts (.instantiable RX4 13) (by decide +kernel))
  obtain ⟨c5, i5, h5⟩ := u_known (C := RX5) (T := TX5) (N := 9) (n := 9) hts (fun w hw => (List.mem_filter.mp (fo_5.2.1 w hw)).1) (hts (.instantiable RX5 9) (by decide +kernel))
  obtain ⟨c6, i6, h6⟩ := u_known (C := RX6) (T := TX6) (N := 4) (n := 4) hts (fun w hw => (List.mem_filter.mp (fo_6.2.1 w hw)).1) (hts (.instantiable RX6 4) (by decide +kernel))
  obtain ⟨c7, i7, h7⟩ := u_known (C := RX7) (T := TX7) (N := 6) (n := 6) hts (fun w hw => (List.mem_filter.mp (fo_7.2.1 w hw)).1) (hts (.instantiable RX7 6) (by decide +kernel))
  obtain ⟨c8, i8, h8⟩ := u_known (C := RX8) (T := TX8) (N := 14) (n := 14) hts (fun w hw => (List.mem_filter.mp (fo_8.2.1 w hw)).1) (hts (.instantiable RX8 14) (by decide +kernel))
  obtain ⟨a1, k1, p1, f1, g1, e1⟩ := Cond.arrayClass_spec (hts (.arrayClass .int) (by decide +kernel))
  obtain ⟨a2, k2, p2, f2, g2, e2⟩ := Cond.arrayClass_spec (hts (.arrayClass .long) (by decide +kernel))
  obtain ⟨a3, k3, p3, f3, g3, e3⟩ := Cond.arrayClass_spec (hts (.arrayClass .boolean) (by decide +kernel))
  obtain ⟨p4, a4, k4, f4, -, g4, e4, m4⟩ := Cond.arrayOver_spec (hts (.arrayOver (.object "FitBench$Measure")) (by decide +kernel))
  obtain ⟨p5, a5, k5, f5, -, g5, e5, m5⟩ := Cond.arrayOver_spec (hts (.arrayOver (.object "FitBench$Chain")) (by decide +kernel))
  obtain ⟨p6, a6, k6, f6, -, g6, e6, m6⟩ := Cond.arrayOver_spec (hts (.arrayOver (.object "FitBench$Lot")) (by decide +kernel))
  obtain ⟨p7, a7, k7, f7, -, g7, e7, m7⟩ := Cond.arrayOver_spec (hts (.arrayOver (.object "FitBench$State")) (by decide +kernel))
  refine ⟨(fun c => match c with
    | 0 => c0
    | 1 => c1
    | 2 => c2
    | 3 => c3
    | 4 => c4
    | 5 => c5
    | 6 => c6
    | 7 => c7
    | _ => c8, fun c => match c with
    | 0 => i0
    | 1 => i1
    | 2 => i2
    | 3 => i3
    | 4 => i4
    | 5 => i5
    | 6 => i6
    | 7 => i7
    | _ => i8, fun k => match k with
    | 1 => a1
    | 2 => a2
    | 3 => a3
    | 4 => a4
    | 5 => a5
    | 6 => a6
    | _ => a7, s.heap.size, s.heap), rfl, rfl, ⟨fun c q hq => ?_, fun k q hq => by simp at hq⟩, fun k h1 h2 => ?_, fun w hw => va_Nw.of rfl (hts _ (nest_in w hw)), fun C hC => va_AO.of (hts _ (ao_in C hC))⟩
  · match c, hq with
    | 0, hq => cases hq; exact h0
    | 1, hq => cases hq; exact h1
    | 2, hq => cases hq; exact h2
    | 3, hq => cases hq; exact h3
    | 4, hq => cases hq; exact h4
    | 5, hq => cases hq; exact h5
    | 6, hq => cases hq; exact h6
    | 7, hq => cases hq; exact h7
    | 8, hq => cases hq; exact h8
    | n + 9, hq => simp [vwCl] at hq
  · match k, h1, h2 with
    | 1, _, _ => exact ⟨arr_of g1 e1, f1⟩
    | 2, _, _ => exact ⟨arr_of g2 e2, f2⟩
    | 3, _, _ => exact ⟨arr_of g3 e3, f3⟩
    | 4, _, _ => exact ⟨arr_of g4 e4, k4, p4, g4, e4, f4, m4⟩
    | 5, _, _ => exact ⟨arr_of g5 e5, k5, p5, g5, e5, f5, m5⟩
    | 6, _, _ => exact ⟨arr_of g6 e6, k6, p6, g6, e6, f6, m6⟩
    | 7, _, _ => exact ⟨arr_of g7 e7, k7, p7, g7, e7, f7, m7⟩
    | n + 8, _, h2 => omega
theorem hld_start {g : Gh} {s : State} (h1 : g.2.2.2.1 = s.heap.size) (h2 : g.2.2.2.2 = s.heap) : Hld g (hE s.heap.size) s.heap := by
  refine ⟨rfl, by rw [h1]; exact Nat.le_refl _, fun q _ => by rw [h2], fun a h => absurd rfl h, fun a => by show (0 : Nat) < _; omega, fun a => ⟨fun h => ?_, fun h => ?_, fun h => ?_, fun k h q _ => ?_, fun ci r h _ => ?_⟩⟩
  · exact absurd h (by show ¬ (0 : Nat) = 1; omega)
  · exact absurd h (by show ¬ (0 : Nat) = 2; omega)
  · exact absurd h (by show ¬ (0 : Nat) = 3; omega)
  · have : (0 : Nat) = k := h
    omega
  · have : (0 : Nat) = 10 + ci := h
    omega
theorem whole_go {p : Program} {e : Env} {s : State} {m : MethodId} {below : List Frame} {meth : Method} {c : Code} (l : Launch) {b L : Nat} {xs : Nat → Int32} (hL : L ≤ 3072) (hx : p.tables.exec = Jvm.exec) (hb : c.code = code) (hr : meth.sig.returnType = ret) (hml : c.maxLocals = 4) (hown : s.vm.findClass RL = some m.cls) (hts : ∀ w ∈ lw_tbl, w.before #[Value.ref b] s = true) (hX : va_X b L xs s s.heap) (hbl : b < s.heap.size) (hlocks : meth.locks = false) (hnm : meth.name = "law") :
    ∀ T : State, T.heap = s.heap → Stand p l e room_1 s m #[Value.ref b] below meth c T [] 0 0 → ∃ t, Steps p.tables e below (T.setTop (entryFrame m ([Value.ref b] : List Value).toArray 4)) t ∧ ∃ o, t.status = .running ∧ Ended t below o ∧ o = .returned (some (.int 1)) ∧ Framed s o t [] 600000 7302250 := by
  obtain ⟨g, hg1, hg2, hKF⟩ := kf_start hts
  have ok : OkC i_L_law (p, l, e, rmL 21 (600000, 7302250), s, m, #[Value.ref b], below, meth, c, g, fun r _ => r = some (vi 1)) := ⟨hx, hb, hml, hown, fun w hw => hts w (List.mem_filter.mp hw).1, hr, hnm, hlocks, hKF, rfl, rfl⟩
  have ex : (fun j => jI ((xs j).toInt)) = xs := funext fun j => jI_self _
  have sc : ScX b L (fun j => (xs j).toInt) (p, l, e, rmL 21 (600000, 7302250), s, m, #[Value.ref b], below, meth, c, g, fun r _ => r = some (vi 1)) := ⟨by rw [hg1]; exact hbl, by rw [hg2]; show va_X b L (fun j => jI ((xs j).toInt)) s s.heap; rw [ex]; exact hX, hL⟩
  have hV := law_start (N := s.heap.size) sc ok (fun j => inI_of _) hL (fun _ => rfl)
  have hl := lv_entry (([vr (some b)] : List AV).map cv) (n := 4) (by rw [aln_sl]; exact Nat.le_of_ble_eq_true rfl)
  have hW : W p l e (rmL 21 (600000, 7302250)) s m #[Value.ref b] below meth c s.heap [] 0 0 (MQ below (Qk g (fun r _ => r = some (vi 1))) #[Value.ref b] s 600000 7302250 (fun q => g.2.2.2.1 ≤ q)) (entryFrame m (([vr (some b)] : List AV).map cv).toArray 4) := by
    rw [lg_entry_eq]
    refine hV s.heap [] _ 0 0 (hld_start hg1 hg2) (fun _ h => by cases h) (Lcl.of hl (fun j v hv => ?_)) (by show 0 + 600000 ≤ 600000; omega) (by show 0 + 7302250 ≤ 7302250; omega)
    have := ent_in 4 0 [vr (some b)] j v hv
    rw [Nat.zero_add] at this
    exact this
  intro T hT XX
  obtain ⟨t, a1, o, b1, b2, ⟨r, hh, b3, b4, -⟩, Lc, ⟨b5, b6, b7⟩, b8⟩ := hW T hT { XX with room := room_mono XX.room (by decide) (by decide) (by decide) (by decide) }
  refine ⟨t, a1, o, b1, b2, ?_, b5, b6, b7.weaken (fun y hy hlt => ?_) (Nat.le_refl _) (Nat.le_refl _)⟩
  · rw [b3, b4]; rfl
  · have hy2 : g.2.2.2.1 ≤ y.base := b8 y hy
    rw [hg1] at hy2
    exact absurd hlt (Nat.not_lt.mpr hy2)

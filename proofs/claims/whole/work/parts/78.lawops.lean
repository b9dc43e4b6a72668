/-! ===== the law: ops that read the script; its rows ===== -/
/-- the script lies below what is made -/
def ScX (B L : Nat) (xs : Nat → Int) (x : Ctx) : Prop := match x with
  | (_, _, _, _, s, _, _, _, _, _, g, _) => B < g.2.2.2.1 ∧ va_X B L (fun j => jI (xs j)) s g.2.2.2.2 ∧ L ≤ 3072
def OkopX (P : Ctx → Prop) (i : MI) (pc : Nat) (op : OPP) (pe : Nat) : Prop := ∀ (x : Ctx), P x → OkC i x → ∀ (ls : LSt) (st : List AV) (h : Hp) (b : Nat × Nat) (nx : NX), (∀ ls' st' h' b', nx ls' st' h' b' → V i x pe ls' st' h' b') → op ls st h b (V i x) (xR x) nx → V i x pc ls st h b
theorem OkopX.of {P : Ctx → Prop} {i : MI} {pc : Nat} {op : OPP} {pe : Nat} (h : Okop i pc op pe) : OkopX P i pc op pe := fun x _ ok => h x ok
def SegX (P : Ctx → Prop) (i : MI) (pc : Nat) (os : List OPP) (pe : Nat) : Prop := ∀ (x : Ctx), P x → OkC i x → ∀ (ls : LSt) (st : List AV) (h : Hp) (b : Nat × Nat), wpS os pe ls st h b (V i x) (xR x) → V i x pc ls st h b
theorem SegX.nil {P : Ctx → Prop} {i : MI} {pc : Nat} : SegX P i pc [] pc := fun _ _ _ _ _ _ _ k => k
theorem SegX.cons {P : Ctx → Prop} {i : MI} {pc pd pe : Nat} {o : OPP} {os : List OPP} (ho : OkopX P i pc o pd) (h : SegX P i pd os pe) : SegX P i pc (o :: os) pe :=
  fun x hp ok ls st hh b k => ho x hp ok ls st hh b _ (fun ls' st' h' b' q => h x hp ok ls' st' h' b' q) k
def o_scr (B L : Nat) (xs : Nat → Int) : OPP := fun ls st h b _ _ nx => match st with
  | .inl j :: .inr (.inr (some a)) :: r => a = B ∧ 0 ≤ j ∧ j < (L : Int) ∧ nx ls (vi (xs j.toNat) :: r) h b
  | _ => False
def o_slen (B L : Nat) : OPP := fun ls st h b _ _ nx => match st with
  | .inr (.inr (some a)) :: r => a = B ∧ nx ls (vi L :: r) h b
  | _ => False
theorem k_scr {B L : Nat} {xs : Nat → Int} {i : MI} {pc : Nat} (hd : decode i.1 pc = .ok (.iaload, 1)) : OkopX (ScX B L xs) i pc (o_scr B L xs) (pc + 1) := by
  rintro ⟨p, l, e, R, s, m, args, below, meth, c, g, Rt⟩ ⟨hB, ⟨scr, w1, w2, w3, w4, w5⟩, hL3⟩ ⟨hx, hb, hml, hown, hts, hr, hnm, hlk, hKF, hR1, hR2⟩ ls st h b nx hnx hop
  intro H locs lsA cells slots hH hL hls hc hs
  unfold o_scr at hop
  split at hop
  · rename_i j a r
    obtain ⟨h1, h2, h3, hop⟩ := hop
    subst h1
    have hj : inI j := by unfold inI; omega
    have kk := hnx _ _ _ _ hop H locs lsA cells slots hH hL hls hc hs
    refine W.iald (v := .int (jI (xs j.toNat))) hx hb ((hH.2.2.1 _ hB).trans w1) w2 w3 (by rw [w4]; exact jI_in h2 h3 (by omega)) (by rw [jI_clamp hj]; exact w5 _ (by omega)) rfl rfl hd kk
  · exact hop.elim
theorem k_slen {B L : Nat} {xs : Nat → Int} {i : MI} {pc : Nat} (hd : decode i.1 pc = .ok (.arraylength, 1)) : OkopX (ScX B L xs) i pc (o_slen B L) (pc + 1) := by
  rintro ⟨p, l, e, R, s, m, args, below, meth, c, g, Rt⟩ ⟨hB, ⟨scr, w1, w2, w3, w4, w5⟩, hL3⟩ ⟨hx, hb, hml, hown, hts, hr, hnm, hlk, hKF, hR1, hR2⟩ ls st h b nx hnx hop
  intro H locs lsA cells slots hH hL hls hc hs
  unfold o_slen at hop
  split at hop
  · rename_i a r
    obtain ⟨h1, hop⟩ := hop
    subst h1
    have kk := hnx _ _ _ _ hop H locs lsA cells slots hH hL hls hc hs
    exact W.alen (n := jI L) hx hb ((hH.2.2.1 _ hB).trans w1) w2 (by rw [w4]; unfold jI; rw [Int32.ofInt_eq_ofNat]) rfl rfl hd kk
  · exact hop.elim
abbrev i_L_law : MI := (cL_law, 4, RL, (some .boolean), "law", 21)
theorem gw_13 : (Jvm.Cond.classLink "FitBenchLaw" (7 : Nat) "FitBench") ∈ gTbl := gTbl_of (List.mem_append_right _ (List.mem_of_getElem? (i := 13) (by decide +kernel))) rfl
theorem gw_14 : (Jvm.Cond.instantiable "FitBench" (6 : Nat)) ∈ gTbl := gTbl_of (List.mem_append_right _ (List.mem_of_getElem? (i := 14) (by decide +kernel))) rfl
theorem gw_15 : (Jvm.Cond.methodLink "FitBenchLaw" (9 : Nat) ({ cls := "FitBench", name := "<init>", desc := "()V" } : Jvm.MethodName)) ∈ gTbl := gTbl_of (List.mem_append_right _ (List.mem_of_getElem? (i := 15) (by decide +kernel))) rfl
theorem gw_16 : (Jvm.Cond.instanceMethod ({ cls := "FitBench", name := "<init>", desc := "()V" } : Jvm.MethodName)) ∈ gTbl := gTbl_of (List.mem_append_right _ (List.mem_of_getElem? (i := 16) (by decide +kernel))) rfl
theorem gw_17 : (Jvm.Cond.code ({ cls := "FitBench", name := "<init>", desc := "()V" } : Jvm.MethodName) prog_1_method_1_code (1 : Nat) (Option.none : Option Jvm.ClassFile.FieldType)) ∈ gTbl := gTbl_of (List.mem_append_right _ (List.mem_of_getElem? (i := 17) (by decide +kernel))) rfl
theorem gw_274 : (Jvm.Cond.methodLink "FitBenchLaw" (13 : Nat) ({ cls := "FitBench", name := "measure", desc := "(IIIII)Z" } : Jvm.MethodName)) ∈ gTbl := gTbl_of (List.mem_append_right _ (List.mem_of_getElem? (i := 274) (by decide +kernel))) rfl
theorem gw_275 : (Jvm.Cond.instanceMethod ({ cls := "FitBench", name := "measure", desc := "(IIIII)Z" } : Jvm.MethodName)) ∈ gTbl := gTbl_of (List.mem_append_right _ (List.mem_of_getElem? (i := 275) (by decide +kernel))) rfl
theorem gw_276 : (Jvm.Cond.selects "FitBench" ({ cls := "FitBench", name := "measure", desc := "(IIIII)Z" } : Jvm.MethodName) ({ cls := "FitBench", name := "measure", desc := "(IIIII)Z" } : Jvm.MethodName)) ∈ gTbl := gTbl_of (List.mem_append_right _ (List.mem_of_getElem? (i := 276) (by decide +kernel))) rfl
theorem gw_277 : (Jvm.Cond.code ({ cls := "FitBench", name := "measure", desc := "(IIIII)Z" } : Jvm.MethodName) prog_1_method_2_code (7 : Nat) (Option.some Jvm.ClassFile.FieldType.boolean)) ∈ gTbl := gTbl_of (List.mem_append_right _ (List.mem_of_getElem? (i := 277) (by decide +kernel))) rfl
theorem gw_287 : (Jvm.Cond.methodLink "FitBenchLaw" (18 : Nat) ({ cls := "FitBench", name := "book", desc := "(III)Z" } : Jvm.MethodName)) ∈ gTbl := gTbl_of (List.mem_append_right _ (List.mem_of_getElem? (i := 287) (by decide +kernel))) rfl
theorem gw_288 : (Jvm.Cond.instanceMethod ({ cls := "FitBench", name := "book", desc := "(III)Z" } : Jvm.MethodName)) ∈ gTbl := gTbl_of (List.mem_append_right _ (List.mem_of_getElem? (i := 288) (by decide +kernel))) rfl
theorem gw_289 : (Jvm.Cond.selects "FitBench" ({ cls := "FitBench", name := "book", desc := "(III)Z" } : Jvm.MethodName) ({ cls := "FitBench", name := "book", desc := "(III)Z" } : Jvm.MethodName)) ∈ gTbl := gTbl_of (List.mem_append_right _ (List.mem_of_getElem? (i := 289) (by decide +kernel))) rfl
theorem gw_290 : (Jvm.Cond.code ({ cls := "FitBench", name := "book", desc := "(III)Z" } : Jvm.MethodName) prog_1_method_3_code (4 : Nat) (Option.some Jvm.ClassFile.FieldType.boolean)) ∈ gTbl := gTbl_of (List.mem_append_right _ (List.mem_of_getElem? (i := 290) (by decide +kernel))) rfl
theorem gw_304 : (Jvm.Cond.methodLink "FitBenchLaw" (23 : Nat) ({ cls := "FitBench", name := "tear", desc := "(I)Z" } : Jvm.MethodName)) ∈ gTbl := gTbl_of (List.mem_append_right _ (List.mem_of_getElem? (i := 304) (by decide +kernel))) rfl
theorem gw_305 : (Jvm.Cond.instanceMethod ({ cls := "FitBench", name := "tear", desc := "(I)Z" } : Jvm.MethodName)) ∈ gTbl := gTbl_of (List.mem_append_right _ (List.mem_of_getElem? (i := 305) (by decide +kernel))) rfl
theorem gw_306 : (Jvm.Cond.selects "FitBench" ({ cls := "FitBench", name := "tear", desc := "(I)Z" } : Jvm.MethodName) ({ cls := "FitBench", name := "tear", desc := "(I)Z" } : Jvm.MethodName)) ∈ gTbl := gTbl_of (List.mem_append_right _ (List.mem_of_getElem? (i := 306) (by decide +kernel))) rfl
theorem gw_307 : (Jvm.Cond.code ({ cls := "FitBench", name := "tear", desc := "(I)Z" } : Jvm.MethodName) prog_1_method_4_code (3 : Nat) (Option.some Jvm.ClassFile.FieldType.boolean)) ∈ gTbl := gTbl_of (List.mem_append_right _ (List.mem_of_getElem? (i := 307) (by decide +kernel))) rfl
theorem gw_308 : (Jvm.Cond.methodLink "FitBenchLaw" (28 : Nat) ({ cls := "FitBench", name := "of", desc := "(II)I" } : Jvm.MethodName)) ∈ gTbl := gTbl_of (List.mem_append_right _ (List.mem_of_getElem? (i := 308) (by decide +kernel))) rfl
theorem gw_309 : (Jvm.Cond.instanceMethod ({ cls := "FitBench", name := "of", desc := "(II)I" } : Jvm.MethodName)) ∈ gTbl := gTbl_of (List.mem_append_right _ (List.mem_of_getElem? (i := 309) (by decide +kernel))) rfl
theorem gw_310 : (Jvm.Cond.selects "FitBench" ({ cls := "FitBench", name := "of", desc := "(II)I" } : Jvm.MethodName) ({ cls := "FitBench", name := "of", desc := "(II)I" } : Jvm.MethodName)) ∈ gTbl := gTbl_of (List.mem_append_right _ (List.mem_of_getElem? (i := 310) (by decide +kernel))) rfl
theorem gw_311 : (Jvm.Cond.code ({ cls := "FitBench", name := "of", desc := "(II)I" } : Jvm.MethodName) prog_1_method_5_code (4 : Nat) (Option.some Jvm.ClassFile.FieldType.int)) ∈ gTbl := gTbl_of (List.mem_append_right _ (List.mem_of_getElem? (i := 311) (by decide +kernel))) rfl
theorem gw_313 : (Jvm.Cond.methodLink "FitBenchLaw" (33 : Nat) ({ cls := "FitBench", name := "share", desc := "(III)Z" } : Jvm.MethodName)) ∈ gTbl := gTbl_of (List.mem_append_right _ (List.mem_of_getElem? (i := 313) (by decide +kernel))) rfl
theorem gw_314 : (Jvm.Cond.instanceMethod ({ cls := "FitBench", name := "share", desc := "(III)Z" } : Jvm.MethodName)) ∈ gTbl := gTbl_of (List.mem_append_right _ (List.mem_of_getElem? (i := 314) (by decide +kernel))) rfl
theorem gw_315 : (Jvm.Cond.selects "FitBench" ({ cls := "FitBench", name := "share", desc := "(III)Z" } : Jvm.MethodName) ({ cls := "FitBench", name := "share", desc := "(III)Z" } : Jvm.MethodName)) ∈ gTbl := gTbl_of (List.mem_append_right _ (List.mem_of_getElem? (i := 315) (by decide +kernel))) rfl
theorem gw_316 : (Jvm.Cond.code ({ cls := "FitBench", name := "share", desc := "(III)Z" } : Jvm.MethodName) prog_1_method_6_code (4 : Nat) (Option.some Jvm.ClassFile.FieldType.boolean)) ∈ gTbl := gTbl_of (List.mem_append_right _ (List.mem_of_getElem? (i := 316) (by decide +kernel))) rfl
theorem gw_320 : (Jvm.Cond.methodLink "FitBenchLaw" (37 : Nat) ({ cls := "FitBench", name := "ends", desc := "(III)Z" } : Jvm.MethodName)) ∈ gTbl := gTbl_of (List.mem_append_right _ (List.mem_of_getElem? (i := 320) (by decide +kernel))) rfl
theorem gw_321 : (Jvm.Cond.instanceMethod ({ cls := "FitBench", name := "ends", desc := "(III)Z" } : Jvm.MethodName)) ∈ gTbl := gTbl_of (List.mem_append_right _ (List.mem_of_getElem? (i := 321) (by decide +kernel))) rfl
theorem gw_322 : (Jvm.Cond.selects "FitBench" ({ cls := "FitBench", name := "ends", desc := "(III)Z" } : Jvm.MethodName) ({ cls := "FitBench", name := "ends", desc := "(III)Z" } : Jvm.MethodName)) ∈ gTbl := gTbl_of (List.mem_append_right _ (List.mem_of_getElem? (i := 322) (by decide +kernel))) rfl
theorem gw_323 : (Jvm.Cond.code ({ cls := "FitBench", name := "ends", desc := "(III)Z" } : Jvm.MethodName) prog_1_method_7_code (4 : Nat) (Option.some Jvm.ClassFile.FieldType.boolean)) ∈ gTbl := gTbl_of (List.mem_append_right _ (List.mem_of_getElem? (i := 323) (by decide +kernel))) rfl
theorem gw_325 : (Jvm.Cond.methodLink "FitBenchLaw" (41 : Nat) ({ cls := "FitBench", name := "chain", desc := "(II)I" } : Jvm.MethodName)) ∈ gTbl := gTbl_of (List.mem_append_right _ (List.mem_of_getElem? (i := 325) (by decide +kernel))) rfl
theorem gw_326 : (Jvm.Cond.instanceMethod ({ cls := "FitBench", name := "chain", desc := "(II)I" } : Jvm.MethodName)) ∈ gTbl := gTbl_of (List.mem_append_right _ (List.mem_of_getElem? (i := 326) (by decide +kernel))) rfl
theorem gw_327 : (Jvm.Cond.selects "FitBench" ({ cls := "FitBench", name := "chain", desc := "(II)I" } : Jvm.MethodName) ({ cls := "FitBench", name := "chain", desc := "(II)I" } : Jvm.MethodName)) ∈ gTbl := gTbl_of (List.mem_append_right _ (List.mem_of_getElem? (i := 327) (by decide +kernel))) rfl
theorem gw_328 : (Jvm.Cond.code ({ cls := "FitBench", name := "chain", desc := "(II)I" } : Jvm.MethodName) prog_1_method_8_code (4 : Nat) (Option.some Jvm.ClassFile.FieldType.int)) ∈ gTbl := gTbl_of (List.mem_append_right _ (List.mem_of_getElem? (i := 328) (by decide +kernel))) rfl
theorem gw_334 : (Jvm.Cond.methodLink "FitBenchLaw" (45 : Nat) ({ cls := "FitBench", name := "join", desc := "(III)Z" } : Jvm.MethodName)) ∈ gTbl := gTbl_of (List.mem_append_right _ (List.mem_of_getElem? (i := 334) (by decide +kernel))) rfl
theorem gw_335 : (Jvm.Cond.instanceMethod ({ cls := "FitBench", name := "join", desc := "(III)Z" } : Jvm.MethodName)) ∈ gTbl := gTbl_of (List.mem_append_right _ (List.mem_of_getElem? (i := 335) (by decide +kernel))) rfl
theorem gw_336 : (Jvm.Cond.selects "FitBench" ({ cls := "FitBench", name := "join", desc := "(III)Z" } : Jvm.MethodName) ({ cls := "FitBench", name := "join", desc := "(III)Z" } : Jvm.MethodName)) ∈ gTbl := gTbl_of (List.mem_append_right _ (List.mem_of_getElem? (i := 336) (by decide +kernel))) rfl
theorem gw_337 : (Jvm.Cond.code ({ cls := "FitBench", name := "join", desc := "(III)Z" } : Jvm.MethodName) prog_1_method_9_code (5 : Nat) (Option.some Jvm.ClassFile.FieldType.boolean)) ∈ gTbl := gTbl_of (List.mem_append_right _ (List.mem_of_getElem? (i := 337) (by decide +kernel))) rfl
theorem gw_341 : (Jvm.Cond.methodLink "FitBenchLaw" (49 : Nat) ({ cls := "FitBench", name := "round", desc := "(III)I" } : Jvm.MethodName)) ∈ gTbl := gTbl_of (List.mem_append_right _ (List.mem_of_getElem? (i := 341) (by decide +kernel))) rfl
theorem gw_342 : (Jvm.Cond.instanceMethod ({ cls := "FitBench", name := "round", desc := "(III)I" } : Jvm.MethodName)) ∈ gTbl := gTbl_of (List.mem_append_right _ (List.mem_of_getElem? (i := 342) (by decide +kernel))) rfl
theorem gw_343 : (Jvm.Cond.selects "FitBench" ({ cls := "FitBench", name := "round", desc := "(III)I" } : Jvm.MethodName) ({ cls := "FitBench", name := "round", desc := "(III)I" } : Jvm.MethodName)) ∈ gTbl := gTbl_of (List.mem_append_right _ (List.mem_of_getElem? (i := 343) (by decide +kernel))) rfl
theorem gw_344 : (Jvm.Cond.code ({ cls := "FitBench", name := "round", desc := "(III)I" } : Jvm.MethodName) prog_1_method_10_code (7 : Nat) (Option.some Jvm.ClassFile.FieldType.int)) ∈ gTbl := gTbl_of (List.mem_append_right _ (List.mem_of_getElem? (i := 344) (by decide +kernel))) rfl
theorem gw_360 : (Jvm.Cond.methodLink "FitBenchLaw" (54 : Nat) ({ cls := "FitBench", name := "over", desc := "()I" } : Jvm.MethodName)) ∈ gTbl := gTbl_of (List.mem_append_right _ (List.mem_of_getElem? (i := 360) (by decide +kernel))) rfl
theorem gw_361 : (Jvm.Cond.instanceMethod ({ cls := "FitBench", name := "over", desc := "()I" } : Jvm.MethodName)) ∈ gTbl := gTbl_of (List.mem_append_right _ (List.mem_of_getElem? (i := 361) (by decide +kernel))) rfl
theorem gw_362 : (Jvm.Cond.selects "FitBench" ({ cls := "FitBench", name := "over", desc := "()I" } : Jvm.MethodName) ({ cls := "FitBench", name := "over", desc := "()I" } : Jvm.MethodName)) ∈ gTbl := gTbl_of (List.mem_append_right _ (List.mem_of_getElem? (i := 362) (by decide +kernel))) rfl
theorem gw_363 : (Jvm.Cond.code ({ cls := "FitBench", name := "over", desc := "()I" } : Jvm.MethodName) prog_1_method_11_code (1 : Nat) (Option.some Jvm.ClassFile.FieldType.int)) ∈ gTbl := gTbl_of (List.mem_append_right _ (List.mem_of_getElem? (i := 363) (by decide +kernel))) rfl
theorem gw_372 : (Jvm.Cond.methodLink "FitBenchLaw" (59 : Nat) ({ cls := "FitBench", name := "worst", desc := "(II)I" } : Jvm.MethodName)) ∈ gTbl := gTbl_of (List.mem_append_right _ (List.mem_of_getElem? (i := 372) (by decide +kernel))) rfl
theorem gw_373 : (Jvm.Cond.instanceMethod ({ cls := "FitBench", name := "worst", desc := "(II)I" } : Jvm.MethodName)) ∈ gTbl := gTbl_of (List.mem_append_right _ (List.mem_of_getElem? (i := 373) (by decide +kernel))) rfl
theorem gw_374 : (Jvm.Cond.selects "FitBench" ({ cls := "FitBench", name := "worst", desc := "(II)I" } : Jvm.MethodName) ({ cls := "FitBench", name := "worst", desc := "(II)I" } : Jvm.MethodName)) ∈ gTbl := gTbl_of (List.mem_append_right _ (List.mem_of_getElem? (i := 374) (by decide +kernel))) rfl
theorem gw_375 : (Jvm.Cond.code ({ cls := "FitBench", name := "worst", desc := "(II)I" } : Jvm.MethodName) prog_1_method_12_code (4 : Nat) (Option.some Jvm.ClassFile.FieldType.int)) ∈ gTbl := gTbl_of (List.mem_append_right _ (List.mem_of_getElem? (i := 375) (by decide +kernel))) rfl
theorem gw_404 : (Jvm.Cond.methodLink "FitBenchLaw" (63 : Nat) ({ cls := "FitBench", name := "corner", desc := "(III)I" } : Jvm.MethodName)) ∈ gTbl := gTbl_of (List.mem_append_right _ (List.mem_of_getElem? (i := 404) (by decide +kernel))) rfl
theorem gw_405 : (Jvm.Cond.instanceMethod ({ cls := "FitBench", name := "corner", desc := "(III)I" } : Jvm.MethodName)) ∈ gTbl := gTbl_of (List.mem_append_right _ (List.mem_of_getElem? (i := 405) (by decide +kernel))) rfl
theorem gw_406 : (Jvm.Cond.selects "FitBench" ({ cls := "FitBench", name := "corner", desc := "(III)I" } : Jvm.MethodName) ({ cls := "FitBench", name := "corner", desc := "(III)I" } : Jvm.MethodName)) ∈ gTbl := gTbl_of (List.mem_append_right _ (List.mem_of_getElem? (i := 406) (by decide +kernel))) rfl
theorem gw_407 : (Jvm.Cond.code ({ cls := "FitBench", name := "corner", desc := "(III)I" } : Jvm.MethodName) prog_1_method_13_code (5 : Nat) (Option.some Jvm.ClassFile.FieldType.int)) ∈ gTbl := gTbl_of (List.mem_append_right _ (List.mem_of_getElem? (i := 407) (by decide +kernel))) rfl
theorem gw_409 : (Jvm.Cond.methodLink "FitBenchLaw" (67 : Nat) ({ cls := "FitBench", name := "always", desc := "(I)I" } : Jvm.MethodName)) ∈ gTbl := gTbl_of (List.mem_append_right _ (List.mem_of_getElem? (i := 409) (by decide +kernel))) rfl
theorem gw_410 : (Jvm.Cond.instanceMethod ({ cls := "FitBench", name := "always", desc := "(I)I" } : Jvm.MethodName)) ∈ gTbl := gTbl_of (List.mem_append_right _ (List.mem_of_getElem? (i := 410) (by decide +kernel))) rfl
theorem gw_411 : (Jvm.Cond.selects "FitBench" ({ cls := "FitBench", name := "always", desc := "(I)I" } : Jvm.MethodName) ({ cls := "FitBench", name := "always", desc := "(I)I" } : Jvm.MethodName)) ∈ gTbl := gTbl_of (List.mem_append_right _ (List.mem_of_getElem? (i := 411) (by decide +kernel))) rfl
theorem gw_412 : (Jvm.Cond.code ({ cls := "FitBench", name := "always", desc := "(I)I" } : Jvm.MethodName) prog_1_method_14_code (4 : Nat) (Option.some Jvm.ClassFile.FieldType.int)) ∈ gTbl := gTbl_of (List.mem_append_right _ (List.mem_of_getElem? (i := 412) (by decide +kernel))) rfl
theorem gw_413 : (Jvm.Cond.methodLink "FitBenchLaw" (72 : Nat) ({ cls := "FitBench", name := "chance", desc := "(II)J" } : Jvm.MethodName)) ∈ gTbl := gTbl_of (List.mem_append_right _ (List.mem_of_getElem? (i := 413) (by decide +kernel))) rfl
theorem gw_414 : (Jvm.Cond.instanceMethod ({ cls := "FitBench", name := "chance", desc := "(II)J" } : Jvm.MethodName)) ∈ gTbl := gTbl_of (List.mem_append_right _ (List.mem_of_getElem? (i := 414) (by decide +kernel))) rfl
theorem gw_415 : (Jvm.Cond.selects "FitBench" ({ cls := "FitBench", name := "chance", desc := "(II)J" } : Jvm.MethodName) ({ cls := "FitBench", name := "chance", desc := "(II)J" } : Jvm.MethodName)) ∈ gTbl := gTbl_of (List.mem_append_right _ (List.mem_of_getElem? (i := 415) (by decide +kernel))) rfl
theorem gw_416 : (Jvm.Cond.code ({ cls := "FitBench", name := "chance", desc := "(II)J" } : Jvm.MethodName) prog_1_method_15_code (3 : Nat) (Option.some Jvm.ClassFile.FieldType.long)) ∈ gTbl := gTbl_of (List.mem_append_right _ (List.mem_of_getElem? (i := 416) (by decide +kernel))) rfl
theorem gw_490 : (Jvm.Cond.methodLink "FitBenchLaw" (77 : Nat) ({ cls := "FitBench", name := "both", desc := "(III)J" } : Jvm.MethodName)) ∈ gTbl := gTbl_of (List.mem_append_right _ (List.mem_of_getElem? (i := 490) (by decide +kernel))) rfl
theorem gw_491 : (Jvm.Cond.instanceMethod ({ cls := "FitBench", name := "both", desc := "(III)J" } : Jvm.MethodName)) ∈ gTbl := gTbl_of (List.mem_append_right _ (List.mem_of_getElem? (i := 491) (by decide +kernel))) rfl
theorem gw_492 : (Jvm.Cond.selects "FitBench" ({ cls := "FitBench", name := "both", desc := "(III)J" } : Jvm.MethodName) ({ cls := "FitBench", name := "both", desc := "(III)J" } : Jvm.MethodName)) ∈ gTbl := gTbl_of (List.mem_append_right _ (List.mem_of_getElem? (i := 492) (by decide +kernel))) rfl
theorem gw_493 : (Jvm.Cond.code ({ cls := "FitBench", name := "both", desc := "(III)J" } : Jvm.MethodName) prog_1_method_16_code (4 : Nat) (Option.some Jvm.ClassFile.FieldType.long)) ∈ gTbl := gTbl_of (List.mem_append_right _ (List.mem_of_getElem? (i := 493) (by decide +kernel))) rfl
theorem gw_494 : (Jvm.Cond.methodLink "FitBenchLaw" (82 : Nat) ({ cls := "FitBench", name := "mean", desc := "(II)J" } : Jvm.MethodName)) ∈ gTbl := gTbl_of (List.mem_append_right _ (List.mem_of_getElem? (i := 494) (by decide +kernel))) rfl
theorem gw_495 : (Jvm.Cond.instanceMethod ({ cls := "FitBench", name := "mean", desc := "(II)J" } : Jvm.MethodName)) ∈ gTbl := gTbl_of (List.mem_append_right _ (List.mem_of_getElem? (i := 495) (by decide +kernel))) rfl
theorem gw_496 : (Jvm.Cond.selects "FitBench" ({ cls := "FitBench", name := "mean", desc := "(II)J" } : Jvm.MethodName) ({ cls := "FitBench", name := "mean", desc := "(II)J" } : Jvm.MethodName)) ∈ gTbl := gTbl_of (List.mem_append_right _ (List.mem_of_getElem? (i := 496) (by decide +kernel))) rfl
theorem gw_497 : (Jvm.Cond.code ({ cls := "FitBench", name := "mean", desc := "(II)J" } : Jvm.MethodName) prog_1_method_17_code (12 : Nat) (Option.some Jvm.ClassFile.FieldType.long)) ∈ gTbl := gTbl_of (List.mem_append_right _ (List.mem_of_getElem? (i := 497) (by decide +kernel))) rfl
theorem gw_503 : (Jvm.Cond.methodLink "FitBenchLaw" (86 : Nat) ({ cls := "FitBench", name := "span", desc := "(IIII)I" } : Jvm.MethodName)) ∈ gTbl := gTbl_of (List.mem_append_right _ (List.mem_of_getElem? (i := 503) (by decide +kernel))) rfl
theorem gw_504 : (Jvm.Cond.instanceMethod ({ cls := "FitBench", name := "span", desc := "(IIII)I" } : Jvm.MethodName)) ∈ gTbl := gTbl_of (List.mem_append_right _ (List.mem_of_getElem? (i := 504) (by decide +kernel))) rfl
theorem gw_505 : (Jvm.Cond.selects "FitBench" ({ cls := "FitBench", name := "span", desc := "(IIII)I" } : Jvm.MethodName) ({ cls := "FitBench", name := "span", desc := "(IIII)I" } : Jvm.MethodName)) ∈ gTbl := gTbl_of (List.mem_append_right _ (List.mem_of_getElem? (i := 505) (by decide +kernel))) rfl
theorem gw_506 : (Jvm.Cond.code ({ cls := "FitBench", name := "span", desc := "(IIII)I" } : Jvm.MethodName) prog_1_method_18_code (8 : Nat) (Option.some Jvm.ClassFile.FieldType.int)) ∈ gTbl := gTbl_of (List.mem_append_right _ (List.mem_of_getElem? (i := 506) (by decide +kernel))) rfl
theorem gw_512 : (Jvm.Cond.methodLink "FitBenchLaw" (91 : Nat) ({ cls := "FitBench", name := "pull", desc := "(II)I" } : Jvm.MethodName)) ∈ gTbl := gTbl_of (List.mem_append_right _ (List.mem_of_getElem? (i := 512) (by decide +kernel))) rfl
theorem gw_513 : (Jvm.Cond.instanceMethod ({ cls := "FitBench", name := "pull", desc := "(II)I" } : Jvm.MethodName)) ∈ gTbl := gTbl_of (List.mem_append_right _ (List.mem_of_getElem? (i := 513) (by decide +kernel))) rfl
theorem gw_514 : (Jvm.Cond.selects "FitBench" ({ cls := "FitBench", name := "pull", desc := "(II)I" } : Jvm.MethodName) ({ cls := "FitBench", name := "pull", desc := "(II)I" } : Jvm.MethodName)) ∈ gTbl := gTbl_of (List.mem_append_right _ (List.mem_of_getElem? (i := 514) (by decide +kernel))) rfl
theorem gw_515 : (Jvm.Cond.code ({ cls := "FitBench", name := "pull", desc := "(II)I" } : Jvm.MethodName) prog_1_method_19_code (3 : Nat) (Option.some Jvm.ClassFile.FieldType.int)) ∈ gTbl := gTbl_of (List.mem_append_right _ (List.mem_of_getElem? (i := 515) (by decide +kernel))) rfl
theorem gw_517 : (Jvm.Cond.methodLink "FitBenchLaw" (95 : Nat) ({ cls := "FitBench", name := "level", desc := "(IIII)I" } : Jvm.MethodName)) ∈ gTbl := gTbl_of (List.mem_append_right _ (List.mem_of_getElem? (i := 517) (by decide +kernel))) rfl
theorem gw_518 : (Jvm.Cond.instanceMethod ({ cls := "FitBench", name := "level", desc := "(IIII)I" } : Jvm.MethodName)) ∈ gTbl := gTbl_of (List.mem_append_right _ (List.mem_of_getElem? (i := 518) (by decide +kernel))) rfl
theorem gw_519 : (Jvm.Cond.selects "FitBench" ({ cls := "FitBench", name := "level", desc := "(IIII)I" } : Jvm.MethodName) ({ cls := "FitBench", name := "level", desc := "(IIII)I" } : Jvm.MethodName)) ∈ gTbl := gTbl_of (List.mem_append_right _ (List.mem_of_getElem? (i := 519) (by decide +kernel))) rfl
theorem gw_520 : (Jvm.Cond.code ({ cls := "FitBench", name := "level", desc := "(IIII)I" } : Jvm.MethodName) prog_1_method_20_code (6 : Nat) (Option.some Jvm.ClassFile.FieldType.int)) ∈ gTbl := gTbl_of (List.mem_append_right _ (List.mem_of_getElem? (i := 520) (by decide +kernel))) rfl
theorem gw_526 : (Jvm.Cond.methodLink "FitBenchLaw" (99 : Nat) ({ cls := "FitBench", name := "plain", desc := "(I)I" } : Jvm.MethodName)) ∈ gTbl := gTbl_of (List.mem_append_right _ (List.mem_of_getElem? (i := 526) (by decide +kernel))) rfl
theorem gw_527 : (Jvm.Cond.instanceMethod ({ cls := "FitBench", name := "plain", desc := "(I)I" } : Jvm.MethodName)) ∈ gTbl := gTbl_of (List.mem_append_right _ (List.mem_of_getElem? (i := 527) (by decide +kernel))) rfl
theorem gw_528 : (Jvm.Cond.selects "FitBench" ({ cls := "FitBench", name := "plain", desc := "(I)I" } : Jvm.MethodName) ({ cls := "FitBench", name := "plain", desc := "(I)I" } : Jvm.MethodName)) ∈ gTbl := gTbl_of (List.mem_append_right _ (List.mem_of_getElem? (i := 528) (by decide +kernel))) rfl
theorem gw_529 : (Jvm.Cond.code ({ cls := "FitBench", name := "plain", desc := "(I)I" } : Jvm.MethodName) prog_1_method_21_code (3 : Nat) (Option.some Jvm.ClassFile.FieldType.int)) ∈ gTbl := gTbl_of (List.mem_append_right _ (List.mem_of_getElem? (i := 529) (by decide +kernel))) rfl
theorem gw_530 : (Jvm.Cond.methodLink "FitBenchLaw" (103 : Nat) ({ cls := "FitBench", name := "best", desc := "()J" } : Jvm.MethodName)) ∈ gTbl := gTbl_of (List.mem_append_right _ (List.mem_of_getElem? (i := 530) (by decide +kernel))) rfl
theorem gw_531 : (Jvm.Cond.instanceMethod ({ cls := "FitBench", name := "best", desc := "()J" } : Jvm.MethodName)) ∈ gTbl := gTbl_of (List.mem_append_right _ (List.mem_of_getElem? (i := 531) (by decide +kernel))) rfl
theorem gw_532 : (Jvm.Cond.selects "FitBench" ({ cls := "FitBench", name := "best", desc := "()J" } : Jvm.MethodName) ({ cls := "FitBench", name := "best", desc := "()J" } : Jvm.MethodName)) ∈ gTbl := gTbl_of (List.mem_append_right _ (List.mem_of_getElem? (i := 532) (by decide +kernel))) rfl
theorem gw_533 : (Jvm.Cond.code ({ cls := "FitBench", name := "best", desc := "()J" } : Jvm.MethodName) prog_1_method_22_code (1 : Nat) (Option.some Jvm.ClassFile.FieldType.long)) ∈ gTbl := gTbl_of (List.mem_append_right _ (List.mem_of_getElem? (i := 533) (by decide +kernel))) rfl
theorem gw_571 : (Jvm.Cond.methodLink "FitBenchLaw" (108 : Nat) ({ cls := "FitBench", name := "choice", desc := "(I)I" } : Jvm.MethodName)) ∈ gTbl := gTbl_of (List.mem_append_right _ (List.mem_of_getElem? (i := 571) (by decide +kernel))) rfl
theorem gw_572 : (Jvm.Cond.instanceMethod ({ cls := "FitBench", name := "choice", desc := "(I)I" } : Jvm.MethodName)) ∈ gTbl := gTbl_of (List.mem_append_right _ (List.mem_of_getElem? (i := 572) (by decide +kernel))) rfl
theorem gw_573 : (Jvm.Cond.selects "FitBench" ({ cls := "FitBench", name := "choice", desc := "(I)I" } : Jvm.MethodName) ({ cls := "FitBench", name := "choice", desc := "(I)I" } : Jvm.MethodName)) ∈ gTbl := gTbl_of (List.mem_append_right _ (List.mem_of_getElem? (i := 573) (by decide +kernel))) rfl
theorem gw_574 : (Jvm.Cond.code ({ cls := "FitBench", name := "choice", desc := "(I)I" } : Jvm.MethodName) prog_1_method_23_code (2 : Nat) (Option.some Jvm.ClassFile.FieldType.int)) ∈ gTbl := gTbl_of (List.mem_append_right _ (List.mem_of_getElem? (i := 574) (by decide +kernel))) rfl
theorem gw_575 : (Jvm.Cond.methodLink "FitBenchLaw" (112 : Nat) ({ cls := "FitBench", name := "part", desc := "(II)I" } : Jvm.MethodName)) ∈ gTbl := gTbl_of (List.mem_append_right _ (List.mem_of_getElem? (i := 575) (by decide +kernel))) rfl
theorem gw_576 : (Jvm.Cond.instanceMethod ({ cls := "FitBench", name := "part", desc := "(II)I" } : Jvm.MethodName)) ∈ gTbl := gTbl_of (List.mem_append_right _ (List.mem_of_getElem? (i := 576) (by decide +kernel))) rfl
theorem gw_577 : (Jvm.Cond.selects "FitBench" ({ cls := "FitBench", name := "part", desc := "(II)I" } : Jvm.MethodName) ({ cls := "FitBench", name := "part", desc := "(II)I" } : Jvm.MethodName)) ∈ gTbl := gTbl_of (List.mem_append_right _ (List.mem_of_getElem? (i := 577) (by decide +kernel))) rfl
theorem gw_578 : (Jvm.Cond.code ({ cls := "FitBench", name := "part", desc := "(II)I" } : Jvm.MethodName) prog_1_method_24_code (4 : Nat) (Option.some Jvm.ClassFile.FieldType.int)) ∈ gTbl := gTbl_of (List.mem_append_right _ (List.mem_of_getElem? (i := 578) (by decide +kernel))) rfl
theorem gw_582 : (Jvm.Cond.methodLink "FitBenchLaw" (116 : Nat) ({ cls := "FitBench", name := "sweep", desc := "(I)I" } : Jvm.MethodName)) ∈ gTbl := gTbl_of (List.mem_append_right _ (List.mem_of_getElem? (i := 582) (by decide +kernel))) rfl
theorem gw_583 : (Jvm.Cond.instanceMethod ({ cls := "FitBench", name := "sweep", desc := "(I)I" } : Jvm.MethodName)) ∈ gTbl := gTbl_of (List.mem_append_right _ (List.mem_of_getElem? (i := 583) (by decide +kernel))) rfl
theorem gw_584 : (Jvm.Cond.selects "FitBench" ({ cls := "FitBench", name := "sweep", desc := "(I)I" } : Jvm.MethodName) ({ cls := "FitBench", name := "sweep", desc := "(I)I" } : Jvm.MethodName)) ∈ gTbl := gTbl_of (List.mem_append_right _ (List.mem_of_getElem? (i := 584) (by decide +kernel))) rfl
theorem gw_585 : (Jvm.Cond.code ({ cls := "FitBench", name := "sweep", desc := "(I)I" } : Jvm.MethodName) prog_1_method_25_code (3 : Nat) (Option.some Jvm.ClassFile.FieldType.int)) ∈ gTbl := gTbl_of (List.mem_append_right _ (List.mem_of_getElem? (i := 585) (by decide +kernel))) rfl
theorem gw_586 : (Jvm.Cond.methodLink "FitBenchLaw" (120 : Nat) ({ cls := "FitBench", name := "match", desc := "(II)I" } : Jvm.MethodName)) ∈ gTbl := gTbl_of (List.mem_append_right _ (List.mem_of_getElem? (i := 586) (by decide +kernel))) rfl
theorem gw_587 : (Jvm.Cond.instanceMethod ({ cls := "FitBench", name := "match", desc := "(II)I" } : Jvm.MethodName)) ∈ gTbl := gTbl_of (List.mem_append_right _ (List.mem_of_getElem? (i := 587) (by decide +kernel))) rfl
theorem gw_588 : (Jvm.Cond.selects "FitBench" ({ cls := "FitBench", name := "match", desc := "(II)I" } : Jvm.MethodName) ({ cls := "FitBench", name := "match", desc := "(II)I" } : Jvm.MethodName)) ∈ gTbl := gTbl_of (List.mem_append_right _ (List.mem_of_getElem? (i := 588) (by decide +kernel))) rfl
theorem gw_589 : (Jvm.Cond.code ({ cls := "FitBench", name := "match", desc := "(II)I" } : Jvm.MethodName) prog_1_method_26_code (3 : Nat) (Option.some Jvm.ClassFile.FieldType.int)) ∈ gTbl := gTbl_of (List.mem_append_right _ (List.mem_of_getElem? (i := 589) (by decide +kernel))) rfl
theorem gw_599 : (Jvm.Cond.methodLink "FitBenchLaw" (124 : Nat) ({ cls := "FitBench", name := "mate", desc := "(I)I" } : Jvm.MethodName)) ∈ gTbl := gTbl_of (List.mem_append_right _ (List.mem_of_getElem? (i := 599) (by decide +kernel))) rfl
theorem gw_600 : (Jvm.Cond.instanceMethod ({ cls := "FitBench", name := "mate", desc := "(I)I" } : Jvm.MethodName)) ∈ gTbl := gTbl_of (List.mem_append_right _ (List.mem_of_getElem? (i := 600) (by decide +kernel))) rfl
theorem gw_601 : (Jvm.Cond.selects "FitBench" ({ cls := "FitBench", name := "mate", desc := "(I)I" } : Jvm.MethodName) ({ cls := "FitBench", name := "mate", desc := "(I)I" } : Jvm.MethodName)) ∈ gTbl := gTbl_of (List.mem_append_right _ (List.mem_of_getElem? (i := 601) (by decide +kernel))) rfl
theorem gw_602 : (Jvm.Cond.code ({ cls := "FitBench", name := "mate", desc := "(I)I" } : Jvm.MethodName) prog_1_method_27_code (2 : Nat) (Option.some Jvm.ClassFile.FieldType.int)) ∈ gTbl := gTbl_of (List.mem_append_right _ (List.mem_of_getElem? (i := 602) (by decide +kernel))) rfl
theorem gw_603 : (Jvm.Cond.methodLink "FitBenchLaw" (128 : Nat) ({ cls := "FitBench", name := "shim", desc := "(III)I" } : Jvm.MethodName)) ∈ gTbl := gTbl_of (List.mem_append_right _ (List.mem_of_getElem? (i := 603) (by decide +kernel))) rfl
theorem gw_604 : (Jvm.Cond.instanceMethod ({ cls := "FitBench", name := "shim", desc := "(III)I" } : Jvm.MethodName)) ∈ gTbl := gTbl_of (List.mem_append_right _ (List.mem_of_getElem? (i := 604) (by decide +kernel))) rfl
theorem gw_605 : (Jvm.Cond.selects "FitBench" ({ cls := "FitBench", name := "shim", desc := "(III)I" } : Jvm.MethodName) ({ cls := "FitBench", name := "shim", desc := "(III)I" } : Jvm.MethodName)) ∈ gTbl := gTbl_of (List.mem_append_right _ (List.mem_of_getElem? (i := 605) (by decide +kernel))) rfl
theorem gw_606 : (Jvm.Cond.code ({ cls := "FitBench", name := "shim", desc := "(III)I" } : Jvm.MethodName) prog_1_method_28_code (8 : Nat) (Option.some Jvm.ClassFile.FieldType.int)) ∈ gTbl := gTbl_of (List.mem_append_right _ (List.mem_of_getElem? (i := 606) (by decide +kernel))) rfl
theorem gw_622 : (Jvm.Cond.methodLink "FitBenchLaw" (132 : Nat) ({ cls := "FitBench", name := "image", desc := "(I)Z" } : Jvm.MethodName)) ∈ gTbl := gTbl_of (List.mem_append_right _ (List.mem_of_getElem? (i := 622) (by decide +kernel))) rfl
theorem gw_623 : (Jvm.Cond.instanceMethod ({ cls := "FitBench", name := "image", desc := "(I)Z" } : Jvm.MethodName)) ∈ gTbl := gTbl_of (List.mem_append_right _ (List.mem_of_getElem? (i := 623) (by decide +kernel))) rfl
theorem gw_624 : (Jvm.Cond.selects "FitBench" ({ cls := "FitBench", name := "image", desc := "(I)Z" } : Jvm.MethodName) ({ cls := "FitBench", name := "image", desc := "(I)Z" } : Jvm.MethodName)) ∈ gTbl := gTbl_of (List.mem_append_right _ (List.mem_of_getElem? (i := 624) (by decide +kernel))) rfl
theorem gw_625 : (Jvm.Cond.code ({ cls := "FitBench", name := "image", desc := "(I)Z" } : Jvm.MethodName) prog_1_method_29_code (2 : Nat) (Option.some Jvm.ClassFile.FieldType.boolean)) ∈ gTbl := gTbl_of (List.mem_append_right _ (List.mem_of_getElem? (i := 625) (by decide +kernel))) rfl
theorem gw_649 : (Jvm.Cond.methodLink "FitBenchLaw" (136 : Nat) ({ cls := "FitBench", name := "back", desc := "(I)Z" } : Jvm.MethodName)) ∈ gTbl := gTbl_of (List.mem_append_right _ (List.mem_of_getElem? (i := 649) (by decide +kernel))) rfl
theorem gw_650 : (Jvm.Cond.instanceMethod ({ cls := "FitBench", name := "back", desc := "(I)Z" } : Jvm.MethodName)) ∈ gTbl := gTbl_of (List.mem_append_right _ (List.mem_of_getElem? (i := 650) (by decide +kernel))) rfl
theorem gw_651 : (Jvm.Cond.selects "FitBench" ({ cls := "FitBench", name := "back", desc := "(I)Z" } : Jvm.MethodName) ({ cls := "FitBench", name := "back", desc := "(I)Z" } : Jvm.MethodName)) ∈ gTbl := gTbl_of (List.mem_append_right _ (List.mem_of_getElem? (i := 651) (by decide +kernel))) rfl
theorem gw_652 : (Jvm.Cond.code ({ cls := "FitBench", name := "back", desc := "(I)Z" } : Jvm.MethodName) prog_1_method_30_code (2 : Nat) (Option.some Jvm.ClassFile.FieldType.boolean)) ∈ gTbl := gTbl_of (List.mem_append_right _ (List.mem_of_getElem? (i := 652) (by decide +kernel))) rfl
theorem gw_653 : (Jvm.Cond.classLink "FitBenchLaw" (10 : Nat) "FitBenchModel") ∈ gTbl := gTbl_of (List.mem_append_right _ (List.mem_of_getElem? (i := 653) (by decide +kernel))) rfl
theorem gw_654 : (Jvm.Cond.instantiable "FitBenchModel" (14 : Nat)) ∈ gTbl := gTbl_of (List.mem_append_right _ (List.mem_of_getElem? (i := 654) (by decide +kernel))) rfl
theorem gw_655 : (Jvm.Cond.methodLink "FitBenchLaw" (12 : Nat) ({ cls := "FitBenchModel", name := "<init>", desc := "()V" } : Jvm.MethodName)) ∈ gTbl := gTbl_of (List.mem_append_right _ (List.mem_of_getElem? (i := 655) (by decide +kernel))) rfl
theorem gw_656 : (Jvm.Cond.instanceMethod ({ cls := "FitBenchModel", name := "<init>", desc := "()V" } : Jvm.MethodName)) ∈ gTbl := gTbl_of (List.mem_append_right _ (List.mem_of_getElem? (i := 656) (by decide +kernel))) rfl
theorem gw_657 : (Jvm.Cond.code ({ cls := "FitBenchModel", name := "<init>", desc := "()V" } : Jvm.MethodName) prog_10_method_1_code (2 : Nat) (Option.none : Option Jvm.ClassFile.FieldType)) ∈ gTbl := gTbl_of (List.mem_append_right _ (List.mem_of_getElem? (i := 657) (by decide +kernel))) rfl
theorem gw_704 : (Jvm.Cond.methodLink "FitBenchLaw" (135 : Nat) ({ cls := "FitBenchModel", name := "image", desc := "(I)Z" } : Jvm.MethodName)) ∈ gTbl := gTbl_of (List.mem_append_right _ (List.mem_of_getElem? (i := 704) (by decide +kernel))) rfl
theorem gw_705 : (Jvm.Cond.instanceMethod ({ cls := "FitBenchModel", name := "image", desc := "(I)Z" } : Jvm.MethodName)) ∈ gTbl := gTbl_of (List.mem_append_right _ (List.mem_of_getElem? (i := 705) (by decide +kernel))) rfl
theorem gw_706 : (Jvm.Cond.selects "FitBenchModel" ({ cls := "FitBenchModel", name := "image", desc := "(I)Z" } : Jvm.MethodName) ({ cls := "FitBenchModel", name := "image", desc := "(I)Z" } : Jvm.MethodName)) ∈ gTbl := gTbl_of (List.mem_append_right _ (List.mem_of_getElem? (i := 706) (by decide +kernel))) rfl
theorem gw_707 : (Jvm.Cond.code ({ cls := "FitBenchModel", name := "image", desc := "(I)Z" } : Jvm.MethodName) prog_10_method_2_code (3 : Nat) (Option.some Jvm.ClassFile.FieldType.boolean)) ∈ gTbl := gTbl_of (List.mem_append_right _ (List.mem_of_getElem? (i := 707) (by decide +kernel))) rfl
theorem gw_708 : (Jvm.Cond.methodLink "FitBenchLaw" (139 : Nat) ({ cls := "FitBenchModel", name := "back", desc := "(I)Z" } : Jvm.MethodName)) ∈ gTbl := gTbl_of (List.mem_append_right _ (List.mem_of_getElem? (i := 708) (by decide +kernel))) rfl
theorem gw_709 : (Jvm.Cond.instanceMethod ({ cls := "FitBenchModel", name := "back", desc := "(I)Z" } : Jvm.MethodName)) ∈ gTbl := gTbl_of (List.mem_append_right _ (List.mem_of_getElem? (i := 709) (by decide +kernel))) rfl
theorem gw_710 : (Jvm.Cond.selects "FitBenchModel" ({ cls := "FitBenchModel", name := "back", desc := "(I)Z" } : Jvm.MethodName) ({ cls := "FitBenchModel", name := "back", desc := "(I)Z" } : Jvm.MethodName)) ∈ gTbl := gTbl_of (List.mem_append_right _ (List.mem_of_getElem? (i := 710) (by decide +kernel))) rfl
theorem gw_711 : (Jvm.Cond.code ({ cls := "FitBenchModel", name := "back", desc := "(I)Z" } : Jvm.MethodName) prog_10_method_3_code (3 : Nat) (Option.some Jvm.ClassFile.FieldType.boolean)) ∈ gTbl := gTbl_of (List.mem_append_right _ (List.mem_of_getElem? (i := 711) (by decide +kernel))) rfl
theorem gw_712 : (Jvm.Cond.methodLink "FitBenchLaw" (17 : Nat) ({ cls := "FitBenchModel", name := "measure", desc := "(IIIII)Z" } : Jvm.MethodName)) ∈ gTbl := gTbl_of (List.mem_append_right _ (List.mem_of_getElem? (i := 712) (by decide +kernel))) rfl
theorem gw_713 : (Jvm.Cond.instanceMethod ({ cls := "FitBenchModel", name := "measure", desc := "(IIIII)Z" } : Jvm.MethodName)) ∈ gTbl := gTbl_of (List.mem_append_right _ (List.mem_of_getElem? (i := 713) (by decide +kernel))) rfl
theorem gw_714 : (Jvm.Cond.selects "FitBenchModel" ({ cls := "FitBenchModel", name := "measure", desc := "(IIIII)Z" } : Jvm.MethodName) ({ cls := "FitBenchModel", name := "measure", desc := "(IIIII)Z" } : Jvm.MethodName)) ∈ gTbl := gTbl_of (List.mem_append_right _ (List.mem_of_getElem? (i := 714) (by decide +kernel))) rfl
theorem gw_715 : (Jvm.Cond.code ({ cls := "FitBenchModel", name := "measure", desc := "(IIIII)Z" } : Jvm.MethodName) prog_10_method_7_code (6 : Nat) (Option.some Jvm.ClassFile.FieldType.boolean)) ∈ gTbl := gTbl_of (List.mem_append_right _ (List.mem_of_getElem? (i := 715) (by decide +kernel))) rfl
theorem gw_725 : (Jvm.Cond.methodLink "FitBenchLaw" (22 : Nat) ({ cls := "FitBenchModel", name := "book", desc := "(III)Z" } : Jvm.MethodName)) ∈ gTbl := gTbl_of (List.mem_append_right _ (List.mem_of_getElem? (i := 725) (by decide +kernel))) rfl
theorem gw_726 : (Jvm.Cond.instanceMethod ({ cls := "FitBenchModel", name := "book", desc := "(III)Z" } : Jvm.MethodName)) ∈ gTbl := gTbl_of (List.mem_append_right _ (List.mem_of_getElem? (i := 726) (by decide +kernel))) rfl
theorem gw_727 : (Jvm.Cond.selects "FitBenchModel" ({ cls := "FitBenchModel", name := "book", desc := "(III)Z" } : Jvm.MethodName) ({ cls := "FitBenchModel", name := "book", desc := "(III)Z" } : Jvm.MethodName)) ∈ gTbl := gTbl_of (List.mem_append_right _ (List.mem_of_getElem? (i := 727) (by decide +kernel))) rfl
theorem gw_728 : (Jvm.Cond.code ({ cls := "FitBenchModel", name := "book", desc := "(III)Z" } : Jvm.MethodName) prog_10_method_9_code (6 : Nat) (Option.some Jvm.ClassFile.FieldType.boolean)) ∈ gTbl := gTbl_of (List.mem_append_right _ (List.mem_of_getElem? (i := 728) (by decide +kernel))) rfl
theorem gw_733 : (Jvm.Cond.methodLink "FitBenchLaw" (27 : Nat) ({ cls := "FitBenchModel", name := "tear", desc := "(I)Z" } : Jvm.MethodName)) ∈ gTbl := gTbl_of (List.mem_append_right _ (List.mem_of_getElem? (i := 733) (by decide +kernel))) rfl
theorem gw_734 : (Jvm.Cond.instanceMethod ({ cls := "FitBenchModel", name := "tear", desc := "(I)Z" } : Jvm.MethodName)) ∈ gTbl := gTbl_of (List.mem_append_right _ (List.mem_of_getElem? (i := 734) (by decide +kernel))) rfl
theorem gw_735 : (Jvm.Cond.selects "FitBenchModel" ({ cls := "FitBenchModel", name := "tear", desc := "(I)Z" } : Jvm.MethodName) ({ cls := "FitBenchModel", name := "tear", desc := "(I)Z" } : Jvm.MethodName)) ∈ gTbl := gTbl_of (List.mem_append_right _ (List.mem_of_getElem? (i := 735) (by decide +kernel))) rfl
theorem gw_736 : (Jvm.Cond.code ({ cls := "FitBenchModel", name := "tear", desc := "(I)Z" } : Jvm.MethodName) prog_10_method_10_code (2 : Nat) (Option.some Jvm.ClassFile.FieldType.boolean)) ∈ gTbl := gTbl_of (List.mem_append_right _ (List.mem_of_getElem? (i := 736) (by decide +kernel))) rfl
theorem gw_737 : (Jvm.Cond.methodLink "FitBenchLaw" (32 : Nat) ({ cls := "FitBenchModel", name := "of", desc := "(II)I" } : Jvm.MethodName)) ∈ gTbl := gTbl_of (List.mem_append_right _ (List.mem_of_getElem? (i := 737) (by decide +kernel))) rfl
theorem gw_738 : (Jvm.Cond.instanceMethod ({ cls := "FitBenchModel", name := "of", desc := "(II)I" } : Jvm.MethodName)) ∈ gTbl := gTbl_of (List.mem_append_right _ (List.mem_of_getElem? (i := 738) (by decide +kernel))) rfl
theorem gw_739 : (Jvm.Cond.selects "FitBenchModel" ({ cls := "FitBenchModel", name := "of", desc := "(II)I" } : Jvm.MethodName) ({ cls := "FitBenchModel", name := "of", desc := "(II)I" } : Jvm.MethodName)) ∈ gTbl := gTbl_of (List.mem_append_right _ (List.mem_of_getElem? (i := 739) (by decide +kernel))) rfl
theorem gw_740 : (Jvm.Cond.code ({ cls := "FitBenchModel", name := "of", desc := "(II)I" } : Jvm.MethodName) prog_10_method_11_code (3 : Nat) (Option.some Jvm.ClassFile.FieldType.int)) ∈ gTbl := gTbl_of (List.mem_append_right _ (List.mem_of_getElem? (i := 740) (by decide +kernel))) rfl
theorem gw_742 : (Jvm.Cond.methodLink "FitBenchLaw" (36 : Nat) ({ cls := "FitBenchModel", name := "share", desc := "(III)Z" } : Jvm.MethodName)) ∈ gTbl := gTbl_of (List.mem_append_right _ (List.mem_of_getElem? (i := 742) (by decide +kernel))) rfl
theorem gw_743 : (Jvm.Cond.instanceMethod ({ cls := "FitBenchModel", name := "share", desc := "(III)Z" } : Jvm.MethodName)) ∈ gTbl := gTbl_of (List.mem_append_right _ (List.mem_of_getElem? (i := 743) (by decide +kernel))) rfl
theorem gw_744 : (Jvm.Cond.selects "FitBenchModel" ({ cls := "FitBenchModel", name := "share", desc := "(III)Z" } : Jvm.MethodName) ({ cls := "FitBenchModel", name := "share", desc := "(III)Z" } : Jvm.MethodName)) ∈ gTbl := gTbl_of (List.mem_append_right _ (List.mem_of_getElem? (i := 744) (by decide +kernel))) rfl
theorem gw_745 : (Jvm.Cond.code ({ cls := "FitBenchModel", name := "share", desc := "(III)Z" } : Jvm.MethodName) prog_10_method_13_code (4 : Nat) (Option.some Jvm.ClassFile.FieldType.boolean)) ∈ gTbl := gTbl_of (List.mem_append_right _ (List.mem_of_getElem? (i := 745) (by decide +kernel))) rfl
theorem gw_749 : (Jvm.Cond.methodLink "FitBenchLaw" (40 : Nat) ({ cls := "FitBenchModel", name := "ends", desc := "(III)Z" } : Jvm.MethodName)) ∈ gTbl := gTbl_of (List.mem_append_right _ (List.mem_of_getElem? (i := 749) (by decide +kernel))) rfl
theorem gw_750 : (Jvm.Cond.instanceMethod ({ cls := "FitBenchModel", name := "ends", desc := "(III)Z" } : Jvm.MethodName)) ∈ gTbl := gTbl_of (List.mem_append_right _ (List.mem_of_getElem? (i := 750) (by decide +kernel))) rfl
theorem gw_751 : (Jvm.Cond.selects "FitBenchModel" ({ cls := "FitBenchModel", name := "ends", desc := "(III)Z" } : Jvm.MethodName) ({ cls := "FitBenchModel", name := "ends", desc := "(III)Z" } : Jvm.MethodName)) ∈ gTbl := gTbl_of (List.mem_append_right _ (List.mem_of_getElem? (i := 751) (by decide +kernel))) rfl
theorem gw_752 : (Jvm.Cond.code ({ cls := "FitBenchModel", name := "ends", desc := "(III)Z" } : Jvm.MethodName) prog_10_method_14_code (4 : Nat) (Option.some Jvm.ClassFile.FieldType.boolean)) ∈ gTbl := gTbl_of (List.mem_append_right _ (List.mem_of_getElem? (i := 752) (by decide +kernel))) rfl
theorem gw_754 : (Jvm.Cond.methodLink "FitBenchLaw" (44 : Nat) ({ cls := "FitBenchModel", name := "chain", desc := "(II)I" } : Jvm.MethodName)) ∈ gTbl := gTbl_of (List.mem_append_right _ (List.mem_of_getElem? (i := 754) (by decide +kernel))) rfl
theorem gw_755 : (Jvm.Cond.instanceMethod ({ cls := "FitBenchModel", name := "chain", desc := "(II)I" } : Jvm.MethodName)) ∈ gTbl := gTbl_of (List.mem_append_right _ (List.mem_of_getElem? (i := 755) (by decide +kernel))) rfl
theorem gw_756 : (Jvm.Cond.selects "FitBenchModel" ({ cls := "FitBenchModel", name := "chain", desc := "(II)I" } : Jvm.MethodName) ({ cls := "FitBenchModel", name := "chain", desc := "(II)I" } : Jvm.MethodName)) ∈ gTbl := gTbl_of (List.mem_append_right _ (List.mem_of_getElem? (i := 756) (by decide +kernel))) rfl
theorem gw_757 : (Jvm.Cond.code ({ cls := "FitBenchModel", name := "chain", desc := "(II)I" } : Jvm.MethodName) prog_10_method_16_code (3 : Nat) (Option.some Jvm.ClassFile.FieldType.int)) ∈ gTbl := gTbl_of (List.mem_append_right _ (List.mem_of_getElem? (i := 757) (by decide +kernel))) rfl
theorem gw_763 : (Jvm.Cond.methodLink "FitBenchLaw" (48 : Nat) ({ cls := "FitBenchModel", name := "join", desc := "(III)Z" } : Jvm.MethodName)) ∈ gTbl := gTbl_of (List.mem_append_right _ (List.mem_of_getElem? (i := 763) (by decide +kernel))) rfl
theorem gw_764 : (Jvm.Cond.instanceMethod ({ cls := "FitBenchModel", name := "join", desc := "(III)Z" } : Jvm.MethodName)) ∈ gTbl := gTbl_of (List.mem_append_right _ (List.mem_of_getElem? (i := 764) (by decide +kernel))) rfl
theorem gw_765 : (Jvm.Cond.selects "FitBenchModel" ({ cls := "FitBenchModel", name := "join", desc := "(III)Z" } : Jvm.MethodName) ({ cls := "FitBenchModel", name := "join", desc := "(III)Z" } : Jvm.MethodName)) ∈ gTbl := gTbl_of (List.mem_append_right _ (List.mem_of_getElem? (i := 765) (by decide +kernel))) rfl
theorem gw_766 : (Jvm.Cond.code ({ cls := "FitBenchModel", name := "join", desc := "(III)Z" } : Jvm.MethodName) prog_10_method_18_code (5 : Nat) (Option.some Jvm.ClassFile.FieldType.boolean)) ∈ gTbl := gTbl_of (List.mem_append_right _ (List.mem_of_getElem? (i := 766) (by decide +kernel))) rfl
theorem gw_770 : (Jvm.Cond.methodLink "FitBenchLaw" (53 : Nat) ({ cls := "FitBenchModel", name := "round", desc := "(III)I" } : Jvm.MethodName)) ∈ gTbl := gTbl_of (List.mem_append_right _ (List.mem_of_getElem? (i := 770) (by decide +kernel))) rfl
theorem gw_771 : (Jvm.Cond.instanceMethod ({ cls := "FitBenchModel", name := "round", desc := "(III)I" } : Jvm.MethodName)) ∈ gTbl := gTbl_of (List.mem_append_right _ (List.mem_of_getElem? (i := 771) (by decide +kernel))) rfl
theorem gw_772 : (Jvm.Cond.selects "FitBenchModel" ({ cls := "FitBenchModel", name := "round", desc := "(III)I" } : Jvm.MethodName) ({ cls := "FitBenchModel", name := "round", desc := "(III)I" } : Jvm.MethodName)) ∈ gTbl := gTbl_of (List.mem_append_right _ (List.mem_of_getElem? (i := 772) (by decide +kernel))) rfl
theorem gw_773 : (Jvm.Cond.code ({ cls := "FitBenchModel", name := "round", desc := "(III)I" } : Jvm.MethodName) prog_10_method_20_code (10 : Nat) (Option.some Jvm.ClassFile.FieldType.int)) ∈ gTbl := gTbl_of (List.mem_append_right _ (List.mem_of_getElem? (i := 773) (by decide +kernel))) rfl
theorem gw_778 : (Jvm.Cond.methodLink "FitBenchLaw" (58 : Nat) ({ cls := "FitBenchModel", name := "over", desc := "()I" } : Jvm.MethodName)) ∈ gTbl := gTbl_of (List.mem_append_right _ (List.mem_of_getElem? (i := 778) (by decide +kernel))) rfl
theorem gw_779 : (Jvm.Cond.instanceMethod ({ cls := "FitBenchModel", name := "over", desc := "()I" } : Jvm.MethodName)) ∈ gTbl := gTbl_of (List.mem_append_right _ (List.mem_of_getElem? (i := 779) (by decide +kernel))) rfl
theorem gw_780 : (Jvm.Cond.selects "FitBenchModel" ({ cls := "FitBenchModel", name := "over", desc := "()I" } : Jvm.MethodName) ({ cls := "FitBenchModel", name := "over", desc := "()I" } : Jvm.MethodName)) ∈ gTbl := gTbl_of (List.mem_append_right _ (List.mem_of_getElem? (i := 780) (by decide +kernel))) rfl
theorem gw_781 : (Jvm.Cond.code ({ cls := "FitBenchModel", name := "over", desc := "()I" } : Jvm.MethodName) prog_10_method_21_code (6 : Nat) (Option.some Jvm.ClassFile.FieldType.int)) ∈ gTbl := gTbl_of (List.mem_append_right _ (List.mem_of_getElem? (i := 781) (by decide +kernel))) rfl
theorem gw_782 : (Jvm.Cond.methodLink "FitBenchLaw" (66 : Nat) ({ cls := "FitBenchModel", name := "corner", desc := "(III)I" } : Jvm.MethodName)) ∈ gTbl := gTbl_of (List.mem_append_right _ (List.mem_of_getElem? (i := 782) (by decide +kernel))) rfl
theorem gw_798 : (Jvm.Cond.methodLink "FitBenchLaw" (62 : Nat) ({ cls := "FitBenchModel", name := "worst", desc := "(II)I" } : Jvm.MethodName)) ∈ gTbl := gTbl_of (List.mem_append_right _ (List.mem_of_getElem? (i := 798) (by decide +kernel))) rfl
theorem gw_804 : (Jvm.Cond.methodLink "FitBenchLaw" (71 : Nat) ({ cls := "FitBenchModel", name := "always", desc := "(I)I" } : Jvm.MethodName)) ∈ gTbl := gTbl_of (List.mem_append_right _ (List.mem_of_getElem? (i := 804) (by decide +kernel))) rfl
theorem gw_805 : (Jvm.Cond.instanceMethod ({ cls := "FitBenchModel", name := "always", desc := "(I)I" } : Jvm.MethodName)) ∈ gTbl := gTbl_of (List.mem_append_right _ (List.mem_of_getElem? (i := 805) (by decide +kernel))) rfl
theorem gw_806 : (Jvm.Cond.selects "FitBenchModel" ({ cls := "FitBenchModel", name := "always", desc := "(I)I" } : Jvm.MethodName) ({ cls := "FitBenchModel", name := "always", desc := "(I)I" } : Jvm.MethodName)) ∈ gTbl := gTbl_of (List.mem_append_right _ (List.mem_of_getElem? (i := 806) (by decide +kernel))) rfl
theorem gw_807 : (Jvm.Cond.code ({ cls := "FitBenchModel", name := "always", desc := "(I)I" } : Jvm.MethodName) prog_10_method_27_code (2 : Nat) (Option.some Jvm.ClassFile.FieldType.int)) ∈ gTbl := gTbl_of (List.mem_append_right _ (List.mem_of_getElem? (i := 807) (by decide +kernel))) rfl
theorem gw_809 : (Jvm.Cond.methodLink "FitBenchLaw" (76 : Nat) ({ cls := "FitBenchModel", name := "chance", desc := "(II)J" } : Jvm.MethodName)) ∈ gTbl := gTbl_of (List.mem_append_right _ (List.mem_of_getElem? (i := 809) (by decide +kernel))) rfl
theorem gw_810 : (Jvm.Cond.instanceMethod ({ cls := "FitBenchModel", name := "chance", desc := "(II)J" } : Jvm.MethodName)) ∈ gTbl := gTbl_of (List.mem_append_right _ (List.mem_of_getElem? (i := 810) (by decide +kernel))) rfl
theorem gw_811 : (Jvm.Cond.selects "FitBenchModel" ({ cls := "FitBenchModel", name := "chance", desc := "(II)J" } : Jvm.MethodName) ({ cls := "FitBenchModel", name := "chance", desc := "(II)J" } : Jvm.MethodName)) ∈ gTbl := gTbl_of (List.mem_append_right _ (List.mem_of_getElem? (i := 811) (by decide +kernel))) rfl
theorem gw_812 : (Jvm.Cond.code ({ cls := "FitBenchModel", name := "chance", desc := "(II)J" } : Jvm.MethodName) prog_10_method_33_code (8 : Nat) (Option.some Jvm.ClassFile.FieldType.long)) ∈ gTbl := gTbl_of (List.mem_append_right _ (List.mem_of_getElem? (i := 812) (by decide +kernel))) rfl
theorem gw_834 : (Jvm.Cond.methodLink "FitBenchLaw" (81 : Nat) ({ cls := "FitBenchModel", name := "both", desc := "(III)J" } : Jvm.MethodName)) ∈ gTbl := gTbl_of (List.mem_append_right _ (List.mem_of_getElem? (i := 834) (by decide +kernel))) rfl
theorem gw_835 : (Jvm.Cond.instanceMethod ({ cls := "FitBenchModel", name := "both", desc := "(III)J" } : Jvm.MethodName)) ∈ gTbl := gTbl_of (List.mem_append_right _ (List.mem_of_getElem? (i := 835) (by decide +kernel))) rfl
theorem gw_836 : (Jvm.Cond.selects "FitBenchModel" ({ cls := "FitBenchModel", name := "both", desc := "(III)J" } : Jvm.MethodName) ({ cls := "FitBenchModel", name := "both", desc := "(III)J" } : Jvm.MethodName)) ∈ gTbl := gTbl_of (List.mem_append_right _ (List.mem_of_getElem? (i := 836) (by decide +kernel))) rfl
theorem gw_837 : (Jvm.Cond.code ({ cls := "FitBenchModel", name := "both", desc := "(III)J" } : Jvm.MethodName) prog_10_method_34_code (12 : Nat) (Option.some Jvm.ClassFile.FieldType.long)) ∈ gTbl := gTbl_of (List.mem_append_right _ (List.mem_of_getElem? (i := 837) (by decide +kernel))) rfl
theorem gw_839 : (Jvm.Cond.methodLink "FitBenchLaw" (85 : Nat) ({ cls := "FitBenchModel", name := "mean", desc := "(II)J" } : Jvm.MethodName)) ∈ gTbl := gTbl_of (List.mem_append_right _ (List.mem_of_getElem? (i := 839) (by decide +kernel))) rfl
theorem gw_840 : (Jvm.Cond.instanceMethod ({ cls := "FitBenchModel", name := "mean", desc := "(II)J" } : Jvm.MethodName)) ∈ gTbl := gTbl_of (List.mem_append_right _ (List.mem_of_getElem? (i := 840) (by decide +kernel))) rfl
theorem gw_841 : (Jvm.Cond.selects "FitBenchModel" ({ cls := "FitBenchModel", name := "mean", desc := "(II)J" } : Jvm.MethodName) ({ cls := "FitBenchModel", name := "mean", desc := "(II)J" } : Jvm.MethodName)) ∈ gTbl := gTbl_of (List.mem_append_right _ (List.mem_of_getElem? (i := 841) (by decide +kernel))) rfl
theorem gw_842 : (Jvm.Cond.code ({ cls := "FitBenchModel", name := "mean", desc := "(II)J" } : Jvm.MethodName) prog_10_method_35_code (8 : Nat) (Option.some Jvm.ClassFile.FieldType.long)) ∈ gTbl := gTbl_of (List.mem_append_right _ (List.mem_of_getElem? (i := 842) (by decide +kernel))) rfl
theorem gw_843 : (Jvm.Cond.methodLink "FitBenchLaw" (90 : Nat) ({ cls := "FitBenchModel", name := "span", desc := "(IIII)I" } : Jvm.MethodName)) ∈ gTbl := gTbl_of (List.mem_append_right _ (List.mem_of_getElem? (i := 843) (by decide +kernel))) rfl
theorem gw_844 : (Jvm.Cond.instanceMethod ({ cls := "FitBenchModel", name := "span", desc := "(IIII)I" } : Jvm.MethodName)) ∈ gTbl := gTbl_of (List.mem_append_right _ (List.mem_of_getElem? (i := 844) (by decide +kernel))) rfl
theorem gw_845 : (Jvm.Cond.selects "FitBenchModel" ({ cls := "FitBenchModel", name := "span", desc := "(IIII)I" } : Jvm.MethodName) ({ cls := "FitBenchModel", name := "span", desc := "(IIII)I" } : Jvm.MethodName)) ∈ gTbl := gTbl_of (List.mem_append_right _ (List.mem_of_getElem? (i := 845) (by decide +kernel))) rfl
theorem gw_846 : (Jvm.Cond.code ({ cls := "FitBenchModel", name := "span", desc := "(IIII)I" } : Jvm.MethodName) prog_10_method_36_code (16 : Nat) (Option.some Jvm.ClassFile.FieldType.int)) ∈ gTbl := gTbl_of (List.mem_append_right _ (List.mem_of_getElem? (i := 846) (by decide +kernel))) rfl
theorem gw_847 : (Jvm.Cond.methodLink "FitBenchLaw" (94 : Nat) ({ cls := "FitBenchModel", name := "pull", desc := "(II)I" } : Jvm.MethodName)) ∈ gTbl := gTbl_of (List.mem_append_right _ (List.mem_of_getElem? (i := 847) (by decide +kernel))) rfl
theorem gw_848 : (Jvm.Cond.instanceMethod ({ cls := "FitBenchModel", name := "pull", desc := "(II)I" } : Jvm.MethodName)) ∈ gTbl := gTbl_of (List.mem_append_right _ (List.mem_of_getElem? (i := 848) (by decide +kernel))) rfl
theorem gw_849 : (Jvm.Cond.selects "FitBenchModel" ({ cls := "FitBenchModel", name := "pull", desc := "(II)I" } : Jvm.MethodName) ({ cls := "FitBenchModel", name := "pull", desc := "(II)I" } : Jvm.MethodName)) ∈ gTbl := gTbl_of (List.mem_append_right _ (List.mem_of_getElem? (i := 849) (by decide +kernel))) rfl
theorem gw_850 : (Jvm.Cond.code ({ cls := "FitBenchModel", name := "pull", desc := "(II)I" } : Jvm.MethodName) prog_10_method_37_code (4 : Nat) (Option.some Jvm.ClassFile.FieldType.int)) ∈ gTbl := gTbl_of (List.mem_append_right _ (List.mem_of_getElem? (i := 850) (by decide +kernel))) rfl
theorem gw_851 : (Jvm.Cond.methodLink "FitBenchLaw" (98 : Nat) ({ cls := "FitBenchModel", name := "level", desc := "(IIII)I" } : Jvm.MethodName)) ∈ gTbl := gTbl_of (List.mem_append_right _ (List.mem_of_getElem? (i := 851) (by decide +kernel))) rfl
theorem gw_852 : (Jvm.Cond.instanceMethod ({ cls := "FitBenchModel", name := "level", desc := "(IIII)I" } : Jvm.MethodName)) ∈ gTbl := gTbl_of (List.mem_append_right _ (List.mem_of_getElem? (i := 852) (by decide +kernel))) rfl
theorem gw_853 : (Jvm.Cond.selects "FitBenchModel" ({ cls := "FitBenchModel", name := "level", desc := "(IIII)I" } : Jvm.MethodName) ({ cls := "FitBenchModel", name := "level", desc := "(IIII)I" } : Jvm.MethodName)) ∈ gTbl := gTbl_of (List.mem_append_right _ (List.mem_of_getElem? (i := 853) (by decide +kernel))) rfl
theorem gw_854 : (Jvm.Cond.code ({ cls := "FitBenchModel", name := "level", desc := "(IIII)I" } : Jvm.MethodName) prog_10_method_38_code (7 : Nat) (Option.some Jvm.ClassFile.FieldType.int)) ∈ gTbl := gTbl_of (List.mem_append_right _ (List.mem_of_getElem? (i := 854) (by decide +kernel))) rfl
theorem gw_856 : (Jvm.Cond.methodLink "FitBenchLaw" (102 : Nat) ({ cls := "FitBenchModel", name := "plain", desc := "(I)I" } : Jvm.MethodName)) ∈ gTbl := gTbl_of (List.mem_append_right _ (List.mem_of_getElem? (i := 856) (by decide +kernel))) rfl
theorem gw_857 : (Jvm.Cond.instanceMethod ({ cls := "FitBenchModel", name := "plain", desc := "(I)I" } : Jvm.MethodName)) ∈ gTbl := gTbl_of (List.mem_append_right _ (List.mem_of_getElem? (i := 857) (by decide +kernel))) rfl
theorem gw_858 : (Jvm.Cond.selects "FitBenchModel" ({ cls := "FitBenchModel", name := "plain", desc := "(I)I" } : Jvm.MethodName) ({ cls := "FitBenchModel", name := "plain", desc := "(I)I" } : Jvm.MethodName)) ∈ gTbl := gTbl_of (List.mem_append_right _ (List.mem_of_getElem? (i := 858) (by decide +kernel))) rfl
theorem gw_859 : (Jvm.Cond.code ({ cls := "FitBenchModel", name := "plain", desc := "(I)I" } : Jvm.MethodName) prog_10_method_39_code (3 : Nat) (Option.some Jvm.ClassFile.FieldType.int)) ∈ gTbl := gTbl_of (List.mem_append_right _ (List.mem_of_getElem? (i := 859) (by decide +kernel))) rfl
theorem gw_860 : (Jvm.Cond.methodLink "FitBenchLaw" (107 : Nat) ({ cls := "FitBenchModel", name := "best", desc := "()J" } : Jvm.MethodName)) ∈ gTbl := gTbl_of (List.mem_append_right _ (List.mem_of_getElem? (i := 860) (by decide +kernel))) rfl
theorem gw_861 : (Jvm.Cond.instanceMethod ({ cls := "FitBenchModel", name := "best", desc := "()J" } : Jvm.MethodName)) ∈ gTbl := gTbl_of (List.mem_append_right _ (List.mem_of_getElem? (i := 861) (by decide +kernel))) rfl
theorem gw_862 : (Jvm.Cond.selects "FitBenchModel" ({ cls := "FitBenchModel", name := "best", desc := "()J" } : Jvm.MethodName) ({ cls := "FitBenchModel", name := "best", desc := "()J" } : Jvm.MethodName)) ∈ gTbl := gTbl_of (List.mem_append_right _ (List.mem_of_getElem? (i := 862) (by decide +kernel))) rfl
theorem gw_863 : (Jvm.Cond.code ({ cls := "FitBenchModel", name := "best", desc := "()J" } : Jvm.MethodName) prog_10_method_43_code (7 : Nat) (Option.some Jvm.ClassFile.FieldType.long)) ∈ gTbl := gTbl_of (List.mem_append_right _ (List.mem_of_getElem? (i := 863) (by decide +kernel))) rfl
theorem gw_876 : (Jvm.Cond.methodLink "FitBenchLaw" (111 : Nat) ({ cls := "FitBenchModel", name := "choice", desc := "(I)I" } : Jvm.MethodName)) ∈ gTbl := gTbl_of (List.mem_append_right _ (List.mem_of_getElem? (i := 876) (by decide +kernel))) rfl
theorem gw_877 : (Jvm.Cond.instanceMethod ({ cls := "FitBenchModel", name := "choice", desc := "(I)I" } : Jvm.MethodName)) ∈ gTbl := gTbl_of (List.mem_append_right _ (List.mem_of_getElem? (i := 877) (by decide +kernel))) rfl
theorem gw_878 : (Jvm.Cond.selects "FitBenchModel" ({ cls := "FitBenchModel", name := "choice", desc := "(I)I" } : Jvm.MethodName) ({ cls := "FitBenchModel", name := "choice", desc := "(I)I" } : Jvm.MethodName)) ∈ gTbl := gTbl_of (List.mem_append_right _ (List.mem_of_getElem? (i := 878) (by decide +kernel))) rfl
theorem gw_879 : (Jvm.Cond.code ({ cls := "FitBenchModel", name := "choice", desc := "(I)I" } : Jvm.MethodName) prog_10_method_44_code (2 : Nat) (Option.some Jvm.ClassFile.FieldType.int)) ∈ gTbl := gTbl_of (List.mem_append_right _ (List.mem_of_getElem? (i := 879) (by decide +kernel))) rfl
theorem gw_880 : (Jvm.Cond.methodLink "FitBenchLaw" (115 : Nat) ({ cls := "FitBenchModel", name := "part", desc := "(II)I" } : Jvm.MethodName)) ∈ gTbl := gTbl_of (List.mem_append_right _ (List.mem_of_getElem? (i := 880) (by decide +kernel))) rfl
theorem gw_881 : (Jvm.Cond.instanceMethod ({ cls := "FitBenchModel", name := "part", desc := "(II)I" } : Jvm.MethodName)) ∈ gTbl := gTbl_of (List.mem_append_right _ (List.mem_of_getElem? (i := 881) (by decide +kernel))) rfl
theorem gw_882 : (Jvm.Cond.selects "FitBenchModel" ({ cls := "FitBenchModel", name := "part", desc := "(II)I" } : Jvm.MethodName) ({ cls := "FitBenchModel", name := "part", desc := "(II)I" } : Jvm.MethodName)) ∈ gTbl := gTbl_of (List.mem_append_right _ (List.mem_of_getElem? (i := 882) (by decide +kernel))) rfl
theorem gw_883 : (Jvm.Cond.code ({ cls := "FitBenchModel", name := "part", desc := "(II)I" } : Jvm.MethodName) prog_10_method_46_code (3 : Nat) (Option.some Jvm.ClassFile.FieldType.int)) ∈ gTbl := gTbl_of (List.mem_append_right _ (List.mem_of_getElem? (i := 883) (by decide +kernel))) rfl
theorem gw_887 : (Jvm.Cond.methodLink "FitBenchLaw" (119 : Nat) ({ cls := "FitBenchModel", name := "sweep", desc := "(I)I" } : Jvm.MethodName)) ∈ gTbl := gTbl_of (List.mem_append_right _ (List.mem_of_getElem? (i := 887) (by decide +kernel))) rfl
theorem gw_888 : (Jvm.Cond.instanceMethod ({ cls := "FitBenchModel", name := "sweep", desc := "(I)I" } : Jvm.MethodName)) ∈ gTbl := gTbl_of (List.mem_append_right _ (List.mem_of_getElem? (i := 888) (by decide +kernel))) rfl
theorem gw_889 : (Jvm.Cond.selects "FitBenchModel" ({ cls := "FitBenchModel", name := "sweep", desc := "(I)I" } : Jvm.MethodName) ({ cls := "FitBenchModel", name := "sweep", desc := "(I)I" } : Jvm.MethodName)) ∈ gTbl := gTbl_of (List.mem_append_right _ (List.mem_of_getElem? (i := 889) (by decide +kernel))) rfl
theorem gw_890 : (Jvm.Cond.code ({ cls := "FitBenchModel", name := "sweep", desc := "(I)I" } : Jvm.MethodName) prog_10_method_47_code (3 : Nat) (Option.some Jvm.ClassFile.FieldType.int)) ∈ gTbl := gTbl_of (List.mem_append_right _ (List.mem_of_getElem? (i := 890) (by decide +kernel))) rfl
theorem gw_891 : (Jvm.Cond.methodLink "FitBenchLaw" (123 : Nat) ({ cls := "FitBenchModel", name := "match", desc := "(II)I" } : Jvm.MethodName)) ∈ gTbl := gTbl_of (List.mem_append_right _ (List.mem_of_getElem? (i := 891) (by decide +kernel))) rfl
theorem gw_892 : (Jvm.Cond.instanceMethod ({ cls := "FitBenchModel", name := "match", desc := "(II)I" } : Jvm.MethodName)) ∈ gTbl := gTbl_of (List.mem_append_right _ (List.mem_of_getElem? (i := 892) (by decide +kernel))) rfl
theorem gw_893 : (Jvm.Cond.selects "FitBenchModel" ({ cls := "FitBenchModel", name := "match", desc := "(II)I" } : Jvm.MethodName) ({ cls := "FitBenchModel", name := "match", desc := "(II)I" } : Jvm.MethodName)) ∈ gTbl := gTbl_of (List.mem_append_right _ (List.mem_of_getElem? (i := 893) (by decide +kernel))) rfl
theorem gw_894 : (Jvm.Cond.code ({ cls := "FitBenchModel", name := "match", desc := "(II)I" } : Jvm.MethodName) prog_10_method_48_code (9 : Nat) (Option.some Jvm.ClassFile.FieldType.int)) ∈ gTbl := gTbl_of (List.mem_append_right _ (List.mem_of_getElem? (i := 894) (by decide +kernel))) rfl
theorem gw_895 : (Jvm.Cond.methodLink "FitBenchLaw" (127 : Nat) ({ cls := "FitBenchModel", name := "mate", desc := "(I)I" } : Jvm.MethodName)) ∈ gTbl := gTbl_of (List.mem_append_right _ (List.mem_of_getElem? (i := 895) (by decide +kernel))) rfl
theorem gw_896 : (Jvm.Cond.instanceMethod ({ cls := "FitBenchModel", name := "mate", desc := "(I)I" } : Jvm.MethodName)) ∈ gTbl := gTbl_of (List.mem_append_right _ (List.mem_of_getElem? (i := 896) (by decide +kernel))) rfl
theorem gw_897 : (Jvm.Cond.selects "FitBenchModel" ({ cls := "FitBenchModel", name := "mate", desc := "(I)I" } : Jvm.MethodName) ({ cls := "FitBenchModel", name := "mate", desc := "(I)I" } : Jvm.MethodName)) ∈ gTbl := gTbl_of (List.mem_append_right _ (List.mem_of_getElem? (i := 897) (by decide +kernel))) rfl
theorem gw_898 : (Jvm.Cond.code ({ cls := "FitBenchModel", name := "mate", desc := "(I)I" } : Jvm.MethodName) prog_10_method_49_code (2 : Nat) (Option.some Jvm.ClassFile.FieldType.int)) ∈ gTbl := gTbl_of (List.mem_append_right _ (List.mem_of_getElem? (i := 898) (by decide +kernel))) rfl
theorem gw_899 : (Jvm.Cond.methodLink "FitBenchLaw" (131 : Nat) ({ cls := "FitBenchModel", name := "shim", desc := "(III)I" } : Jvm.MethodName)) ∈ gTbl := gTbl_of (List.mem_append_right _ (List.mem_of_getElem? (i := 899) (by decide +kernel))) rfl
theorem gw_900 : (Jvm.Cond.instanceMethod ({ cls := "FitBenchModel", name := "shim", desc := "(III)I" } : Jvm.MethodName)) ∈ gTbl := gTbl_of (List.mem_append_right _ (List.mem_of_getElem? (i := 900) (by decide +kernel))) rfl
theorem gw_901 : (Jvm.Cond.selects "FitBenchModel" ({ cls := "FitBenchModel", name := "shim", desc := "(III)I" } : Jvm.MethodName) ({ cls := "FitBenchModel", name := "shim", desc := "(III)I" } : Jvm.MethodName)) ∈ gTbl := gTbl_of (List.mem_append_right _ (List.mem_of_getElem? (i := 901) (by decide +kernel))) rfl
theorem gw_902 : (Jvm.Cond.code ({ cls := "FitBenchModel", name := "shim", desc := "(III)I" } : Jvm.MethodName) prog_10_method_52_code (12 : Nat) (Option.some Jvm.ClassFile.FieldType.int)) ∈ gTbl := gTbl_of (List.mem_append_right _ (List.mem_of_getElem? (i := 902) (by decide +kernel))) rfl
theorem k_L_law_0 {B L : Nat} {xs : Nat → Int} : OkopX (ScX B L xs) i_L_law 0 (o_new 7 6) 3 := OkopX.of (k_new (idx := 7) fo_7 fd_7 (by decide) gw_13 gw_14 gw_1 (by decide +kernel))
theorem k_L_law_3 {B L : Nat} {xs : Nat → Int} : OkopX (ScX B L xs) i_L_law 3 (o_dup) 4 := OkopX.of (k_dup (by decide +kernel))
theorem k_L_law_4 {B L : Nat} {xs : Nat → Int} : OkopX (ScX B L xs) i_L_law 4 (o_callI S_X7_init) 7 := OkopX.of (k_callI (idx := 9) m_X7_init ⟨gw_17, gw_1, ⟨by decide, by decide, by decide +kernel⟩, by decide, by decide⟩ gw_15 gw_16 rfl (by decide +kernel))
theorem k_L_law_7 {B L : Nat} {xs : Nat → Int} : OkopX (ScX B L xs) i_L_law 7 (o_as 1) 8 := OkopX.of (k_asn (j := 1) (by decide +kernel) (by decide))
theorem k_L_law_8 {B L : Nat} {xs : Nat → Int} : OkopX (ScX B L xs) i_L_law 8 (o_new 8 14) 11 := OkopX.of (k_new (idx := 10) fo_8 fd_8 (by decide) gw_653 gw_654 gw_10 (by decide +kernel))
theorem k_L_law_11 {B L : Nat} {xs : Nat → Int} : OkopX (ScX B L xs) i_L_law 11 (o_dup) 12 := OkopX.of (k_dup (by decide +kernel))
theorem k_L_law_12 {B L : Nat} {xs : Nat → Int} : OkopX (ScX B L xs) i_L_law 12 (o_callI S_X8_init) 15 := OkopX.of (k_callI (idx := 12) m_X8_init ⟨gw_657, gw_10, ⟨by decide, by decide, by decide +kernel⟩, by decide, by decide⟩ gw_655 gw_656 rfl (by decide +kernel))
theorem k_L_law_15 {B L : Nat} {xs : Nat → Int} : OkopX (ScX B L xs) i_L_law 15 (o_as 2) 16 := OkopX.of (k_asn (j := 2) (by decide +kernel) (by decide))
theorem k_L_law_16 {B L : Nat} {xs : Nat → Int} : OkopX (ScX B L xs) i_L_law 16 (o_c 0) 17 := OkopX.of (k_iconst (by decide +kernel))
theorem k_L_law_17 {B L : Nat} {xs : Nat → Int} : OkopX (ScX B L xs) i_L_law 17 (o_is 3) 18 := OkopX.of (k_isn (j := 3) (by decide +kernel) (by decide))
theorem k_L_law_18 {B L : Nat} {xs : Nat → Int} : OkopX (ScX B L xs) i_L_law 18 (o_il 3) 19 := OkopX.of (k_iln (j := 3) (by decide +kernel))
theorem k_L_law_19 {B L : Nat} {xs : Nat → Int} : OkopX (ScX B L xs) i_L_law 19 (o_al 0) 20 := OkopX.of (k_aln (j := 0) (by decide +kernel))
theorem k_L_law_20 {B L : Nat} {xs : Nat → Int} : OkopX (ScX B L xs) i_L_law 20 (o_slen B L) 21 := k_slen (by decide +kernel)
theorem k_L_law_21 {B L : Nat} {xs : Nat → Int} : OkopX (ScX B L xs) i_L_law 21 (o_c 6) 23 := OkopX.of (k_bipush (by decide +kernel) rfl)
theorem k_L_law_23 {B L : Nat} {xs : Nat → Int} : OkopX (ScX B L xs) i_L_law 23 (o_sub) 24 := OkopX.of (k_sub (by decide +kernel))
theorem k_L_law_24 {B L : Nat} {xs : Nat → Int} : OkopX (ScX B L xs) i_L_law 24 (o_igt 1161) 27 := OkopX.of (k_igt (off := 1137) (by decide +kernel) (by decide))
theorem k_L_law_27 {B L : Nat} {xs : Nat → Int} : OkopX (ScX B L xs) i_L_law 27 (o_al 0) 28 := OkopX.of (k_aln (j := 0) (by decide +kernel))
theorem k_L_law_28 {B L : Nat} {xs : Nat → Int} : OkopX (ScX B L xs) i_L_law 28 (o_il 3) 29 := OkopX.of (k_iln (j := 3) (by decide +kernel))
theorem k_L_law_29 {B L : Nat} {xs : Nat → Int} : OkopX (ScX B L xs) i_L_law 29 (o_scr B L xs) 30 := k_scr (by decide +kernel)
theorem k_L_law_30 {B L : Nat} {xs : Nat → Int} : OkopX (ScX B L xs) i_L_law 30 (o_c 31) 32 := OkopX.of (k_bipush (by decide +kernel) rfl)
theorem k_L_law_32 {B L : Nat} {xs : Nat → Int} : OkopX (ScX B L xs) i_L_law 32 (o_and) 33 := OkopX.of (k_and (by decide +kernel))
theorem k_L_law_33 {B L : Nat} {xs : Nat → Int} : OkopX (ScX B L xs) i_L_law 33 (o_sw 0 [164, 227, 270, 293, 326, 369, 412, 445, 488, 531, 544, 577, 620, 643, 677, 721, 755, 808, 841, 894, 917, 931, 954, 987, 1010, 1043, 1066, 1109, 1132] 1155) 164 := OkopX.of (k_sw (d := 1122) (hi := 28) (offs := #[131, 194, 237, 260, 293, 336, 379, 412, 455, 498, 511, 544, 587, 610, 644, 688, 722, 775, 808, 861, 884, 898, 921, 954, 977, 1010, 1033, 1076, 1099]) (len := 131) (by decide +kernel) (by decide) rfl (by decide) (by decide))
theorem k_L_law_164 {B L : Nat} {xs : Nat → Int} : OkopX (ScX B L xs) i_L_law 164 (o_al 1) 165 := OkopX.of (k_aln (j := 1) (by decide +kernel))
theorem k_L_law_165 {B L : Nat} {xs : Nat → Int} : OkopX (ScX B L xs) i_L_law 165 (o_al 0) 166 := OkopX.of (k_aln (j := 0) (by decide +kernel))
theorem k_L_law_166 {B L : Nat} {xs : Nat → Int} : OkopX (ScX B L xs) i_L_law 166 (o_il 3) 167 := OkopX.of (k_iln (j := 3) (by decide +kernel))
theorem k_L_law_167 {B L : Nat} {xs : Nat → Int} : OkopX (ScX B L xs) i_L_law 167 (o_c 1) 168 := OkopX.of (k_iconst (by decide +kernel))
theorem k_L_law_168 {B L : Nat} {xs : Nat → Int} : OkopX (ScX B L xs) i_L_law 168 (o_add) 169 := OkopX.of (k_add (by decide +kernel))
theorem k_L_law_169 {B L : Nat} {xs : Nat → Int} : OkopX (ScX B L xs) i_L_law 169 (o_scr B L xs) 170 := k_scr (by decide +kernel)
theorem k_L_law_170 {B L : Nat} {xs : Nat → Int} : OkopX (ScX B L xs) i_L_law 170 (o_al 0) 171 := OkopX.of (k_aln (j := 0) (by decide +kernel))
theorem k_L_law_171 {B L : Nat} {xs : Nat → Int} : OkopX (ScX B L xs) i_L_law 171 (o_il 3) 172 := OkopX.of (k_iln (j := 3) (by decide +kernel))
theorem k_L_law_172 {B L : Nat} {xs : Nat → Int} : OkopX (ScX B L xs) i_L_law 172 (o_c 2) 173 := OkopX.of (k_iconst (by decide +kernel))
theorem k_L_law_173 {B L : Nat} {xs : Nat → Int} : OkopX (ScX B L xs) i_L_law 173 (o_add) 174 := OkopX.of (k_add (by decide +kernel))
theorem k_L_law_174 {B L : Nat} {xs : Nat → Int} : OkopX (ScX B L xs) i_L_law 174 (o_scr B L xs) 175 := k_scr (by decide +kernel)
theorem k_L_law_175 {B L : Nat} {xs : Nat → Int} : OkopX (ScX B L xs) i_L_law 175 (o_al 0) 176 := OkopX.of (k_aln (j := 0) (by decide +kernel))
theorem k_L_law_176 {B L : Nat} {xs : Nat → Int} : OkopX (ScX B L xs) i_L_law 176 (o_il 3) 177 := OkopX.of (k_iln (j := 3) (by decide +kernel))
theorem k_L_law_177 {B L : Nat} {xs : Nat → Int} : OkopX (ScX B L xs) i_L_law 177 (o_c 3) 178 := OkopX.of (k_iconst (by decide +kernel))
theorem k_L_law_178 {B L : Nat} {xs : Nat → Int} : OkopX (ScX B L xs) i_L_law 178 (o_add) 179 := OkopX.of (k_add (by decide +kernel))
theorem k_L_law_179 {B L : Nat} {xs : Nat → Int} : OkopX (ScX B L xs) i_L_law 179 (o_scr B L xs) 180 := k_scr (by decide +kernel)
theorem k_L_law_180 {B L : Nat} {xs : Nat → Int} : OkopX (ScX B L xs) i_L_law 180 (o_al 0) 181 := OkopX.of (k_aln (j := 0) (by decide +kernel))
theorem k_L_law_181 {B L : Nat} {xs : Nat → Int} : OkopX (ScX B L xs) i_L_law 181 (o_il 3) 182 := OkopX.of (k_iln (j := 3) (by decide +kernel))
theorem k_L_law_182 {B L : Nat} {xs : Nat → Int} : OkopX (ScX B L xs) i_L_law 182 (o_c 4) 183 := OkopX.of (k_iconst (by decide +kernel))
theorem k_L_law_183 {B L : Nat} {xs : Nat → Int} : OkopX (ScX B L xs) i_L_law 183 (o_add) 184 := OkopX.of (k_add (by decide +kernel))
theorem k_L_law_184 {B L : Nat} {xs : Nat → Int} : OkopX (ScX B L xs) i_L_law 184 (o_scr B L xs) 185 := k_scr (by decide +kernel)
theorem k_L_law_185 {B L : Nat} {xs : Nat → Int} : OkopX (ScX B L xs) i_L_law 185 (o_al 0) 186 := OkopX.of (k_aln (j := 0) (by decide +kernel))
theorem k_L_law_186 {B L : Nat} {xs : Nat → Int} : OkopX (ScX B L xs) i_L_law 186 (o_il 3) 187 := OkopX.of (k_iln (j := 3) (by decide +kernel))
theorem k_L_law_187 {B L : Nat} {xs : Nat → Int} : OkopX (ScX B L xs) i_L_law 187 (o_c 5) 188 := OkopX.of (k_iconst (by decide +kernel))
theorem k_L_law_188 {B L : Nat} {xs : Nat → Int} : OkopX (ScX B L xs) i_L_law 188 (o_add) 189 := OkopX.of (k_add (by decide +kernel))
theorem k_L_law_189 {B L : Nat} {xs : Nat → Int} : OkopX (ScX B L xs) i_L_law 189 (o_scr B L xs) 190 := k_scr (by decide +kernel)
theorem k_L_law_190 {B L : Nat} {xs : Nat → Int} : OkopX (ScX B L xs) i_L_law 190 (o_callV 7 5 T_X7_measure) 193 := OkopX.of (k_callV (idx := 13) (r0 := (RX7, TX7, 6)) m_X7_measure ⟨gw_277, gw_1, ⟨by decide, by decide, by decide +kernel⟩, by decide, by decide⟩ rfl gw_274 gw_275 gw_276 (by decide +kernel))
theorem k_L_law_193 {B L : Nat} {xs : Nat → Int} : OkopX (ScX B L xs) i_L_law 193 (o_al 2) 194 := OkopX.of (k_aln (j := 2) (by decide +kernel))
theorem k_L_law_194 {B L : Nat} {xs : Nat → Int} : OkopX (ScX B L xs) i_L_law 194 (o_al 0) 195 := OkopX.of (k_aln (j := 0) (by decide +kernel))
theorem k_L_law_195 {B L : Nat} {xs : Nat → Int} : OkopX (ScX B L xs) i_L_law 195 (o_il 3) 196 := OkopX.of (k_iln (j := 3) (by decide +kernel))
theorem k_L_law_196 {B L : Nat} {xs : Nat → Int} : OkopX (ScX B L xs) i_L_law 196 (o_c 1) 197 := OkopX.of (k_iconst (by decide +kernel))
theorem k_L_law_197 {B L : Nat} {xs : Nat → Int} : OkopX (ScX B L xs) i_L_law 197 (o_add) 198 := OkopX.of (k_add (by decide +kernel))
theorem k_L_law_198 {B L : Nat} {xs : Nat → Int} : OkopX (ScX B L xs) i_L_law 198 (o_scr B L xs) 199 := k_scr (by decide +kernel)
theorem k_L_law_199 {B L : Nat} {xs : Nat → Int} : OkopX (ScX B L xs) i_L_law 199 (o_al 0) 200 := OkopX.of (k_aln (j := 0) (by decide +kernel))
theorem k_L_law_200 {B L : Nat} {xs : Nat → Int} : OkopX (ScX B L xs) i_L_law 200 (o_il 3) 201 := OkopX.of (k_iln (j := 3) (by decide +kernel))
theorem k_L_law_201 {B L : Nat} {xs : Nat → Int} : OkopX (ScX B L xs) i_L_law 201 (o_c 2) 202 := OkopX.of (k_iconst (by decide +kernel))
theorem k_L_law_202 {B L : Nat} {xs : Nat → Int} : OkopX (ScX B L xs) i_L_law 202 (o_add) 203 := OkopX.of (k_add (by decide +kernel))
theorem k_L_law_203 {B L : Nat} {xs : Nat → Int} : OkopX (ScX B L xs) i_L_law 203 (o_scr B L xs) 204 := k_scr (by decide +kernel)
theorem k_L_law_204 {B L : Nat} {xs : Nat → Int} : OkopX (ScX B L xs) i_L_law 204 (o_al 0) 205 := OkopX.of (k_aln (j := 0) (by decide +kernel))
theorem k_L_law_205 {B L : Nat} {xs : Nat → Int} : OkopX (ScX B L xs) i_L_law 205 (o_il 3) 206 := OkopX.of (k_iln (j := 3) (by decide +kernel))
theorem k_L_law_206 {B L : Nat} {xs : Nat → Int} : OkopX (ScX B L xs) i_L_law 206 (o_c 3) 207 := OkopX.of (k_iconst (by decide +kernel))
theorem k_L_law_207 {B L : Nat} {xs : Nat → Int} : OkopX (ScX B L xs) i_L_law 207 (o_add) 208 := OkopX.of (k_add (by decide +kernel))
theorem k_L_law_208 {B L : Nat} {xs : Nat → Int} : OkopX (ScX B L xs) i_L_law 208 (o_scr B L xs) 209 := k_scr (by decide +kernel)
theorem k_L_law_209 {B L : Nat} {xs : Nat → Int} : OkopX (ScX B L xs) i_L_law 209 (o_al 0) 210 := OkopX.of (k_aln (j := 0) (by decide +kernel))
theorem k_L_law_210 {B L : Nat} {xs : Nat → Int} : OkopX (ScX B L xs) i_L_law 210 (o_il 3) 211 := OkopX.of (k_iln (j := 3) (by decide +kernel))
theorem k_L_law_211 {B L : Nat} {xs : Nat → Int} : OkopX (ScX B L xs) i_L_law 211 (o_c 4) 212 := OkopX.of (k_iconst (by decide +kernel))
theorem k_L_law_212 {B L : Nat} {xs : Nat → Int} : OkopX (ScX B L xs) i_L_law 212 (o_add) 213 := OkopX.of (k_add (by decide +kernel))
theorem k_L_law_213 {B L : Nat} {xs : Nat → Int} : OkopX (ScX B L xs) i_L_law 213 (o_scr B L xs) 214 := k_scr (by decide +kernel)
theorem k_L_law_214 {B L : Nat} {xs : Nat → Int} : OkopX (ScX B L xs) i_L_law 214 (o_al 0) 215 := OkopX.of (k_aln (j := 0) (by decide +kernel))
theorem k_L_law_215 {B L : Nat} {xs : Nat → Int} : OkopX (ScX B L xs) i_L_law 215 (o_il 3) 216 := OkopX.of (k_iln (j := 3) (by decide +kernel))
theorem k_L_law_216 {B L : Nat} {xs : Nat → Int} : OkopX (ScX B L xs) i_L_law 216 (o_c 5) 217 := OkopX.of (k_iconst (by decide +kernel))
theorem k_L_law_217 {B L : Nat} {xs : Nat → Int} : OkopX (ScX B L xs) i_L_law 217 (o_add) 218 := OkopX.of (k_add (by decide +kernel))
theorem k_L_law_218 {B L : Nat} {xs : Nat → Int} : OkopX (ScX B L xs) i_L_law 218 (o_scr B L xs) 219 := k_scr (by decide +kernel)
theorem k_L_law_219 {B L : Nat} {xs : Nat → Int} : OkopX (ScX B L xs) i_L_law 219 (o_callV 8 5 T_X8_measure) 222 := OkopX.of (k_callV (idx := 17) (r0 := (RX8, TX8, 14)) m_X8_measure ⟨gw_715, gw_10, ⟨by decide, by decide, by decide +kernel⟩, by decide, by decide⟩ rfl gw_712 gw_713 gw_714 (by decide +kernel))
theorem k_L_law_222 {B L : Nat} {xs : Nat → Int} : OkopX (ScX B L xs) i_L_law 222 (o_ieq 1155) 225 := OkopX.of (k_ieq (off := 933) (by decide +kernel) (by decide))
theorem k_L_law_225 {B L : Nat} {xs : Nat → Int} : OkopX (ScX B L xs) i_L_law 225 (o_c 0) 226 := OkopX.of (k_iconst (by decide +kernel))
theorem k_L_law_226 {B L : Nat} {xs : Nat → Int} : OkopX (ScX B L xs) i_L_law 226 (o_zret) 227 := OkopX.of (k_zret (by decide +kernel) rfl)
theorem k_L_law_227 {B L : Nat} {xs : Nat → Int} : OkopX (ScX B L xs) i_L_law 227 (o_al 1) 228 := OkopX.of (k_aln (j := 1) (by decide +kernel))
theorem k_L_law_228 {B L : Nat} {xs : Nat → Int} : OkopX (ScX B L xs) i_L_law 228 (o_al 0) 229 := OkopX.of (k_aln (j := 0) (by decide +kernel))
theorem k_L_law_229 {B L : Nat} {xs : Nat → Int} : OkopX (ScX B L xs) i_L_law 229 (o_il 3) 230 := OkopX.of (k_iln (j := 3) (by decide +kernel))
theorem k_L_law_230 {B L : Nat} {xs : Nat → Int} : OkopX (ScX B L xs) i_L_law 230 (o_c 1) 231 := OkopX.of (k_iconst (by decide +kernel))
theorem k_L_law_231 {B L : Nat} {xs : Nat → Int} : OkopX (ScX B L xs) i_L_law 231 (o_add) 232 := OkopX.of (k_add (by decide +kernel))
theorem k_L_law_232 {B L : Nat} {xs : Nat → Int} : OkopX (ScX B L xs) i_L_law 232 (o_scr B L xs) 233 := k_scr (by decide +kernel)
theorem k_L_law_233 {B L : Nat} {xs : Nat → Int} : OkopX (ScX B L xs) i_L_law 233 (o_al 0) 234 := OkopX.of (k_aln (j := 0) (by decide +kernel))
theorem k_L_law_234 {B L : Nat} {xs : Nat → Int} : OkopX (ScX B L xs) i_L_law 234 (o_il 3) 235 := OkopX.of (k_iln (j := 3) (by decide +kernel))
theorem k_L_law_235 {B L : Nat} {xs : Nat → Int} : OkopX (ScX B L xs) i_L_law 235 (o_c 2) 236 := OkopX.of (k_iconst (by decide +kernel))
theorem k_L_law_236 {B L : Nat} {xs : Nat → Int} : OkopX (ScX B L xs) i_L_law 236 (o_add) 237 := OkopX.of (k_add (by decide +kernel))
theorem k_L_law_237 {B L : Nat} {xs : Nat → Int} : OkopX (ScX B L xs) i_L_law 237 (o_scr B L xs) 238 := k_scr (by decide +kernel)
theorem k_L_law_238 {B L : Nat} {xs : Nat → Int} : OkopX (ScX B L xs) i_L_law 238 (o_al 0) 239 := OkopX.of (k_aln (j := 0) (by decide +kernel))
theorem k_L_law_239 {B L : Nat} {xs : Nat → Int} : OkopX (ScX B L xs) i_L_law 239 (o_il 3) 240 := OkopX.of (k_iln (j := 3) (by decide +kernel))
theorem k_L_law_240 {B L : Nat} {xs : Nat → Int} : OkopX (ScX B L xs) i_L_law 240 (o_c 3) 241 := OkopX.of (k_iconst (by decide +kernel))
theorem k_L_law_241 {B L : Nat} {xs : Nat → Int} : OkopX (ScX B L xs) i_L_law 241 (o_add) 242 := OkopX.of (k_add (by decide +kernel))
theorem k_L_law_242 {B L : Nat} {xs : Nat → Int} : OkopX (ScX B L xs) i_L_law 242 (o_scr B L xs) 243 := k_scr (by decide +kernel)
theorem k_L_law_243 {B L : Nat} {xs : Nat → Int} : OkopX (ScX B L xs) i_L_law 243 (o_callV 7 3 T_X7_book) 246 := OkopX.of (k_callV (idx := 18) (r0 := (RX7, TX7, 6)) m_X7_book ⟨gw_290, gw_1, ⟨by decide, by decide, by decide +kernel⟩, by decide, by decide⟩ rfl gw_287 gw_288 gw_289 (by decide +kernel))
theorem k_L_law_246 {B L : Nat} {xs : Nat → Int} : OkopX (ScX B L xs) i_L_law 246 (o_al 2) 247 := OkopX.of (k_aln (j := 2) (by decide +kernel))
theorem k_L_law_247 {B L : Nat} {xs : Nat → Int} : OkopX (ScX B L xs) i_L_law 247 (o_al 0) 248 := OkopX.of (k_aln (j := 0) (by decide +kernel))
theorem k_L_law_248 {B L : Nat} {xs : Nat → Int} : OkopX (ScX B L xs) i_L_law 248 (o_il 3) 249 := OkopX.of (k_iln (j := 3) (by decide +kernel))
theorem k_L_law_249 {B L : Nat} {xs : Nat → Int} : OkopX (ScX B L xs) i_L_law 249 (o_c 1) 250 := OkopX.of (k_iconst (by decide +kernel))
theorem k_L_law_250 {B L : Nat} {xs : Nat → Int} : OkopX (ScX B L xs) i_L_law 250 (o_add) 251 := OkopX.of (k_add (by decide +kernel))
theorem k_L_law_251 {B L : Nat} {xs : Nat → Int} : OkopX (ScX B L xs) i_L_law 251 (o_scr B L xs) 252 := k_scr (by decide +kernel)
theorem k_L_law_252 {B L : Nat} {xs : Nat → Int} : OkopX (ScX B L xs) i_L_law 252 (o_al 0) 253 := OkopX.of (k_aln (j := 0) (by decide +kernel))
theorem k_L_law_253 {B L : Nat} {xs : Nat → Int} : OkopX (ScX B L xs) i_L_law 253 (o_il 3) 254 := OkopX.of (k_iln (j := 3) (by decide +kernel))
theorem k_L_law_254 {B L : Nat} {xs : Nat → Int} : OkopX (ScX B L xs) i_L_law 254 (o_c 2) 255 := OkopX.of (k_iconst (by decide +kernel))
theorem k_L_law_255 {B L : Nat} {xs : Nat → Int} : OkopX (ScX B L xs) i_L_law 255 (o_add) 256 := OkopX.of (k_add (by decide +kernel))
theorem k_L_law_256 {B L : Nat} {xs : Nat → Int} : OkopX (ScX B L xs) i_L_law 256 (o_scr B L xs) 257 := k_scr (by decide +kernel)
theorem k_L_law_257 {B L : Nat} {xs : Nat → Int} : OkopX (ScX B L xs) i_L_law 257 (o_al 0) 258 := OkopX.of (k_aln (j := 0) (by decide +kernel))
theorem k_L_law_258 {B L : Nat} {xs : Nat → Int} : OkopX (ScX B L xs) i_L_law 258 (o_il 3) 259 := OkopX.of (k_iln (j := 3) (by decide +kernel))
theorem k_L_law_259 {B L : Nat} {xs : Nat → Int} : OkopX (ScX B L xs) i_L_law 259 (o_c 3) 260 := OkopX.of (k_iconst (by decide +kernel))
theorem k_L_law_260 {B L : Nat} {xs : Nat → Int} : OkopX (ScX B L xs) i_L_law 260 (o_add) 261 := OkopX.of (k_add (by decide +kernel))
theorem k_L_law_261 {B L : Nat} {xs : Nat → Int} : OkopX (ScX B L xs) i_L_law 261 (o_scr B L xs) 262 := k_scr (by decide +kernel)
theorem k_L_law_262 {B L : Nat} {xs : Nat → Int} : OkopX (ScX B L xs) i_L_law 262 (o_callV 8 3 T_X8_book) 265 := OkopX.of (k_callV (idx := 22) (r0 := (RX8, TX8, 14)) m_X8_book ⟨gw_728, gw_10, ⟨by decide, by decide, by decide +kernel⟩, by decide, by decide⟩ rfl gw_725 gw_726 gw_727 (by decide +kernel))
theorem k_L_law_265 {B L : Nat} {xs : Nat → Int} : OkopX (ScX B L xs) i_L_law 265 (o_ieq 1155) 268 := OkopX.of (k_ieq (off := 890) (by decide +kernel) (by decide))
theorem k_L_law_268 {B L : Nat} {xs : Nat → Int} : OkopX (ScX B L xs) i_L_law 268 (o_c 0) 269 := OkopX.of (k_iconst (by decide +kernel))
theorem k_L_law_269 {B L : Nat} {xs : Nat → Int} : OkopX (ScX B L xs) i_L_law 269 (o_zret) 270 := OkopX.of (k_zret (by decide +kernel) rfl)
theorem k_L_law_270 {B L : Nat} {xs : Nat → Int} : OkopX (ScX B L xs) i_L_law 270 (o_al 1) 271 := OkopX.of (k_aln (j := 1) (by decide +kernel))
theorem k_L_law_271 {B L : Nat} {xs : Nat → Int} : OkopX (ScX B L xs) i_L_law 271 (o_al 0) 272 := OkopX.of (k_aln (j := 0) (by decide +kernel))
theorem k_L_law_272 {B L : Nat} {xs : Nat → Int} : OkopX (ScX B L xs) i_L_law 272 (o_il 3) 273 := OkopX.of (k_iln (j := 3) (by decide +kernel))
theorem k_L_law_273 {B L : Nat} {xs : Nat → Int} : OkopX (ScX B L xs) i_L_law 273 (o_c 1) 274 := OkopX.of (k_iconst (by decide +kernel))
theorem k_L_law_274 {B L : Nat} {xs : Nat → Int} : OkopX (ScX B L xs) i_L_law 274 (o_add) 275 := OkopX.of (k_add (by decide +kernel))
theorem k_L_law_275 {B L : Nat} {xs : Nat → Int} : OkopX (ScX B L xs) i_L_law 275 (o_scr B L xs) 276 := k_scr (by decide +kernel)
theorem k_L_law_276 {B L : Nat} {xs : Nat → Int} : OkopX (ScX B L xs) i_L_law 276 (o_callV 7 1 T_X7_tear) 279 := OkopX.of (k_callV (idx := 23) (r0 := (RX7, TX7, 6)) m_X7_tear ⟨gw_307, gw_1, ⟨by decide, by decide, by decide +kernel⟩, by decide, by decide⟩ rfl gw_304 gw_305 gw_306 (by decide +kernel))
theorem k_L_law_279 {B L : Nat} {xs : Nat → Int} : OkopX (ScX B L xs) i_L_law 279 (o_al 2) 280 := OkopX.of (k_aln (j := 2) (by decide +kernel))
theorem k_L_law_280 {B L : Nat} {xs : Nat → Int} : OkopX (ScX B L xs) i_L_law 280 (o_al 0) 281 := OkopX.of (k_aln (j := 0) (by decide +kernel))
theorem k_L_law_281 {B L : Nat} {xs : Nat → Int} : OkopX (ScX B L xs) i_L_law 281 (o_il 3) 282 := OkopX.of (k_iln (j := 3) (by decide +kernel))
theorem k_L_law_282 {B L : Nat} {xs : Nat → Int} : OkopX (ScX B L xs) i_L_law 282 (o_c 1) 283 := OkopX.of (k_iconst (by decide +kernel))
theorem k_L_law_283 {B L : Nat} {xs : Nat → Int} : OkopX (ScX B L xs) i_L_law 283 (o_add) 284 := OkopX.of (k_add (by decide +kernel))
theorem k_L_law_284 {B L : Nat} {xs : Nat → Int} : OkopX (ScX B L xs) i_L_law 284 (o_scr B L xs) 285 := k_scr (by decide +kernel)
theorem k_L_law_285 {B L : Nat} {xs : Nat → Int} : OkopX (ScX B L xs) i_L_law 285 (o_callV 8 1 T_X8_tear) 288 := OkopX.of (k_callV (idx := 27) (r0 := (RX8, TX8, 14)) m_X8_tear ⟨gw_736, gw_10, ⟨by decide, by decide, by decide +kernel⟩, by decide, by decide⟩ rfl gw_733 gw_734 gw_735 (by decide +kernel))
theorem k_L_law_288 {B L : Nat} {xs : Nat → Int} : OkopX (ScX B L xs) i_L_law 288 (o_ieq 1155) 291 := OkopX.of (k_ieq (off := 867) (by decide +kernel) (by decide))
theorem k_L_law_291 {B L : Nat} {xs : Nat → Int} : OkopX (ScX B L xs) i_L_law 291 (o_c 0) 292 := OkopX.of (k_iconst (by decide +kernel))
theorem k_L_law_292 {B L : Nat} {xs : Nat → Int} : OkopX (ScX B L xs) i_L_law 292 (o_zret) 293 := OkopX.of (k_zret (by decide +kernel) rfl)
theorem k_L_law_293 {B L : Nat} {xs : Nat → Int} : OkopX (ScX B L xs) i_L_law 293 (o_al 1) 294 := OkopX.of (k_aln (j := 1) (by decide +kernel))
theorem k_L_law_294 {B L : Nat} {xs : Nat → Int} : OkopX (ScX B L xs) i_L_law 294 (o_al 0) 295 := OkopX.of (k_aln (j := 0) (by decide +kernel))
theorem k_L_law_295 {B L : Nat} {xs : Nat → Int} : OkopX (ScX B L xs) i_L_law 295 (o_il 3) 296 := OkopX.of (k_iln (j := 3) (by decide +kernel))
theorem k_L_law_296 {B L : Nat} {xs : Nat → Int} : OkopX (ScX B L xs) i_L_law 296 (o_c 1) 297 := OkopX.of (k_iconst (by decide +kernel))
theorem k_L_law_297 {B L : Nat} {xs : Nat → Int} : OkopX (ScX B L xs) i_L_law 297 (o_add) 298 := OkopX.of (k_add (by decide +kernel))
theorem k_L_law_298 {B L : Nat} {xs : Nat → Int} : OkopX (ScX B L xs) i_L_law 298 (o_scr B L xs) 299 := k_scr (by decide +kernel)
theorem k_L_law_299 {B L : Nat} {xs : Nat → Int} : OkopX (ScX B L xs) i_L_law 299 (o_al 0) 300 := OkopX.of (k_aln (j := 0) (by decide +kernel))
theorem k_L_law_300 {B L : Nat} {xs : Nat → Int} : OkopX (ScX B L xs) i_L_law 300 (o_il 3) 301 := OkopX.of (k_iln (j := 3) (by decide +kernel))
theorem k_L_law_301 {B L : Nat} {xs : Nat → Int} : OkopX (ScX B L xs) i_L_law 301 (o_c 2) 302 := OkopX.of (k_iconst (by decide +kernel))
theorem k_L_law_302 {B L : Nat} {xs : Nat → Int} : OkopX (ScX B L xs) i_L_law 302 (o_add) 303 := OkopX.of (k_add (by decide +kernel))
theorem k_L_law_303 {B L : Nat} {xs : Nat → Int} : OkopX (ScX B L xs) i_L_law 303 (o_scr B L xs) 304 := k_scr (by decide +kernel)
theorem k_L_law_304 {B L : Nat} {xs : Nat → Int} : OkopX (ScX B L xs) i_L_law 304 (o_callV 7 2 T_X7_of) 307 := OkopX.of (k_callV (idx := 28) (r0 := (RX7, TX7, 6)) m_X7_of ⟨gw_311, gw_1, ⟨by decide, by decide, by decide +kernel⟩, by decide, by decide⟩ rfl gw_308 gw_309 gw_310 (by decide +kernel))
theorem k_L_law_307 {B L : Nat} {xs : Nat → Int} : OkopX (ScX B L xs) i_L_law 307 (o_al 2) 308 := OkopX.of (k_aln (j := 2) (by decide +kernel))
theorem k_L_law_308 {B L : Nat} {xs : Nat → Int} : OkopX (ScX B L xs) i_L_law 308 (o_al 0) 309 := OkopX.of (k_aln (j := 0) (by decide +kernel))
theorem k_L_law_309 {B L : Nat} {xs : Nat → Int} : OkopX (ScX B L xs) i_L_law 309 (o_il 3) 310 := OkopX.of (k_iln (j := 3) (by decide +kernel))
theorem k_L_law_310 {B L : Nat} {xs : Nat → Int} : OkopX (ScX B L xs) i_L_law 310 (o_c 1) 311 := OkopX.of (k_iconst (by decide +kernel))
theorem k_L_law_311 {B L : Nat} {xs : Nat → Int} : OkopX (ScX B L xs) i_L_law 311 (o_add) 312 := OkopX.of (k_add (by decide +kernel))
theorem k_L_law_312 {B L : Nat} {xs : Nat → Int} : OkopX (ScX B L xs) i_L_law 312 (o_scr B L xs) 313 := k_scr (by decide +kernel)
theorem k_L_law_313 {B L : Nat} {xs : Nat → Int} : OkopX (ScX B L xs) i_L_law 313 (o_al 0) 314 := OkopX.of (k_aln (j := 0) (by decide +kernel))
theorem k_L_law_314 {B L : Nat} {xs : Nat → Int} : OkopX (ScX B L xs) i_L_law 314 (o_il 3) 315 := OkopX.of (k_iln (j := 3) (by decide +kernel))
theorem k_L_law_315 {B L : Nat} {xs : Nat → Int} : OkopX (ScX B L xs) i_L_law 315 (o_c 2) 316 := OkopX.of (k_iconst (by decide +kernel))
theorem k_L_law_316 {B L : Nat} {xs : Nat → Int} : OkopX (ScX B L xs) i_L_law 316 (o_add) 317 := OkopX.of (k_add (by decide +kernel))
theorem k_L_law_317 {B L : Nat} {xs : Nat → Int} : OkopX (ScX B L xs) i_L_law 317 (o_scr B L xs) 318 := k_scr (by decide +kernel)
theorem k_L_law_318 {B L : Nat} {xs : Nat → Int} : OkopX (ScX B L xs) i_L_law 318 (o_callV 8 2 T_X8_of) 321 := OkopX.of (k_callV (idx := 32) (r0 := (RX8, TX8, 14)) m_X8_of ⟨gw_740, gw_10, ⟨by decide, by decide, by decide +kernel⟩, by decide, by decide⟩ rfl gw_737 gw_738 gw_739 (by decide +kernel))
theorem k_L_law_321 {B L : Nat} {xs : Nat → Int} : OkopX (ScX B L xs) i_L_law 321 (o_ieq 1155) 324 := OkopX.of (k_ieq (off := 834) (by decide +kernel) (by decide))
theorem k_L_law_324 {B L : Nat} {xs : Nat → Int} : OkopX (ScX B L xs) i_L_law 324 (o_c 0) 325 := OkopX.of (k_iconst (by decide +kernel))
theorem k_L_law_325 {B L : Nat} {xs : Nat → Int} : OkopX (ScX B L xs) i_L_law 325 (o_zret) 326 := OkopX.of (k_zret (by decide +kernel) rfl)
theorem k_L_law_326 {B L : Nat} {xs : Nat → Int} : OkopX (ScX B L xs) i_L_law 326 (o_al 1) 327 := OkopX.of (k_aln (j := 1) (by decide +kernel))
theorem k_L_law_327 {B L : Nat} {xs : Nat → Int} : OkopX (ScX B L xs) i_L_law 327 (o_al 0) 328 := OkopX.of (k_aln (j := 0) (by decide +kernel))
theorem k_L_law_328 {B L : Nat} {xs : Nat → Int} : OkopX (ScX B L xs) i_L_law 328 (o_il 3) 329 := OkopX.of (k_iln (j := 3) (by decide +kernel))
theorem k_L_law_329 {B L : Nat} {xs : Nat → Int} : OkopX (ScX B L xs) i_L_law 329 (o_c 1) 330 := OkopX.of (k_iconst (by decide +kernel))
theorem k_L_law_330 {B L : Nat} {xs : Nat → Int} : OkopX (ScX B L xs) i_L_law 330 (o_add) 331 := OkopX.of (k_add (by decide +kernel))
theorem k_L_law_331 {B L : Nat} {xs : Nat → Int} : OkopX (ScX B L xs) i_L_law 331 (o_scr B L xs) 332 := k_scr (by decide +kernel)
theorem k_L_law_332 {B L : Nat} {xs : Nat → Int} : OkopX (ScX B L xs) i_L_law 332 (o_al 0) 333 := OkopX.of (k_aln (j := 0) (by decide +kernel))
theorem k_L_law_333 {B L : Nat} {xs : Nat → Int} : OkopX (ScX B L xs) i_L_law 333 (o_il 3) 334 := OkopX.of (k_iln (j := 3) (by decide +kernel))
theorem k_L_law_334 {B L : Nat} {xs : Nat → Int} : OkopX (ScX B L xs) i_L_law 334 (o_c 2) 335 := OkopX.of (k_iconst (by decide +kernel))
theorem k_L_law_335 {B L : Nat} {xs : Nat → Int} : OkopX (ScX B L xs) i_L_law 335 (o_add) 336 := OkopX.of (k_add (by decide +kernel))
theorem k_L_law_336 {B L : Nat} {xs : Nat → Int} : OkopX (ScX B L xs) i_L_law 336 (o_scr B L xs) 337 := k_scr (by decide +kernel)
theorem k_L_law_337 {B L : Nat} {xs : Nat → Int} : OkopX (ScX B L xs) i_L_law 337 (o_al 0) 338 := OkopX.of (k_aln (j := 0) (by decide +kernel))
theorem k_L_law_338 {B L : Nat} {xs : Nat → Int} : OkopX (ScX B L xs) i_L_law 338 (o_il 3) 339 := OkopX.of (k_iln (j := 3) (by decide +kernel))
theorem k_L_law_339 {B L : Nat} {xs : Nat → Int} : OkopX (ScX B L xs) i_L_law 339 (o_c 3) 340 := OkopX.of (k_iconst (by decide +kernel))
theorem k_L_law_340 {B L : Nat} {xs : Nat → Int} : OkopX (ScX B L xs) i_L_law 340 (o_add) 341 := OkopX.of (k_add (by decide +kernel))
theorem k_L_law_341 {B L : Nat} {xs : Nat → Int} : OkopX (ScX B L xs) i_L_law 341 (o_scr B L xs) 342 := k_scr (by decide +kernel)
theorem k_L_law_342 {B L : Nat} {xs : Nat → Int} : OkopX (ScX B L xs) i_L_law 342 (o_callV 7 3 T_X7_share) 345 := OkopX.of (k_callV (idx := 33) (r0 := (RX7, TX7, 6)) m_X7_share ⟨gw_316, gw_1, ⟨by decide, by decide, by decide +kernel⟩, by decide, by decide⟩ rfl gw_313 gw_314 gw_315 (by decide +kernel))
theorem k_L_law_345 {B L : Nat} {xs : Nat → Int} : OkopX (ScX B L xs) i_L_law 345 (o_al 2) 346 := OkopX.of (k_aln (j := 2) (by decide +kernel))
theorem k_L_law_346 {B L : Nat} {xs : Nat → Int} : OkopX (ScX B L xs) i_L_law 346 (o_al 0) 347 := OkopX.of (k_aln (j := 0) (by decide +kernel))
theorem k_L_law_347 {B L : Nat} {xs : Nat → Int} : OkopX (ScX B L xs) i_L_law 347 (o_il 3) 348 := OkopX.of (k_iln (j := 3) (by decide +kernel))
theorem k_L_law_348 {B L : Nat} {xs : Nat → Int} : OkopX (ScX B L xs) i_L_law 348 (o_c 1) 349 := OkopX.of (k_iconst (by decide +kernel))
theorem k_L_law_349 {B L : Nat} {xs : Nat → Int} : OkopX (ScX B L xs) i_L_law 349 (o_add) 350 := OkopX.of (k_add (by decide +kernel))
theorem k_L_law_350 {B L : Nat} {xs : Nat → Int} : OkopX (ScX B L xs) i_L_law 350 (o_scr B L xs) 351 := k_scr (by decide +kernel)
theorem k_L_law_351 {B L : Nat} {xs : Nat → Int} : OkopX (ScX B L xs) i_L_law 351 (o_al 0) 352 := OkopX.of (k_aln (j := 0) (by decide +kernel))
theorem k_L_law_352 {B L : Nat} {xs : Nat → Int} : OkopX (ScX B L xs) i_L_law 352 (o_il 3) 353 := OkopX.of (k_iln (j := 3) (by decide +kernel))
theorem k_L_law_353 {B L : Nat} {xs : Nat → Int} : OkopX (ScX B L xs) i_L_law 353 (o_c 2) 354 := OkopX.of (k_iconst (by decide +kernel))
theorem k_L_law_354 {B L : Nat} {xs : Nat → Int} : OkopX (ScX B L xs) i_L_law 354 (o_add) 355 := OkopX.of (k_add (by decide +kernel))
theorem k_L_law_355 {B L : Nat} {xs : Nat → Int} : OkopX (ScX B L xs) i_L_law 355 (o_scr B L xs) 356 := k_scr (by decide +kernel)
theorem k_L_law_356 {B L : Nat} {xs : Nat → Int} : OkopX (ScX B L xs) i_L_law 356 (o_al 0) 357 := OkopX.of (k_aln (j := 0) (by decide +kernel))
theorem k_L_law_357 {B L : Nat} {xs : Nat → Int} : OkopX (ScX B L xs) i_L_law 357 (o_il 3) 358 := OkopX.of (k_iln (j := 3) (by decide +kernel))
theorem k_L_law_358 {B L : Nat} {xs : Nat → Int} : OkopX (ScX B L xs) i_L_law 358 (o_c 3) 359 := OkopX.of (k_iconst (by decide +kernel))
theorem k_L_law_359 {B L : Nat} {xs : Nat → Int} : OkopX (ScX B L xs) i_L_law 359 (o_add) 360 := OkopX.of (k_add (by decide +kernel))
theorem k_L_law_360 {B L : Nat} {xs : Nat → Int} : OkopX (ScX B L xs) i_L_law 360 (o_scr B L xs) 361 := k_scr (by decide +kernel)
theorem k_L_law_361 {B L : Nat} {xs : Nat → Int} : OkopX (ScX B L xs) i_L_law 361 (o_callV 8 3 T_X8_share) 364 := OkopX.of (k_callV (idx := 36) (r0 := (RX8, TX8, 14)) m_X8_share ⟨gw_745, gw_10, ⟨by decide, by decide, by decide +kernel⟩, by decide, by decide⟩ rfl gw_742 gw_743 gw_744 (by decide +kernel))
theorem k_L_law_364 {B L : Nat} {xs : Nat → Int} : OkopX (ScX B L xs) i_L_law 364 (o_ieq 1155) 367 := OkopX.of (k_ieq (off := 791) (by decide +kernel) (by decide))
theorem k_L_law_367 {B L : Nat} {xs : Nat → Int} : OkopX (ScX B L xs) i_L_law 367 (o_c 0) 368 := OkopX.of (k_iconst (by decide +kernel))
theorem k_L_law_368 {B L : Nat} {xs : Nat → Int} : OkopX (ScX B L xs) i_L_law 368 (o_zret) 369 := OkopX.of (k_zret (by decide +kernel) rfl)
theorem k_L_law_369 {B L : Nat} {xs : Nat → Int} : OkopX (ScX B L xs) i_L_law 369 (o_al 1) 370 := OkopX.of (k_aln (j := 1) (by decide +kernel))
theorem k_L_law_370 {B L : Nat} {xs : Nat → Int} : OkopX (ScX B L xs) i_L_law 370 (o_al 0) 371 := OkopX.of (k_aln (j := 0) (by decide +kernel))
theorem k_L_law_371 {B L : Nat} {xs : Nat → Int} : OkopX (ScX B L xs) i_L_law 371 (o_il 3) 372 := OkopX.of (k_iln (j := 3) (by decide +kernel))
theorem k_L_law_372 {B L : Nat} {xs : Nat → Int} : OkopX (ScX B L xs) i_L_law 372 (o_c 1) 373 := OkopX.of (k_iconst (by decide +kernel))
theorem k_L_law_373 {B L : Nat} {xs : Nat → Int} : OkopX (ScX B L xs) i_L_law 373 (o_add) 374 := OkopX.of (k_add (by decide +kernel))
theorem k_L_law_374 {B L : Nat} {xs : Nat → Int} : OkopX (ScX B L xs) i_L_law 374 (o_scr B L xs) 375 := k_scr (by decide +kernel)
theorem k_L_law_375 {B L : Nat} {xs : Nat → Int} : OkopX (ScX B L xs) i_L_law 375 (o_al 0) 376 := OkopX.of (k_aln (j := 0) (by decide +kernel))
theorem k_L_law_376 {B L : Nat} {xs : Nat → Int} : OkopX (ScX B L xs) i_L_law 376 (o_il 3) 377 := OkopX.of (k_iln (j := 3) (by decide +kernel))
theorem k_L_law_377 {B L : Nat} {xs : Nat → Int} : OkopX (ScX B L xs) i_L_law 377 (o_c 2) 378 := OkopX.of (k_iconst (by decide +kernel))
theorem k_L_law_378 {B L : Nat} {xs : Nat → Int} : OkopX (ScX B L xs) i_L_law 378 (o_add) 379 := OkopX.of (k_add (by decide +kernel))
theorem k_L_law_379 {B L : Nat} {xs : Nat → Int} : OkopX (ScX B L xs) i_L_law 379 (o_scr B L xs) 380 := k_scr (by decide +kernel)
theorem k_L_law_380 {B L : Nat} {xs : Nat → Int} : OkopX (ScX B L xs) i_L_law 380 (o_al 0) 381 := OkopX.of (k_aln (j := 0) (by decide +kernel))
theorem k_L_law_381 {B L : Nat} {xs : Nat → Int} : OkopX (ScX B L xs) i_L_law 381 (o_il 3) 382 := OkopX.of (k_iln (j := 3) (by decide +kernel))
theorem k_L_law_382 {B L : Nat} {xs : Nat → Int} : OkopX (ScX B L xs) i_L_law 382 (o_c 3) 383 := OkopX.of (k_iconst (by decide +kernel))
theorem k_L_law_383 {B L : Nat} {xs : Nat → Int} : OkopX (ScX B L xs) i_L_law 383 (o_add) 384 := OkopX.of (k_add (by decide +kernel))
theorem k_L_law_384 {B L : Nat} {xs : Nat → Int} : OkopX (ScX B L xs) i_L_law 384 (o_scr B L xs) 385 := k_scr (by decide +kernel)
theorem k_L_law_385 {B L : Nat} {xs : Nat → Int} : OkopX (ScX B L xs) i_L_law 385 (o_callV 7 3 T_X7_ends) 388 := OkopX.of (k_callV (idx := 37) (r0 := (RX7, TX7, 6)) m_X7_ends ⟨gw_323, gw_1, ⟨by decide, by decide, by decide +kernel⟩, by decide, by decide⟩ rfl gw_320 gw_321 gw_322 (by decide +kernel))
theorem k_L_law_388 {B L : Nat} {xs : Nat → Int} : OkopX (ScX B L xs) i_L_law 388 (o_al 2) 389 := OkopX.of (k_aln (j := 2) (by decide +kernel))
theorem k_L_law_389 {B L : Nat} {xs : Nat → Int} : OkopX (ScX B L xs) i_L_law 389 (o_al 0) 390 := OkopX.of (k_aln (j := 0) (by decide +kernel))
theorem k_L_law_390 {B L : Nat} {xs : Nat → Int} : OkopX (ScX B L xs) i_L_law 390 (o_il 3) 391 := OkopX.of (k_iln (j := 3) (by decide +kernel))
theorem k_L_law_391 {B L : Nat} {xs : Nat → Int} : OkopX (ScX B L xs) i_L_law 391 (o_c 1) 392 := OkopX.of (k_iconst (by decide +kernel))
theorem k_L_law_392 {B L : Nat} {xs : Nat → Int} : OkopX (ScX B L xs) i_L_law 392 (o_add) 393 := OkopX.of (k_add (by decide +kernel))
theorem k_L_law_393 {B L : Nat} {xs : Nat → Int} : OkopX (ScX B L xs) i_L_law 393 (o_scr B L xs) 394 := k_scr (by decide +kernel)
theorem k_L_law_394 {B L : Nat} {xs : Nat → Int} : OkopX (ScX B L xs) i_L_law 394 (o_al 0) 395 := OkopX.of (k_aln (j := 0) (by decide +kernel))
theorem k_L_law_395 {B L : Nat} {xs : Nat → Int} : OkopX (ScX B L xs) i_L_law 395 (o_il 3) 396 := OkopX.of (k_iln (j := 3) (by decide +kernel))
theorem k_L_law_396 {B L : Nat} {xs : Nat → Int} : OkopX (ScX B L xs) i_L_law 396 (o_c 2) 397 := OkopX.of (k_iconst (by decide +kernel))
theorem k_L_law_397 {B L : Nat} {xs : Nat → Int} : OkopX (ScX B L xs) i_L_law 397 (o_add) 398 := OkopX.of (k_add (by decide +kernel))
theorem k_L_law_398 {B L : Nat} {xs : Nat → Int} : OkopX (ScX B L xs) i_L_law 398 (o_scr B L xs) 399 := k_scr (by decide +kernel)
theorem k_L_law_399 {B L : Nat} {xs : Nat → Int} : OkopX (ScX B L xs) i_L_law 399 (o_al 0) 400 := OkopX.of (k_aln (j := 0) (by decide +kernel))
theorem k_L_law_400 {B L : Nat} {xs : Nat → Int} : OkopX (ScX B L xs) i_L_law 400 (o_il 3) 401 := OkopX.of (k_iln (j := 3) (by decide +kernel))
theorem k_L_law_401 {B L : Nat} {xs : Nat → Int} : OkopX (ScX B L xs) i_L_law 401 (o_c 3) 402 := OkopX.of (k_iconst (by decide +kernel))
theorem k_L_law_402 {B L : Nat} {xs : Nat → Int} : OkopX (ScX B L xs) i_L_law 402 (o_add) 403 := OkopX.of (k_add (by decide +kernel))
theorem k_L_law_403 {B L : Nat} {xs : Nat → Int} : OkopX (ScX B L xs) i_L_law 403 (o_scr B L xs) 404 := k_scr (by decide +kernel)
theorem k_L_law_404 {B L : Nat} {xs : Nat → Int} : OkopX (ScX B L xs) i_L_law 404 (o_callV 8 3 T_X8_ends) 407 := OkopX.of (k_callV (idx := 40) (r0 := (RX8, TX8, 14)) m_X8_ends ⟨gw_752, gw_10, ⟨by decide, by decide, by decide +kernel⟩, by decide, by decide⟩ rfl gw_749 gw_750 gw_751 (by decide +kernel))
theorem k_L_law_407 {B L : Nat} {xs : Nat → Int} : OkopX (ScX B L xs) i_L_law 407 (o_ieq 1155) 410 := OkopX.of (k_ieq (off := 748) (by decide +kernel) (by decide))
theorem k_L_law_410 {B L : Nat} {xs : Nat → Int} : OkopX (ScX B L xs) i_L_law 410 (o_c 0) 411 := OkopX.of (k_iconst (by decide +kernel))
theorem k_L_law_411 {B L : Nat} {xs : Nat → Int} : OkopX (ScX B L xs) i_L_law 411 (o_zret) 412 := OkopX.of (k_zret (by decide +kernel) rfl)
theorem k_L_law_412 {B L : Nat} {xs : Nat → Int} : OkopX (ScX B L xs) i_L_law 412 (o_al 1) 413 := OkopX.of (k_aln (j := 1) (by decide +kernel))
theorem k_L_law_413 {B L : Nat} {xs : Nat → Int} : OkopX (ScX B L xs) i_L_law 413 (o_al 0) 414 := OkopX.of (k_aln (j := 0) (by decide +kernel))
theorem k_L_law_414 {B L : Nat} {xs : Nat → Int} : OkopX (ScX B L xs) i_L_law 414 (o_il 3) 415 := OkopX.of (k_iln (j := 3) (by decide +kernel))
theorem k_L_law_415 {B L : Nat} {xs : Nat → Int} : OkopX (ScX B L xs) i_L_law 415 (o_c 1) 416 := OkopX.of (k_iconst (by decide +kernel))
theorem k_L_law_416 {B L : Nat} {xs : Nat → Int} : OkopX (ScX B L xs) i_L_law 416 (o_add) 417 := OkopX.of (k_add (by decide +kernel))
theorem k_L_law_417 {B L : Nat} {xs : Nat → Int} : OkopX (ScX B L xs) i_L_law 417 (o_scr B L xs) 418 := k_scr (by decide +kernel)
theorem k_L_law_418 {B L : Nat} {xs : Nat → Int} : OkopX (ScX B L xs) i_L_law 418 (o_al 0) 419 := OkopX.of (k_aln (j := 0) (by decide +kernel))
theorem k_L_law_419 {B L : Nat} {xs : Nat → Int} : OkopX (ScX B L xs) i_L_law 419 (o_il 3) 420 := OkopX.of (k_iln (j := 3) (by decide +kernel))
theorem k_L_law_420 {B L : Nat} {xs : Nat → Int} : OkopX (ScX B L xs) i_L_law 420 (o_c 2) 421 := OkopX.of (k_iconst (by decide +kernel))
theorem k_L_law_421 {B L : Nat} {xs : Nat → Int} : OkopX (ScX B L xs) i_L_law 421 (o_add) 422 := OkopX.of (k_add (by decide +kernel))
theorem k_L_law_422 {B L : Nat} {xs : Nat → Int} : OkopX (ScX B L xs) i_L_law 422 (o_scr B L xs) 423 := k_scr (by decide +kernel)
theorem k_L_law_423 {B L : Nat} {xs : Nat → Int} : OkopX (ScX B L xs) i_L_law 423 (o_callV 7 2 T_X7_chain) 426 := OkopX.of (k_callV (idx := 41) (r0 := (RX7, TX7, 6)) m_X7_chain ⟨gw_328, gw_1, ⟨by decide, by decide, by decide +kernel⟩, by decide, by decide⟩ rfl gw_325 gw_326 gw_327 (by decide +kernel))
theorem k_L_law_426 {B L : Nat} {xs : Nat → Int} : OkopX (ScX B L xs) i_L_law 426 (o_al 2) 427 := OkopX.of (k_aln (j := 2) (by decide +kernel))
theorem k_L_law_427 {B L : Nat} {xs : Nat → Int} : OkopX (ScX B L xs) i_L_law 427 (o_al 0) 428 := OkopX.of (k_aln (j := 0) (by decide +kernel))
theorem k_L_law_428 {B L : Nat} {xs : Nat → Int} : OkopX (ScX B L xs) i_L_law 428 (o_il 3) 429 := OkopX.of (k_iln (j := 3) (by decide +kernel))
theorem k_L_law_429 {B L : Nat} {xs : Nat → Int} : OkopX (ScX B L xs) i_L_law 429 (o_c 1) 430 := OkopX.of (k_iconst (by decide +kernel))
theorem k_L_law_430 {B L : Nat} {xs : Nat → Int} : OkopX (ScX B L xs) i_L_law 430 (o_add) 431 := OkopX.of (k_add (by decide +kernel))
theorem k_L_law_431 {B L : Nat} {xs : Nat → Int} : OkopX (ScX B L xs) i_L_law 431 (o_scr B L xs) 432 := k_scr (by decide +kernel)
theorem k_L_law_432 {B L : Nat} {xs : Nat → Int} : OkopX (ScX B L xs) i_L_law 432 (o_al 0) 433 := OkopX.of (k_aln (j := 0) (by decide +kernel))
theorem k_L_law_433 {B L : Nat} {xs : Nat → Int} : OkopX (ScX B L xs) i_L_law 433 (o_il 3) 434 := OkopX.of (k_iln (j := 3) (by decide +kernel))
theorem k_L_law_434 {B L : Nat} {xs : Nat → Int} : OkopX (ScX B L xs) i_L_law 434 (o_c 2) 435 := OkopX.of (k_iconst (by decide +kernel))
theorem k_L_law_435 {B L : Nat} {xs : Nat → Int} : OkopX (ScX B L xs) i_L_law 435 (o_add) 436 := OkopX.of (k_add (by decide +kernel))
theorem k_L_law_436 {B L : Nat} {xs : Nat → Int} : OkopX (ScX B L xs) i_L_law 436 (o_scr B L xs) 437 := k_scr (by decide +kernel)
theorem k_L_law_437 {B L : Nat} {xs : Nat → Int} : OkopX (ScX B L xs) i_L_law 437 (o_callV 8 2 T_X8_chain) 440 := OkopX.of (k_callV (idx := 44) (r0 := (RX8, TX8, 14)) m_X8_chain ⟨gw_757, gw_10, ⟨by decide, by decide, by decide +kernel⟩, by decide, by decide⟩ rfl gw_754 gw_755 gw_756 (by decide +kernel))
theorem k_L_law_440 {B L : Nat} {xs : Nat → Int} : OkopX (ScX B L xs) i_L_law 440 (o_ieq 1155) 443 := OkopX.of (k_ieq (off := 715) (by decide +kernel) (by decide))
theorem k_L_law_443 {B L : Nat} {xs : Nat → Int} : OkopX (ScX B L xs) i_L_law 443 (o_c 0) 444 := OkopX.of (k_iconst (by decide +kernel))
theorem k_L_law_444 {B L : Nat} {xs : Nat → Int} : OkopX (ScX B L xs) i_L_law 444 (o_zret) 445 := OkopX.of (k_zret (by decide +kernel) rfl)
theorem k_L_law_445 {B L : Nat} {xs : Nat → Int} : OkopX (ScX B L xs) i_L_law 445 (o_al 1) 446 := OkopX.of (k_aln (j := 1) (by decide +kernel))
theorem k_L_law_446 {B L : Nat} {xs : Nat → Int} : OkopX (ScX B L xs) i_L_law 446 (o_al 0) 447 := OkopX.of (k_aln (j := 0) (by decide +kernel))
theorem k_L_law_447 {B L : Nat} {xs : Nat → Int} : OkopX (ScX B L xs) i_L_law 447 (o_il 3) 448 := OkopX.of (k_iln (j := 3) (by decide +kernel))
theorem k_L_law_448 {B L : Nat} {xs : Nat → Int} : OkopX (ScX B L xs) i_L_law 448 (o_c 1) 449 := OkopX.of (k_iconst (by decide +kernel))
theorem k_L_law_449 {B L : Nat} {xs : Nat → Int} : OkopX (ScX B L xs) i_L_law 449 (o_add) 450 := OkopX.of (k_add (by decide +kernel))
theorem k_L_law_450 {B L : Nat} {xs : Nat → Int} : OkopX (ScX B L xs) i_L_law 450 (o_scr B L xs) 451 := k_scr (by decide +kernel)
theorem k_L_law_451 {B L : Nat} {xs : Nat → Int} : OkopX (ScX B L xs) i_L_law 451 (o_al 0) 452 := OkopX.of (k_aln (j := 0) (by decide +kernel))
theorem k_L_law_452 {B L : Nat} {xs : Nat → Int} : OkopX (ScX B L xs) i_L_law 452 (o_il 3) 453 := OkopX.of (k_iln (j := 3) (by decide +kernel))
theorem k_L_law_453 {B L : Nat} {xs : Nat → Int} : OkopX (ScX B L xs) i_L_law 453 (o_c 2) 454 := OkopX.of (k_iconst (by decide +kernel))
theorem k_L_law_454 {B L : Nat} {xs : Nat → Int} : OkopX (ScX B L xs) i_L_law 454 (o_add) 455 := OkopX.of (k_add (by decide +kernel))
theorem k_L_law_455 {B L : Nat} {xs : Nat → Int} : OkopX (ScX B L xs) i_L_law 455 (o_scr B L xs) 456 := k_scr (by decide +kernel)
theorem k_L_law_456 {B L : Nat} {xs : Nat → Int} : OkopX (ScX B L xs) i_L_law 456 (o_al 0) 457 := OkopX.of (k_aln (j := 0) (by decide +kernel))
theorem k_L_law_457 {B L : Nat} {xs : Nat → Int} : OkopX (ScX B L xs) i_L_law 457 (o_il 3) 458 := OkopX.of (k_iln (j := 3) (by decide +kernel))
theorem k_L_law_458 {B L : Nat} {xs : Nat → Int} : OkopX (ScX B L xs) i_L_law 458 (o_c 3) 459 := OkopX.of (k_iconst (by decide +kernel))
theorem k_L_law_459 {B L : Nat} {xs : Nat → Int} : OkopX (ScX B L xs) i_L_law 459 (o_add) 460 := OkopX.of (k_add (by decide +kernel))
theorem k_L_law_460 {B L : Nat} {xs : Nat → Int} : OkopX (ScX B L xs) i_L_law 460 (o_scr B L xs) 461 := k_scr (by decide +kernel)
theorem k_L_law_461 {B L : Nat} {xs : Nat → Int} : OkopX (ScX B L xs) i_L_law 461 (o_callV 7 3 T_X7_join) 464 := OkopX.of (k_callV (idx := 45) (r0 := (RX7, TX7, 6)) m_X7_join ⟨gw_337, gw_1, ⟨by decide, by decide, by decide +kernel⟩, by decide, by decide⟩ rfl gw_334 gw_335 gw_336 (by decide +kernel))
theorem k_L_law_464 {B L : Nat} {xs : Nat → Int} : OkopX (ScX B L xs) i_L_law 464 (o_al 2) 465 := OkopX.of (k_aln (j := 2) (by decide +kernel))
theorem k_L_law_465 {B L : Nat} {xs : Nat → Int} : OkopX (ScX B L xs) i_L_law 465 (o_al 0) 466 := OkopX.of (k_aln (j := 0) (by decide +kernel))
theorem k_L_law_466 {B L : Nat} {xs : Nat → Int} : OkopX (ScX B L xs) i_L_law 466 (o_il 3) 467 := OkopX.of (k_iln (j := 3) (by decide +kernel))
theorem k_L_law_467 {B L : Nat} {xs : Nat → Int} : OkopX (ScX B L xs) i_L_law 467 (o_c 1) 468 := OkopX.of (k_iconst (by decide +kernel))
theorem k_L_law_468 {B L : Nat} {xs : Nat → Int} : OkopX (ScX B L xs) i_L_law 468 (o_add) 469 := OkopX.of (k_add (by decide +kernel))
theorem k_L_law_469 {B L : Nat} {xs : Nat → Int} : OkopX (ScX B L xs) i_L_law 469 (o_scr B L xs) 470 := k_scr (by decide +kernel)
theorem k_L_law_470 {B L : Nat} {xs : Nat → Int} : OkopX (ScX B L xs) i_L_law 470 (o_al 0) 471 := OkopX.of (k_aln (j := 0) (by decide +kernel))
theorem k_L_law_471 {B L : Nat} {xs : Nat → Int} : OkopX (ScX B L xs) i_L_law 471 (o_il 3) 472 := OkopX.of (k_iln (j := 3) (by decide +kernel))
theorem k_L_law_472 {B L : Nat} {xs : Nat → Int} : OkopX (ScX B L xs) i_L_law 472 (o_c 2) 473 := OkopX.of (k_iconst (by decide +kernel))
theorem k_L_law_473 {B L : Nat} {xs : Nat → Int} : OkopX (ScX B L xs) i_L_law 473 (o_add) 474 := OkopX.of (k_add (by decide +kernel))
theorem k_L_law_474 {B L : Nat} {xs : Nat → Int} : OkopX (ScX B L xs) i_L_law 474 (o_scr B L xs) 475 := k_scr (by decide +kernel)
theorem k_L_law_475 {B L : Nat} {xs : Nat → Int} : OkopX (ScX B L xs) i_L_law 475 (o_al 0) 476 := OkopX.of (k_aln (j := 0) (by decide +kernel))
theorem k_L_law_476 {B L : Nat} {xs : Nat → Int} : OkopX (ScX B L xs) i_L_law 476 (o_il 3) 477 := OkopX.of (k_iln (j := 3) (by decide +kernel))
theorem k_L_law_477 {B L : Nat} {xs : Nat → Int} : OkopX (ScX B L xs) i_L_law 477 (o_c 3) 478 := OkopX.of (k_iconst (by decide +kernel))
theorem k_L_law_478 {B L : Nat} {xs : Nat → Int} : OkopX (ScX B L xs) i_L_law 478 (o_add) 479 := OkopX.of (k_add (by decide +kernel))
theorem k_L_law_479 {B L : Nat} {xs : Nat → Int} : OkopX (ScX B L xs) i_L_law 479 (o_scr B L xs) 480 := k_scr (by decide +kernel)
theorem k_L_law_480 {B L : Nat} {xs : Nat → Int} : OkopX (ScX B L xs) i_L_law 480 (o_callV 8 3 T_X8_join) 483 := OkopX.of (k_callV (idx := 48) (r0 := (RX8, TX8, 14)) m_X8_join ⟨gw_766, gw_10, ⟨by decide, by decide, by decide +kernel⟩, by decide, by decide⟩ rfl gw_763 gw_764 gw_765 (by decide +kernel))
theorem k_L_law_483 {B L : Nat} {xs : Nat → Int} : OkopX (ScX B L xs) i_L_law 483 (o_ieq 1155) 486 := OkopX.of (k_ieq (off := 672) (by decide +kernel) (by decide))
theorem k_L_law_486 {B L : Nat} {xs : Nat → Int} : OkopX (ScX B L xs) i_L_law 486 (o_c 0) 487 := OkopX.of (k_iconst (by decide +kernel))
theorem k_L_law_487 {B L : Nat} {xs : Nat → Int} : OkopX (ScX B L xs) i_L_law 487 (o_zret) 488 := OkopX.of (k_zret (by decide +kernel) rfl)
theorem k_L_law_488 {B L : Nat} {xs : Nat → Int} : OkopX (ScX B L xs) i_L_law 488 (o_al 1) 489 := OkopX.of (k_aln (j := 1) (by decide +kernel))
theorem k_L_law_489 {B L : Nat} {xs : Nat → Int} : OkopX (ScX B L xs) i_L_law 489 (o_al 0) 490 := OkopX.of (k_aln (j := 0) (by decide +kernel))
theorem k_L_law_490 {B L : Nat} {xs : Nat → Int} : OkopX (ScX B L xs) i_L_law 490 (o_il 3) 491 := OkopX.of (k_iln (j := 3) (by decide +kernel))
theorem k_L_law_491 {B L : Nat} {xs : Nat → Int} : OkopX (ScX B L xs) i_L_law 491 (o_c 1) 492 := OkopX.of (k_iconst (by decide +kernel))
theorem k_L_law_492 {B L : Nat} {xs : Nat → Int} : OkopX (ScX B L xs) i_L_law 492 (o_add) 493 := OkopX.of (k_add (by decide +kernel))
theorem k_L_law_493 {B L : Nat} {xs : Nat → Int} : OkopX (ScX B L xs) i_L_law 493 (o_scr B L xs) 494 := k_scr (by decide +kernel)
theorem k_L_law_494 {B L : Nat} {xs : Nat → Int} : OkopX (ScX B L xs) i_L_law 494 (o_al 0) 495 := OkopX.of (k_aln (j := 0) (by decide +kernel))
theorem k_L_law_495 {B L : Nat} {xs : Nat → Int} : OkopX (ScX B L xs) i_L_law 495 (o_il 3) 496 := OkopX.of (k_iln (j := 3) (by decide +kernel))
theorem k_L_law_496 {B L : Nat} {xs : Nat → Int} : OkopX (ScX B L xs) i_L_law 496 (o_c 2) 497 := OkopX.of (k_iconst (by decide +kernel))
theorem k_L_law_497 {B L : Nat} {xs : Nat → Int} : OkopX (ScX B L xs) i_L_law 497 (o_add) 498 := OkopX.of (k_add (by decide +kernel))
theorem k_L_law_498 {B L : Nat} {xs : Nat → Int} : OkopX (ScX B L xs) i_L_law 498 (o_scr B L xs) 499 := k_scr (by decide +kernel)
theorem k_L_law_499 {B L : Nat} {xs : Nat → Int} : OkopX (ScX B L xs) i_L_law 499 (o_al 0) 500 := OkopX.of (k_aln (j := 0) (by decide +kernel))
theorem k_L_law_500 {B L : Nat} {xs : Nat → Int} : OkopX (ScX B L xs) i_L_law 500 (o_il 3) 501 := OkopX.of (k_iln (j := 3) (by decide +kernel))
theorem k_L_law_501 {B L : Nat} {xs : Nat → Int} : OkopX (ScX B L xs) i_L_law 501 (o_c 3) 502 := OkopX.of (k_iconst (by decide +kernel))
theorem k_L_law_502 {B L : Nat} {xs : Nat → Int} : OkopX (ScX B L xs) i_L_law 502 (o_add) 503 := OkopX.of (k_add (by decide +kernel))
theorem k_L_law_503 {B L : Nat} {xs : Nat → Int} : OkopX (ScX B L xs) i_L_law 503 (o_scr B L xs) 504 := k_scr (by decide +kernel)
theorem k_L_law_504 {B L : Nat} {xs : Nat → Int} : OkopX (ScX B L xs) i_L_law 504 (o_callV 7 3 T_X7_round) 507 := OkopX.of (k_callV (idx := 49) (r0 := (RX7, TX7, 6)) m_X7_round ⟨gw_344, gw_1, ⟨by decide, by decide, by decide +kernel⟩, by decide, by decide⟩ rfl gw_341 gw_342 gw_343 (by decide +kernel))
theorem k_L_law_507 {B L : Nat} {xs : Nat → Int} : OkopX (ScX B L xs) i_L_law 507 (o_al 2) 508 := OkopX.of (k_aln (j := 2) (by decide +kernel))
theorem k_L_law_508 {B L : Nat} {xs : Nat → Int} : OkopX (ScX B L xs) i_L_law 508 (o_al 0) 509 := OkopX.of (k_aln (j := 0) (by decide +kernel))
theorem k_L_law_509 {B L : Nat} {xs : Nat → Int} : OkopX (ScX B L xs) i_L_law 509 (o_il 3) 510 := OkopX.of (k_iln (j := 3) (by decide +kernel))
theorem k_L_law_510 {B L : Nat} {xs : Nat → Int} : OkopX (ScX B L xs) i_L_law 510 (o_c 1) 511 := OkopX.of (k_iconst (by decide +kernel))
theorem k_L_law_511 {B L : Nat} {xs : Nat → Int} : OkopX (ScX B L xs) i_L_law 511 (o_add) 512 := OkopX.of (k_add (by decide +kernel))
theorem k_L_law_512 {B L : Nat} {xs : Nat → Int} : OkopX (ScX B L xs) i_L_law 512 (o_scr B L xs) 513 := k_scr (by decide +kernel)
theorem k_L_law_513 {B L : Nat} {xs : Nat → Int} : OkopX (ScX B L xs) i_L_law 513 (o_al 0) 514 := OkopX.of (k_aln (j := 0) (by decide +kernel))
theorem k_L_law_514 {B L : Nat} {xs : Nat → Int} : OkopX (ScX B L xs) i_L_law 514 (o_il 3) 515 := OkopX.of (k_iln (j := 3) (by decide +kernel))
theorem k_L_law_515 {B L : Nat} {xs : Nat → Int} : OkopX (ScX B L xs) i_L_law 515 (o_c 2) 516 := OkopX.of (k_iconst (by decide +kernel))
theorem k_L_law_516 {B L : Nat} {xs : Nat → Int} : OkopX (ScX B L xs) i_L_law 516 (o_add) 517 := OkopX.of (k_add (by decide +kernel))
theorem k_L_law_517 {B L : Nat} {xs : Nat → Int} : OkopX (ScX B L xs) i_L_law 517 (o_scr B L xs) 518 := k_scr (by decide +kernel)
theorem k_L_law_518 {B L : Nat} {xs : Nat → Int} : OkopX (ScX B L xs) i_L_law 518 (o_al 0) 519 := OkopX.of (k_aln (j := 0) (by decide +kernel))
theorem k_L_law_519 {B L : Nat} {xs : Nat → Int} : OkopX (ScX B L xs) i_L_law 519 (o_il 3) 520 := OkopX.of (k_iln (j := 3) (by decide +kernel))
theorem k_L_law_520 {B L : Nat} {xs : Nat → Int} : OkopX (ScX B L xs) i_L_law 520 (o_c 3) 521 := OkopX.of (k_iconst (by decide +kernel))
theorem k_L_law_521 {B L : Nat} {xs : Nat → Int} : OkopX (ScX B L xs) i_L_law 521 (o_add) 522 := OkopX.of (k_add (by decide +kernel))
theorem k_L_law_522 {B L : Nat} {xs : Nat → Int} : OkopX (ScX B L xs) i_L_law 522 (o_scr B L xs) 523 := k_scr (by decide +kernel)
theorem k_L_law_523 {B L : Nat} {xs : Nat → Int} : OkopX (ScX B L xs) i_L_law 523 (o_callV 8 3 T_X8_round) 526 := OkopX.of (k_callV (idx := 53) (r0 := (RX8, TX8, 14)) m_X8_round ⟨gw_773, gw_10, ⟨by decide, by decide, by decide +kernel⟩, by decide, by decide⟩ rfl gw_770 gw_771 gw_772 (by decide +kernel))
theorem k_L_law_526 {B L : Nat} {xs : Nat → Int} : OkopX (ScX B L xs) i_L_law 526 (o_ieq 1155) 529 := OkopX.of (k_ieq (off := 629) (by decide +kernel) (by decide))
theorem k_L_law_529 {B L : Nat} {xs : Nat → Int} : OkopX (ScX B L xs) i_L_law 529 (o_c 0) 530 := OkopX.of (k_iconst (by decide +kernel))
theorem k_L_law_530 {B L : Nat} {xs : Nat → Int} : OkopX (ScX B L xs) i_L_law 530 (o_zret) 531 := OkopX.of (k_zret (by decide +kernel) rfl)
theorem k_L_law_531 {B L : Nat} {xs : Nat → Int} : OkopX (ScX B L xs) i_L_law 531 (o_al 1) 532 := OkopX.of (k_aln (j := 1) (by decide +kernel))
theorem k_L_law_532 {B L : Nat} {xs : Nat → Int} : OkopX (ScX B L xs) i_L_law 532 (o_callV 7 0 T_X7_over) 535 := OkopX.of (k_callV (idx := 54) (r0 := (RX7, TX7, 6)) m_X7_over ⟨gw_363, gw_1, ⟨by decide, by decide, by decide +kernel⟩, by decide, by decide⟩ rfl gw_360 gw_361 gw_362 (by decide +kernel))
theorem k_L_law_535 {B L : Nat} {xs : Nat → Int} : OkopX (ScX B L xs) i_L_law 535 (o_al 2) 536 := OkopX.of (k_aln (j := 2) (by decide +kernel))
theorem k_L_law_536 {B L : Nat} {xs : Nat → Int} : OkopX (ScX B L xs) i_L_law 536 (o_callV 8 0 T_X8_over) 539 := OkopX.of (k_callV (idx := 58) (r0 := (RX8, TX8, 14)) m_X8_over ⟨gw_781, gw_10, ⟨by decide, by decide, by decide +kernel⟩, by decide, by decide⟩ rfl gw_778 gw_779 gw_780 (by decide +kernel))
theorem k_L_law_539 {B L : Nat} {xs : Nat → Int} : OkopX (ScX B L xs) i_L_law 539 (o_ieq 1155) 542 := OkopX.of (k_ieq (off := 616) (by decide +kernel) (by decide))
theorem k_L_law_542 {B L : Nat} {xs : Nat → Int} : OkopX (ScX B L xs) i_L_law 542 (o_c 0) 543 := OkopX.of (k_iconst (by decide +kernel))
theorem k_L_law_543 {B L : Nat} {xs : Nat → Int} : OkopX (ScX B L xs) i_L_law 543 (o_zret) 544 := OkopX.of (k_zret (by decide +kernel) rfl)
theorem k_L_law_544 {B L : Nat} {xs : Nat → Int} : OkopX (ScX B L xs) i_L_law 544 (o_al 1) 545 := OkopX.of (k_aln (j := 1) (by decide +kernel))
theorem k_L_law_545 {B L : Nat} {xs : Nat → Int} : OkopX (ScX B L xs) i_L_law 545 (o_al 0) 546 := OkopX.of (k_aln (j := 0) (by decide +kernel))
theorem k_L_law_546 {B L : Nat} {xs : Nat → Int} : OkopX (ScX B L xs) i_L_law 546 (o_il 3) 547 := OkopX.of (k_iln (j := 3) (by decide +kernel))
theorem k_L_law_547 {B L : Nat} {xs : Nat → Int} : OkopX (ScX B L xs) i_L_law 547 (o_c 1) 548 := OkopX.of (k_iconst (by decide +kernel))
theorem k_L_law_548 {B L : Nat} {xs : Nat → Int} : OkopX (ScX B L xs) i_L_law 548 (o_add) 549 := OkopX.of (k_add (by decide +kernel))
theorem k_L_law_549 {B L : Nat} {xs : Nat → Int} : OkopX (ScX B L xs) i_L_law 549 (o_scr B L xs) 550 := k_scr (by decide +kernel)
theorem k_L_law_550 {B L : Nat} {xs : Nat → Int} : OkopX (ScX B L xs) i_L_law 550 (o_al 0) 551 := OkopX.of (k_aln (j := 0) (by decide +kernel))
theorem k_L_law_551 {B L : Nat} {xs : Nat → Int} : OkopX (ScX B L xs) i_L_law 551 (o_il 3) 552 := OkopX.of (k_iln (j := 3) (by decide +kernel))
theorem k_L_law_552 {B L : Nat} {xs : Nat → Int} : OkopX (ScX B L xs) i_L_law 552 (o_c 2) 553 := OkopX.of (k_iconst (by decide +kernel))
theorem k_L_law_553 {B L : Nat} {xs : Nat → Int} : OkopX (ScX B L xs) i_L_law 553 (o_add) 554 := OkopX.of (k_add (by decide +kernel))
theorem k_L_law_554 {B L : Nat} {xs : Nat → Int} : OkopX (ScX B L xs) i_L_law 554 (o_scr B L xs) 555 := k_scr (by decide +kernel)
theorem k_L_law_555 {B L : Nat} {xs : Nat → Int} : OkopX (ScX B L xs) i_L_law 555 (o_callV 7 2 T_X7_worst) 558 := OkopX.of (k_callV (idx := 59) (r0 := (RX7, TX7, 6)) m_X7_worst ⟨gw_375, gw_1, ⟨by decide, by decide, by decide +kernel⟩, by decide, by decide⟩ rfl gw_372 gw_373 gw_374 (by decide +kernel))
theorem k_L_law_558 {B L : Nat} {xs : Nat → Int} : OkopX (ScX B L xs) i_L_law 558 (o_al 2) 559 := OkopX.of (k_aln (j := 2) (by decide +kernel))
theorem k_L_law_559 {B L : Nat} {xs : Nat → Int} : OkopX (ScX B L xs) i_L_law 559 (o_al 0) 560 := OkopX.of (k_aln (j := 0) (by decide +kernel))
theorem k_L_law_560 {B L : Nat} {xs : Nat → Int} : OkopX (ScX B L xs) i_L_law 560 (o_il 3) 561 := OkopX.of (k_iln (j := 3) (by decide +kernel))
theorem k_L_law_561 {B L : Nat} {xs : Nat → Int} : OkopX (ScX B L xs) i_L_law 561 (o_c 1) 562 := OkopX.of (k_iconst (by decide +kernel))
theorem k_L_law_562 {B L : Nat} {xs : Nat → Int} : OkopX (ScX B L xs) i_L_law 562 (o_add) 563 := OkopX.of (k_add (by decide +kernel))
theorem k_L_law_563 {B L : Nat} {xs : Nat → Int} : OkopX (ScX B L xs) i_L_law 563 (o_scr B L xs) 564 := k_scr (by decide +kernel)
theorem k_L_law_564 {B L : Nat} {xs : Nat → Int} : OkopX (ScX B L xs) i_L_law 564 (o_al 0) 565 := OkopX.of (k_aln (j := 0) (by decide +kernel))
theorem k_L_law_565 {B L : Nat} {xs : Nat → Int} : OkopX (ScX B L xs) i_L_law 565 (o_il 3) 566 := OkopX.of (k_iln (j := 3) (by decide +kernel))
theorem k_L_law_566 {B L : Nat} {xs : Nat → Int} : OkopX (ScX B L xs) i_L_law 566 (o_c 2) 567 := OkopX.of (k_iconst (by decide +kernel))
theorem k_L_law_567 {B L : Nat} {xs : Nat → Int} : OkopX (ScX B L xs) i_L_law 567 (o_add) 568 := OkopX.of (k_add (by decide +kernel))
theorem k_L_law_568 {B L : Nat} {xs : Nat → Int} : OkopX (ScX B L xs) i_L_law 568 (o_scr B L xs) 569 := k_scr (by decide +kernel)
theorem k_L_law_569 {B L : Nat} {xs : Nat → Int} : OkopX (ScX B L xs) i_L_law 569 (o_callV 8 2 T_X8_worst) 572 := OkopX.of (k_callV (idx := 62) (r0 := (RX8, TX8, 14)) m_X8_worst ⟨gw_801, gw_10, ⟨by decide, by decide, by decide +kernel⟩, by decide, by decide⟩ rfl gw_798 gw_799 gw_800 (by decide +kernel))
theorem k_L_law_572 {B L : Nat} {xs : Nat → Int} : OkopX (ScX B L xs) i_L_law 572 (o_ieq 1155) 575 := OkopX.of (k_ieq (off := 583) (by decide +kernel) (by decide))
theorem k_L_law_575 {B L : Nat} {xs : Nat → Int} : OkopX (ScX B L xs) i_L_law 575 (o_c 0) 576 := OkopX.of (k_iconst (by decide +kernel))
theorem k_L_law_576 {B L : Nat} {xs : Nat → Int} : OkopX (ScX B L xs) i_L_law 576 (o_zret) 577 := OkopX.of (k_zret (by decide +kernel) rfl)
theorem k_L_law_577 {B L : Nat} {xs : Nat → Int} : OkopX (ScX B L xs) i_L_law 577 (o_al 1) 578 := OkopX.of (k_aln (j := 1) (by decide +kernel))
theorem k_L_law_578 {B L : Nat} {xs : Nat → Int} : OkopX (ScX B L xs) i_L_law 578 (o_al 0) 579 := OkopX.of (k_aln (j := 0) (by decide +kernel))
theorem k_L_law_579 {B L : Nat} {xs : Nat → Int} : OkopX (ScX B L xs) i_L_law 579 (o_il 3) 580 := OkopX.of (k_iln (j := 3) (by decide +kernel))
theorem k_L_law_580 {B L : Nat} {xs : Nat → Int} : OkopX (ScX B L xs) i_L_law 580 (o_c 1) 581 := OkopX.of (k_iconst (by decide +kernel))
theorem k_L_law_581 {B L : Nat} {xs : Nat → Int} : OkopX (ScX B L xs) i_L_law 581 (o_add) 582 := OkopX.of (k_add (by decide +kernel))
theorem k_L_law_582 {B L : Nat} {xs : Nat → Int} : OkopX (ScX B L xs) i_L_law 582 (o_scr B L xs) 583 := k_scr (by decide +kernel)
theorem k_L_law_583 {B L : Nat} {xs : Nat → Int} : OkopX (ScX B L xs) i_L_law 583 (o_al 0) 584 := OkopX.of (k_aln (j := 0) (by decide +kernel))
theorem k_L_law_584 {B L : Nat} {xs : Nat → Int} : OkopX (ScX B L xs) i_L_law 584 (o_il 3) 585 := OkopX.of (k_iln (j := 3) (by decide +kernel))
theorem k_L_law_585 {B L : Nat} {xs : Nat → Int} : OkopX (ScX B L xs) i_L_law 585 (o_c 2) 586 := OkopX.of (k_iconst (by decide +kernel))
theorem k_L_law_586 {B L : Nat} {xs : Nat → Int} : OkopX (ScX B L xs) i_L_law 586 (o_add) 587 := OkopX.of (k_add (by decide +kernel))
theorem k_L_law_587 {B L : Nat} {xs : Nat → Int} : OkopX (ScX B L xs) i_L_law 587 (o_scr B L xs) 588 := k_scr (by decide +kernel)
theorem k_L_law_588 {B L : Nat} {xs : Nat → Int} : OkopX (ScX B L xs) i_L_law 588 (o_al 0) 589 := OkopX.of (k_aln (j := 0) (by decide +kernel))
theorem k_L_law_589 {B L : Nat} {xs : Nat → Int} : OkopX (ScX B L xs) i_L_law 589 (o_il 3) 590 := OkopX.of (k_iln (j := 3) (by decide +kernel))
theorem k_L_law_590 {B L : Nat} {xs : Nat → Int} : OkopX (ScX B L xs) i_L_law 590 (o_c 3) 591 := OkopX.of (k_iconst (by decide +kernel))
theorem k_L_law_591 {B L : Nat} {xs : Nat → Int} : OkopX (ScX B L xs) i_L_law 591 (o_add) 592 := OkopX.of (k_add (by decide +kernel))
theorem k_L_law_592 {B L : Nat} {xs : Nat → Int} : OkopX (ScX B L xs) i_L_law 592 (o_scr B L xs) 593 := k_scr (by decide +kernel)
theorem k_L_law_593 {B L : Nat} {xs : Nat → Int} : OkopX (ScX B L xs) i_L_law 593 (o_callV 7 3 T_X7_corner) 596 := OkopX.of (k_callV (idx := 63) (r0 := (RX7, TX7, 6)) m_X7_corner ⟨gw_407, gw_1, ⟨by decide, by decide, by decide +kernel⟩, by decide, by decide⟩ rfl gw_404 gw_405 gw_406 (by decide +kernel))
theorem k_L_law_596 {B L : Nat} {xs : Nat → Int} : OkopX (ScX B L xs) i_L_law 596 (o_al 2) 597 := OkopX.of (k_aln (j := 2) (by decide +kernel))
theorem k_L_law_597 {B L : Nat} {xs : Nat → Int} : OkopX (ScX B L xs) i_L_law 597 (o_al 0) 598 := OkopX.of (k_aln (j := 0) (by decide +kernel))
theorem k_L_law_598 {B L : Nat} {xs : Nat → Int} : OkopX (ScX B L xs) i_L_law 598 (o_il 3) 599 := OkopX.of (k_iln (j := 3) (by decide +kernel))
theorem k_L_law_599 {B L : Nat} {xs : Nat → Int} : OkopX (ScX B L xs) i_L_law 599 (o_c 1) 600 := OkopX.of (k_iconst (by decide +kernel))
theorem k_L_law_600 {B L : Nat} {xs : Nat → Int} : OkopX (ScX B L xs) i_L_law 600 (o_add) 601 := OkopX.of (k_add (by decide +kernel))
theorem k_L_law_601 {B L : Nat} {xs : Nat → Int} : OkopX (ScX B L xs) i_L_law 601 (o_scr B L xs) 602 := k_scr (by decide +kernel)
theorem k_L_law_602 {B L : Nat} {xs : Nat → Int} : OkopX (ScX B L xs) i_L_law 602 (o_al 0) 603 := OkopX.of (k_aln (j := 0) (by decide +kernel))
theorem k_L_law_603 {B L : Nat} {xs : Nat → Int} : OkopX (ScX B L xs) i_L_law 603 (o_il 3) 604 := OkopX.of (k_iln (j := 3) (by decide +kernel))
theorem k_L_law_604 {B L : Nat} {xs : Nat → Int} : OkopX (ScX B L xs) i_L_law 604 (o_c 2) 605 := OkopX.of (k_iconst (by decide +kernel))
theorem k_L_law_605 {B L : Nat} {xs : Nat → Int} : OkopX (ScX B L xs) i_L_law 605 (o_add) 606 := OkopX.of (k_add (by decide +kernel))
theorem k_L_law_606 {B L : Nat} {xs : Nat → Int} : OkopX (ScX B L xs) i_L_law 606 (o_scr B L xs) 607 := k_scr (by decide +kernel)
theorem k_L_law_607 {B L : Nat} {xs : Nat → Int} : OkopX (ScX B L xs) i_L_law 607 (o_al 0) 608 := OkopX.of (k_aln (j := 0) (by decide +kernel))
theorem k_L_law_608 {B L : Nat} {xs : Nat → Int} : OkopX (ScX B L xs) i_L_law 608 (o_il 3) 609 := OkopX.of (k_iln (j := 3) (by decide +kernel))
theorem k_L_law_609 {B L : Nat} {xs : Nat → Int} : OkopX (ScX B L xs) i_L_law 609 (o_c 3) 610 := OkopX.of (k_iconst (by decide +kernel))
theorem k_L_law_610 {B L : Nat} {xs : Nat → Int} : OkopX (ScX B L xs) i_L_law 610 (o_add) 611 := OkopX.of (k_add (by decide +kernel))
theorem k_L_law_611 {B L : Nat} {xs : Nat → Int} : OkopX (ScX B L xs) i_L_law 611 (o_scr B L xs) 612 := k_scr (by decide +kernel)
theorem k_L_law_612 {B L : Nat} {xs : Nat → Int} : OkopX (ScX B L xs) i_L_law 612 (o_callV 8 3 T_X8_corner) 615 := OkopX.of (k_callV (idx := 66) (r0 := (RX8, TX8, 14)) m_X8_corner ⟨gw_785, gw_10, ⟨by decide, by decide, by decide +kernel⟩, by decide, by decide⟩ rfl gw_782 gw_783 gw_784 (by decide +kernel))
theorem k_L_law_615 {B L : Nat} {xs : Nat → Int} : OkopX (ScX B L xs) i_L_law 615 (o_ieq 1155) 618 := OkopX.of (k_ieq (off := 540) (by decide +kernel) (by decide))
theorem k_L_law_618 {B L : Nat} {xs : Nat → Int} : OkopX (ScX B L xs) i_L_law 618 (o_c 0) 619 := OkopX.of (k_iconst (by decide +kernel))
theorem k_L_law_619 {B L : Nat} {xs : Nat → Int} : OkopX (ScX B L xs) i_L_law 619 (o_zret) 620 := OkopX.of (k_zret (by decide +kernel) rfl)
theorem k_L_law_620 {B L : Nat} {xs : Nat → Int} : OkopX (ScX B L xs) i_L_law 620 (o_al 1) 621 := OkopX.of (k_aln (j := 1) (by decide +kernel))
theorem k_L_law_621 {B L : Nat} {xs : Nat → Int} : OkopX (ScX B L xs) i_L_law 621 (o_al 0) 622 := OkopX.of (k_aln (j := 0) (by decide +kernel))
theorem k_L_law_622 {B L : Nat} {xs : Nat → Int} : OkopX (ScX B L xs) i_L_law 622 (o_il 3) 623 := OkopX.of (k_iln (j := 3) (by decide +kernel))
theorem k_L_law_623 {B L : Nat} {xs : Nat → Int} : OkopX (ScX B L xs) i_L_law 623 (o_c 1) 624 := OkopX.of (k_iconst (by decide +kernel))
theorem k_L_law_624 {B L : Nat} {xs : Nat → Int} : OkopX (ScX B L xs) i_L_law 624 (o_add) 625 := OkopX.of (k_add (by decide +kernel))
theorem k_L_law_625 {B L : Nat} {xs : Nat → Int} : OkopX (ScX B L xs) i_L_law 625 (o_scr B L xs) 626 := k_scr (by decide +kernel)
theorem k_L_law_626 {B L : Nat} {xs : Nat → Int} : OkopX (ScX B L xs) i_L_law 626 (o_callV 7 1 T_X7_always) 629 := OkopX.of (k_callV (idx := 67) (r0 := (RX7, TX7, 6)) m_X7_always ⟨gw_412, gw_1, ⟨by decide, by decide, by decide +kernel⟩, by decide, by decide⟩ rfl gw_409 gw_410 gw_411 (by decide +kernel))
theorem k_L_law_629 {B L : Nat} {xs : Nat → Int} : OkopX (ScX B L xs) i_L_law 629 (o_al 2) 630 := OkopX.of (k_aln (j := 2) (by decide +kernel))
theorem k_L_law_630 {B L : Nat} {xs : Nat → Int} : OkopX (ScX B L xs) i_L_law 630 (o_al 0) 631 := OkopX.of (k_aln (j := 0) (by decide +kernel))
theorem k_L_law_631 {B L : Nat} {xs : Nat → Int} : OkopX (ScX B L xs) i_L_law 631 (o_il 3) 632 := OkopX.of (k_iln (j := 3) (by decide +kernel))
theorem k_L_law_632 {B L : Nat} {xs : Nat → Int} : OkopX (ScX B L xs) i_L_law 632 (o_c 1) 633 := OkopX.of (k_iconst (by decide +kernel))
theorem k_L_law_633 {B L : Nat} {xs : Nat → Int} : OkopX (ScX B L xs) i_L_law 633 (o_add) 634 := OkopX.of (k_add (by decide +kernel))
theorem k_L_law_634 {B L : Nat} {xs : Nat → Int} : OkopX (ScX B L xs) i_L_law 634 (o_scr B L xs) 635 := k_scr (by decide +kernel)
theorem k_L_law_635 {B L : Nat} {xs : Nat → Int} : OkopX (ScX B L xs) i_L_law 635 (o_callV 8 1 T_X8_always) 638 := OkopX.of (k_callV (idx := 71) (r0 := (RX8, TX8, 14)) m_X8_always ⟨gw_807, gw_10, ⟨by decide, by decide, by decide +kernel⟩, by decide, by decide⟩ rfl gw_804 gw_805 gw_806 (by decide +kernel))
theorem k_L_law_638 {B L : Nat} {xs : Nat → Int} : OkopX (ScX B L xs) i_L_law 638 (o_ieq 1155) 641 := OkopX.of (k_ieq (off := 517) (by decide +kernel) (by decide))
theorem k_L_law_641 {B L : Nat} {xs : Nat → Int} : OkopX (ScX B L xs) i_L_law 641 (o_c 0) 642 := OkopX.of (k_iconst (by decide +kernel))
theorem k_L_law_642 {B L : Nat} {xs : Nat → Int} : OkopX (ScX B L xs) i_L_law 642 (o_zret) 643 := OkopX.of (k_zret (by decide +kernel) rfl)
theorem k_L_law_643 {B L : Nat} {xs : Nat → Int} : OkopX (ScX B L xs) i_L_law 643 (o_al 1) 644 := OkopX.of (k_aln (j := 1) (by decide +kernel))
theorem k_L_law_644 {B L : Nat} {xs : Nat → Int} : OkopX (ScX B L xs) i_L_law 644 (o_al 0) 645 := OkopX.of (k_aln (j := 0) (by decide +kernel))
theorem k_L_law_645 {B L : Nat} {xs : Nat → Int} : OkopX (ScX B L xs) i_L_law 645 (o_il 3) 646 := OkopX.of (k_iln (j := 3) (by decide +kernel))
theorem k_L_law_646 {B L : Nat} {xs : Nat → Int} : OkopX (ScX B L xs) i_L_law 646 (o_c 1) 647 := OkopX.of (k_iconst (by decide +kernel))
theorem k_L_law_647 {B L : Nat} {xs : Nat → Int} : OkopX (ScX B L xs) i_L_law 647 (o_add) 648 := OkopX.of (k_add (by decide +kernel))
theorem k_L_law_648 {B L : Nat} {xs : Nat → Int} : OkopX (ScX B L xs) i_L_law 648 (o_scr B L xs) 649 := k_scr (by decide +kernel)
theorem k_L_law_649 {B L : Nat} {xs : Nat → Int} : OkopX (ScX B L xs) i_L_law 649 (o_al 0) 650 := OkopX.of (k_aln (j := 0) (by decide +kernel))
theorem k_L_law_650 {B L : Nat} {xs : Nat → Int} : OkopX (ScX B L xs) i_L_law 650 (o_il 3) 651 := OkopX.of (k_iln (j := 3) (by decide +kernel))
theorem k_L_law_651 {B L : Nat} {xs : Nat → Int} : OkopX (ScX B L xs) i_L_law 651 (o_c 2) 652 := OkopX.of (k_iconst (by decide +kernel))
theorem k_L_law_652 {B L : Nat} {xs : Nat → Int} : OkopX (ScX B L xs) i_L_law 652 (o_add) 653 := OkopX.of (k_add (by decide +kernel))
theorem k_L_law_653 {B L : Nat} {xs : Nat → Int} : OkopX (ScX B L xs) i_L_law 653 (o_scr B L xs) 654 := k_scr (by decide +kernel)
theorem k_L_law_654 {B L : Nat} {xs : Nat → Int} : OkopX (ScX B L xs) i_L_law 654 (o_callVx 7 2 B_X7_chance) 657 := OkopX.of (k_callVx (idx := 72) (r0 := (RX7, TX7, 6)) m_X7_chance ⟨gw_416, gw_1, ⟨by decide, by decide, by decide +kernel⟩, by decide, by decide⟩ rfl gw_413 gw_414 gw_415 (by decide +kernel))
theorem k_L_law_657 {B L : Nat} {xs : Nat → Int} : OkopX (ScX B L xs) i_L_law 657 (o_al 2) 658 := OkopX.of (k_aln (j := 2) (by decide +kernel))
theorem k_L_law_658 {B L : Nat} {xs : Nat → Int} : OkopX (ScX B L xs) i_L_law 658 (o_al 0) 659 := OkopX.of (k_aln (j := 0) (by decide +kernel))
theorem k_L_law_659 {B L : Nat} {xs : Nat → Int} : OkopX (ScX B L xs) i_L_law 659 (o_il 3) 660 := OkopX.of (k_iln (j := 3) (by decide +kernel))
theorem k_L_law_660 {B L : Nat} {xs : Nat → Int} : OkopX (ScX B L xs) i_L_law 660 (o_c 1) 661 := OkopX.of (k_iconst (by decide +kernel))
theorem k_L_law_661 {B L : Nat} {xs : Nat → Int} : OkopX (ScX B L xs) i_L_law 661 (o_add) 662 := OkopX.of (k_add (by decide +kernel))
theorem k_L_law_662 {B L : Nat} {xs : Nat → Int} : OkopX (ScX B L xs) i_L_law 662 (o_scr B L xs) 663 := k_scr (by decide +kernel)
theorem k_L_law_663 {B L : Nat} {xs : Nat → Int} : OkopX (ScX B L xs) i_L_law 663 (o_al 0) 664 := OkopX.of (k_aln (j := 0) (by decide +kernel))
theorem k_L_law_664 {B L : Nat} {xs : Nat → Int} : OkopX (ScX B L xs) i_L_law 664 (o_il 3) 665 := OkopX.of (k_iln (j := 3) (by decide +kernel))
theorem k_L_law_665 {B L : Nat} {xs : Nat → Int} : OkopX (ScX B L xs) i_L_law 665 (o_c 2) 666 := OkopX.of (k_iconst (by decide +kernel))
theorem k_L_law_666 {B L : Nat} {xs : Nat → Int} : OkopX (ScX B L xs) i_L_law 666 (o_add) 667 := OkopX.of (k_add (by decide +kernel))
theorem k_L_law_667 {B L : Nat} {xs : Nat → Int} : OkopX (ScX B L xs) i_L_law 667 (o_scr B L xs) 668 := k_scr (by decide +kernel)
theorem k_L_law_668 {B L : Nat} {xs : Nat → Int} : OkopX (ScX B L xs) i_L_law 668 (o_callV 8 2 T_X8_chance) 671 := OkopX.of (k_callV (idx := 76) (r0 := (RX8, TX8, 14)) m_X8_chance ⟨gw_812, gw_10, ⟨by decide, by decide, by decide +kernel⟩, by decide, by decide⟩ rfl gw_809 gw_810 gw_811 (by decide +kernel))
theorem k_L_law_671 {B L : Nat} {xs : Nat → Int} : OkopX (ScX B L xs) i_L_law 671 (o_lcmp) 672 := OkopX.of (k_lcmp (by decide +kernel))
theorem k_L_law_672 {B L : Nat} {xs : Nat → Int} : OkopX (ScX B L xs) i_L_law 672 (o_eq0 1155) 675 := OkopX.of (k_eq0 (off := 483) (by decide +kernel) (by decide))
theorem k_L_law_675 {B L : Nat} {xs : Nat → Int} : OkopX (ScX B L xs) i_L_law 675 (o_c 0) 676 := OkopX.of (k_iconst (by decide +kernel))
theorem k_L_law_676 {B L : Nat} {xs : Nat → Int} : OkopX (ScX B L xs) i_L_law 676 (o_zret) 677 := OkopX.of (k_zret (by decide +kernel) rfl)
theorem k_L_law_677 {B L : Nat} {xs : Nat → Int} : OkopX (ScX B L xs) i_L_law 677 (o_al 1) 678 := OkopX.of (k_aln (j := 1) (by decide +kernel))
theorem k_L_law_678 {B L : Nat} {xs : Nat → Int} : OkopX (ScX B L xs) i_L_law 678 (o_al 0) 679 := OkopX.of (k_aln (j := 0) (by decide +kernel))
theorem k_L_law_679 {B L : Nat} {xs : Nat → Int} : OkopX (ScX B L xs) i_L_law 679 (o_il 3) 680 := OkopX.of (k_iln (j := 3) (by decide +kernel))
theorem k_L_law_680 {B L : Nat} {xs : Nat → Int} : OkopX (ScX B L xs) i_L_law 680 (o_c 1) 681 := OkopX.of (k_iconst (by decide +kernel))
theorem k_L_law_681 {B L : Nat} {xs : Nat → Int} : OkopX (ScX B L xs) i_L_law 681 (o_add) 682 := OkopX.of (k_add (by decide +kernel))
theorem k_L_law_682 {B L : Nat} {xs : Nat → Int} : OkopX (ScX B L xs) i_L_law 682 (o_scr B L xs) 683 := k_scr (by decide +kernel)
theorem k_L_law_683 {B L : Nat} {xs : Nat → Int} : OkopX (ScX B L xs) i_L_law 683 (o_al 0) 684 := OkopX.of (k_aln (j := 0) (by decide +kernel))
theorem k_L_law_684 {B L : Nat} {xs : Nat → Int} : OkopX (ScX B L xs) i_L_law 684 (o_il 3) 685 := OkopX.of (k_iln (j := 3) (by decide +kernel))
theorem k_L_law_685 {B L : Nat} {xs : Nat → Int} : OkopX (ScX B L xs) i_L_law 685 (o_c 2) 686 := OkopX.of (k_iconst (by decide +kernel))
theorem k_L_law_686 {B L : Nat} {xs : Nat → Int} : OkopX (ScX B L xs) i_L_law 686 (o_add) 687 := OkopX.of (k_add (by decide +kernel))
theorem k_L_law_687 {B L : Nat} {xs : Nat → Int} : OkopX (ScX B L xs) i_L_law 687 (o_scr B L xs) 688 := k_scr (by decide +kernel)
theorem k_L_law_688 {B L : Nat} {xs : Nat → Int} : OkopX (ScX B L xs) i_L_law 688 (o_al 0) 689 := OkopX.of (k_aln (j := 0) (by decide +kernel))
theorem k_L_law_689 {B L : Nat} {xs : Nat → Int} : OkopX (ScX B L xs) i_L_law 689 (o_il 3) 690 := OkopX.of (k_iln (j := 3) (by decide +kernel))
theorem k_L_law_690 {B L : Nat} {xs : Nat → Int} : OkopX (ScX B L xs) i_L_law 690 (o_c 3) 691 := OkopX.of (k_iconst (by decide +kernel))
theorem k_L_law_691 {B L : Nat} {xs : Nat → Int} : OkopX (ScX B L xs) i_L_law 691 (o_add) 692 := OkopX.of (k_add (by decide +kernel))
theorem k_L_law_692 {B L : Nat} {xs : Nat → Int} : OkopX (ScX B L xs) i_L_law 692 (o_scr B L xs) 693 := k_scr (by decide +kernel)
theorem k_L_law_693 {B L : Nat} {xs : Nat → Int} : OkopX (ScX B L xs) i_L_law 693 (o_callVx 7 3 B_X7_both) 696 := OkopX.of (k_callVx (idx := 77) (r0 := (RX7, TX7, 6)) m_X7_both ⟨gw_493, gw_1, ⟨by decide, by decide, by decide +kernel⟩, by decide, by decide⟩ rfl gw_490 gw_491 gw_492 (by decide +kernel))
theorem k_L_law_696 {B L : Nat} {xs : Nat → Int} : OkopX (ScX B L xs) i_L_law 696 (o_al 2) 697 := OkopX.of (k_aln (j := 2) (by decide +kernel))
theorem k_L_law_697 {B L : Nat} {xs : Nat → Int} : OkopX (ScX B L xs) i_L_law 697 (o_al 0) 698 := OkopX.of (k_aln (j := 0) (by decide +kernel))
theorem k_L_law_698 {B L : Nat} {xs : Nat → Int} : OkopX (ScX B L xs) i_L_law 698 (o_il 3) 699 := OkopX.of (k_iln (j := 3) (by decide +kernel))
theorem k_L_law_699 {B L : Nat} {xs : Nat → Int} : OkopX (ScX B L xs) i_L_law 699 (o_c 1) 700 := OkopX.of (k_iconst (by decide +kernel))
theorem k_L_law_700 {B L : Nat} {xs : Nat → Int} : OkopX (ScX B L xs) i_L_law 700 (o_add) 701 := OkopX.of (k_add (by decide +kernel))
theorem k_L_law_701 {B L : Nat} {xs : Nat → Int} : OkopX (ScX B L xs) i_L_law 701 (o_scr B L xs) 702 := k_scr (by decide +kernel)
theorem k_L_law_702 {B L : Nat} {xs : Nat → Int} : OkopX (ScX B L xs) i_L_law 702 (o_al 0) 703 := OkopX.of (k_aln (j := 0) (by decide +kernel))
theorem k_L_law_703 {B L : Nat} {xs : Nat → Int} : OkopX (ScX B L xs) i_L_law 703 (o_il 3) 704 := OkopX.of (k_iln (j := 3) (by decide +kernel))
theorem k_L_law_704 {B L : Nat} {xs : Nat → Int} : OkopX (ScX B L xs) i_L_law 704 (o_c 2) 705 := OkopX.of (k_iconst (by decide +kernel))
theorem k_L_law_705 {B L : Nat} {xs : Nat → Int} : OkopX (ScX B L xs) i_L_law 705 (o_add) 706 := OkopX.of (k_add (by decide +kernel))
theorem k_L_law_706 {B L : Nat} {xs : Nat → Int} : OkopX (ScX B L xs) i_L_law 706 (o_scr B L xs) 707 := k_scr (by decide +kernel)
theorem k_L_law_707 {B L : Nat} {xs : Nat → Int} : OkopX (ScX B L xs) i_L_law 707 (o_al 0) 708 := OkopX.of (k_aln (j := 0) (by decide +kernel))
theorem k_L_law_708 {B L : Nat} {xs : Nat → Int} : OkopX (ScX B L xs) i_L_law 708 (o_il 3) 709 := OkopX.of (k_iln (j := 3) (by decide +kernel))
theorem k_L_law_709 {B L : Nat} {xs : Nat → Int} : OkopX (ScX B L xs) i_L_law 709 (o_c 3) 710 := OkopX.of (k_iconst (by decide +kernel))
theorem k_L_law_710 {B L : Nat} {xs : Nat → Int} : OkopX (ScX B L xs) i_L_law 710 (o_add) 711 := OkopX.of (k_add (by decide +kernel))
theorem k_L_law_711 {B L : Nat} {xs : Nat → Int} : OkopX (ScX B L xs) i_L_law 711 (o_scr B L xs) 712 := k_scr (by decide +kernel)
theorem k_L_law_712 {B L : Nat} {xs : Nat → Int} : OkopX (ScX B L xs) i_L_law 712 (o_callV 8 3 T_X8_both) 715 := OkopX.of (k_callV (idx := 81) (r0 := (RX8, TX8, 14)) m_X8_both ⟨gw_837, gw_10, ⟨by decide, by decide, by decide +kernel⟩, by decide, by decide⟩ rfl gw_834 gw_835 gw_836 (by decide +kernel))
theorem k_L_law_715 {B L : Nat} {xs : Nat → Int} : OkopX (ScX B L xs) i_L_law 715 (o_lcmp) 716 := OkopX.of (k_lcmp (by decide +kernel))
theorem k_L_law_716 {B L : Nat} {xs : Nat → Int} : OkopX (ScX B L xs) i_L_law 716 (o_eq0 1155) 719 := OkopX.of (k_eq0 (off := 439) (by decide +kernel) (by decide))
theorem k_L_law_719 {B L : Nat} {xs : Nat → Int} : OkopX (ScX B L xs) i_L_law 719 (o_c 0) 720 := OkopX.of (k_iconst (by decide +kernel))
theorem k_L_law_720 {B L : Nat} {xs : Nat → Int} : OkopX (ScX B L xs) i_L_law 720 (o_zret) 721 := OkopX.of (k_zret (by decide +kernel) rfl)
theorem k_L_law_721 {B L : Nat} {xs : Nat → Int} : OkopX (ScX B L xs) i_L_law 721 (o_al 1) 722 := OkopX.of (k_aln (j := 1) (by decide +kernel))
theorem k_L_law_722 {B L : Nat} {xs : Nat → Int} : OkopX (ScX B L xs) i_L_law 722 (o_al 0) 723 := OkopX.of (k_aln (j := 0) (by decide +kernel))
theorem k_L_law_723 {B L : Nat} {xs : Nat → Int} : OkopX (ScX B L xs) i_L_law 723 (o_il 3) 724 := OkopX.of (k_iln (j := 3) (by decide +kernel))
theorem k_L_law_724 {B L : Nat} {xs : Nat → Int} : OkopX (ScX B L xs) i_L_law 724 (o_c 1) 725 := OkopX.of (k_iconst (by decide +kernel))
theorem k_L_law_725 {B L : Nat} {xs : Nat → Int} : OkopX (ScX B L xs) i_L_law 725 (o_add) 726 := OkopX.of (k_add (by decide +kernel))
theorem k_L_law_726 {B L : Nat} {xs : Nat → Int} : OkopX (ScX B L xs) i_L_law 726 (o_scr B L xs) 727 := k_scr (by decide +kernel)
theorem k_L_law_727 {B L : Nat} {xs : Nat → Int} : OkopX (ScX B L xs) i_L_law 727 (o_al 0) 728 := OkopX.of (k_aln (j := 0) (by decide +kernel))
theorem k_L_law_728 {B L : Nat} {xs : Nat → Int} : OkopX (ScX B L xs) i_L_law 728 (o_il 3) 729 := OkopX.of (k_iln (j := 3) (by decide +kernel))
theorem k_L_law_729 {B L : Nat} {xs : Nat → Int} : OkopX (ScX B L xs) i_L_law 729 (o_c 2) 730 := OkopX.of (k_iconst (by decide +kernel))
theorem k_L_law_730 {B L : Nat} {xs : Nat → Int} : OkopX (ScX B L xs) i_L_law 730 (o_add) 731 := OkopX.of (k_add (by decide +kernel))
theorem k_L_law_731 {B L : Nat} {xs : Nat → Int} : OkopX (ScX B L xs) i_L_law 731 (o_scr B L xs) 732 := k_scr (by decide +kernel)
theorem k_L_law_732 {B L : Nat} {xs : Nat → Int} : OkopX (ScX B L xs) i_L_law 732 (o_callV 7 2 T_X7_mean) 735 := OkopX.of (k_callV (idx := 82) (r0 := (RX7, TX7, 6)) m_X7_mean ⟨gw_497, gw_1, ⟨by decide, by decide, by decide +kernel⟩, by decide, by decide⟩ rfl gw_494 gw_495 gw_496 (by decide +kernel))
theorem k_L_law_735 {B L : Nat} {xs : Nat → Int} : OkopX (ScX B L xs) i_L_law 735 (o_al 2) 736 := OkopX.of (k_aln (j := 2) (by decide +kernel))
theorem k_L_law_736 {B L : Nat} {xs : Nat → Int} : OkopX (ScX B L xs) i_L_law 736 (o_al 0) 737 := OkopX.of (k_aln (j := 0) (by decide +kernel))
theorem k_L_law_737 {B L : Nat} {xs : Nat → Int} : OkopX (ScX B L xs) i_L_law 737 (o_il 3) 738 := OkopX.of (k_iln (j := 3) (by decide +kernel))
theorem k_L_law_738 {B L : Nat} {xs : Nat → Int} : OkopX (ScX B L xs) i_L_law 738 (o_c 1) 739 := OkopX.of (k_iconst (by decide +kernel))
theorem k_L_law_739 {B L : Nat} {xs : Nat → Int} : OkopX (ScX B L xs) i_L_law 739 (o_add) 740 := OkopX.of (k_add (by decide +kernel))
theorem k_L_law_740 {B L : Nat} {xs : Nat → Int} : OkopX (ScX B L xs) i_L_law 740 (o_scr B L xs) 741 := k_scr (by decide +kernel)
theorem k_L_law_741 {B L : Nat} {xs : Nat → Int} : OkopX (ScX B L xs) i_L_law 741 (o_al 0) 742 := OkopX.of (k_aln (j := 0) (by decide +kernel))
theorem k_L_law_742 {B L : Nat} {xs : Nat → Int} : OkopX (ScX B L xs) i_L_law 742 (o_il 3) 743 := OkopX.of (k_iln (j := 3) (by decide +kernel))
theorem k_L_law_743 {B L : Nat} {xs : Nat → Int} : OkopX (ScX B L xs) i_L_law 743 (o_c 2) 744 := OkopX.of (k_iconst (by decide +kernel))
theorem k_L_law_744 {B L : Nat} {xs : Nat → Int} : OkopX (ScX B L xs) i_L_law 744 (o_add) 745 := OkopX.of (k_add (by decide +kernel))
theorem k_L_law_745 {B L : Nat} {xs : Nat → Int} : OkopX (ScX B L xs) i_L_law 745 (o_scr B L xs) 746 := k_scr (by decide +kernel)
theorem k_L_law_746 {B L : Nat} {xs : Nat → Int} : OkopX (ScX B L xs) i_L_law 746 (o_callV 8 2 T_X8_mean) 749 := OkopX.of (k_callV (idx := 85) (r0 := (RX8, TX8, 14)) m_X8_mean ⟨gw_842, gw_10, ⟨by decide, by decide, by decide +kernel⟩, by decide, by decide⟩ rfl gw_839 gw_840 gw_841 (by decide +kernel))
theorem k_L_law_749 {B L : Nat} {xs : Nat → Int} : OkopX (ScX B L xs) i_L_law 749 (o_lcmp) 750 := OkopX.of (k_lcmp (by decide +kernel))
theorem k_L_law_750 {B L : Nat} {xs : Nat → Int} : OkopX (ScX B L xs) i_L_law 750 (o_eq0 1155) 753 := OkopX.of (k_eq0 (off := 405) (by decide +kernel) (by decide))
theorem k_L_law_753 {B L : Nat} {xs : Nat → Int} : OkopX (ScX B L xs) i_L_law 753 (o_c 0) 754 := OkopX.of (k_iconst (by decide +kernel))
theorem k_L_law_754 {B L : Nat} {xs : Nat → Int} : OkopX (ScX B L xs) i_L_law 754 (o_zret) 755 := OkopX.of (k_zret (by decide +kernel) rfl)
theorem k_L_law_755 {B L : Nat} {xs : Nat → Int} : OkopX (ScX B L xs) i_L_law 755 (o_al 1) 756 := OkopX.of (k_aln (j := 1) (by decide +kernel))
theorem k_L_law_756 {B L : Nat} {xs : Nat → Int} : OkopX (ScX B L xs) i_L_law 756 (o_al 0) 757 := OkopX.of (k_aln (j := 0) (by decide +kernel))
theorem k_L_law_757 {B L : Nat} {xs : Nat → Int} : OkopX (ScX B L xs) i_L_law 757 (o_il 3) 758 := OkopX.of (k_iln (j := 3) (by decide +kernel))
theorem k_L_law_758 {B L : Nat} {xs : Nat → Int} : OkopX (ScX B L xs) i_L_law 758 (o_c 1) 759 := OkopX.of (k_iconst (by decide +kernel))
theorem k_L_law_759 {B L : Nat} {xs : Nat → Int} : OkopX (ScX B L xs) i_L_law 759 (o_add) 760 := OkopX.of (k_add (by decide +kernel))
theorem k_L_law_760 {B L : Nat} {xs : Nat → Int} : OkopX (ScX B L xs) i_L_law 760 (o_scr B L xs) 761 := k_scr (by decide +kernel)
theorem k_L_law_761 {B L : Nat} {xs : Nat → Int} : OkopX (ScX B L xs) i_L_law 761 (o_al 0) 762 := OkopX.of (k_aln (j := 0) (by decide +kernel))
theorem k_L_law_762 {B L : Nat} {xs : Nat → Int} : OkopX (ScX B L xs) i_L_law 762 (o_il 3) 763 := OkopX.of (k_iln (j := 3) (by decide +kernel))
theorem k_L_law_763 {B L : Nat} {xs : Nat → Int} : OkopX (ScX B L xs) i_L_law 763 (o_c 2) 764 := OkopX.of (k_iconst (by decide +kernel))
theorem k_L_law_764 {B L : Nat} {xs : Nat → Int} : OkopX (ScX B L xs) i_L_law 764 (o_add) 765 := OkopX.of (k_add (by decide +kernel))
theorem k_L_law_765 {B L : Nat} {xs : Nat → Int} : OkopX (ScX B L xs) i_L_law 765 (o_scr B L xs) 766 := k_scr (by decide +kernel)
theorem k_L_law_766 {B L : Nat} {xs : Nat → Int} : OkopX (ScX B L xs) i_L_law 766 (o_al 0) 767 := OkopX.of (k_aln (j := 0) (by decide +kernel))
theorem k_L_law_767 {B L : Nat} {xs : Nat → Int} : OkopX (ScX B L xs) i_L_law 767 (o_il 3) 768 := OkopX.of (k_iln (j := 3) (by decide +kernel))
theorem k_L_law_768 {B L : Nat} {xs : Nat → Int} : OkopX (ScX B L xs) i_L_law 768 (o_c 3) 769 := OkopX.of (k_iconst (by decide +kernel))
theorem k_L_law_769 {B L : Nat} {xs : Nat → Int} : OkopX (ScX B L xs) i_L_law 769 (o_add) 770 := OkopX.of (k_add (by decide +kernel))
theorem k_L_law_770 {B L : Nat} {xs : Nat → Int} : OkopX (ScX B L xs) i_L_law 770 (o_scr B L xs) 771 := k_scr (by decide +kernel)
theorem k_L_law_771 {B L : Nat} {xs : Nat → Int} : OkopX (ScX B L xs) i_L_law 771 (o_al 0) 772 := OkopX.of (k_aln (j := 0) (by decide +kernel))
theorem k_L_law_772 {B L : Nat} {xs : Nat → Int} : OkopX (ScX B L xs) i_L_law 772 (o_il 3) 773 := OkopX.of (k_iln (j := 3) (by decide +kernel))
theorem k_L_law_773 {B L : Nat} {xs : Nat → Int} : OkopX (ScX B L xs) i_L_law 773 (o_c 4) 774 := OkopX.of (k_iconst (by decide +kernel))
theorem k_L_law_774 {B L : Nat} {xs : Nat → Int} : OkopX (ScX B L xs) i_L_law 774 (o_add) 775 := OkopX.of (k_add (by decide +kernel))
theorem k_L_law_775 {B L : Nat} {xs : Nat → Int} : OkopX (ScX B L xs) i_L_law 775 (o_scr B L xs) 776 := k_scr (by decide +kernel)
theorem k_L_law_776 {B L : Nat} {xs : Nat → Int} : OkopX (ScX B L xs) i_L_law 776 (o_callVx 7 4 B_X7_span) 779 := OkopX.of (k_callVx (idx := 86) (r0 := (RX7, TX7, 6)) m_X7_span ⟨gw_506, gw_1, ⟨by decide, by decide, by decide +kernel⟩, by decide, by decide⟩ rfl gw_503 gw_504 gw_505 (by decide +kernel))
theorem k_L_law_779 {B L : Nat} {xs : Nat → Int} : OkopX (ScX B L xs) i_L_law 779 (o_al 2) 780 := OkopX.of (k_aln (j := 2) (by decide +kernel))
theorem k_L_law_780 {B L : Nat} {xs : Nat → Int} : OkopX (ScX B L xs) i_L_law 780 (o_al 0) 781 := OkopX.of (k_aln (j := 0) (by decide +kernel))
theorem k_L_law_781 {B L : Nat} {xs : Nat → Int} : OkopX (ScX B L xs) i_L_law 781 (o_il 3) 782 := OkopX.of (k_iln (j := 3) (by decide +kernel))
theorem k_L_law_782 {B L : Nat} {xs : Nat → Int} : OkopX (ScX B L xs) i_L_law 782 (o_c 1) 783 := OkopX.of (k_iconst (by decide +kernel))
theorem k_L_law_783 {B L : Nat} {xs : Nat → Int} : OkopX (ScX B L xs) i_L_law 783 (o_add) 784 := OkopX.of (k_add (by decide +kernel))
theorem k_L_law_784 {B L : Nat} {xs : Nat → Int} : OkopX (ScX B L xs) i_L_law 784 (o_scr B L xs) 785 := k_scr (by decide +kernel)
theorem k_L_law_785 {B L : Nat} {xs : Nat → Int} : OkopX (ScX B L xs) i_L_law 785 (o_al 0) 786 := OkopX.of (k_aln (j := 0) (by decide +kernel))
theorem k_L_law_786 {B L : Nat} {xs : Nat → Int} : OkopX (ScX B L xs) i_L_law 786 (o_il 3) 787 := OkopX.of (k_iln (j := 3) (by decide +kernel))
theorem k_L_law_787 {B L : Nat} {xs : Nat → Int} : OkopX (ScX B L xs) i_L_law 787 (o_c 2) 788 := OkopX.of (k_iconst (by decide +kernel))
theorem k_L_law_788 {B L : Nat} {xs : Nat → Int} : OkopX (ScX B L xs) i_L_law 788 (o_add) 789 := OkopX.of (k_add (by decide +kernel))
theorem k_L_law_789 {B L : Nat} {xs : Nat → Int} : OkopX (ScX B L xs) i_L_law 789 (o_scr B L xs) 790 := k_scr (by decide +kernel)
theorem k_L_law_790 {B L : Nat} {xs : Nat → Int} : OkopX (ScX B L xs) i_L_law 790 (o_al 0) 791 := OkopX.of (k_aln (j := 0) (by decide +kernel))
theorem k_L_law_791 {B L : Nat} {xs : Nat → Int} : OkopX (ScX B L xs) i_L_law 791 (o_il 3) 792 := OkopX.of (k_iln (j := 3) (by decide +kernel))
theorem k_L_law_792 {B L : Nat} {xs : Nat → Int} : OkopX (ScX B L xs) i_L_law 792 (o_c 3) 793 := OkopX.of (k_iconst (by decide +kernel))
theorem k_L_law_793 {B L : Nat} {xs : Nat → Int} : OkopX (ScX B L xs) i_L_law 793 (o_add) 794 := OkopX.of (k_add (by decide +kernel))
theorem k_L_law_794 {B L : Nat} {xs : Nat → Int} : OkopX (ScX B L xs) i_L_law 794 (o_scr B L xs) 795 := k_scr (by decide +kernel)
theorem k_L_law_795 {B L : Nat} {xs : Nat → Int} : OkopX (ScX B L xs) i_L_law 795 (o_al 0) 796 := OkopX.of (k_aln (j := 0) (by decide +kernel))
theorem k_L_law_796 {B L : Nat} {xs : Nat → Int} : OkopX (ScX B L xs) i_L_law 796 (o_il 3) 797 := OkopX.of (k_iln (j := 3) (by decide +kernel))
theorem k_L_law_797 {B L : Nat} {xs : Nat → Int} : OkopX (ScX B L xs) i_L_law 797 (o_c 4) 798 := OkopX.of (k_iconst (by decide +kernel))
theorem k_L_law_798 {B L : Nat} {xs : Nat → Int} : OkopX (ScX B L xs) i_L_law 798 (o_add) 799 := OkopX.of (k_add (by decide +kernel))
theorem k_L_law_799 {B L : Nat} {xs : Nat → Int} : OkopX (ScX B L xs) i_L_law 799 (o_scr B L xs) 800 := k_scr (by decide +kernel)
theorem k_L_law_800 {B L : Nat} {xs : Nat → Int} : OkopX (ScX B L xs) i_L_law 800 (o_callV 8 4 T_X8_span) 803 := OkopX.of (k_callV (idx := 90) (r0 := (RX8, TX8, 14)) m_X8_span ⟨gw_846, gw_10, ⟨by decide, by decide, by decide +kernel⟩, by decide, by decide⟩ rfl gw_843 gw_844 gw_845 (by decide +kernel))
theorem k_L_law_803 {B L : Nat} {xs : Nat → Int} : OkopX (ScX B L xs) i_L_law 803 (o_ieq 1155) 806 := OkopX.of (k_ieq (off := 352) (by decide +kernel) (by decide))
theorem k_L_law_806 {B L : Nat} {xs : Nat → Int} : OkopX (ScX B L xs) i_L_law 806 (o_c 0) 807 := OkopX.of (k_iconst (by decide +kernel))
theorem k_L_law_807 {B L : Nat} {xs : Nat → Int} : OkopX (ScX B L xs) i_L_law 807 (o_zret) 808 := OkopX.of (k_zret (by decide +kernel) rfl)
theorem k_L_law_808 {B L : Nat} {xs : Nat → Int} : OkopX (ScX B L xs) i_L_law 808 (o_al 1) 809 := OkopX.of (k_aln (j := 1) (by decide +kernel))
theorem k_L_law_809 {B L : Nat} {xs : Nat → Int} : OkopX (ScX B L xs) i_L_law 809 (o_al 0) 810 := OkopX.of (k_aln (j := 0) (by decide +kernel))
theorem k_L_law_810 {B L : Nat} {xs : Nat → Int} : OkopX (ScX B L xs) i_L_law 810 (o_il 3) 811 := OkopX.of (k_iln (j := 3) (by decide +kernel))
theorem k_L_law_811 {B L : Nat} {xs : Nat → Int} : OkopX (ScX B L xs) i_L_law 811 (o_c 1) 812 := OkopX.of (k_iconst (by decide +kernel))
theorem k_L_law_812 {B L : Nat} {xs : Nat → Int} : OkopX (ScX B L xs) i_L_law 812 (o_add) 813 := OkopX.of (k_add (by decide +kernel))
theorem k_L_law_813 {B L : Nat} {xs : Nat → Int} : OkopX (ScX B L xs) i_L_law 813 (o_scr B L xs) 814 := k_scr (by decide +kernel)
theorem k_L_law_814 {B L : Nat} {xs : Nat → Int} : OkopX (ScX B L xs) i_L_law 814 (o_al 0) 815 := OkopX.of (k_aln (j := 0) (by decide +kernel))
theorem k_L_law_815 {B L : Nat} {xs : Nat → Int} : OkopX (ScX B L xs) i_L_law 815 (o_il 3) 816 := OkopX.of (k_iln (j := 3) (by decide +kernel))
theorem k_L_law_816 {B L : Nat} {xs : Nat → Int} : OkopX (ScX B L xs) i_L_law 816 (o_c 2) 817 := OkopX.of (k_iconst (by decide +kernel))
theorem k_L_law_817 {B L : Nat} {xs : Nat → Int} : OkopX (ScX B L xs) i_L_law 817 (o_add) 818 := OkopX.of (k_add (by decide +kernel))
theorem k_L_law_818 {B L : Nat} {xs : Nat → Int} : OkopX (ScX B L xs) i_L_law 818 (o_scr B L xs) 819 := k_scr (by decide +kernel)
theorem k_L_law_819 {B L : Nat} {xs : Nat → Int} : OkopX (ScX B L xs) i_L_law 819 (o_callV 7 2 T_X7_pull) 822 := OkopX.of (k_callV (idx := 91) (r0 := (RX7, TX7, 6)) m_X7_pull ⟨gw_515, gw_1, ⟨by decide, by decide, by decide +kernel⟩, by decide, by decide⟩ rfl gw_512 gw_513 gw_514 (by decide +kernel))
theorem k_L_law_822 {B L : Nat} {xs : Nat → Int} : OkopX (ScX B L xs) i_L_law 822 (o_al 2) 823 := OkopX.of (k_aln (j := 2) (by decide +kernel))
theorem k_L_law_823 {B L : Nat} {xs : Nat → Int} : OkopX (ScX B L xs) i_L_law 823 (o_al 0) 824 := OkopX.of (k_aln (j := 0) (by decide +kernel))
theorem k_L_law_824 {B L : Nat} {xs : Nat → Int} : OkopX (ScX B L xs) i_L_law 824 (o_il 3) 825 := OkopX.of (k_iln (j := 3) (by decide +kernel))
theorem k_L_law_825 {B L : Nat} {xs : Nat → Int} : OkopX (ScX B L xs) i_L_law 825 (o_c 1) 826 := OkopX.of (k_iconst (by decide +kernel))
theorem k_L_law_826 {B L : Nat} {xs : Nat → Int} : OkopX (ScX B L xs) i_L_law 826 (o_add) 827 := OkopX.of (k_add (by decide +kernel))
theorem k_L_law_827 {B L : Nat} {xs : Nat → Int} : OkopX (ScX B L xs) i_L_law 827 (o_scr B L xs) 828 := k_scr (by decide +kernel)
theorem k_L_law_828 {B L : Nat} {xs : Nat → Int} : OkopX (ScX B L xs) i_L_law 828 (o_al 0) 829 := OkopX.of (k_aln (j := 0) (by decide +kernel))
theorem k_L_law_829 {B L : Nat} {xs : Nat → Int} : OkopX (ScX B L xs) i_L_law 829 (o_il 3) 830 := OkopX.of (k_iln (j := 3) (by decide +kernel))
theorem k_L_law_830 {B L : Nat} {xs : Nat → Int} : OkopX (ScX B L xs) i_L_law 830 (o_c 2) 831 := OkopX.of (k_iconst (by decide +kernel))
theorem k_L_law_831 {B L : Nat} {xs : Nat → Int} : OkopX (ScX B L xs) i_L_law 831 (o_add) 832 := OkopX.of (k_add (by decide +kernel))
theorem k_L_law_832 {B L : Nat} {xs : Nat → Int} : OkopX (ScX B L xs) i_L_law 832 (o_scr B L xs) 833 := k_scr (by decide +kernel)
theorem k_L_law_833 {B L : Nat} {xs : Nat → Int} : OkopX (ScX B L xs) i_L_law 833 (o_callV 8 2 T_X8_pull) 836 := OkopX.of (k_callV (idx := 94) (r0 := (RX8, TX8, 14)) m_X8_pull ⟨gw_850, gw_10, ⟨by decide, by decide, by decide +kernel⟩, by decide, by decide⟩ rfl gw_847 gw_848 gw_849 (by decide +kernel))
theorem k_L_law_836 {B L : Nat} {xs : Nat → Int} : OkopX (ScX B L xs) i_L_law 836 (o_ieq 1155) 839 := OkopX.of (k_ieq (off := 319) (by decide +kernel) (by decide))
theorem k_L_law_839 {B L : Nat} {xs : Nat → Int} : OkopX (ScX B L xs) i_L_law 839 (o_c 0) 840 := OkopX.of (k_iconst (by decide +kernel))
theorem k_L_law_840 {B L : Nat} {xs : Nat → Int} : OkopX (ScX B L xs) i_L_law 840 (o_zret) 841 := OkopX.of (k_zret (by decide +kernel) rfl)
theorem k_L_law_841 {B L : Nat} {xs : Nat → Int} : OkopX (ScX B L xs) i_L_law 841 (o_al 1) 842 := OkopX.of (k_aln (j := 1) (by decide +kernel))
theorem k_L_law_842 {B L : Nat} {xs : Nat → Int} : OkopX (ScX B L xs) i_L_law 842 (o_al 0) 843 := OkopX.of (k_aln (j := 0) (by decide +kernel))
theorem k_L_law_843 {B L : Nat} {xs : Nat → Int} : OkopX (ScX B L xs) i_L_law 843 (o_il 3) 844 := OkopX.of (k_iln (j := 3) (by decide +kernel))
theorem k_L_law_844 {B L : Nat} {xs : Nat → Int} : OkopX (ScX B L xs) i_L_law 844 (o_c 1) 845 := OkopX.of (k_iconst (by decide +kernel))
theorem k_L_law_845 {B L : Nat} {xs : Nat → Int} : OkopX (ScX B L xs) i_L_law 845 (o_add) 846 := OkopX.of (k_add (by decide +kernel))
theorem k_L_law_846 {B L : Nat} {xs : Nat → Int} : OkopX (ScX B L xs) i_L_law 846 (o_scr B L xs) 847 := k_scr (by decide +kernel)
theorem k_L_law_847 {B L : Nat} {xs : Nat → Int} : OkopX (ScX B L xs) i_L_law 847 (o_al 0) 848 := OkopX.of (k_aln (j := 0) (by decide +kernel))
theorem k_L_law_848 {B L : Nat} {xs : Nat → Int} : OkopX (ScX B L xs) i_L_law 848 (o_il 3) 849 := OkopX.of (k_iln (j := 3) (by decide +kernel))
theorem k_L_law_849 {B L : Nat} {xs : Nat → Int} : OkopX (ScX B L xs) i_L_law 849 (o_c 2) 850 := OkopX.of (k_iconst (by decide +kernel))
theorem k_L_law_850 {B L : Nat} {xs : Nat → Int} : OkopX (ScX B L xs) i_L_law 850 (o_add) 851 := OkopX.of (k_add (by decide +kernel))
theorem k_L_law_851 {B L : Nat} {xs : Nat → Int} : OkopX (ScX B L xs) i_L_law 851 (o_scr B L xs) 852 := k_scr (by decide +kernel)
theorem k_L_law_852 {B L : Nat} {xs : Nat → Int} : OkopX (ScX B L xs) i_L_law 852 (o_al 0) 853 := OkopX.of (k_aln (j := 0) (by decide +kernel))
theorem k_L_law_853 {B L : Nat} {xs : Nat → Int} : OkopX (ScX B L xs) i_L_law 853 (o_il 3) 854 := OkopX.of (k_iln (j := 3) (by decide +kernel))
theorem k_L_law_854 {B L : Nat} {xs : Nat → Int} : OkopX (ScX B L xs) i_L_law 854 (o_c 3) 855 := OkopX.of (k_iconst (by decide +kernel))
theorem k_L_law_855 {B L : Nat} {xs : Nat → Int} : OkopX (ScX B L xs) i_L_law 855 (o_add) 856 := OkopX.of (k_add (by decide +kernel))
theorem k_L_law_856 {B L : Nat} {xs : Nat → Int} : OkopX (ScX B L xs) i_L_law 856 (o_scr B L xs) 857 := k_scr (by decide +kernel)
theorem k_L_law_857 {B L : Nat} {xs : Nat → Int} : OkopX (ScX B L xs) i_L_law 857 (o_al 0) 858 := OkopX.of (k_aln (j := 0) (by decide +kernel))
theorem k_L_law_858 {B L : Nat} {xs : Nat → Int} : OkopX (ScX B L xs) i_L_law 858 (o_il 3) 859 := OkopX.of (k_iln (j := 3) (by decide +kernel))
theorem k_L_law_859 {B L : Nat} {xs : Nat → Int} : OkopX (ScX B L xs) i_L_law 859 (o_c 4) 860 := OkopX.of (k_iconst (by decide +kernel))
theorem k_L_law_860 {B L : Nat} {xs : Nat → Int} : OkopX (ScX B L xs) i_L_law 860 (o_add) 861 := OkopX.of (k_add (by decide +kernel))
theorem k_L_law_861 {B L : Nat} {xs : Nat → Int} : OkopX (ScX B L xs) i_L_law 861 (o_scr B L xs) 862 := k_scr (by decide +kernel)
theorem k_L_law_862 {B L : Nat} {xs : Nat → Int} : OkopX (ScX B L xs) i_L_law 862 (o_callV 7 4 T_X7_level) 865 := OkopX.of (k_callV (idx := 95) (r0 := (RX7, TX7, 6)) m_X7_level ⟨gw_520, gw_1, ⟨by decide, by decide, by decide +kernel⟩, by decide, by decide⟩ rfl gw_517 gw_518 gw_519 (by decide +kernel))
theorem k_L_law_865 {B L : Nat} {xs : Nat → Int} : OkopX (ScX B L xs) i_L_law 865 (o_al 2) 866 := OkopX.of (k_aln (j := 2) (by decide +kernel))
theorem k_L_law_866 {B L : Nat} {xs : Nat → Int} : OkopX (ScX B L xs) i_L_law 866 (o_al 0) 867 := OkopX.of (k_aln (j := 0) (by decide +kernel))
theorem k_L_law_867 {B L : Nat} {xs : Nat → Int} : OkopX (ScX B L xs) i_L_law 867 (o_il 3) 868 := OkopX.of (k_iln (j := 3) (by decide +kernel))
theorem k_L_law_868 {B L : Nat} {xs : Nat → Int} : OkopX (ScX B L xs) i_L_law 868 (o_c 1) 869 := OkopX.of (k_iconst (by decide +kernel))
theorem k_L_law_869 {B L : Nat} {xs : Nat → Int} : OkopX (ScX B L xs) i_L_law 869 (o_add) 870 := OkopX.of (k_add (by decide +kernel))
theorem k_L_law_870 {B L : Nat} {xs : Nat → Int} : OkopX (ScX B L xs) i_L_law 870 (o_scr B L xs) 871 := k_scr (by decide +kernel)
theorem k_L_law_871 {B L : Nat} {xs : Nat → Int} : OkopX (ScX B L xs) i_L_law 871 (o_al 0) 872 := OkopX.of (k_aln (j := 0) (by decide +kernel))
theorem k_L_law_872 {B L : Nat} {xs : Nat → Int} : OkopX (ScX B L xs) i_L_law 872 (o_il 3) 873 := OkopX.of (k_iln (j := 3) (by decide +kernel))
theorem k_L_law_873 {B L : Nat} {xs : Nat → Int} : OkopX (ScX B L xs) i_L_law 873 (o_c 2) 874 := OkopX.of (k_iconst (by decide +kernel))
theorem k_L_law_874 {B L : Nat} {xs : Nat → Int} : OkopX (ScX B L xs) i_L_law 874 (o_add) 875 := OkopX.of (k_add (by decide +kernel))
theorem k_L_law_875 {B L : Nat} {xs : Nat → Int} : OkopX (ScX B L xs) i_L_law 875 (o_scr B L xs) 876 := k_scr (by decide +kernel)
theorem k_L_law_876 {B L : Nat} {xs : Nat → Int} : OkopX (ScX B L xs) i_L_law 876 (o_al 0) 877 := OkopX.of (k_aln (j := 0) (by decide +kernel))
theorem k_L_law_877 {B L : Nat} {xs : Nat → Int} : OkopX (ScX B L xs) i_L_law 877 (o_il 3) 878 := OkopX.of (k_iln (j := 3) (by decide +kernel))
theorem k_L_law_878 {B L : Nat} {xs : Nat → Int} : OkopX (ScX B L xs) i_L_law 878 (o_c 3) 879 := OkopX.of (k_iconst (by decide +kernel))
theorem k_L_law_879 {B L : Nat} {xs : Nat → Int} : OkopX (ScX B L xs) i_L_law 879 (o_add) 880 := OkopX.of (k_add (by decide +kernel))
theorem k_L_law_880 {B L : Nat} {xs : Nat → Int} : OkopX (ScX B L xs) i_L_law 880 (o_scr B L xs) 881 := k_scr (by decide +kernel)
theorem k_L_law_881 {B L : Nat} {xs : Nat → Int} : OkopX (ScX B L xs) i_L_law 881 (o_al 0) 882 := OkopX.of (k_aln (j := 0) (by decide +kernel))
theorem k_L_law_882 {B L : Nat} {xs : Nat → Int} : OkopX (ScX B L xs) i_L_law 882 (o_il 3) 883 := OkopX.of (k_iln (j := 3) (by decide +kernel))
theorem k_L_law_883 {B L : Nat} {xs : Nat → Int} : OkopX (ScX B L xs) i_L_law 883 (o_c 4) 884 := OkopX.of (k_iconst (by decide +kernel))
theorem k_L_law_884 {B L : Nat} {xs : Nat → Int} : OkopX (ScX B L xs) i_L_law 884 (o_add) 885 := OkopX.of (k_add (by decide +kernel))
theorem k_L_law_885 {B L : Nat} {xs : Nat → Int} : OkopX (ScX B L xs) i_L_law 885 (o_scr B L xs) 886 := k_scr (by decide +kernel)
theorem k_L_law_886 {B L : Nat} {xs : Nat → Int} : OkopX (ScX B L xs) i_L_law 886 (o_callV 8 4 T_X8_level) 889 := OkopX.of (k_callV (idx := 98) (r0 := (RX8, TX8, 14)) m_X8_level ⟨gw_854, gw_10, ⟨by decide, by decide, by decide +kernel⟩, by decide, by decide⟩ rfl gw_851 gw_852 gw_853 (by decide +kernel))
theorem k_L_law_889 {B L : Nat} {xs : Nat → Int} : OkopX (ScX B L xs) i_L_law 889 (o_ieq 1155) 892 := OkopX.of (k_ieq (off := 266) (by decide +kernel) (by decide))
theorem k_L_law_892 {B L : Nat} {xs : Nat → Int} : OkopX (ScX B L xs) i_L_law 892 (o_c 0) 893 := OkopX.of (k_iconst (by decide +kernel))
theorem k_L_law_893 {B L : Nat} {xs : Nat → Int} : OkopX (ScX B L xs) i_L_law 893 (o_zret) 894 := OkopX.of (k_zret (by decide +kernel) rfl)
theorem k_L_law_894 {B L : Nat} {xs : Nat → Int} : OkopX (ScX B L xs) i_L_law 894 (o_al 1) 895 := OkopX.of (k_aln (j := 1) (by decide +kernel))
theorem k_L_law_895 {B L : Nat} {xs : Nat → Int} : OkopX (ScX B L xs) i_L_law 895 (o_al 0) 896 := OkopX.of (k_aln (j := 0) (by decide +kernel))
theorem k_L_law_896 {B L : Nat} {xs : Nat → Int} : OkopX (ScX B L xs) i_L_law 896 (o_il 3) 897 := OkopX.of (k_iln (j := 3) (by decide +kernel))
theorem k_L_law_897 {B L : Nat} {xs : Nat → Int} : OkopX (ScX B L xs) i_L_law 897 (o_c 1) 898 := OkopX.of (k_iconst (by decide +kernel))
theorem k_L_law_898 {B L : Nat} {xs : Nat → Int} : OkopX (ScX B L xs) i_L_law 898 (o_add) 899 := OkopX.of (k_add (by decide +kernel))
theorem k_L_law_899 {B L : Nat} {xs : Nat → Int} : OkopX (ScX B L xs) i_L_law 899 (o_scr B L xs) 900 := k_scr (by decide +kernel)
theorem k_L_law_900 {B L : Nat} {xs : Nat → Int} : OkopX (ScX B L xs) i_L_law 900 (o_callV 7 1 T_X7_plain) 903 := OkopX.of (k_callV (idx := 99) (r0 := (RX7, TX7, 6)) m_X7_plain ⟨gw_529, gw_1, ⟨by decide, by decide, by decide +kernel⟩, by decide, by decide⟩ rfl gw_526 gw_527 gw_528 (by decide +kernel))
theorem k_L_law_903 {B L : Nat} {xs : Nat → Int} : OkopX (ScX B L xs) i_L_law 903 (o_al 2) 904 := OkopX.of (k_aln (j := 2) (by decide +kernel))
theorem k_L_law_904 {B L : Nat} {xs : Nat → Int} : OkopX (ScX B L xs) i_L_law 904 (o_al 0) 905 := OkopX.of (k_aln (j := 0) (by decide +kernel))
theorem k_L_law_905 {B L : Nat} {xs : Nat → Int} : OkopX (ScX B L xs) i_L_law 905 (o_il 3) 906 := OkopX.of (k_iln (j := 3) (by decide +kernel))
theorem k_L_law_906 {B L : Nat} {xs : Nat → Int} : OkopX (ScX B L xs) i_L_law 906 (o_c 1) 907 := OkopX.of (k_iconst (by decide +kernel))
theorem k_L_law_907 {B L : Nat} {xs : Nat → Int} : OkopX (ScX B L xs) i_L_law 907 (o_add) 908 := OkopX.of (k_add (by decide +kernel))
theorem k_L_law_908 {B L : Nat} {xs : Nat → Int} : OkopX (ScX B L xs) i_L_law 908 (o_scr B L xs) 909 := k_scr (by decide +kernel)
theorem k_L_law_909 {B L : Nat} {xs : Nat → Int} : OkopX (ScX B L xs) i_L_law 909 (o_callV 8 1 T_X8_plain) 912 := OkopX.of (k_callV (idx := 102) (r0 := (RX8, TX8, 14)) m_X8_plain ⟨gw_859, gw_10, ⟨by decide, by decide, by decide +kernel⟩, by decide, by decide⟩ rfl gw_856 gw_857 gw_858 (by decide +kernel))
theorem k_L_law_912 {B L : Nat} {xs : Nat → Int} : OkopX (ScX B L xs) i_L_law 912 (o_ieq 1155) 915 := OkopX.of (k_ieq (off := 243) (by decide +kernel) (by decide))
theorem k_L_law_915 {B L : Nat} {xs : Nat → Int} : OkopX (ScX B L xs) i_L_law 915 (o_c 0) 916 := OkopX.of (k_iconst (by decide +kernel))
theorem k_L_law_916 {B L : Nat} {xs : Nat → Int} : OkopX (ScX B L xs) i_L_law 916 (o_zret) 917 := OkopX.of (k_zret (by decide +kernel) rfl)
theorem k_L_law_917 {B L : Nat} {xs : Nat → Int} : OkopX (ScX B L xs) i_L_law 917 (o_al 1) 918 := OkopX.of (k_aln (j := 1) (by decide +kernel))
theorem k_L_law_918 {B L : Nat} {xs : Nat → Int} : OkopX (ScX B L xs) i_L_law 918 (o_callV 7 0 T_X7_best) 921 := OkopX.of (k_callV (idx := 103) (r0 := (RX7, TX7, 6)) m_X7_best ⟨gw_533, gw_1, ⟨by decide, by decide, by decide +kernel⟩, by decide, by decide⟩ rfl gw_530 gw_531 gw_532 (by decide +kernel))
theorem k_L_law_921 {B L : Nat} {xs : Nat → Int} : OkopX (ScX B L xs) i_L_law 921 (o_al 2) 922 := OkopX.of (k_aln (j := 2) (by decide +kernel))
theorem k_L_law_922 {B L : Nat} {xs : Nat → Int} : OkopX (ScX B L xs) i_L_law 922 (o_callV 8 0 T_X8_best) 925 := OkopX.of (k_callV (idx := 107) (r0 := (RX8, TX8, 14)) m_X8_best ⟨gw_863, gw_10, ⟨by decide, by decide, by decide +kernel⟩, by decide, by decide⟩ rfl gw_860 gw_861 gw_862 (by decide +kernel))
theorem k_L_law_925 {B L : Nat} {xs : Nat → Int} : OkopX (ScX B L xs) i_L_law 925 (o_lcmp) 926 := OkopX.of (k_lcmp (by decide +kernel))
theorem k_L_law_926 {B L : Nat} {xs : Nat → Int} : OkopX (ScX B L xs) i_L_law 926 (o_eq0 1155) 929 := OkopX.of (k_eq0 (off := 229) (by decide +kernel) (by decide))
theorem k_L_law_929 {B L : Nat} {xs : Nat → Int} : OkopX (ScX B L xs) i_L_law 929 (o_c 0) 930 := OkopX.of (k_iconst (by decide +kernel))
theorem k_L_law_930 {B L : Nat} {xs : Nat → Int} : OkopX (ScX B L xs) i_L_law 930 (o_zret) 931 := OkopX.of (k_zret (by decide +kernel) rfl)
theorem k_L_law_931 {B L : Nat} {xs : Nat → Int} : OkopX (ScX B L xs) i_L_law 931 (o_al 1) 932 := OkopX.of (k_aln (j := 1) (by decide +kernel))
theorem k_L_law_932 {B L : Nat} {xs : Nat → Int} : OkopX (ScX B L xs) i_L_law 932 (o_al 0) 933 := OkopX.of (k_aln (j := 0) (by decide +kernel))
theorem k_L_law_933 {B L : Nat} {xs : Nat → Int} : OkopX (ScX B L xs) i_L_law 933 (o_il 3) 934 := OkopX.of (k_iln (j := 3) (by decide +kernel))
theorem k_L_law_934 {B L : Nat} {xs : Nat → Int} : OkopX (ScX B L xs) i_L_law 934 (o_c 1) 935 := OkopX.of (k_iconst (by decide +kernel))
theorem k_L_law_935 {B L : Nat} {xs : Nat → Int} : OkopX (ScX B L xs) i_L_law 935 (o_add) 936 := OkopX.of (k_add (by decide +kernel))
theorem k_L_law_936 {B L : Nat} {xs : Nat → Int} : OkopX (ScX B L xs) i_L_law 936 (o_scr B L xs) 937 := k_scr (by decide +kernel)
theorem k_L_law_937 {B L : Nat} {xs : Nat → Int} : OkopX (ScX B L xs) i_L_law 937 (o_callV 7 1 T_X7_choice) 940 := OkopX.of (k_callV (idx := 108) (r0 := (RX7, TX7, 6)) m_X7_choice ⟨gw_574, gw_1, ⟨by decide, by decide, by decide +kernel⟩, by decide, by decide⟩ rfl gw_571 gw_572 gw_573 (by decide +kernel))
theorem k_L_law_940 {B L : Nat} {xs : Nat → Int} : OkopX (ScX B L xs) i_L_law 940 (o_al 2) 941 := OkopX.of (k_aln (j := 2) (by decide +kernel))
theorem k_L_law_941 {B L : Nat} {xs : Nat → Int} : OkopX (ScX B L xs) i_L_law 941 (o_al 0) 942 := OkopX.of (k_aln (j := 0) (by decide +kernel))
theorem k_L_law_942 {B L : Nat} {xs : Nat → Int} : OkopX (ScX B L xs) i_L_law 942 (o_il 3) 943 := OkopX.of (k_iln (j := 3) (by decide +kernel))
theorem k_L_law_943 {B L : Nat} {xs : Nat → Int} : OkopX (ScX B L xs) i_L_law 943 (o_c 1) 944 := OkopX.of (k_iconst (by decide +kernel))
theorem k_L_law_944 {B L : Nat} {xs : Nat → Int} : OkopX (ScX B L xs) i_L_law 944 (o_add) 945 := OkopX.of (k_add (by decide +kernel))
theorem k_L_law_945 {B L : Nat} {xs : Nat → Int} : OkopX (ScX B L xs) i_L_law 945 (o_scr B L xs) 946 := k_scr (by decide +kernel)
theorem k_L_law_946 {B L : Nat} {xs : Nat → Int} : OkopX (ScX B L xs) i_L_law 946 (o_callV 8 1 T_X8_choice) 949 := OkopX.of (k_callV (idx := 111) (r0 := (RX8, TX8, 14)) m_X8_choice ⟨gw_879, gw_10, ⟨by decide, by decide, by decide +kernel⟩, by decide, by decide⟩ rfl gw_876 gw_877 gw_878 (by decide +kernel))
theorem k_L_law_949 {B L : Nat} {xs : Nat → Int} : OkopX (ScX B L xs) i_L_law 949 (o_ieq 1155) 952 := OkopX.of (k_ieq (off := 206) (by decide +kernel) (by decide))
theorem k_L_law_952 {B L : Nat} {xs : Nat → Int} : OkopX (ScX B L xs) i_L_law 952 (o_c 0) 953 := OkopX.of (k_iconst (by decide +kernel))
theorem k_L_law_953 {B L : Nat} {xs : Nat → Int} : OkopX (ScX B L xs) i_L_law 953 (o_zret) 954 := OkopX.of (k_zret (by decide +kernel) rfl)
theorem k_L_law_954 {B L : Nat} {xs : Nat → Int} : OkopX (ScX B L xs) i_L_law 954 (o_al 1) 955 := OkopX.of (k_aln (j := 1) (by decide +kernel))
theorem k_L_law_955 {B L : Nat} {xs : Nat → Int} : OkopX (ScX B L xs) i_L_law 955 (o_al 0) 956 := OkopX.of (k_aln (j := 0) (by decide +kernel))
theorem k_L_law_956 {B L : Nat} {xs : Nat → Int} : OkopX (ScX B L xs) i_L_law 956 (o_il 3) 957 := OkopX.of (k_iln (j := 3) (by decide +kernel))
theorem k_L_law_957 {B L : Nat} {xs : Nat → Int} : OkopX (ScX B L xs) i_L_law 957 (o_c 1) 958 := OkopX.of (k_iconst (by decide +kernel))
theorem k_L_law_958 {B L : Nat} {xs : Nat → Int} : OkopX (ScX B L xs) i_L_law 958 (o_add) 959 := OkopX.of (k_add (by decide +kernel))
theorem k_L_law_959 {B L : Nat} {xs : Nat → Int} : OkopX (ScX B L xs) i_L_law 959 (o_scr B L xs) 960 := k_scr (by decide +kernel)
theorem k_L_law_960 {B L : Nat} {xs : Nat → Int} : OkopX (ScX B L xs) i_L_law 960 (o_al 0) 961 := OkopX.of (k_aln (j := 0) (by decide +kernel))
theorem k_L_law_961 {B L : Nat} {xs : Nat → Int} : OkopX (ScX B L xs) i_L_law 961 (o_il 3) 962 := OkopX.of (k_iln (j := 3) (by decide +kernel))
theorem k_L_law_962 {B L : Nat} {xs : Nat → Int} : OkopX (ScX B L xs) i_L_law 962 (o_c 2) 963 := OkopX.of (k_iconst (by decide +kernel))
theorem k_L_law_963 {B L : Nat} {xs : Nat → Int} : OkopX (ScX B L xs) i_L_law 963 (o_add) 964 := OkopX.of (k_add (by decide +kernel))
theorem k_L_law_964 {B L : Nat} {xs : Nat → Int} : OkopX (ScX B L xs) i_L_law 964 (o_scr B L xs) 965 := k_scr (by decide +kernel)
theorem k_L_law_965 {B L : Nat} {xs : Nat → Int} : OkopX (ScX B L xs) i_L_law 965 (o_callV 7 2 T_X7_part) 968 := OkopX.of (k_callV (idx := 112) (r0 := (RX7, TX7, 6)) m_X7_part ⟨gw_578, gw_1, ⟨by decide, by decide, by decide +kernel⟩, by decide, by decide⟩ rfl gw_575 gw_576 gw_577 (by decide +kernel))
theorem k_L_law_968 {B L : Nat} {xs : Nat → Int} : OkopX (ScX B L xs) i_L_law 968 (o_al 2) 969 := OkopX.of (k_aln (j := 2) (by decide +kernel))
theorem k_L_law_969 {B L : Nat} {xs : Nat → Int} : OkopX (ScX B L xs) i_L_law 969 (o_al 0) 970 := OkopX.of (k_aln (j := 0) (by decide +kernel))
theorem k_L_law_970 {B L : Nat} {xs : Nat → Int} : OkopX (ScX B L xs) i_L_law 970 (o_il 3) 971 := OkopX.of (k_iln (j := 3) (by decide +kernel))
theorem k_L_law_971 {B L : Nat} {xs : Nat → Int} : OkopX (ScX B L xs) i_L_law 971 (o_c 1) 972 := OkopX.of (k_iconst (by decide +kernel))
theorem k_L_law_972 {B L : Nat} {xs : Nat → Int} : OkopX (ScX B L xs) i_L_law 972 (o_add) 973 := OkopX.of (k_add (by decide +kernel))
theorem k_L_law_973 {B L : Nat} {xs : Nat → Int} : OkopX (ScX B L xs) i_L_law 973 (o_scr B L xs) 974 := k_scr (by decide +kernel)
theorem k_L_law_974 {B L : Nat} {xs : Nat → Int} : OkopX (ScX B L xs) i_L_law 974 (o_al 0) 975 := OkopX.of (k_aln (j := 0) (by decide +kernel))
theorem k_L_law_975 {B L : Nat} {xs : Nat → Int} : OkopX (ScX B L xs) i_L_law 975 (o_il 3) 976 := OkopX.of (k_iln (j := 3) (by decide +kernel))
theorem k_L_law_976 {B L : Nat} {xs : Nat → Int} : OkopX (ScX B L xs) i_L_law 976 (o_c 2) 977 := OkopX.of (k_iconst (by decide +kernel))
theorem k_L_law_977 {B L : Nat} {xs : Nat → Int} : OkopX (ScX B L xs) i_L_law 977 (o_add) 978 := OkopX.of (k_add (by decide +kernel))
theorem k_L_law_978 {B L : Nat} {xs : Nat → Int} : OkopX (ScX B L xs) i_L_law 978 (o_scr B L xs) 979 := k_scr (by decide +kernel)
theorem k_L_law_979 {B L : Nat} {xs : Nat → Int} : OkopX (ScX B L xs) i_L_law 979 (o_callV 8 2 T_X8_part) 982 := OkopX.of (k_callV (idx := 115) (r0 := (RX8, TX8, 14)) m_X8_part ⟨gw_883, gw_10, ⟨by decide, by decide, by decide +kernel⟩, by decide, by decide⟩ rfl gw_880 gw_881 gw_882 (by decide +kernel))
theorem k_L_law_982 {B L : Nat} {xs : Nat → Int} : OkopX (ScX B L xs) i_L_law 982 (o_ieq 1155) 985 := OkopX.of (k_ieq (off := 173) (by decide +kernel) (by decide))
theorem k_L_law_985 {B L : Nat} {xs : Nat → Int} : OkopX (ScX B L xs) i_L_law 985 (o_c 0) 986 := OkopX.of (k_iconst (by decide +kernel))
theorem k_L_law_986 {B L : Nat} {xs : Nat → Int} : OkopX (ScX B L xs) i_L_law 986 (o_zret) 987 := OkopX.of (k_zret (by decide +kernel) rfl)
theorem k_L_law_987 {B L : Nat} {xs : Nat → Int} : OkopX (ScX B L xs) i_L_law 987 (o_al 1) 988 := OkopX.of (k_aln (j := 1) (by decide +kernel))
theorem k_L_law_988 {B L : Nat} {xs : Nat → Int} : OkopX (ScX B L xs) i_L_law 988 (o_al 0) 989 := OkopX.of (k_aln (j := 0) (by decide +kernel))
theorem k_L_law_989 {B L : Nat} {xs : Nat → Int} : OkopX (ScX B L xs) i_L_law 989 (o_il 3) 990 := OkopX.of (k_iln (j := 3) (by decide +kernel))
theorem k_L_law_990 {B L : Nat} {xs : Nat → Int} : OkopX (ScX B L xs) i_L_law 990 (o_c 1) 991 := OkopX.of (k_iconst (by decide +kernel))
theorem k_L_law_991 {B L : Nat} {xs : Nat → Int} : OkopX (ScX B L xs) i_L_law 991 (o_add) 992 := OkopX.of (k_add (by decide +kernel))
theorem k_L_law_992 {B L : Nat} {xs : Nat → Int} : OkopX (ScX B L xs) i_L_law 992 (o_scr B L xs) 993 := k_scr (by decide +kernel)
theorem k_L_law_993 {B L : Nat} {xs : Nat → Int} : OkopX (ScX B L xs) i_L_law 993 (o_callV 7 1 T_X7_sweep) 996 := OkopX.of (k_callV (idx := 116) (r0 := (RX7, TX7, 6)) m_X7_sweep ⟨gw_585, gw_1, ⟨by decide, by decide, by decide +kernel⟩, by decide, by decide⟩ rfl gw_582 gw_583 gw_584 (by decide +kernel))
theorem k_L_law_996 {B L : Nat} {xs : Nat → Int} : OkopX (ScX B L xs) i_L_law 996 (o_al 2) 997 := OkopX.of (k_aln (j := 2) (by decide +kernel))
theorem k_L_law_997 {B L : Nat} {xs : Nat → Int} : OkopX (ScX B L xs) i_L_law 997 (o_al 0) 998 := OkopX.of (k_aln (j := 0) (by decide +kernel))
theorem k_L_law_998 {B L : Nat} {xs : Nat → Int} : OkopX (ScX B L xs) i_L_law 998 (o_il 3) 999 := OkopX.of (k_iln (j := 3) (by decide +kernel))
theorem k_L_law_999 {B L : Nat} {xs : Nat → Int} : OkopX (ScX B L xs) i_L_law 999 (o_c 1) 1000 := OkopX.of (k_iconst (by decide +kernel))
theorem k_L_law_1000 {B L : Nat} {xs : Nat → Int} : OkopX (ScX B L xs) i_L_law 1000 (o_add) 1001 := OkopX.of (k_add (by decide +kernel))
theorem k_L_law_1001 {B L : Nat} {xs : Nat → Int} : OkopX (ScX B L xs) i_L_law 1001 (o_scr B L xs) 1002 := k_scr (by decide +kernel)
theorem k_L_law_1002 {B L : Nat} {xs : Nat → Int} : OkopX (ScX B L xs) i_L_law 1002 (o_callV 8 1 T_X8_sweep) 1005 := OkopX.of (k_callV (idx := 119) (r0 := (RX8, TX8, 14)) m_X8_sweep ⟨gw_890, gw_10, ⟨by decide, by decide, by decide +kernel⟩, by decide, by decide⟩ rfl gw_887 gw_888 gw_889 (by decide +kernel))
theorem k_L_law_1005 {B L : Nat} {xs : Nat → Int} : OkopX (ScX B L xs) i_L_law 1005 (o_ieq 1155) 1008 := OkopX.of (k_ieq (off := 150) (by decide +kernel) (by decide))
theorem k_L_law_1008 {B L : Nat} {xs : Nat → Int} : OkopX (ScX B L xs) i_L_law 1008 (o_c 0) 1009 := OkopX.of (k_iconst (by decide +kernel))
theorem k_L_law_1009 {B L : Nat} {xs : Nat → Int} : OkopX (ScX B L xs) i_L_law 1009 (o_zret) 1010 := OkopX.of (k_zret (by decide +kernel) rfl)
theorem k_L_law_1010 {B L : Nat} {xs : Nat → Int} : OkopX (ScX B L xs) i_L_law 1010 (o_al 1) 1011 := OkopX.of (k_aln (j := 1) (by decide +kernel))
theorem k_L_law_1011 {B L : Nat} {xs : Nat → Int} : OkopX (ScX B L xs) i_L_law 1011 (o_al 0) 1012 := OkopX.of (k_aln (j := 0) (by decide +kernel))
theorem k_L_law_1012 {B L : Nat} {xs : Nat → Int} : OkopX (ScX B L xs) i_L_law 1012 (o_il 3) 1013 := OkopX.of (k_iln (j := 3) (by decide +kernel))
theorem k_L_law_1013 {B L : Nat} {xs : Nat → Int} : OkopX (ScX B L xs) i_L_law 1013 (o_c 1) 1014 := OkopX.of (k_iconst (by decide +kernel))
theorem k_L_law_1014 {B L : Nat} {xs : Nat → Int} : OkopX (ScX B L xs) i_L_law 1014 (o_add) 1015 := OkopX.of (k_add (by decide +kernel))
theorem k_L_law_1015 {B L : Nat} {xs : Nat → Int} : OkopX (ScX B L xs) i_L_law 1015 (o_scr B L xs) 1016 := k_scr (by decide +kernel)
theorem k_L_law_1016 {B L : Nat} {xs : Nat → Int} : OkopX (ScX B L xs) i_L_law 1016 (o_al 0) 1017 := OkopX.of (k_aln (j := 0) (by decide +kernel))
theorem k_L_law_1017 {B L : Nat} {xs : Nat → Int} : OkopX (ScX B L xs) i_L_law 1017 (o_il 3) 1018 := OkopX.of (k_iln (j := 3) (by decide +kernel))
theorem k_L_law_1018 {B L : Nat} {xs : Nat → Int} : OkopX (ScX B L xs) i_L_law 1018 (o_c 2) 1019 := OkopX.of (k_iconst (by decide +kernel))
theorem k_L_law_1019 {B L : Nat} {xs : Nat → Int} : OkopX (ScX B L xs) i_L_law 1019 (o_add) 1020 := OkopX.of (k_add (by decide +kernel))
theorem k_L_law_1020 {B L : Nat} {xs : Nat → Int} : OkopX (ScX B L xs) i_L_law 1020 (o_scr B L xs) 1021 := k_scr (by decide +kernel)
theorem k_L_law_1021 {B L : Nat} {xs : Nat → Int} : OkopX (ScX B L xs) i_L_law 1021 (o_callV 7 2 T_X7_match) 1024 := OkopX.of (k_callV (idx := 120) (r0 := (RX7, TX7, 6)) m_X7_match ⟨gw_589, gw_1, ⟨by decide, by decide, by decide +kernel⟩, by decide, by decide⟩ rfl gw_586 gw_587 gw_588 (by decide +kernel))
theorem k_L_law_1024 {B L : Nat} {xs : Nat → Int} : OkopX (ScX B L xs) i_L_law 1024 (o_al 2) 1025 := OkopX.of (k_aln (j := 2) (by decide +kernel))
theorem k_L_law_1025 {B L : Nat} {xs : Nat → Int} : OkopX (ScX B L xs) i_L_law 1025 (o_al 0) 1026 := OkopX.of (k_aln (j := 0) (by decide +kernel))
theorem k_L_law_1026 {B L : Nat} {xs : Nat → Int} : OkopX (ScX B L xs) i_L_law 1026 (o_il 3) 1027 := OkopX.of (k_iln (j := 3) (by decide +kernel))
theorem k_L_law_1027 {B L : Nat} {xs : Nat → Int} : OkopX (ScX B L xs) i_L_law 1027 (o_c 1) 1028 := OkopX.of (k_iconst (by decide +kernel))
theorem k_L_law_1028 {B L : Nat} {xs : Nat → Int} : OkopX (ScX B L xs) i_L_law 1028 (o_add) 1029 := OkopX.of (k_add (by decide +kernel))
theorem k_L_law_1029 {B L : Nat} {xs : Nat → Int} : OkopX (ScX B L xs) i_L_law 1029 (o_scr B L xs) 1030 := k_scr (by decide +kernel)
theorem k_L_law_1030 {B L : Nat} {xs : Nat → Int} : OkopX (ScX B L xs) i_L_law 1030 (o_al 0) 1031 := OkopX.of (k_aln (j := 0) (by decide +kernel))
theorem k_L_law_1031 {B L : Nat} {xs : Nat → Int} : OkopX (ScX B L xs) i_L_law 1031 (o_il 3) 1032 := OkopX.of (k_iln (j := 3) (by decide +kernel))
theorem k_L_law_1032 {B L : Nat} {xs : Nat → Int} : OkopX (ScX B L xs) i_L_law 1032 (o_c 2) 1033 := OkopX.of (k_iconst (by decide +kernel))
theorem k_L_law_1033 {B L : Nat} {xs : Nat → Int} : OkopX (ScX B L xs) i_L_law 1033 (o_add) 1034 := OkopX.of (k_add (by decide +kernel))
theorem k_L_law_1034 {B L : Nat} {xs : Nat → Int} : OkopX (ScX B L xs) i_L_law 1034 (o_scr B L xs) 1035 := k_scr (by decide +kernel)
theorem k_L_law_1035 {B L : Nat} {xs : Nat → Int} : OkopX (ScX B L xs) i_L_law 1035 (o_callV 8 2 T_X8_match) 1038 := OkopX.of (k_callV (idx := 123) (r0 := (RX8, TX8, 14)) m_X8_match ⟨gw_894, gw_10, ⟨by decide, by decide, by decide +kernel⟩, by decide, by decide⟩ rfl gw_891 gw_892 gw_893 (by decide +kernel))
theorem k_L_law_1038 {B L : Nat} {xs : Nat → Int} : OkopX (ScX B L xs) i_L_law 1038 (o_ieq 1155) 1041 := OkopX.of (k_ieq (off := 117) (by decide +kernel) (by decide))
theorem k_L_law_1041 {B L : Nat} {xs : Nat → Int} : OkopX (ScX B L xs) i_L_law 1041 (o_c 0) 1042 := OkopX.of (k_iconst (by decide +kernel))
theorem k_L_law_1042 {B L : Nat} {xs : Nat → Int} : OkopX (ScX B L xs) i_L_law 1042 (o_zret) 1043 := OkopX.of (k_zret (by decide +kernel) rfl)
theorem k_L_law_1043 {B L : Nat} {xs : Nat → Int} : OkopX (ScX B L xs) i_L_law 1043 (o_al 1) 1044 := OkopX.of (k_aln (j := 1) (by decide +kernel))
theorem k_L_law_1044 {B L : Nat} {xs : Nat → Int} : OkopX (ScX B L xs) i_L_law 1044 (o_al 0) 1045 := OkopX.of (k_aln (j := 0) (by decide +kernel))
theorem k_L_law_1045 {B L : Nat} {xs : Nat → Int} : OkopX (ScX B L xs) i_L_law 1045 (o_il 3) 1046 := OkopX.of (k_iln (j := 3) (by decide +kernel))
theorem k_L_law_1046 {B L : Nat} {xs : Nat → Int} : OkopX (ScX B L xs) i_L_law 1046 (o_c 1) 1047 := OkopX.of (k_iconst (by decide +kernel))
theorem k_L_law_1047 {B L : Nat} {xs : Nat → Int} : OkopX (ScX B L xs) i_L_law 1047 (o_add) 1048 := OkopX.of (k_add (by decide +kernel))
theorem k_L_law_1048 {B L : Nat} {xs : Nat → Int} : OkopX (ScX B L xs) i_L_law 1048 (o_scr B L xs) 1049 := k_scr (by decide +kernel)
theorem k_L_law_1049 {B L : Nat} {xs : Nat → Int} : OkopX (ScX B L xs) i_L_law 1049 (o_callV 7 1 T_X7_mate) 1052 := OkopX.of (k_callV (idx := 124) (r0 := (RX7, TX7, 6)) m_X7_mate ⟨gw_602, gw_1, ⟨by decide, by decide, by decide +kernel⟩, by decide, by decide⟩ rfl gw_599 gw_600 gw_601 (by decide +kernel))
theorem k_L_law_1052 {B L : Nat} {xs : Nat → Int} : OkopX (ScX B L xs) i_L_law 1052 (o_al 2) 1053 := OkopX.of (k_aln (j := 2) (by decide +kernel))
theorem k_L_law_1053 {B L : Nat} {xs : Nat → Int} : OkopX (ScX B L xs) i_L_law 1053 (o_al 0) 1054 := OkopX.of (k_aln (j := 0) (by decide +kernel))
theorem k_L_law_1054 {B L : Nat} {xs : Nat → Int} : OkopX (ScX B L xs) i_L_law 1054 (o_il 3) 1055 := OkopX.of (k_iln (j := 3) (by decide +kernel))
theorem k_L_law_1055 {B L : Nat} {xs : Nat → Int} : OkopX (ScX B L xs) i_L_law 1055 (o_c 1) 1056 := OkopX.of (k_iconst (by decide +kernel))
theorem k_L_law_1056 {B L : Nat} {xs : Nat → Int} : OkopX (ScX B L xs) i_L_law 1056 (o_add) 1057 := OkopX.of (k_add (by decide +kernel))
theorem k_L_law_1057 {B L : Nat} {xs : Nat → Int} : OkopX (ScX B L xs) i_L_law 1057 (o_scr B L xs) 1058 := k_scr (by decide +kernel)
theorem k_L_law_1058 {B L : Nat} {xs : Nat → Int} : OkopX (ScX B L xs) i_L_law 1058 (o_callV 8 1 T_X8_mate) 1061 := OkopX.of (k_callV (idx := 127) (r0 := (RX8, TX8, 14)) m_X8_mate ⟨gw_898, gw_10, ⟨by decide, by decide, by decide +kernel⟩, by decide, by decide⟩ rfl gw_895 gw_896 gw_897 (by decide +kernel))
theorem k_L_law_1061 {B L : Nat} {xs : Nat → Int} : OkopX (ScX B L xs) i_L_law 1061 (o_ieq 1155) 1064 := OkopX.of (k_ieq (off := 94) (by decide +kernel) (by decide))
theorem k_L_law_1064 {B L : Nat} {xs : Nat → Int} : OkopX (ScX B L xs) i_L_law 1064 (o_c 0) 1065 := OkopX.of (k_iconst (by decide +kernel))
theorem k_L_law_1065 {B L : Nat} {xs : Nat → Int} : OkopX (ScX B L xs) i_L_law 1065 (o_zret) 1066 := OkopX.of (k_zret (by decide +kernel) rfl)
theorem k_L_law_1066 {B L : Nat} {xs : Nat → Int} : OkopX (ScX B L xs) i_L_law 1066 (o_al 1) 1067 := OkopX.of (k_aln (j := 1) (by decide +kernel))
theorem k_L_law_1067 {B L : Nat} {xs : Nat → Int} : OkopX (ScX B L xs) i_L_law 1067 (o_al 0) 1068 := OkopX.of (k_aln (j := 0) (by decide +kernel))
theorem k_L_law_1068 {B L : Nat} {xs : Nat → Int} : OkopX (ScX B L xs) i_L_law 1068 (o_il 3) 1069 := OkopX.of (k_iln (j := 3) (by decide +kernel))
theorem k_L_law_1069 {B L : Nat} {xs : Nat → Int} : OkopX (ScX B L xs) i_L_law 1069 (o_c 1) 1070 := OkopX.of (k_iconst (by decide +kernel))
theorem k_L_law_1070 {B L : Nat} {xs : Nat → Int} : OkopX (ScX B L xs) i_L_law 1070 (o_add) 1071 := OkopX.of (k_add (by decide +kernel))
theorem k_L_law_1071 {B L : Nat} {xs : Nat → Int} : OkopX (ScX B L xs) i_L_law 1071 (o_scr B L xs) 1072 := k_scr (by decide +kernel)
theorem k_L_law_1072 {B L : Nat} {xs : Nat → Int} : OkopX (ScX B L xs) i_L_law 1072 (o_al 0) 1073 := OkopX.of (k_aln (j := 0) (by decide +kernel))
theorem k_L_law_1073 {B L : Nat} {xs : Nat → Int} : OkopX (ScX B L xs) i_L_law 1073 (o_il 3) 1074 := OkopX.of (k_iln (j := 3) (by decide +kernel))
theorem k_L_law_1074 {B L : Nat} {xs : Nat → Int} : OkopX (ScX B L xs) i_L_law 1074 (o_c 2) 1075 := OkopX.of (k_iconst (by decide +kernel))
theorem k_L_law_1075 {B L : Nat} {xs : Nat → Int} : OkopX (ScX B L xs) i_L_law 1075 (o_add) 1076 := OkopX.of (k_add (by decide +kernel))
theorem k_L_law_1076 {B L : Nat} {xs : Nat → Int} : OkopX (ScX B L xs) i_L_law 1076 (o_scr B L xs) 1077 := k_scr (by decide +kernel)
theorem k_L_law_1077 {B L : Nat} {xs : Nat → Int} : OkopX (ScX B L xs) i_L_law 1077 (o_al 0) 1078 := OkopX.of (k_aln (j := 0) (by decide +kernel))
theorem k_L_law_1078 {B L : Nat} {xs : Nat → Int} : OkopX (ScX B L xs) i_L_law 1078 (o_il 3) 1079 := OkopX.of (k_iln (j := 3) (by decide +kernel))
theorem k_L_law_1079 {B L : Nat} {xs : Nat → Int} : OkopX (ScX B L xs) i_L_law 1079 (o_c 3) 1080 := OkopX.of (k_iconst (by decide +kernel))
theorem k_L_law_1080 {B L : Nat} {xs : Nat → Int} : OkopX (ScX B L xs) i_L_law 1080 (o_add) 1081 := OkopX.of (k_add (by decide +kernel))
theorem k_L_law_1081 {B L : Nat} {xs : Nat → Int} : OkopX (ScX B L xs) i_L_law 1081 (o_scr B L xs) 1082 := k_scr (by decide +kernel)
theorem k_L_law_1082 {B L : Nat} {xs : Nat → Int} : OkopX (ScX B L xs) i_L_law 1082 (o_callVx 7 3 B_X7_shim) 1085 := OkopX.of (k_callVx (idx := 128) (r0 := (RX7, TX7, 6)) m_X7_shim ⟨gw_606, gw_1, ⟨by decide, by decide, by decide +kernel⟩, by decide, by decide⟩ rfl gw_603 gw_604 gw_605 (by decide +kernel))
theorem k_L_law_1085 {B L : Nat} {xs : Nat → Int} : OkopX (ScX B L xs) i_L_law 1085 (o_al 2) 1086 := OkopX.of (k_aln (j := 2) (by decide +kernel))
theorem k_L_law_1086 {B L : Nat} {xs : Nat → Int} : OkopX (ScX B L xs) i_L_law 1086 (o_al 0) 1087 := OkopX.of (k_aln (j := 0) (by decide +kernel))
theorem k_L_law_1087 {B L : Nat} {xs : Nat → Int} : OkopX (ScX B L xs) i_L_law 1087 (o_il 3) 1088 := OkopX.of (k_iln (j := 3) (by decide +kernel))
theorem k_L_law_1088 {B L : Nat} {xs : Nat → Int} : OkopX (ScX B L xs) i_L_law 1088 (o_c 1) 1089 := OkopX.of (k_iconst (by decide +kernel))
theorem k_L_law_1089 {B L : Nat} {xs : Nat → Int} : OkopX (ScX B L xs) i_L_law 1089 (o_add) 1090 := OkopX.of (k_add (by decide +kernel))
theorem k_L_law_1090 {B L : Nat} {xs : Nat → Int} : OkopX (ScX B L xs) i_L_law 1090 (o_scr B L xs) 1091 := k_scr (by decide +kernel)
theorem k_L_law_1091 {B L : Nat} {xs : Nat → Int} : OkopX (ScX B L xs) i_L_law 1091 (o_al 0) 1092 := OkopX.of (k_aln (j := 0) (by decide +kernel))
theorem k_L_law_1092 {B L : Nat} {xs : Nat → Int} : OkopX (ScX B L xs) i_L_law 1092 (o_il 3) 1093 := OkopX.of (k_iln (j := 3) (by decide +kernel))
theorem k_L_law_1093 {B L : Nat} {xs : Nat → Int} : OkopX (ScX B L xs) i_L_law 1093 (o_c 2) 1094 := OkopX.of (k_iconst (by decide +kernel))
theorem k_L_law_1094 {B L : Nat} {xs : Nat → Int} : OkopX (ScX B L xs) i_L_law 1094 (o_add) 1095 := OkopX.of (k_add (by decide +kernel))
theorem k_L_law_1095 {B L : Nat} {xs : Nat → Int} : OkopX (ScX B L xs) i_L_law 1095 (o_scr B L xs) 1096 := k_scr (by decide +kernel)
theorem k_L_law_1096 {B L : Nat} {xs : Nat → Int} : OkopX (ScX B L xs) i_L_law 1096 (o_al 0) 1097 := OkopX.of (k_aln (j := 0) (by decide +kernel))
theorem k_L_law_1097 {B L : Nat} {xs : Nat → Int} : OkopX (ScX B L xs) i_L_law 1097 (o_il 3) 1098 := OkopX.of (k_iln (j := 3) (by decide +kernel))
theorem k_L_law_1098 {B L : Nat} {xs : Nat → Int} : OkopX (ScX B L xs) i_L_law 1098 (o_c 3) 1099 := OkopX.of (k_iconst (by decide +kernel))
theorem k_L_law_1099 {B L : Nat} {xs : Nat → Int} : OkopX (ScX B L xs) i_L_law 1099 (o_add) 1100 := OkopX.of (k_add (by decide +kernel))
theorem k_L_law_1100 {B L : Nat} {xs : Nat → Int} : OkopX (ScX B L xs) i_L_law 1100 (o_scr B L xs) 1101 := k_scr (by decide +kernel)
theorem k_L_law_1101 {B L : Nat} {xs : Nat → Int} : OkopX (ScX B L xs) i_L_law 1101 (o_callV 8 3 T_X8_shim) 1104 := OkopX.of (k_callV (idx := 131) (r0 := (RX8, TX8, 14)) m_X8_shim ⟨gw_902, gw_10, ⟨by decide, by decide, by decide +kernel⟩, by decide, by decide⟩ rfl gw_899 gw_900 gw_901 (by decide +kernel))
theorem k_L_law_1104 {B L : Nat} {xs : Nat → Int} : OkopX (ScX B L xs) i_L_law 1104 (o_ieq 1155) 1107 := OkopX.of (k_ieq (off := 51) (by decide +kernel) (by decide))
theorem k_L_law_1107 {B L : Nat} {xs : Nat → Int} : OkopX (ScX B L xs) i_L_law 1107 (o_c 0) 1108 := OkopX.of (k_iconst (by decide +kernel))
theorem k_L_law_1108 {B L : Nat} {xs : Nat → Int} : OkopX (ScX B L xs) i_L_law 1108 (o_zret) 1109 := OkopX.of (k_zret (by decide +kernel) rfl)
theorem k_L_law_1109 {B L : Nat} {xs : Nat → Int} : OkopX (ScX B L xs) i_L_law 1109 (o_al 1) 1110 := OkopX.of (k_aln (j := 1) (by decide +kernel))
theorem k_L_law_1110 {B L : Nat} {xs : Nat → Int} : OkopX (ScX B L xs) i_L_law 1110 (o_al 0) 1111 := OkopX.of (k_aln (j := 0) (by decide +kernel))
theorem k_L_law_1111 {B L : Nat} {xs : Nat → Int} : OkopX (ScX B L xs) i_L_law 1111 (o_il 3) 1112 := OkopX.of (k_iln (j := 3) (by decide +kernel))
theorem k_L_law_1112 {B L : Nat} {xs : Nat → Int} : OkopX (ScX B L xs) i_L_law 1112 (o_c 1) 1113 := OkopX.of (k_iconst (by decide +kernel))
theorem k_L_law_1113 {B L : Nat} {xs : Nat → Int} : OkopX (ScX B L xs) i_L_law 1113 (o_add) 1114 := OkopX.of (k_add (by decide +kernel))
theorem k_L_law_1114 {B L : Nat} {xs : Nat → Int} : OkopX (ScX B L xs) i_L_law 1114 (o_scr B L xs) 1115 := k_scr (by decide +kernel)
theorem k_L_law_1115 {B L : Nat} {xs : Nat → Int} : OkopX (ScX B L xs) i_L_law 1115 (o_callVx 7 1 B_X7_image) 1118 := OkopX.of (k_callVx (idx := 132) (r0 := (RX7, TX7, 6)) m_X7_image ⟨gw_625, gw_1, ⟨by decide, by decide, by decide +kernel⟩, by decide, by decide⟩ rfl gw_622 gw_623 gw_624 (by decide +kernel))
theorem k_L_law_1118 {B L : Nat} {xs : Nat → Int} : OkopX (ScX B L xs) i_L_law 1118 (o_al 2) 1119 := OkopX.of (k_aln (j := 2) (by decide +kernel))
theorem k_L_law_1119 {B L : Nat} {xs : Nat → Int} : OkopX (ScX B L xs) i_L_law 1119 (o_al 0) 1120 := OkopX.of (k_aln (j := 0) (by decide +kernel))
theorem k_L_law_1120 {B L : Nat} {xs : Nat → Int} : OkopX (ScX B L xs) i_L_law 1120 (o_il 3) 1121 := OkopX.of (k_iln (j := 3) (by decide +kernel))
theorem k_L_law_1121 {B L : Nat} {xs : Nat → Int} : OkopX (ScX B L xs) i_L_law 1121 (o_c 1) 1122 := OkopX.of (k_iconst (by decide +kernel))
theorem k_L_law_1122 {B L : Nat} {xs : Nat → Int} : OkopX (ScX B L xs) i_L_law 1122 (o_add) 1123 := OkopX.of (k_add (by decide +kernel))
theorem k_L_law_1123 {B L : Nat} {xs : Nat → Int} : OkopX (ScX B L xs) i_L_law 1123 (o_scr B L xs) 1124 := k_scr (by decide +kernel)
theorem k_L_law_1124 {B L : Nat} {xs : Nat → Int} : OkopX (ScX B L xs) i_L_law 1124 (o_callV 8 1 T_X8_image) 1127 := OkopX.of (k_callV (idx := 135) (r0 := (RX8, TX8, 14)) m_X8_image ⟨gw_707, gw_10, ⟨by decide, by decide, by decide +kernel⟩, by decide, by decide⟩ rfl gw_704 gw_705 gw_706 (by decide +kernel))
theorem k_L_law_1127 {B L : Nat} {xs : Nat → Int} : OkopX (ScX B L xs) i_L_law 1127 (o_ieq 1155) 1130 := OkopX.of (k_ieq (off := 28) (by decide +kernel) (by decide))
theorem k_L_law_1130 {B L : Nat} {xs : Nat → Int} : OkopX (ScX B L xs) i_L_law 1130 (o_c 0) 1131 := OkopX.of (k_iconst (by decide +kernel))
theorem k_L_law_1131 {B L : Nat} {xs : Nat → Int} : OkopX (ScX B L xs) i_L_law 1131 (o_zret) 1132 := OkopX.of (k_zret (by decide +kernel) rfl)
theorem k_L_law_1132 {B L : Nat} {xs : Nat → Int} : OkopX (ScX B L xs) i_L_law 1132 (o_al 1) 1133 := OkopX.of (k_aln (j := 1) (by decide +kernel))
theorem k_L_law_1133 {B L : Nat} {xs : Nat → Int} : OkopX (ScX B L xs) i_L_law 1133 (o_al 0) 1134 := OkopX.of (k_aln (j := 0) (by decide +kernel))
theorem k_L_law_1134 {B L : Nat} {xs : Nat → Int} : OkopX (ScX B L xs) i_L_law 1134 (o_il 3) 1135 := OkopX.of (k_iln (j := 3) (by decide +kernel))
theorem k_L_law_1135 {B L : Nat} {xs : Nat → Int} : OkopX (ScX B L xs) i_L_law 1135 (o_c 1) 1136 := OkopX.of (k_iconst (by decide +kernel))
theorem k_L_law_1136 {B L : Nat} {xs : Nat → Int} : OkopX (ScX B L xs) i_L_law 1136 (o_add) 1137 := OkopX.of (k_add (by decide +kernel))
theorem k_L_law_1137 {B L : Nat} {xs : Nat → Int} : OkopX (ScX B L xs) i_L_law 1137 (o_scr B L xs) 1138 := k_scr (by decide +kernel)
theorem k_L_law_1138 {B L : Nat} {xs : Nat → Int} : OkopX (ScX B L xs) i_L_law 1138 (o_callV 7 1 T_X7_back) 1141 := OkopX.of (k_callV (idx := 136) (r0 := (RX7, TX7, 6)) m_X7_back ⟨gw_652, gw_1, ⟨by decide, by decide, by decide +kernel⟩, by decide, by decide⟩ rfl gw_649 gw_650 gw_651 (by decide +kernel))
theorem k_L_law_1141 {B L : Nat} {xs : Nat → Int} : OkopX (ScX B L xs) i_L_law 1141 (o_al 2) 1142 := OkopX.of (k_aln (j := 2) (by decide +kernel))
theorem k_L_law_1142 {B L : Nat} {xs : Nat → Int} : OkopX (ScX B L xs) i_L_law 1142 (o_al 0) 1143 := OkopX.of (k_aln (j := 0) (by decide +kernel))
theorem k_L_law_1143 {B L : Nat} {xs : Nat → Int} : OkopX (ScX B L xs) i_L_law 1143 (o_il 3) 1144 := OkopX.of (k_iln (j := 3) (by decide +kernel))
theorem k_L_law_1144 {B L : Nat} {xs : Nat → Int} : OkopX (ScX B L xs) i_L_law 1144 (o_c 1) 1145 := OkopX.of (k_iconst (by decide +kernel))
theorem k_L_law_1145 {B L : Nat} {xs : Nat → Int} : OkopX (ScX B L xs) i_L_law 1145 (o_add) 1146 := OkopX.of (k_add (by decide +kernel))
theorem k_L_law_1146 {B L : Nat} {xs : Nat → Int} : OkopX (ScX B L xs) i_L_law 1146 (o_scr B L xs) 1147 := k_scr (by decide +kernel)
theorem k_L_law_1147 {B L : Nat} {xs : Nat → Int} : OkopX (ScX B L xs) i_L_law 1147 (o_callV 8 1 T_X8_back) 1150 := OkopX.of (k_callV (idx := 139) (r0 := (RX8, TX8, 14)) m_X8_back ⟨gw_711, gw_10, ⟨by decide, by decide, by decide +kernel⟩, by decide, by decide⟩ rfl gw_708 gw_709 gw_710 (by decide +kernel))
theorem k_L_law_1150 {B L : Nat} {xs : Nat → Int} : OkopX (ScX B L xs) i_L_law 1150 (o_ieq 1155) 1153 := OkopX.of (k_ieq (off := 5) (by decide +kernel) (by decide))
theorem k_L_law_1153 {B L : Nat} {xs : Nat → Int} : OkopX (ScX B L xs) i_L_law 1153 (o_c 0) 1154 := OkopX.of (k_iconst (by decide +kernel))
theorem k_L_law_1154 {B L : Nat} {xs : Nat → Int} : OkopX (ScX B L xs) i_L_law 1154 (o_zret) 1155 := OkopX.of (k_zret (by decide +kernel) rfl)
theorem k_L_law_1155 {B L : Nat} {xs : Nat → Int} : OkopX (ScX B L xs) i_L_law 1155 (o_inc 3 6) 1158 := OkopX.of (k_inc (by decide +kernel) (by decide))
theorem k_L_law_1158 {B L : Nat} {xs : Nat → Int} : OkopX (ScX B L xs) i_L_law 1158 (o_go 18) 1161 := OkopX.of (k_go (off := -1140) (by decide +kernel) (by decide))
theorem k_L_law_1161 {B L : Nat} {xs : Nat → Int} : OkopX (ScX B L xs) i_L_law 1161 (o_c 1) 1162 := OkopX.of (k_iconst (by decide +kernel))
theorem k_L_law_1162 {B L : Nat} {xs : Nat → Int} : OkopX (ScX B L xs) i_L_law 1162 (o_zret) 1163 := OkopX.of (k_zret (by decide +kernel) rfl)
theorem s_L_law_0 {B L : Nat} {xs : Nat → Int} : SegX (ScX B L xs) i_L_law 0 [o_new 7 6, o_dup, o_callI S_X7_init, o_as 1, o_new 8 14, o_dup, o_callI S_X8_init, o_as 2, o_c 0, o_is 3] 18 := SegX.cons k_L_law_0 (SegX.cons k_L_law_3 (SegX.cons k_L_law_4 (SegX.cons k_L_law_7 (SegX.cons k_L_law_8 (SegX.cons k_L_law_11 (SegX.cons k_L_law_12 (SegX.cons k_L_law_15 (SegX.cons k_L_law_16 (SegX.cons k_L_law_17 (SegX.nil))))))))))
theorem s_L_law_18 {B L : Nat} {xs : Nat → Int} : SegX (ScX B L xs) i_L_law 18 [o_il 3, o_al 0, o_slen B L, o_c 6, o_sub, o_igt 1161, o_al 0, o_il 3, o_scr B L xs, o_c 31, o_and, o_sw 0 [164, 227, 270, 293, 326, 369, 412, 445, 488, 531, 544, 577, 620, 643, 677, 721, 755, 808, 841, 894, 917, 931, 954, 987, 1010, 1043, 1066, 1109, 1132] 1155] 164 := SegX.cons k_L_law_18 (SegX.cons k_L_law_19 (SegX.cons k_L_law_20 (SegX.cons k_L_law_21 (SegX.cons k_L_law_23 (SegX.cons k_L_law_24 (SegX.cons k_L_law_27 (SegX.cons k_L_law_28 (SegX.cons k_L_law_29 (SegX.cons k_L_law_30 (SegX.cons k_L_law_32 (SegX.cons k_L_law_33 (SegX.nil))))))))))))
theorem s_L_law_164 {B L : Nat} {xs : Nat → Int} : SegX (ScX B L xs) i_L_law 164 [o_al 1, o_al 0, o_il 3, o_c 1, o_add, o_scr B L xs, o_al 0, o_il 3, o_c 2, o_add, o_scr B L xs, o_al 0, o_il 3, o_c 3, o_add, o_scr B L xs, o_al 0, o_il 3, o_c 4, o_add, o_scr B L xs, o_al 0, o_il 3, o_c 5, o_add, o_scr B L xs, o_callV 7 5 T_X7_measure, o_al 2, o_al 0, o_il 3, o_c 1, o_add, o_scr B L xs, o_al 0, o_il 3, o_c 2, o_add, o_scr B L xs, o_al 0, o_il 3, o_c 3, o_add, o_scr B L xs, o_al 0, o_il 3, o_c 4, o_add, o_scr B L xs, o_al 0, o_il 3, o_c 5, o_add, o_scr B L xs, o_callV 8 5 T_X8_measure, o_ieq 1155, o_c 0, o_zret] 227 := SegX.cons k_L_law_164 (SegX.cons k_L_law_165 (SegX.cons k_L_law_166 (SegX.cons k_L_law_167 (SegX.cons k_L_law_168 (SegX.cons k_L_law_169 (SegX.cons k_L_law_170 (SegX.cons k_L_law_171 (SegX.cons k_L_law_172 (SegX.cons k_L_law_173 (SegX.cons k_L_law_174 (SegX.cons k_L_law_175 (SegX.cons k_L_law_176 (SegX.cons k_L_law_177 (SegX.cons k_L_law_178 (SegX.cons k_L_law_179 (SegX.cons k_L_law_180 (SegX.cons k_L_law_181 (SegX.cons k_L_law_182 (SegX.cons k_L_law_183 (SegX.cons k_L_law_184 (SegX.cons k_L_law_185 (SegX.cons k_L_law_186 (SegX.cons k_L_law_187 (SegX.cons k_L_law_188 (SegX.cons k_L_law_189 (SegX.cons k_L_law_190 (SegX.cons k_L_law_193 (SegX.cons k_L_law_194 (SegX.cons k_L_law_195 (SegX.cons k_L_law_196 (SegX.cons k_L_law_197 (SegX.cons k_L_law_198 (SegX.cons k_L_law_199 (SegX.cons k_L_law_200 (SegX.cons k_L_law_201 (SegX.cons k_L_law_202 (SegX.cons k_L_law_203 (SegX.cons k_L_law_204 (SegX.cons k_L_law_205 (SegX.cons k_L_law_206 (SegX.cons k_L_law_207 (SegX.cons k_L_law_208 (SegX.cons k_L_law_209 (SegX.cons k_L_law_210 (SegX.cons k_L_law_211 (SegX.cons k_L_law_212 (SegX.cons k_L_law_213 (SegX.cons k_L_law_214 (SegX.cons k_L_law_215 (SegX.cons k_L_law_216 (SegX.cons k_L_law_217 (SegX.cons k_L_law_218 (SegX.cons k_L_law_219 (SegX.cons k_L_law_222 (SegX.cons k_L_law_225 (SegX.cons k_L_law_226 (SegX.nil)))))))))))))))))))))))))))))))))))))))))))))))))))))))))
theorem s_L_law_227 {B L : Nat} {xs : Nat → Int} : SegX (ScX B L xs) i_L_law 227 [o_al 1, o_al 0, o_il 3, o_c 1, o_add, o_scr B L xs, o_al 0, o_il 3, o_c 2, o_add, o_scr B L xs, o_al 0, o_il 3, o_c 3, o_add, o_scr B L xs, o_callV 7 3 T_X7_book, o_al 2, o_al 0, o_il 3, o_c 1, o_add, o_scr B L xs, o_al 0, o_il 3, o_c 2, o_add, o_scr B L xs, o_al 0, o_il 3, o_c 3, o_add, o_scr B L xs, o_callV 8 3 T_X8_book, o_ieq 1155, o_c 0, o_zret] 270 := SegX.cons k_L_law_227 (SegX.cons k_L_law_228 (SegX.cons k_L_law_229 (SegX.cons k_L_law_230 (SegX.cons k_L_law_231 (SegX.cons k_L_law_232 (SegX.cons k_L_law_233 (SegX.cons k_L_law_234 (SegX.cons k_L_law_235 (SegX.cons k_L_law_236 (SegX.cons k_L_law_237 (SegX.cons k_L_law_238 (SegX.cons k_L_law_239 (SegX.cons k_L_law_240 (SegX.cons k_L_law_241 (SegX.cons k_L_law_242 (SegX.cons k_L_law_243 (SegX.cons k_L_law_246 (SegX.cons k_L_law_247 (SegX.cons k_L_law_248 (SegX.cons k_L_law_249 (SegX.cons k_L_law_250 (SegX.cons k_L_law_251 (SegX.cons k_L_law_252 (SegX.cons k_L_law_253 (SegX.cons k_L_law_254 (SegX.cons k_L_law_255 (SegX.cons k_L_law_256 (SegX.cons k_L_law_257 (SegX.cons k_L_law_258 (SegX.cons k_L_law_259 (SegX.cons k_L_law_260 (SegX.cons k_L_law_261 (SegX.cons k_L_law_262 (SegX.cons k_L_law_265 (SegX.cons k_L_law_268 (SegX.cons k_L_law_269 (SegX.nil)))))))))))))))))))))))))))))))))))))
theorem s_L_law_270 {B L : Nat} {xs : Nat → Int} : SegX (ScX B L xs) i_L_law 270 [o_al 1, o_al 0, o_il 3, o_c 1, o_add, o_scr B L xs, o_callV 7 1 T_X7_tear, o_al 2, o_al 0, o_il 3, o_c 1, o_add, o_scr B L xs, o_callV 8 1 T_X8_tear, o_ieq 1155, o_c 0, o_zret] 293 := SegX.cons k_L_law_270 (SegX.cons k_L_law_271 (SegX.cons k_L_law_272 (SegX.cons k_L_law_273 (SegX.cons k_L_law_274 (SegX.cons k_L_law_275 (SegX.cons k_L_law_276 (SegX.cons k_L_law_279 (SegX.cons k_L_law_280 (SegX.cons k_L_law_281 (SegX.cons k_L_law_282 (SegX.cons k_L_law_283 (SegX.cons k_L_law_284 (SegX.cons k_L_law_285 (SegX.cons k_L_law_288 (SegX.cons k_L_law_291 (SegX.cons k_L_law_292 (SegX.nil)))))))))))))))))
theorem s_L_law_293 {B L : Nat} {xs : Nat → Int} : SegX (ScX B L xs) i_L_law 293 [o_al 1, o_al 0, o_il 3, o_c 1, o_add, o_scr B L xs, o_al 0, o_il 3, o_c 2, o_add, o_scr B L xs, o_callV 7 2 T_X7_of, o_al 2, o_al 0, o_il 3, o_c 1, o_add, o_scr B L xs, o_al 0, o_il 3, o_c 2, o_add, o_scr B L xs, o_callV 8 2 T_X8_of, o_ieq 1155, o_c 0, o_zret] 326 := SegX.cons k_L_law_293 (SegX.cons k_L_law_294 (SegX.cons k_L_law_295 (SegX.cons k_L_law_296 (SegX.cons k_L_law_297 (SegX.cons k_L_law_298 (SegX.cons k_L_law_299 (SegX.cons k_L_law_300 (SegX.cons k_L_law_301 (SegX.cons k_L_law_302 (SegX.cons k_L_law_303 (SegX.cons k_L_law_304 (SegX.cons k_L_law_307 (SegX.cons k_L_law_308 (SegX.cons k_L_law_309 (SegX.cons k_L_law_310 (SegX.cons k_L_law_311 (SegX.cons k_L_law_312 (SegX.cons k_L_law_313 (SegX.cons k_L_law_314 (SegX.cons k_L_law_315 (SegX.cons k_L_law_316 (SegX.cons k_L_law_317 (SegX.cons k_L_law_318 (SegX.cons k_L_law_321 (SegX.cons k_L_law_324 (SegX.cons k_L_law_325 (SegX.nil)))))))))))))))))))))))))))
theorem s_L_law_326 {B L : Nat} {xs : Nat → Int} : SegX (ScX B L xs) i_L_law 326 [o_al 1, o_al 0, o_il 3, o_c 1, o_add, o_scr B L xs, o_al 0, o_il 3, o_c 2, o_add, o_scr B L xs, o_al 0, o_il 3, o_c 3, o_add, o_scr B L xs, o_callV 7 3 T_X7_share, o_al 2, o_al 0, o_il 3, o_c 1, o_add, o_scr B L xs, o_al 0, o_il 3, o_c 2, o_add, o_scr B L xs, o_al 0, o_il 3, o_c 3, o_add, o_scr B L xs, o_callV 8 3 T_X8_share, o_ieq 1155, o_c 0, o_zret] 369 := SegX.cons k_L_law_326 (SegX.cons k_L_law_327 (SegX.cons k_L_law_328 (SegX.cons k_L_law_329 (SegX.cons k_L_law_330 (SegX.cons k_L_law_331 (SegX.cons k_L_law_332 (SegX.cons k_L_law_333 (SegX.cons k_L_law_334 (SegX.cons k_L_law_335 (SegX.cons k_L_law_336 (SegX.cons k_L_law_337 (SegX.cons k_L_law_338 (SegX.cons k_L_law_339 (SegX.cons k_L_law_340 (SegX.cons k_L_law_341 (SegX.cons k_L_law_342 (SegX.cons k_L_law_345 (SegX.cons k_L_law_346 (SegX.cons k_L_law_347 (SegX.cons k_L_law_348 (SegX.cons k_L_law_349 (SegX.cons k_L_law_350 (SegX.cons k_L_law_351 (SegX.cons k_L_law_352 (SegX.cons k_L_law_353 (SegX.cons k_L_law_354 (SegX.cons k_L_law_355 (SegX.cons k_L_law_356 (SegX.cons k_L_law_357 (SegX.cons k_L_law_358 (SegX.cons k_L_law_359 (SegX.cons k_L_law_360 (SegX.cons k_L_law_361 (SegX.cons k_L_law_364 (SegX.cons k_L_law_367 (SegX.cons k_L_law_368 (SegX.nil)))))))))))))))))))))))))))))))))))))
theorem s_L_law_369 {B L : Nat} {xs : Nat → Int} : SegX (ScX B L xs) i_L_law 369 [o_al 1, o_al 0, o_il 3, o_c 1, o_add, o_scr B L xs, o_al 0, o_il 3, o_c 2, o_add, o_scr B L xs, o_al 0, o_il 3, o_c 3, o_add, o_scr B L xs, o_callV 7 3 T_X7_ends, o_al 2, o_al 0, o_il 3, o_c 1, o_add, o_scr B L xs, o_al 0, o_il 3, o_c 2, o_add, o_scr B L xs, o_al 0, o_il 3, o_c 3, o_add, o_scr B L xs, o_callV 8 3 T_X8_ends, o_ieq 1155, o_c 0, o_zret] 412 := SegX.cons k_L_law_369 (SegX.cons k_L_law_370 (SegX.cons k_L_law_371 (SegX.cons k_L_law_372 (SegX.cons k_L_law_373 (SegX.cons k_L_law_374 (SegX.cons k_L_law_375 (SegX.cons k_L_law_376 (SegX.cons k_L_law_377 (SegX.cons k_L_law_378 (SegX.cons k_L_law_379 (SegX.cons k_L_law_380 (SegX.cons k_L_law_381 (SegX.cons k_L_law_382 (SegX.cons k_L_law_383 (SegX.cons k_L_law_384 (SegX.cons k_L_law_385 (SegX.cons k_L_law_388 (SegX.cons k_L_law_389 (SegX.cons k_L_law_390 (SegX.cons k_L_law_391 (SegX.cons k_L_law_392 (SegX.cons k_L_law_393 (SegX.cons k_L_law_394 (SegX.cons k_L_law_395 (SegX.cons k_L_law_396 (SegX.cons k_L_law_397 (SegX.cons k_L_law_398 (SegX.cons k_L_law_399 (SegX.cons k_L_law_400 (SegX.cons k_L_law_401 (SegX.cons k_L_law_402 (SegX.cons k_L_law_403 (SegX.cons k_L_law_404 (SegX.cons k_L_law_407 (SegX.cons k_L_law_410 (SegX.cons k_L_law_411 (SegX.nil)))))))))))))))))))))))))))))))))))))
theorem s_L_law_412 {B L : Nat} {xs : Nat → Int} : SegX (ScX B L xs) i_L_law 412 [o_al 1, o_al 0, o_il 3, o_c 1, o_add, o_scr B L xs, o_al 0, o_il 3, o_c 2, o_add, o_scr B L xs, o_callV 7 2 T_X7_chain, o_al 2, o_al 0, o_il 3, o_c 1, o_add, o_scr B L xs, o_al 0, o_il 3, o_c 2, o_add, o_scr B L xs, o_callV 8 2 T_X8_chain, o_ieq 1155, o_c 0, o_zret] 445 := SegX.cons k_L_law_412 (SegX.cons k_L_law_413 (SegX.cons k_L_law_414 (SegX.cons k_L_law_415 (SegX.cons k_L_law_416 (SegX.cons k_L_law_417 (SegX.cons k_L_law_418 (SegX.cons k_L_law_419 (SegX.cons k_L_law_420 (SegX.cons k_L_law_421 (SegX.cons k_L_law_422 (SegX.cons k_L_law_423 (SegX.cons k_L_law_426 (SegX.cons k_L_law_427 (SegX.cons k_L_law_428 (SegX.cons k_L_law_429 (SegX.cons k_L_law_430 (SegX.cons k_L_law_431 (SegX.cons k_L_law_432 (SegX.cons k_L_law_433 (SegX.cons k_L_law_434 (SegX.cons k_L_law_435 (SegX.cons k_L_law_436 (SegX.cons k_L_law_437 (SegX.cons k_L_law_440 (SegX.cons k_L_law_443 (SegX.cons k_L_law_444 (SegX.nil)))))))))))))))))))))))))))
theorem s_L_law_445 {B L : Nat} {xs : Nat → Int} : SegX (ScX B L xs) i_L_law 445 [o_al 1, o_al 0, o_il 3, o_c 1, o_add, o_scr B L xs, o_al 0, o_il 3, o_c 2, o_add, o_scr B L xs, o_al 0, o_il 3, o_c 3, o_add, o_scr B L xs, o_callV 7 3 T_X7_join, o_al 2, o_al 0, o_il 3, o_c 1, o_add, o_scr B L xs, o_al 0, o_il 3, o_c 2, o_add, o_scr B L xs, o_al 0, o_il 3, o_c 3, o_add, o_scr B L xs, o_callV 8 3 T_X8_join, o_ieq 1155, o_c 0, o_zret] 488 := SegX.cons k_L_law_445 (SegX.cons k_L_law_446 (SegX.cons k_L_law_447 (SegX.cons k_L_law_448 (SegX.cons k_L_law_449 (SegX.cons k_L_law_450 (SegX.cons k_L_law_451 (SegX.cons k_L_law_452 (SegX.cons k_L_law_453 (SegX.cons k_L_law_454 (SegX.cons k_L_law_455 (SegX.cons k_L_law_456 (SegX.cons k_L_law_457 (SegX.cons k_L_law_458 (SegX.cons k_L_law_459 (SegX.cons k_L_law_460 (SegX.cons k_L_law_461 (SegX.cons k_L_law_464 (SegX.cons k_L_law_465 (SegX.cons k_L_law_466 (SegX.cons k_L_law_467 (SegX.cons k_L_law_468 (SegX.cons k_L_law_469 (SegX.cons k_L_law_470 (SegX.cons k_L_law_471 (SegX.cons k_L_law_472 (SegX.cons k_L_law_473 (SegX.cons k_L_law_474 (SegX.cons k_L_law_475 (SegX.cons k_L_law_476 (SegX.cons k_L_law_477 (SegX.cons k_L_law_478 (SegX.cons k_L_law_479 (SegX.cons k_L_law_480 (SegX.cons k_L_law_483 (SegX.cons k_L_law_486 (SegX.cons k_L_law_487 (SegX.nil)))))))))))))))))))))))))))))))))))))
theorem s_L_law_488 {B L : Nat} {xs : Nat → Int} : SegX (ScX B L xs) i_L_law 488 [o_al 1, o_al 0, o_il 3, o_c 1, o_add, o_scr B L xs, o_al 0, o_il 3, o_c 2, o_add, o_scr B L xs, o_al 0, o_il 3, o_c 3, o_add, o_scr B L xs, o_callV 7 3 T_X7_round, o_al 2, o_al 0, o_il 3, o_c 1, o_add, o_scr B L xs, o_al 0, o_il 3, o_c 2, o_add, o_scr B L xs, o_al 0, o_il 3, o_c 3, o_add, o_scr B L xs, o_callV 8 3 T_X8_round, o_ieq 1155, o_c 0, o_zret] 531 := SegX.cons k_L_law_488 (SegX.cons k_L_law_489 (SegX.cons k_L_law_490 (SegX.cons k_L_law_491 (SegX.cons k_L_law_492 (SegX.cons k_L_law_493 (SegX.cons k_L_law_494 (SegX.cons k_L_law_495 (SegX.cons k_L_law_496 (SegX.cons k_L_law_497 (SegX.cons k_L_law_498 (SegX.cons k_L_law_499 (SegX.cons k_L_law_500 (SegX.cons k_L_law_501 (SegX.cons k_L_law_502 (SegX.cons k_L_law_503 (SegX.cons k_L_law_504 (SegX.cons k_L_law_507 (SegX.cons k_L_law_508 (SegX.cons k_L_law_509 (SegX.cons k_L_law_510 (SegX.cons k_L_law_511 (SegX.cons k_L_law_512 (SegX.cons k_L_law_513 (SegX.cons k_L_law_514 (SegX.cons k_L_law_515 (SegX.cons k_L_law_516 (SegX.cons k_L_law_517 (SegX.cons k_L_law_518 (SegX.cons k_L_law_519 (SegX.cons k_L_law_520 (SegX.cons k_L_law_521 (SegX.cons k_L_law_522 (SegX.cons k_L_law_523 (SegX.cons k_L_law_526 (SegX.cons k_L_law_529 (SegX.cons k_L_law_530 (SegX.nil)))))))))))))))))))))))))))))))))))))
theorem s_L_law_531 {B L : Nat} {xs : Nat → Int} : SegX (ScX B L xs) i_L_law 531 [o_al 1, o_callV 7 0 T_X7_over, o_al 2, o_callV 8 0 T_X8_over, o_ieq 1155, o_c 0, o_zret] 544 := SegX.cons k_L_law_531 (SegX.cons k_L_law_532 (SegX.cons k_L_law_535 (SegX.cons k_L_law_536 (SegX.cons k_L_law_539 (SegX.cons k_L_law_542 (SegX.cons k_L_law_543 (SegX.nil)))))))
theorem s_L_law_544 {B L : Nat} {xs : Nat → Int} : SegX (ScX B L xs) i_L_law 544 [o_al 1, o_al 0, o_il 3, o_c 1, o_add, o_scr B L xs, o_al 0, o_il 3, o_c 2, o_add, o_scr B L xs, o_callV 7 2 T_X7_worst, o_al 2, o_al 0, o_il 3, o_c 1, o_add, o_scr B L xs, o_al 0, o_il 3, o_c 2, o_add, o_scr B L xs, o_callV 8 2 T_X8_worst, o_ieq 1155, o_c 0, o_zret] 577 := SegX.cons k_L_law_544 (SegX.cons k_L_law_545 (SegX.cons k_L_law_546 (SegX.cons k_L_law_547 (SegX.cons k_L_law_548 (SegX.cons k_L_law_549 (SegX.cons k_L_law_550 (SegX.cons k_L_law_551 (SegX.cons k_L_law_552 (SegX.cons k_L_law_553 (SegX.cons k_L_law_554 (SegX.cons k_L_law_555 (SegX.cons k_L_law_558 (SegX.cons k_L_law_559 (SegX.cons k_L_law_560 (SegX.cons k_L_law_561 (SegX.cons k_L_law_562 (SegX.cons k_L_law_563 (SegX.cons k_L_law_564 (SegX.cons k_L_law_565 (SegX.cons k_L_law_566 (SegX.cons k_L_law_567 (SegX.cons k_L_law_568 (SegX.cons k_L_law_569 (SegX.cons k_L_law_572 (SegX.cons k_L_law_575 (SegX.cons k_L_law_576 (SegX.nil)))))))))))))))))))))))))))
theorem s_L_law_577 {B L : Nat} {xs : Nat → Int} : SegX (ScX B L xs) i_L_law 577 [o_al 1, o_al 0, o_il 3, o_c 1, o_add, o_scr B L xs, o_al 0, o_il 3, o_c 2, o_add, o_scr B L xs, o_al 0, o_il 3, o_c 3, o_add, o_scr B L xs, o_callV 7 3 T_X7_corner, o_al 2, o_al 0, o_il 3, o_c 1, o_add, o_scr B L xs, o_al 0, o_il 3, o_c 2, o_add, o_scr B L xs, o_al 0, o_il 3, o_c 3, o_add, o_scr B L xs, o_callV 8 3 T_X8_corner, o_ieq 1155, o_c 0, o_zret] 620 := SegX.cons k_L_law_577 (SegX.cons k_L_law_578 (SegX.cons k_L_law_579 (SegX.cons k_L_law_580 (SegX.cons k_L_law_581 (SegX.cons k_L_law_582 (SegX.cons k_L_law_583 (SegX.cons k_L_law_584 (SegX.cons k_L_law_585 (SegX.cons k_L_law_586 (SegX.cons k_L_law_587 (SegX.cons k_L_law_588 (SegX.cons k_L_law_589 (SegX.cons k_L_law_590 (SegX.cons k_L_law_591 (SegX.cons k_L_law_592 (SegX.cons k_L_law_593 (SegX.cons k_L_law_596 (SegX.cons k_L_law_597 (SegX.cons k_L_law_598 (SegX.cons k_L_law_599 (SegX.cons k_L_law_600 (SegX.cons k_L_law_601 (SegX.cons k_L_law_602 (SegX.cons k_L_law_603 (SegX.cons k_L_law_604 (SegX.cons k_L_law_605 (SegX.cons k_L_law_606 (SegX.cons k_L_law_607 (SegX.cons k_L_law_608 (SegX.cons k_L_law_609 (SegX.cons k_L_law_610 (SegX.cons k_L_law_611 (SegX.cons k_L_law_612 (SegX.cons k_L_law_615 (SegX.cons k_L_law_618 (SegX.cons k_L_law_619 (SegX.nil)))))))))))))))))))))))))))))))))))))
theorem s_L_law_620 {B L : Nat} {xs : Nat → Int} : SegX (ScX B L xs) i_L_law 620 [o_al 1, o_al 0, o_il 3, o_c 1, o_add, o_scr B L xs, o_callV 7 1 T_X7_always, o_al 2, o_al 0, o_il 3, o_c 1, o_add, o_scr B L xs, o_callV 8 1 T_X8_always, o_ieq 1155, o_c 0, o_zret] 643 := SegX.cons k_L_law_620 (SegX.cons k_L_law_621 (SegX.cons k_L_law_622 (SegX.cons k_L_law_623 (SegX.cons k_L_law_624 (SegX.cons k_L_law_625 (SegX.cons k_L_law_626 (SegX.cons k_L_law_629 (SegX.cons k_L_law_630 (SegX.cons k_L_law_631 (SegX.cons k_L_law_632 (SegX.cons k_L_law_633 (SegX.cons k_L_law_634 (SegX.cons k_L_law_635 (SegX.cons k_L_law_638 (SegX.cons k_L_law_641 (SegX.cons k_L_law_642 (SegX.nil)))))))))))))))))
theorem s_L_law_643 {B L : Nat} {xs : Nat → Int} : SegX (ScX B L xs) i_L_law 643 [o_al 1, o_al 0, o_il 3, o_c 1, o_add, o_scr B L xs, o_al 0, o_il 3, o_c 2, o_add, o_scr B L xs, o_callVx 7 2 B_X7_chance, o_al 2, o_al 0, o_il 3, o_c 1, o_add, o_scr B L xs, o_al 0, o_il 3, o_c 2, o_add, o_scr B L xs, o_callV 8 2 T_X8_chance, o_lcmp, o_eq0 1155, o_c 0, o_zret] 677 := SegX.cons k_L_law_643 (SegX.cons k_L_law_644 (SegX.cons k_L_law_645 (SegX.cons k_L_law_646 (SegX.cons k_L_law_647 (SegX.cons k_L_law_648 (SegX.cons k_L_law_649 (SegX.cons k_L_law_650 (SegX.cons k_L_law_651 (SegX.cons k_L_law_652 (SegX.cons k_L_law_653 (SegX.cons k_L_law_654 (SegX.cons k_L_law_657 (SegX.cons k_L_law_658 (SegX.cons k_L_law_659 (SegX.cons k_L_law_660 (SegX.cons k_L_law_661 (SegX.cons k_L_law_662 (SegX.cons k_L_law_663 (SegX.cons k_L_law_664 (SegX.cons k_L_law_665 (SegX.cons k_L_law_666 (SegX.cons k_L_law_667 (SegX.cons k_L_law_668 (SegX.cons k_L_law_671 (SegX.cons k_L_law_672 (SegX.cons k_L_law_675 (SegX.cons k_L_law_676 (SegX.nil))))))))))))))))))))))))))))
theorem s_L_law_677 {B L : Nat} {xs : Nat → Int} : SegX (ScX B L xs) i_L_law 677 [o_al 1, o_al 0, o_il 3, o_c 1, o_add, o_scr B L xs, o_al 0, o_il 3, o_c 2, o_add, o_scr B L xs, o_al 0, o_il 3, o_c 3, o_add, o_scr B L xs, o_callVx 7 3 B_X7_both, o_al 2, o_al 0, o_il 3, o_c 1, o_add, o_scr B L xs, o_al 0, o_il 3, o_c 2, o_add, o_scr B L xs, o_al 0, o_il 3, o_c 3, o_add, o_scr B L xs, o_callV 8 3 T_X8_both, o_lcmp, o_eq0 1155, o_c 0, o_zret] 721 := SegX.cons k_L_law_677 (SegX.cons k_L_law_678 (SegX.cons k_L_law_679 (SegX.cons k_L_law_680 (SegX.cons k_L_law_681 (SegX.cons k_L_law_682 (SegX.cons k_L_law_683 (SegX.cons k_L_law_684 (SegX.cons k_L_law_685 (SegX.cons k_L_law_686 (SegX.cons k_L_law_687 (SegX.cons k_L_law_688 (SegX.cons k_L_law_689 (SegX.cons k_L_law_690 (SegX.cons k_L_law_691 (SegX.cons k_L_law_692 (SegX.cons k_L_law_693 (SegX.cons k_L_law_696 (SegX.cons k_L_law_697 (SegX.cons k_L_law_698 (SegX.cons k_L_law_699 (SegX.cons k_L_law_700 (SegX.cons k_L_law_701 (SegX.cons k_L_law_702 (SegX.cons k_L_law_703 (SegX.cons k_L_law_704 (SegX.cons k_L_law_705 (SegX.cons k_L_law_706 (SegX.cons k_L_law_707 (SegX.cons k_L_law_708 (SegX.cons k_L_law_709 (SegX.cons k_L_law_710 (SegX.cons k_L_law_711 (SegX.cons k_L_law_712 (SegX.cons k_L_law_715 (SegX.cons k_L_law_716 (SegX.cons k_L_law_719 (SegX.cons k_L_law_720 (SegX.nil))))))))))))))))))))))))))))))))))))))
theorem s_L_law_721 {B L : Nat} {xs : Nat → Int} : SegX (ScX B L xs) i_L_law 721 [o_al 1, o_al 0, o_il 3, o_c 1, o_add, o_scr B L xs, o_al 0, o_il 3, o_c 2, o_add, o_scr B L xs, o_callV 7 2 T_X7_mean, o_al 2, o_al 0, o_il 3, o_c 1, o_add, o_scr B L xs, o_al 0, o_il 3, o_c 2, o_add, o_scr B L xs, o_callV 8 2 T_X8_mean, o_lcmp, o_eq0 1155, o_c 0, o_zret] 755 := SegX.cons k_L_law_721 (SegX.cons k_L_law_722 (SegX.cons k_L_law_723 (SegX.cons k_L_law_724 (SegX.cons k_L_law_725 (SegX.cons k_L_law_726 (SegX.cons k_L_law_727 (SegX.cons k_L_law_728 (SegX.cons k_L_law_729 (SegX.cons k_L_law_730 (SegX.cons k_L_law_731 (SegX.cons k_L_law_732 (SegX.cons k_L_law_735 (SegX.cons k_L_law_736 (SegX.cons k_L_law_737 (SegX.cons k_L_law_738 (SegX.cons k_L_law_739 (SegX.cons k_L_law_740 (SegX.cons k_L_law_741 (SegX.cons k_L_law_742 (SegX.cons k_L_law_743 (SegX.cons k_L_law_744 (SegX.cons k_L_law_745 (SegX.cons k_L_law_746 (SegX.cons k_L_law_749 (SegX.cons k_L_law_750 (SegX.cons k_L_law_753 (SegX.cons k_L_law_754 (SegX.nil))))))))))))))))))))))))))))
theorem s_L_law_755 {B L : Nat} {xs : Nat → Int} : SegX (ScX B L xs) i_L_law 755 [o_al 1, o_al 0, o_il 3, o_c 1, o_add, o_scr B L xs, o_al 0, o_il 3, o_c 2, o_add, o_scr B L xs, o_al 0, o_il 3, o_c 3, o_add, o_scr B L xs, o_al 0, o_il 3, o_c 4, o_add, o_scr B L xs, o_callVx 7 4 B_X7_span, o_al 2, o_al 0, o_il 3, o_c 1, o_add, o_scr B L xs, o_al 0, o_il 3, o_c 2, o_add, o_scr B L xs, o_al 0, o_il 3, o_c 3, o_add, o_scr B L xs, o_al 0, o_il 3, o_c 4, o_add, o_scr B L xs, o_callV 8 4 T_X8_span, o_ieq 1155, o_c 0, o_zret] 808 := SegX.cons k_L_law_755 (SegX.cons k_L_law_756 (SegX.cons k_L_law_757 (SegX.cons k_L_law_758 (SegX.cons k_L_law_759 (SegX.cons k_L_law_760 (SegX.cons k_L_law_761 (SegX.cons k_L_law_762 (SegX.cons k_L_law_763 (SegX.cons k_L_law_764 (SegX.cons k_L_law_765 (SegX.cons k_L_law_766 (SegX.cons k_L_law_767 (SegX.cons k_L_law_768 (SegX.cons k_L_law_769 (SegX.cons k_L_law_770 (SegX.cons k_L_law_771 (SegX.cons k_L_law_772 (SegX.cons k_L_law_773 (SegX.cons k_L_law_774 (SegX.cons k_L_law_775 (SegX.cons k_L_law_776 (SegX.cons k_L_law_779 (SegX.cons k_L_law_780 (SegX.cons k_L_law_781 (SegX.cons k_L_law_782 (SegX.cons k_L_law_783 (SegX.cons k_L_law_784 (SegX.cons k_L_law_785 (SegX.cons k_L_law_786 (SegX.cons k_L_law_787 (SegX.cons k_L_law_788 (SegX.cons k_L_law_789 (SegX.cons k_L_law_790 (SegX.cons k_L_law_791 (SegX.cons k_L_law_792 (SegX.cons k_L_law_793 (SegX.cons k_L_law_794 (SegX.cons k_L_law_795 (SegX.cons k_L_law_796 (SegX.cons k_L_law_797 (SegX.cons k_L_law_798 (SegX.cons k_L_law_799 (SegX.cons k_L_law_800 (SegX.cons k_L_law_803 (SegX.cons k_L_law_806 (SegX.cons k_L_law_807 (SegX.nil)))))))))))))))))))))))))))))))))))))))))))))))
theorem s_L_law_808 {B L : Nat} {xs : Nat → Int} : SegX (ScX B L xs) i_L_law 808 [o_al 1, o_al 0, o_il 3, o_c 1, o_add, o_scr B L xs, o_al 0, o_il 3, o_c 2, o_add, o_scr B L xs, o_callV 7 2 T_X7_pull, o_al 2, o_al 0, o_il 3, o_c 1, o_add, o_scr B L xs, o_al 0, o_il 3, o_c 2, o_add, o_scr B L xs, o_callV 8 2 T_X8_pull, o_ieq 1155, o_c 0, o_zret] 841 := SegX.cons k_L_law_808 (SegX.cons k_L_law_809 (SegX.cons k_L_law_810 (SegX.cons k_L_law_811 (SegX.cons k_L_law_812 (SegX.cons k_L_law_813 (SegX.cons k_L_law_814 (SegX.cons k_L_law_815 (SegX.cons k_L_law_816 (SegX.cons k_L_law_817 (SegX.cons k_L_law_818 (SegX.cons k_L_law_819 (SegX.cons k_L_law_822 (SegX.cons k_L_law_823 (SegX.cons k_L_law_824 (SegX.cons k_L_law_825 (SegX.cons k_L_law_826 (SegX.cons k_L_law_827 (SegX.cons k_L_law_828 (SegX.cons k_L_law_829 (SegX.cons k_L_law_830 (SegX.cons k_L_law_831 (SegX.cons k_L_law_832 (SegX.cons k_L_law_833 (SegX.cons k_L_law_836 (SegX.cons k_L_law_839 (SegX.cons k_L_law_840 (SegX.nil)))))))))))))))))))))))))))
theorem s_L_law_841 {B L : Nat} {xs : Nat → Int} : SegX (ScX B L xs) i_L_law 841 [o_al 1, o_al 0, o_il 3, o_c 1, o_add, o_scr B L xs, o_al 0, o_il 3, o_c 2, o_add, o_scr B L xs, o_al 0, o_il 3, o_c 3, o_add, o_scr B L xs, o_al 0, o_il 3, o_c 4, o_add, o_scr B L xs, o_callV 7 4 T_X7_level, o_al 2, o_al 0, o_il 3, o_c 1, o_add, o_scr B L xs, o_al 0, o_il 3, o_c 2, o_add, o_scr B L xs, o_al 0, o_il 3, o_c 3, o_add, o_scr B L xs, o_al 0, o_il 3, o_c 4, o_add, o_scr B L xs, o_callV 8 4 T_X8_level, o_ieq 1155, o_c 0, o_zret] 894 := SegX.cons k_L_law_841 (SegX.cons k_L_law_842 (SegX.cons k_L_law_843 (SegX.cons k_L_law_844 (SegX.cons k_L_law_845 (SegX.cons k_L_law_846 (SegX.cons k_L_law_847 (SegX.cons k_L_law_848 (SegX.cons k_L_law_849 (SegX.cons k_L_law_850 (SegX.cons k_L_law_851 (SegX.cons k_L_law_852 (SegX.cons k_L_law_853 (SegX.cons k_L_law_854 (SegX.cons k_L_law_855 (SegX.cons k_L_law_856 (SegX.cons k_L_law_857 (SegX.cons k_L_law_858 (SegX.cons k_L_law_859 (SegX.cons k_L_law_860 (SegX.cons k_L_law_861 (SegX.cons k_L_law_862 (SegX.cons k_L_law_865 (SegX.cons k_L_law_866 (SegX.cons k_L_law_867 (SegX.cons k_L_law_868 (SegX.cons k_L_law_869 (SegX.cons k_L_law_870 (SegX.cons k_L_law_871 (SegX.cons k_L_law_872 (SegX.cons k_L_law_873 (SegX.cons k_L_law_874 (SegX.cons k_L_law_875 (SegX.cons k_L_law_876 (SegX.cons k_L_law_877 (SegX.cons k_L_law_878 (SegX.cons k_L_law_879 (SegX.cons k_L_law_880 (SegX.cons k_L_law_881 (SegX.cons k_L_law_882 (SegX.cons k_L_law_883 (SegX.cons k_L_law_884 (SegX.cons k_L_law_885 (SegX.cons k_L_law_886 (SegX.cons k_L_law_889 (SegX.cons k_L_law_892 (SegX.cons k_L_law_893 (SegX.nil)))))))))))))))))))))))))))))))))))))))))))))))
theorem s_L_law_894 {B L : Nat} {xs : Nat → Int} : SegX (ScX B L xs) i_L_law 894 [o_al 1, o_al 0, o_il 3, o_c 1, o_add, o_scr B L xs, o_callV 7 1 T_X7_plain, o_al 2, o_al 0, o_il 3, o_c 1, o_add, o_scr B L xs, o_callV 8 1 T_X8_plain, o_ieq 1155, o_c 0, o_zret] 917 := SegX.cons k_L_law_894 (SegX.cons k_L_law_895 (SegX.cons k_L_law_896 (SegX.cons k_L_law_897 (SegX.cons k_L_law_898 (SegX.cons k_L_law_899 (SegX.cons k_L_law_900 (SegX.cons k_L_law_903 (SegX.cons k_L_law_904 (SegX.cons k_L_law_905 (SegX.cons k_L_law_906 (SegX.cons k_L_law_907 (SegX.cons k_L_law_908 (SegX.cons k_L_law_909 (SegX.cons k_L_law_912 (SegX.cons k_L_law_915 (SegX.cons k_L_law_916 (SegX.nil)))))))))))))))))
theorem s_L_law_917 {B L : Nat} {xs : Nat → Int} : SegX (ScX B L xs) i_L_law 917 [o_al 1, o_callV 7 0 T_X7_best, o_al 2, o_callV 8 0 T_X8_best, o_lcmp, o_eq0 1155, o_c 0, o_zret] 931 := SegX.cons k_L_law_917 (SegX.cons k_L_law_918 (SegX.cons k_L_law_921 (SegX.cons k_L_law_922 (SegX.cons k_L_law_925 (SegX.cons k_L_law_926 (SegX.cons k_L_law_929 (SegX.cons k_L_law_930 (SegX.nil))))))))
theorem s_L_law_931 {B L : Nat} {xs : Nat → Int} : SegX (ScX B L xs) i_L_law 931 [o_al 1, o_al 0, o_il 3, o_c 1, o_add, o_scr B L xs, o_callV 7 1 T_X7_choice, o_al 2, o_al 0, o_il 3, o_c 1, o_add, o_scr B L xs, o_callV 8 1 T_X8_choice, o_ieq 1155, o_c 0, o_zret] 954 := SegX.cons k_L_law_931 (SegX.cons k_L_law_932 (SegX.cons k_L_law_933 (SegX.cons k_L_law_934 (SegX.cons k_L_law_935 (SegX.cons k_L_law_936 (SegX.cons k_L_law_937 (SegX.cons k_L_law_940 (SegX.cons k_L_law_941 (SegX.cons k_L_law_942 (SegX.cons k_L_law_943 (SegX.cons k_L_law_944 (SegX.cons k_L_law_945 (SegX.cons k_L_law_946 (SegX.cons k_L_law_949 (SegX.cons k_L_law_952 (SegX.cons k_L_law_953 (SegX.nil)))))))))))))))))
theorem s_L_law_954 {B L : Nat} {xs : Nat → Int} : SegX (ScX B L xs) i_L_law 954 [o_al 1, o_al 0, o_il 3, o_c 1, o_add, o_scr B L xs, o_al 0, o_il 3, o_c 2, o_add, o_scr B L xs, o_callV 7 2 T_X7_part, o_al 2, o_al 0, o_il 3, o_c 1, o_add, o_scr B L xs, o_al 0, o_il 3, o_c 2, o_add, o_scr B L xs, o_callV 8 2 T_X8_part, o_ieq 1155, o_c 0, o_zret] 987 := SegX.cons k_L_law_954 (SegX.cons k_L_law_955 (SegX.cons k_L_law_956 (SegX.cons k_L_law_957 (SegX.cons k_L_law_958 (SegX.cons k_L_law_959 (SegX.cons k_L_law_960 (SegX.cons k_L_law_961 (SegX.cons k_L_law_962 (SegX.cons k_L_law_963 (SegX.cons k_L_law_964 (SegX.cons k_L_law_965 (SegX.cons k_L_law_968 (SegX.cons k_L_law_969 (SegX.cons k_L_law_970 (SegX.cons k_L_law_971 (SegX.cons k_L_law_972 (SegX.cons k_L_law_973 (SegX.cons k_L_law_974 (SegX.cons k_L_law_975 (SegX.cons k_L_law_976 (SegX.cons k_L_law_977 (SegX.cons k_L_law_978 (SegX.cons k_L_law_979 (SegX.cons k_L_law_982 (SegX.cons k_L_law_985 (SegX.cons k_L_law_986 (SegX.nil)))))))))))))))))))))))))))
theorem s_L_law_987 {B L : Nat} {xs : Nat → Int} : SegX (ScX B L xs) i_L_law 987 [o_al 1, o_al 0, o_il 3, o_c 1, o_add, o_scr B L xs, o_callV 7 1 T_X7_sweep, o_al 2, o_al 0, o_il 3, o_c 1, o_add, o_scr B L xs, o_callV 8 1 T_X8_sweep, o_ieq 1155, o_c 0, o_zret] 1010 := SegX.cons k_L_law_987 (SegX.cons k_L_law_988 (SegX.cons k_L_law_989 (SegX.cons k_L_law_990 (SegX.cons k_L_law_991 (SegX.cons k_L_law_992 (SegX.cons k_L_law_993 (SegX.cons k_L_law_996 (SegX.cons k_L_law_997 (SegX.cons k_L_law_998 (SegX.cons k_L_law_999 (SegX.cons k_L_law_1000 (SegX.cons k_L_law_1001 (SegX.cons k_L_law_1002 (SegX.cons k_L_law_1005 (SegX.cons k_L_law_1008 (SegX.cons k_L_law_1009 (SegX.nil)))))))))))))))))
theorem s_L_law_1010 {B L : Nat} {xs : Nat → Int} : SegX (ScX B L xs) i_L_law 1010 [o_al 1, o_al 0, o_il 3, o_c 1, o_add, o_scr B L xs, o_al 0, o_il 3, o_c 2, o_add, o_scr B L xs, o_callV 7 2 T_X7_match, o_al 2, o_al 0, o_il 3, o_c 1, o_add, o_scr B L xs, o_al 0, o_il 3, o_c 2, o_add, o_scr B L xs, o_callV 8 2 T_X8_match, o_ieq 1155, o_c 0, o_zret] 1043 := SegX.cons k_L_law_1010 (SegX.cons k_L_law_1011 (SegX.cons k_L_law_1012 (SegX.cons k_L_law_1013 (SegX.cons k_L_law_1014 (SegX.cons k_L_law_1015 (SegX.cons k_L_law_1016 (SegX.cons k_L_law_1017 (SegX.cons k_L_law_1018 (SegX.cons k_L_law_1019 (SegX.cons k_L_law_1020 (SegX.cons k_L_law_1021 (SegX.cons k_L_law_1024 (SegX.cons k_L_law_1025 (SegX.cons k_L_law_1026 (SegX.cons k_L_law_1027 (SegX.cons k_L_law_1028 (SegX.cons k_L_law_1029 (SegX.cons k_L_law_1030 (SegX.cons k_L_law_1031 (SegX.cons k_L_law_1032 (SegX.cons k_L_law_1033 (SegX.cons k_L_law_1034 (SegX.cons k_L_law_1035 (SegX.cons k_L_law_1038 (SegX.cons k_L_law_1041 (SegX.cons k_L_law_1042 (SegX.nil)))))))))))))))))))))))))))
theorem s_L_law_1043 {B L : Nat} {xs : Nat → Int} : SegX (ScX B L xs) i_L_law 1043 [o_al 1, o_al 0, o_il 3, o_c 1, o_add, o_scr B L xs, o_callV 7 1 T_X7_mate, o_al 2, o_al 0, o_il 3, o_c 1, o_add, o_scr B L xs, o_callV 8 1 T_X8_mate, o_ieq 1155, o_c 0, o_zret] 1066 := SegX.cons k_L_law_1043 (SegX.cons k_L_law_1044 (SegX.cons k_L_law_1045 (SegX.cons k_L_law_1046 (SegX.cons k_L_law_1047 (SegX.cons k_L_law_1048 (SegX.cons k_L_law_1049 (SegX.cons k_L_law_1052 (SegX.cons k_L_law_1053 (SegX.cons k_L_law_1054 (SegX.cons k_L_law_1055 (SegX.cons k_L_law_1056 (SegX.cons k_L_law_1057 (SegX.cons k_L_law_1058 (SegX.cons k_L_law_1061 (SegX.cons k_L_law_1064 (SegX.cons k_L_law_1065 (SegX.nil)))))))))))))))))
theorem s_L_law_1066 {B L : Nat} {xs : Nat → Int} : SegX (ScX B L xs) i_L_law 1066 [o_al 1, o_al 0, o_il 3, o_c 1, o_add, o_scr B L xs, o_al 0, o_il 3, o_c 2, o_add, o_scr B L xs, o_al 0, o_il 3, o_c 3, o_add, o_scr B L xs, o_callVx 7 3 B_X7_shim, o_al 2, o_al 0, o_il 3, o_c 1, o_add, o_scr B L xs, o_al 0, o_il 3, o_c 2, o_add, o_scr B L xs, o_al 0, o_il 3, o_c 3, o_add, o_scr B L xs, o_callV 8 3 T_X8_shim, o_ieq 1155, o_c 0, o_zret] 1109 := SegX.cons k_L_law_1066 (SegX.cons k_L_law_1067 (SegX.cons k_L_law_1068 (SegX.cons k_L_law_1069 (SegX.cons k_L_law_1070 (SegX.cons k_L_law_1071 (SegX.cons k_L_law_1072 (SegX.cons k_L_law_1073 (SegX.cons k_L_law_1074 (SegX.cons k_L_law_1075 (SegX.cons k_L_law_1076 (SegX.cons k_L_law_1077 (SegX.cons k_L_law_1078 (SegX.cons k_L_law_1079 (SegX.cons k_L_law_1080 (SegX.cons k_L_law_1081 (SegX.cons k_L_law_1082 (SegX.cons k_L_law_1085 (SegX.cons k_L_law_1086 (SegX.cons k_L_law_1087 (SegX.cons k_L_law_1088 (SegX.cons k_L_law_1089 (SegX.cons k_L_law_1090 (SegX.cons k_L_law_1091 (SegX.cons k_L_law_1092 (SegX.cons k_L_law_1093 (SegX.cons k_L_law_1094 (SegX.cons k_L_law_1095 (SegX.cons k_L_law_1096 (SegX.cons k_L_law_1097 (SegX.cons k_L_law_1098 (SegX.cons k_L_law_1099 (SegX.cons k_L_law_1100 (SegX.cons k_L_law_1101 (SegX.cons k_L_law_1104 (SegX.cons k_L_law_1107 (SegX.cons k_L_law_1108 (SegX.nil)))))))))))))))))))))))))))))))))))))
theorem s_L_law_1109 {B L : Nat} {xs : Nat → Int} : SegX (ScX B L xs) i_L_law 1109 [o_al 1, o_al 0, o_il 3, o_c 1, o_add, o_scr B L xs, o_callVx 7 1 B_X7_image, o_al 2, o_al 0, o_il 3, o_c 1, o_add, o_scr B L xs, o_callV 8 1 T_X8_image, o_ieq 1155, o_c 0, o_zret] 1132 := SegX.cons k_L_law_1109 (SegX.cons k_L_law_1110 (SegX.cons k_L_law_1111 (SegX.cons k_L_law_1112 (SegX.cons k_L_law_1113 (SegX.cons k_L_law_1114 (SegX.cons k_L_law_1115 (SegX.cons k_L_law_1118 (SegX.cons k_L_law_1119 (SegX.cons k_L_law_1120 (SegX.cons k_L_law_1121 (SegX.cons k_L_law_1122 (SegX.cons k_L_law_1123 (SegX.cons k_L_law_1124 (SegX.cons k_L_law_1127 (SegX.cons k_L_law_1130 (SegX.cons k_L_law_1131 (SegX.nil)))))))))))))))))
theorem s_L_law_1132 {B L : Nat} {xs : Nat → Int} : SegX (ScX B L xs) i_L_law 1132 [o_al 1, o_al 0, o_il 3, o_c 1, o_add, o_scr B L xs, o_callV 7 1 T_X7_back, o_al 2, o_al 0, o_il 3, o_c 1, o_add, o_scr B L xs, o_callV 8 1 T_X8_back, o_ieq 1155, o_c 0, o_zret] 1155 := SegX.cons k_L_law_1132 (SegX.cons k_L_law_1133 (SegX.cons k_L_law_1134 (SegX.cons k_L_law_1135 (SegX.cons k_L_law_1136 (SegX.cons k_L_law_1137 (SegX.cons k_L_law_1138 (SegX.cons k_L_law_1141 (SegX.cons k_L_law_1142 (SegX.cons k_L_law_1143 (SegX.cons k_L_law_1144 (SegX.cons k_L_law_1145 (SegX.cons k_L_law_1146 (SegX.cons k_L_law_1147 (SegX.cons k_L_law_1150 (SegX.cons k_L_law_1153 (SegX.cons k_L_law_1154 (SegX.nil)))))))))))))))))
theorem s_L_law_1155 {B L : Nat} {xs : Nat → Int} : SegX (ScX B L xs) i_L_law 1155 [o_inc 3 6, o_go 18] 1161 := SegX.cons k_L_law_1155 (SegX.cons k_L_law_1158 (SegX.nil))
theorem s_L_law_1161 {B L : Nat} {xs : Nat → Int} : SegX (ScX B L xs) i_L_law 1161 [o_c 1, o_zret] 1163 := SegX.cons k_L_law_1161 (SegX.cons k_L_law_1162 (SegX.nil))

/-! ===== FitBench$Care: the search ===== -/
theorem isCa_k {h : Hp} {C : Nat} (H : isCa h C) : qk h C = 10 := H.1
/-- the search's result stands in the rows: found price and picks -/
def bsF (d : Dd) (b : Bst) (F : Nat → Nat → Int) : Prop := F 0 4 = b.1 ∧ (b.1 ≠ -1 → ∀ i, i < gk d → F 3 i = b.2 i)
/-- what stays behind a search from place i on -/
def piF (i : Nat) (F F2 : Nat → Nat → Int) : Prop := (∀ j, j ≠ 4 → F2 0 j = F 0 j) ∧ F2 1 = F 1 ∧ F2 4 = F 4 ∧ (∀ j, j < i → F2 2 j = F 2 j) ∧ (∀ j, j < 6 * (i + 1) → F2 5 j = F 5 j ∧ F2 6 j = F 6 j)
theorem piF.rf {i : Nat} {F : Nat → Nat → Int} : piF i F F := ⟨fun _ _ => rfl, rfl, rfl, fun _ _ => rfl, fun _ _ => ⟨rfl, rfl⟩⟩
theorem piF.tr {i : Nat} {F F2 F3 : Nat → Nat → Int} (h1 : piF i F F2) (h2 : piF i F2 F3) : piF i F F3 := ⟨fun j hj => (h2.1 j hj).trans (h1.1 j hj), h2.2.1.trans h1.2.1, h2.2.2.1.trans h1.2.2.1, fun j hj => (h2.2.2.2.1 j hj).trans (h1.2.2.2.1 j hj), fun j hj => ⟨(h2.2.2.2.2 j hj).1.trans (h1.2.2.2.2 j hj).1, (h2.2.2.2.2 j hj).2.trans (h1.2.2.2.2 j hj).2⟩⟩
def gaR (d : Dd) (F : Nat → Nat → Int) : Prop := F 0 1 = (gk d : Int) ∧ (∀ i, i < gk d → F 1 i = (gl d i : Int)) ∧ ∀ i, i ≤ gk d → F 4 i = rst d i
def piP (d : Dd) (i : Nat) (pk : Nat → Int) (F : Nat → Nat → Int) : Prop := pkOk d i pk ∧ rok d i pk ∧ (∀ j, j < i → F 2 j = pk j) ∧ ∀ c, c < 6 → F 5 (6 * i + c) = rl d c i pk ∧ F 6 (6 * i + c) = rh d c i pk
def bOk (b : Bst) : Prop := b.1 = -1 ∨ (0 ≤ b.1 ∧ b.1 ≤ 8000000)
def T_X0_pick (lv : Nat) : TT := fun as h K => ∃ (h0 : Hp) (C a i n : Nat) (F : Nat → Nat → Int) (pk : Nat → Int) (pr : Int) (b : Bst) (d : Dd), as = [vr (some C), vr (some a), vi i, vi pr] ∧ n + 4 ≤ lv ∧ i + n = gk d ∧ h = wc h0 C F ∧ isCa h0 C ∧ Stt h0 a d ∧ a + 81 ≤ C ∧ gaR d F ∧ piP d i pk F ∧ bsF d b F ∧ bOk b ∧ (0 ≤ pr ∧ pr ≤ i * 1000000) ∧
  ∀ F2, piF i F F2 → bsF d (bfs d n pk pr b) F2 → bOk (bfs d n pk pr b) → K none (wc h0 C F2)
theorem c_pick {lv : Nat} {h0 : Hp} {C a i n : Nat} {F : Nat → Nat → Int} {pk : Nat → Int} {pr : Int} {b : Bst} {d : Dd} {K : RT} (h1 : n + 4 ≤ lv) (h2 : i + n = gk d) (h3 : isCa h0 C) (h4 : Stt h0 a d) (h5 : a + 81 ≤ C) (h6 : gaR d F) (h7 : piP d i pk F) (h8 : bsF d b F) (h9 : bOk b) (h10 : 0 ≤ pr ∧ pr ≤ i * 1000000) (h11 : ∀ F2, piF i F F2 → bsF d (bfs d n pk pr b) F2 → bOk (bfs d n pk pr b) → K none (wc h0 C F2)) : T_X0_pick lv [vr (some C), vr (some a), vi i, vi pr] (wc h0 C F) K := ⟨h0, C, a, i, n, F, pk, pr, b, d, rfl, h1, h2, rfl, h3, h4, h5, h6, h7, h8, h9, h10, h11⟩
abbrev i_X0_pick (lv : Nat) : MI := (cX0_pick, 6, RX0, none, "pick", lv)
theorem d_X0_pick_0 : decode cX0_pick 0 = .ok (.aload_n 0, 1) := by decide +kernel
theorem k_X0_pick_0 {lv : Nat} : Okop (i_X0_pick lv) 0 (o_al 0) 1 := k_aln (j := 0) (by exact d_X0_pick_0)
theorem d_X0_pick_1 : decode cX0_pick 1 = .ok (.getfield 40, 3) := by decide +kernel
theorem k_X0_pick_1 {lv : Nat} : Okop (i_X0_pick lv) 1 (o_gi 0 4) 4 := k_gi (idx := 40) fo_0 (by decide) (by decide) gw_234 (by exact d_X0_pick_1)
theorem d_X0_pick_4 : decode cX0_pick 4 = .ok (.iconst (-1), 1) := by decide +kernel
theorem k_X0_pick_4 {lv : Nat} : Okop (i_X0_pick lv) 4 (o_c (-1)) 5 := k_iconst (by exact d_X0_pick_4)
theorem d_X0_pick_5 : decode cX0_pick 5 = .ok (.if_icmp .eq 19, 3) := by decide +kernel
theorem k_X0_pick_5 {lv : Nat} : Okop (i_X0_pick lv) 5 (o_ieq 24) 8 := k_ieq (off := 19) (by exact d_X0_pick_5) (by decide)
theorem d_X0_pick_8 : decode cX0_pick 8 = .ok (.iload_n 3, 1) := by decide +kernel
theorem k_X0_pick_8 {lv : Nat} : Okop (i_X0_pick lv) 8 (o_il 3) 9 := k_iln (j := 3) (by exact d_X0_pick_8)
theorem d_X0_pick_9 : decode cX0_pick 9 = .ok (.aload_n 0, 1) := by decide +kernel
theorem k_X0_pick_9 {lv : Nat} : Okop (i_X0_pick lv) 9 (o_al 0) 10 := k_aln (j := 0) (by exact d_X0_pick_9)
theorem d_X0_pick_10 : decode cX0_pick 10 = .ok (.getfield 21, 3) := by decide +kernel
theorem k_X0_pick_10 {lv : Nat} : Okop (i_X0_pick lv) 10 (o_gr 0 5) 13 := k_gr (idx := 21) fo_0 (by decide) (by decide) gw_235 (by exact d_X0_pick_10)
theorem d_X0_pick_13 : decode cX0_pick 13 = .ok (.iload_n 2, 1) := by decide +kernel
theorem k_X0_pick_13 {lv : Nat} : Okop (i_X0_pick lv) 13 (o_il 2) 14 := k_iln (j := 2) (by exact d_X0_pick_13)
theorem d_X0_pick_14 : decode cX0_pick 14 = .ok (.iaload, 1) := by decide +kernel
theorem k_X0_pick_14 {lv : Nat} : Okop (i_X0_pick lv) 14 (o_iald) 15 := k_iald (by exact d_X0_pick_14)
theorem d_X0_pick_15 : decode cX0_pick 15 = .ok (.iadd, 1) := by decide +kernel
theorem k_X0_pick_15 {lv : Nat} : Okop (i_X0_pick lv) 15 (o_add) 16 := k_add (by exact d_X0_pick_15)
theorem d_X0_pick_16 : decode cX0_pick 16 = .ok (.aload_n 0, 1) := by decide +kernel
theorem k_X0_pick_16 {lv : Nat} : Okop (i_X0_pick lv) 16 (o_al 0) 17 := k_aln (j := 0) (by exact d_X0_pick_16)
theorem d_X0_pick_17 : decode cX0_pick 17 = .ok (.getfield 40, 3) := by decide +kernel
theorem k_X0_pick_17 {lv : Nat} : Okop (i_X0_pick lv) 17 (o_gi 0 4) 20 := k_gi (idx := 40) fo_0 (by decide) (by decide) gw_234 (by exact d_X0_pick_17)
theorem d_X0_pick_20 : decode cX0_pick 20 = .ok (.if_icmp .lt 4, 3) := by decide +kernel
theorem k_X0_pick_20 {lv : Nat} : Okop (i_X0_pick lv) 20 (o_ilt 24) 23 := k_ilt (off := 4) (by exact d_X0_pick_20) (by decide)
theorem d_X0_pick_23 : decode cX0_pick 23 = .ok (.return_, 1) := by decide +kernel
theorem k_X0_pick_23 {lv : Nat} : Okop (i_X0_pick lv) 23 (o_vret) 24 := k_vret (by exact d_X0_pick_23) rfl
theorem d_X0_pick_24 : decode cX0_pick 24 = .ok (.iload_n 2, 1) := by decide +kernel
theorem k_X0_pick_24 {lv : Nat} : Okop (i_X0_pick lv) 24 (o_il 2) 25 := k_iln (j := 2) (by exact d_X0_pick_24)
theorem d_X0_pick_25 : decode cX0_pick 25 = .ok (.aload_n 0, 1) := by decide +kernel
theorem k_X0_pick_25 {lv : Nat} : Okop (i_X0_pick lv) 25 (o_al 0) 26 := k_aln (j := 0) (by exact d_X0_pick_25)
theorem d_X0_pick_26 : decode cX0_pick 26 = .ok (.getfield 55, 3) := by decide +kernel
theorem k_X0_pick_26 {lv : Nat} : Okop (i_X0_pick lv) 26 (o_gi 0 1) 29 := k_gi (idx := 55) fo_0 (by decide) (by decide) gw_231 (by exact d_X0_pick_26)
theorem d_X0_pick_29 : decode cX0_pick 29 = .ok (.if_icmp .lt 26, 3) := by decide +kernel
theorem k_X0_pick_29 {lv : Nat} : Okop (i_X0_pick lv) 29 (o_ilt 55) 32 := k_ilt (off := 26) (by exact d_X0_pick_29) (by decide)
theorem d_X0_pick_32 : decode cX0_pick 32 = .ok (.aload_n 0, 1) := by decide +kernel
theorem k_X0_pick_32 {lv : Nat} : Okop (i_X0_pick lv) 32 (o_al 0) 33 := k_aln (j := 0) (by exact d_X0_pick_32)
theorem d_X0_pick_33 : decode cX0_pick 33 = .ok (.iload_n 3, 1) := by decide +kernel
theorem k_X0_pick_33 {lv : Nat} : Okop (i_X0_pick lv) 33 (o_il 3) 34 := k_iln (j := 3) (by exact d_X0_pick_33)
theorem d_X0_pick_34 : decode cX0_pick 34 = .ok (.putfield 40, 3) := by decide +kernel
theorem k_X0_pick_34 {lv : Nat} : Okop (i_X0_pick lv) 34 (o_pi 0 4) 37 := k_pi (idx := 40) fo_0 (by decide) (by decide) gw_234 (by exact d_X0_pick_34) (.inl rfl)
theorem d_X0_pick_37 : decode cX0_pick 37 = .ok (.aload_n 0, 1) := by decide +kernel
theorem k_X0_pick_37 {lv : Nat} : Okop (i_X0_pick lv) 37 (o_al 0) 38 := k_aln (j := 0) (by exact d_X0_pick_37)
theorem d_X0_pick_38 : decode cX0_pick 38 = .ok (.getfield 15, 3) := by decide +kernel
theorem k_X0_pick_38 {lv : Nat} : Okop (i_X0_pick lv) 38 (o_gr 0 2) 41 := k_gr (idx := 15) fo_0 (by decide) (by decide) gw_232 (by exact d_X0_pick_38)
theorem d_X0_pick_41 : decode cX0_pick 41 = .ok (.iconst 0, 1) := by decide +kernel
theorem k_X0_pick_41 {lv : Nat} : Okop (i_X0_pick lv) 41 (o_c 0) 42 := k_iconst (by exact d_X0_pick_41)
theorem d_X0_pick_42 : decode cX0_pick 42 = .ok (.aload_n 0, 1) := by decide +kernel
theorem k_X0_pick_42 {lv : Nat} : Okop (i_X0_pick lv) 42 (o_al 0) 43 := k_aln (j := 0) (by exact d_X0_pick_42)
theorem d_X0_pick_43 : decode cX0_pick 43 = .ok (.getfield 18, 3) := by decide +kernel
theorem k_X0_pick_43 {lv : Nat} : Okop (i_X0_pick lv) 43 (o_gr 0 3) 46 := k_gr (idx := 18) fo_0 (by decide) (by decide) gw_233 (by exact d_X0_pick_43)
theorem d_X0_pick_46 : decode cX0_pick 46 = .ok (.iconst 0, 1) := by decide +kernel
theorem k_X0_pick_46 {lv : Nat} : Okop (i_X0_pick lv) 46 (o_c 0) 47 := k_iconst (by exact d_X0_pick_46)
theorem d_X0_pick_47 : decode cX0_pick 47 = .ok (.aload_n 0, 1) := by decide +kernel
theorem k_X0_pick_47 {lv : Nat} : Okop (i_X0_pick lv) 47 (o_al 0) 48 := k_aln (j := 0) (by exact d_X0_pick_47)
theorem d_X0_pick_48 : decode cX0_pick 48 = .ok (.getfield 55, 3) := by decide +kernel
theorem k_X0_pick_48 {lv : Nat} : Okop (i_X0_pick lv) 48 (o_gi 0 1) 51 := k_gi (idx := 55) fo_0 (by decide) (by decide) gw_231 (by exact d_X0_pick_48)
theorem d_X0_pick_51 : decode cX0_pick 51 = .ok (.invokestatic 108, 3) := by decide +kernel
theorem k_X0_pick_51 {lv : Nat} (hlv : 1 ≤ lv) : Okop (i_X0_pick lv) 51 (o_copy) 54 := k_copy (idx := 108) gw_562 gw_355 gw_354 gw_11 hlv (by exact d_X0_pick_51)
theorem d_X0_pick_54 : decode cX0_pick 54 = .ok (.return_, 1) := by decide +kernel
theorem k_X0_pick_54 {lv : Nat} : Okop (i_X0_pick lv) 54 (o_vret) 55 := k_vret (by exact d_X0_pick_54) rfl
theorem d_X0_pick_55 : decode cX0_pick 55 = .ok (.aload_n 1, 1) := by decide +kernel
theorem k_X0_pick_55 {lv : Nat} : Okop (i_X0_pick lv) 55 (o_al 1) 56 := k_aln (j := 1) (by exact d_X0_pick_55)
theorem d_X0_pick_56 : decode cX0_pick 56 = .ok (.getfield 30, 3) := by decide +kernel
theorem k_X0_pick_56 {lv : Nat} : Okop (i_X0_pick lv) 56 (o_gr 6 0) 59 := k_gr (idx := 30) fo_6 (by decide) (by decide) gw_147 (by exact d_X0_pick_56)
theorem d_X0_pick_59 : decode cX0_pick 59 = .ok (.aload_n 0, 1) := by decide +kernel
theorem k_X0_pick_59 {lv : Nat} : Okop (i_X0_pick lv) 59 (o_al 0) 60 := k_aln (j := 0) (by exact d_X0_pick_59)
theorem d_X0_pick_60 : decode cX0_pick 60 = .ok (.getfield 9, 3) := by decide +kernel
theorem k_X0_pick_60 {lv : Nat} : Okop (i_X0_pick lv) 60 (o_gr 0 0) 63 := k_gr (idx := 9) fo_0 (by decide) (by decide) gw_230 (by exact d_X0_pick_60)
theorem d_X0_pick_63 : decode cX0_pick 63 = .ok (.iload_n 2, 1) := by decide +kernel
theorem k_X0_pick_63 {lv : Nat} : Okop (i_X0_pick lv) 63 (o_il 2) 64 := k_iln (j := 2) (by exact d_X0_pick_63)
theorem d_X0_pick_64 : decode cX0_pick 64 = .ok (.iaload, 1) := by decide +kernel
theorem k_X0_pick_64 {lv : Nat} : Okop (i_X0_pick lv) 64 (o_iald) 65 := k_iald (by exact d_X0_pick_64)
theorem d_X0_pick_65 : decode cX0_pick 65 = .ok (.aaload, 1) := by decide +kernel
theorem k_X0_pick_65 {lv : Nat} : Okop (i_X0_pick lv) 65 (o_aald) 66 := k_aald (by exact d_X0_pick_65)
theorem d_X0_pick_66 : decode cX0_pick 66 = .ok (.astore 4, 2) := by decide +kernel
theorem k_X0_pick_66 {lv : Nat} : Okop (i_X0_pick lv) 66 (o_as 4) 68 := k_as (by exact d_X0_pick_66) (Nat.le_of_ble_eq_true rfl)
theorem d_X0_pick_68 : decode cX0_pick 68 = .ok (.iconst 0, 1) := by decide +kernel
theorem k_X0_pick_68 {lv : Nat} : Okop (i_X0_pick lv) 68 (o_c 0) 69 := k_iconst (by exact d_X0_pick_68)
theorem d_X0_pick_69 : decode cX0_pick 69 = .ok (.istore 5, 2) := by decide +kernel
theorem k_X0_pick_69 {lv : Nat} : Okop (i_X0_pick lv) 69 (o_is 5) 71 := k_is (by exact d_X0_pick_69) (Nat.le_of_ble_eq_true rfl)
theorem d_X0_pick_71 : decode cX0_pick 71 = .ok (.iload 5, 2) := by decide +kernel
theorem k_X0_pick_71 {lv : Nat} : Okop (i_X0_pick lv) 71 (o_il 5) 73 := k_il (by exact d_X0_pick_71)
theorem d_X0_pick_73 : decode cX0_pick 73 = .ok (.aload 4, 2) := by decide +kernel
theorem k_X0_pick_73 {lv : Nat} : Okop (i_X0_pick lv) 73 (o_al 4) 75 := k_al (by exact d_X0_pick_73)
theorem d_X0_pick_75 : decode cX0_pick 75 = .ok (.getfield 69, 3) := by decide +kernel
theorem k_X0_pick_75 {lv : Nat} : Okop (i_X0_pick lv) 75 (o_gi 4 8) 78 := k_gi (idx := 69) fo_4 (by decide) (by decide) gw_61 (by exact d_X0_pick_75)
theorem d_X0_pick_78 : decode cX0_pick 78 = .ok (.if_icmp .ge 46, 3) := by decide +kernel
theorem k_X0_pick_78 {lv : Nat} : Okop (i_X0_pick lv) 78 (o_ige 124) 81 := k_ige (off := 46) (by exact d_X0_pick_78) (by decide)
theorem d_X0_pick_81 : decode cX0_pick 81 = .ok (.aload_n 0, 1) := by decide +kernel
theorem k_X0_pick_81 {lv : Nat} : Okop (i_X0_pick lv) 81 (o_al 0) 82 := k_aln (j := 0) (by exact d_X0_pick_81)
theorem d_X0_pick_82 : decode cX0_pick 82 = .ok (.aload_n 1, 1) := by decide +kernel
theorem k_X0_pick_82 {lv : Nat} : Okop (i_X0_pick lv) 82 (o_al 1) 83 := k_aln (j := 1) (by exact d_X0_pick_82)
theorem d_X0_pick_83 : decode cX0_pick 83 = .ok (.iload_n 2, 1) := by decide +kernel
theorem k_X0_pick_83 {lv : Nat} : Okop (i_X0_pick lv) 83 (o_il 2) 84 := k_iln (j := 2) (by exact d_X0_pick_83)
theorem d_X0_pick_84 : decode cX0_pick 84 = .ok (.iload 5, 2) := by decide +kernel
theorem k_X0_pick_84 {lv : Nat} : Okop (i_X0_pick lv) 84 (o_il 5) 86 := k_il (by exact d_X0_pick_84)
theorem d_X0_pick_86 : decode cX0_pick 86 = .ok (.invokevirtual 114, 3) := by decide +kernel
theorem k_X0_pick_86 {lv : Nat} (hlv : 2 + 1 ≤ lv) : Okop (i_X0_pick lv) 86 (o_callV 0 3 T_X0_narrow) 89 := k_callV (idx := 114) (r0 := (RX0, TX0, 8)) m_X0_narrow ⟨gw_566, gw_9, ⟨by decide, by decide, by decide +kernel⟩, hlv, by decide⟩ rfl gw_563 gw_565 gs_10 (by exact d_X0_pick_86)
theorem d_X0_pick_89 : decode cX0_pick 89 = .ok (.ifCond .eq 29, 3) := by decide +kernel
theorem k_X0_pick_89 {lv : Nat} : Okop (i_X0_pick lv) 89 (o_eq0 118) 92 := k_eq0 (off := 29) (by exact d_X0_pick_89) (by decide)
theorem d_X0_pick_92 : decode cX0_pick 92 = .ok (.aload_n 0, 1) := by decide +kernel
theorem k_X0_pick_92 {lv : Nat} : Okop (i_X0_pick lv) 92 (o_al 0) 93 := k_aln (j := 0) (by exact d_X0_pick_92)
theorem d_X0_pick_93 : decode cX0_pick 93 = .ok (.getfield 15, 3) := by decide +kernel
theorem k_X0_pick_93 {lv : Nat} : Okop (i_X0_pick lv) 93 (o_gr 0 2) 96 := k_gr (idx := 15) fo_0 (by decide) (by decide) gw_232 (by exact d_X0_pick_93)
theorem d_X0_pick_96 : decode cX0_pick 96 = .ok (.iload_n 2, 1) := by decide +kernel
theorem k_X0_pick_96 {lv : Nat} : Okop (i_X0_pick lv) 96 (o_il 2) 97 := k_iln (j := 2) (by exact d_X0_pick_96)
theorem d_X0_pick_97 : decode cX0_pick 97 = .ok (.iload 5, 2) := by decide +kernel
theorem k_X0_pick_97 {lv : Nat} : Okop (i_X0_pick lv) 97 (o_il 5) 99 := k_il (by exact d_X0_pick_97)
theorem d_X0_pick_99 : decode cX0_pick 99 = .ok (.iastore, 1) := by decide +kernel
theorem k_X0_pick_99 {lv : Nat} : Okop (i_X0_pick lv) 99 (o_iast) 100 := k_iast (by exact d_X0_pick_99)
theorem d_X0_pick_100 : decode cX0_pick 100 = .ok (.aload_n 0, 1) := by decide +kernel
theorem k_X0_pick_100 {lv : Nat} : Okop (i_X0_pick lv) 100 (o_al 0) 101 := k_aln (j := 0) (by exact d_X0_pick_100)
theorem d_X0_pick_101 : decode cX0_pick 101 = .ok (.aload_n 1, 1) := by decide +kernel
theorem k_X0_pick_101 {lv : Nat} : Okop (i_X0_pick lv) 101 (o_al 1) 102 := k_aln (j := 1) (by exact d_X0_pick_101)
theorem d_X0_pick_102 : decode cX0_pick 102 = .ok (.iload_n 2, 1) := by decide +kernel
theorem k_X0_pick_102 {lv : Nat} : Okop (i_X0_pick lv) 102 (o_il 2) 103 := k_iln (j := 2) (by exact d_X0_pick_102)
theorem d_X0_pick_103 : decode cX0_pick 103 = .ok (.iconst 1, 1) := by decide +kernel
theorem k_X0_pick_103 {lv : Nat} : Okop (i_X0_pick lv) 103 (o_c 1) 104 := k_iconst (by exact d_X0_pick_103)
theorem d_X0_pick_104 : decode cX0_pick 104 = .ok (.iadd, 1) := by decide +kernel
theorem k_X0_pick_104 {lv : Nat} : Okop (i_X0_pick lv) 104 (o_add) 105 := k_add (by exact d_X0_pick_104)
theorem d_X0_pick_105 : decode cX0_pick 105 = .ok (.iload_n 3, 1) := by decide +kernel
theorem k_X0_pick_105 {lv : Nat} : Okop (i_X0_pick lv) 105 (o_il 3) 106 := k_iln (j := 3) (by exact d_X0_pick_105)
theorem d_X0_pick_106 : decode cX0_pick 106 = .ok (.aload 4, 2) := by decide +kernel
theorem k_X0_pick_106 {lv : Nat} : Okop (i_X0_pick lv) 106 (o_al 4) 108 := k_al (by exact d_X0_pick_106)
theorem d_X0_pick_108 : decode cX0_pick 108 = .ok (.getfield 72, 3) := by decide +kernel
theorem k_X0_pick_108 {lv : Nat} : Okop (i_X0_pick lv) 108 (o_gr 4 11) 111 := k_gr (idx := 72) fo_4 (by decide) (by decide) gw_71 (by exact d_X0_pick_108)
theorem d_X0_pick_111 : decode cX0_pick 111 = .ok (.iload 5, 2) := by decide +kernel
theorem k_X0_pick_111 {lv : Nat} : Okop (i_X0_pick lv) 111 (o_il 5) 113 := k_il (by exact d_X0_pick_111)
theorem d_X0_pick_113 : decode cX0_pick 113 = .ok (.iaload, 1) := by decide +kernel
theorem k_X0_pick_113 {lv : Nat} : Okop (i_X0_pick lv) 113 (o_iald) 114 := k_iald (by exact d_X0_pick_113)
theorem d_X0_pick_114 : decode cX0_pick 114 = .ok (.iadd, 1) := by decide +kernel
theorem k_X0_pick_114 {lv : Nat} : Okop (i_X0_pick lv) 114 (o_add) 115 := k_add (by exact d_X0_pick_114)
theorem d_X0_pick_115 : decode cX0_pick 115 = .ok (.invokestatic 48, 3) := by decide +kernel
theorem k_X0_pick_115 {lv : Nat} (hrec : Mth yX0_pick cX0_pick 6 none lv (Sp0 (T_X0_pick lv))) : Okop (i_X0_pick (lv + 1)) 115 (o_call 4 (T_X0_pick lv)) 118 := k_call (idx := 48) hrec ⟨gw_561, gw_9, ⟨by decide, by decide, by decide +kernel⟩, Nat.le_refl _, by decide⟩ gw_559 gw_560 (by exact d_X0_pick_115)
theorem d_X0_pick_118 : decode cX0_pick 118 = .ok (.iinc 5 1, 3) := by decide +kernel
theorem k_X0_pick_118 {lv : Nat} : Okop (i_X0_pick lv) 118 (o_inc 5 1) 121 := k_inc (by exact d_X0_pick_118) (Nat.le_of_ble_eq_true rfl)
theorem d_X0_pick_121 : decode cX0_pick 121 = .ok (.goto (-50), 3) := by decide +kernel
theorem k_X0_pick_121 {lv : Nat} : Okop (i_X0_pick lv) 121 (o_go 71) 124 := k_go (off := -50) (by exact d_X0_pick_121) (by decide)
theorem d_X0_pick_124 : decode cX0_pick 124 = .ok (.return_, 1) := by decide +kernel
theorem k_X0_pick_124 {lv : Nat} : Okop (i_X0_pick lv) 124 (o_vret) 125 := k_vret (by exact d_X0_pick_124) rfl
theorem s_X0_pick_0 {lv : Nat} (hlv : 3 ≤ lv) : Seg (i_X0_pick (lv + 1)) 0 [o_al 0, o_gi 0 4, o_c (-1), o_ieq 24, o_il 3, o_al 0, o_gr 0 5, o_il 2, o_iald, o_add, o_al 0, o_gi 0 4, o_ilt 24, o_vret] 24 := Seg.cons (k_X0_pick_0) (Seg.cons (k_X0_pick_1) (Seg.cons (k_X0_pick_4) (Seg.cons (k_X0_pick_5) (Seg.cons (k_X0_pick_8) (Seg.cons (k_X0_pick_9) (Seg.cons (k_X0_pick_10) (Seg.cons (k_X0_pick_13) (Seg.cons (k_X0_pick_14) (Seg.cons (k_X0_pick_15) (Seg.cons (k_X0_pick_16) (Seg.cons (k_X0_pick_17) (Seg.cons (k_X0_pick_20) (Seg.cons (k_X0_pick_23) (Seg.nil))))))))))))))
theorem s_X0_pick_24 {lv : Nat} (hlv : 3 ≤ lv) : Seg (i_X0_pick (lv + 1)) 24 [o_il 2, o_al 0, o_gi 0 1, o_ilt 55, o_al 0, o_il 3, o_pi 0 4, o_al 0, o_gr 0 2, o_c 0, o_al 0, o_gr 0 3, o_c 0, o_al 0, o_gi 0 1, o_copy, o_vret] 55 := Seg.cons (k_X0_pick_24) (Seg.cons (k_X0_pick_25) (Seg.cons (k_X0_pick_26) (Seg.cons (k_X0_pick_29) (Seg.cons (k_X0_pick_32) (Seg.cons (k_X0_pick_33) (Seg.cons (k_X0_pick_34) (Seg.cons (k_X0_pick_37) (Seg.cons (k_X0_pick_38) (Seg.cons (k_X0_pick_41) (Seg.cons (k_X0_pick_42) (Seg.cons (k_X0_pick_43) (Seg.cons (k_X0_pick_46) (Seg.cons (k_X0_pick_47) (Seg.cons (k_X0_pick_48) (Seg.cons (k_X0_pick_51 (by omega)) (Seg.cons (k_X0_pick_54) (Seg.nil)))))))))))))))))
theorem s_X0_pick_55 {lv : Nat} (hlv : 3 ≤ lv) : Seg (i_X0_pick (lv + 1)) 55 [o_al 1, o_gr 6 0, o_al 0, o_gr 0 0, o_il 2, o_iald, o_aald, o_as 4, o_c 0, o_is 5] 71 := Seg.cons (k_X0_pick_55) (Seg.cons (k_X0_pick_56) (Seg.cons (k_X0_pick_59) (Seg.cons (k_X0_pick_60) (Seg.cons (k_X0_pick_63) (Seg.cons (k_X0_pick_64) (Seg.cons (k_X0_pick_65) (Seg.cons (k_X0_pick_66) (Seg.cons (k_X0_pick_68) (Seg.cons (k_X0_pick_69) (Seg.nil))))))))))
theorem s_X0_pick_71 {lv : Nat} (hrec : Mth yX0_pick cX0_pick 6 none lv (Sp0 (T_X0_pick lv))) (hlv : 3 ≤ lv) : Seg (i_X0_pick (lv + 1)) 71 [o_il 5, o_al 4, o_gi 4 8, o_ige 124, o_al 0, o_al 1, o_il 2, o_il 5, o_callV 0 3 T_X0_narrow, o_eq0 118, o_al 0, o_gr 0 2, o_il 2, o_il 5, o_iast, o_al 0, o_al 1, o_il 2, o_c 1, o_add, o_il 3, o_al 4, o_gr 4 11, o_il 5, o_iald, o_add, o_call 4 (T_X0_pick lv), o_inc 5 1, o_go 71] 124 := Seg.cons (k_X0_pick_71) (Seg.cons (k_X0_pick_73) (Seg.cons (k_X0_pick_75) (Seg.cons (k_X0_pick_78) (Seg.cons (k_X0_pick_81) (Seg.cons (k_X0_pick_82) (Seg.cons (k_X0_pick_83) (Seg.cons (k_X0_pick_84) (Seg.cons (k_X0_pick_86 (by omega)) (Seg.cons (k_X0_pick_89) (Seg.cons (k_X0_pick_92) (Seg.cons (k_X0_pick_93) (Seg.cons (k_X0_pick_96) (Seg.cons (k_X0_pick_97) (Seg.cons (k_X0_pick_99) (Seg.cons (k_X0_pick_100) (Seg.cons (k_X0_pick_101) (Seg.cons (k_X0_pick_102) (Seg.cons (k_X0_pick_103) (Seg.cons (k_X0_pick_104) (Seg.cons (k_X0_pick_105) (Seg.cons (k_X0_pick_106) (Seg.cons (k_X0_pick_108) (Seg.cons (k_X0_pick_111) (Seg.cons (k_X0_pick_113) (Seg.cons (k_X0_pick_114) (Seg.cons (k_X0_pick_115 hrec) (Seg.cons (k_X0_pick_118) (Seg.cons (k_X0_pick_121) (Seg.nil)))))))))))))))))))))))))))))
theorem s_X0_pick_118 {lv : Nat} (hlv : 3 ≤ lv) : Seg (i_X0_pick (lv + 1)) 118 [o_inc 5 1, o_go 71] 124 := Seg.cons (k_X0_pick_118) (Seg.cons (k_X0_pick_121) (Seg.nil))
theorem s_X0_pick_124 {lv : Nat} (hlv : 3 ≤ lv) : Seg (i_X0_pick (lv + 1)) 124 [o_vret] 125 := Seg.cons (k_X0_pick_124) (Seg.nil)

theorem m_X0_pick_go (lv : Nat) : Mth yX0_pick cX0_pick 6 none lv (Sp0 (T_X0_pick lv)) := by
  induction lv with
  | zero =>
    intro l g as h Rt hS
    obtain ⟨h0, C, a, i, n, F, pk, pr, b, d, -, q, -⟩ := hS
    omega
  | succ lv hrec =>
    refine Mth.of (by decide) ?_
    rintro x as h ok ⟨h0, C, a, i, n, F, pk, pr, b, d, rfl, hnl, hin, rfl, hC, hS0, haC, hga, hpi, hbs, hbo, hpr, hK⟩
    have hlv : 3 ≤ lv := by omega
    obtain ⟨k0, r0, r2, r3, r5, r6, r7, k1, l1, k2, l2, k3, l3, k4, l4, k5, l5, k6, l6⟩ := id hC
    refine ⟨Nat.le_of_ble_eq_true rfl, ?_⟩
    have hI := hS0.2.2
    have hgk := gk_le hI
    have hrg := rsp_rg hI (gk d - i) (by omega)
    have e0 : F 0 4 = b.1 := hbs.1
    have e1 : F 0 1 = (gk d : Int) := hga.1
    have e4 : F 4 i = rst d i := hga.2.2 i (by omega)
    have hrs : 0 ≤ rst d i ∧ rst d i ≤ 8000000 := by unfold rst; omega
    unfold bOk at hbo
    by_cases hd : b.1 ≠ -1 ∧ b.1 ≤ pr + rst d i
    · have e : bfs d n pk pr b = b := bfs_dear n pk pr b (by omega) hd.1 (by rw [show gk d - n = i by omega]; exact hd.2)
      rw [e] at hK
      all_goals (try ((first | (refine s_X0_pick_0 hlv x ok _ _ _ _ ?_) | (refine s_X0_pick_24 hlv x ok _ _ _ _ ?_) | (refine s_X0_pick_55 hlv x ok _ _ _ _ ?_) | (refine s_X0_pick_118 hlv x ok _ _ _ _ ?_) | (refine s_X0_pick_124 hlv x ok _ _ _ _ ?_)); (try simp only [wpS, o_c, o_cl, o_il, o_ll, o_al, o_is, o_ls, o_as, o_inc, o_add, o_sub, o_mul, o_and, o_or, o_xor, o_shl, o_shr, o_div, o_neg, o_ladd, o_lsub, o_lmul, o_ldiv, o_lrem, o_lneg, o_lcmp, o_i2l, o_l2i, o_dup, o_dup2, o_pop, o_go, o_nn, o_sw, swc, o_iret, o_zret, o_lret, o_vret, o_ieq, o_eq0, o_ine, o_ne0, o_ilt, o_lt0, o_ige, o_ge0, o_igt, o_gt0, o_ile, o_le0, o_iald, o_zald, o_lald, o_aald, o_iast, o_zast, o_last, o_aast, o_alen, o_gi, o_gr, o_pi, o_pz, o_pr, o_new, o_newa, o_copy, o_oinit, o_call, o_callV, o_callVc, o_callI, popn, cnO, o_BAD, lgt, lst, isL, kil, st1, st2, entL, List.length_nil, List.length_cons, List.replicate, Nat.reduceAdd, Nat.reduceLeDiff, Nat.reduceSub, true_and, and_true, Nat.zero_le, ne_eq, qk_wi, ql_wi, qr_wi, qj_wi, qt_wi, qk_wj, ql_wj, qr_wj, qi_wj, qt_wj, qk_wr, ql_wr, qi_wr, qj_wr, qt_wr, qi_ws, qj_ws, qr_ws, Int.toNat_natCast, Int.toNat_zero, Int.reduceToNat, not_true_eq_false, not_false_eq_true, false_implies, implies_true, Option.some.injEq, reduceCtorEq, Sp0, true_or, or_true, or_self, wi_wi, wj_wj, qk_wc, ql_wc, qr_wc, qc_0, wc_0, qc_1, wc_1, qc_2, wc_2, qc_3, wc_3, qc_4, wc_4, qc_5, wc_5, qc_6, wc_6, fr_a, ↓reduceIte, Nat.reduceEqDiff, k0, r5, k4, l4, e0, e4]); (repeat' (first | (with_reducible refine And.intro ?_ ?_) | (with_reducible intro))); (all_goals (try (first | assumption | omega | (unfold inI; omega))))))
      all_goals (try ((first | (refine s_X0_pick_0 hlv x ok _ _ _ _ ?_) | (refine s_X0_pick_24 hlv x ok _ _ _ _ ?_) | (refine s_X0_pick_55 hlv x ok _ _ _ _ ?_) | (refine s_X0_pick_118 hlv x ok _ _ _ _ ?_) | (refine s_X0_pick_124 hlv x ok _ _ _ _ ?_)); (try simp only [wpS, o_c, o_cl, o_il, o_ll, o_al, o_is, o_ls, o_as, o_inc, o_add, o_sub, o_mul, o_and, o_or, o_xor, o_shl, o_shr, o_div, o_neg, o_ladd, o_lsub, o_lmul, o_ldiv, o_lrem, o_lneg, o_lcmp, o_i2l, o_l2i, o_dup, o_dup2, o_pop, o_go, o_nn, o_sw, swc, o_iret, o_zret, o_lret, o_vret, o_ieq, o_eq0, o_ine, o_ne0, o_ilt, o_lt0, o_ige, o_ge0, o_igt, o_gt0, o_ile, o_le0, o_iald, o_zald, o_lald, o_aald, o_iast, o_zast, o_last, o_aast, o_alen, o_gi, o_gr, o_pi, o_pz, o_pr, o_new, o_newa, o_copy, o_oinit, o_call, o_callV, o_callVc, o_callI, popn, cnO, o_BAD, lgt, lst, isL, kil, st1, st2, entL, List.length_nil, List.length_cons, List.replicate, Nat.reduceAdd, Nat.reduceLeDiff, Nat.reduceSub, true_and, and_true, Nat.zero_le, ne_eq, qk_wi, ql_wi, qr_wi, qj_wi, qt_wi, qk_wj, ql_wj, qr_wj, qi_wj, qt_wj, qk_wr, ql_wr, qi_wr, qj_wr, qt_wr, qi_ws, qj_ws, qr_ws, Int.toNat_natCast, Int.toNat_zero, Int.reduceToNat, not_true_eq_false, not_false_eq_true, false_implies, implies_true, Option.some.injEq, reduceCtorEq, Sp0, true_or, or_true, or_self, wi_wi, wj_wj, qk_wc, ql_wc, qr_wc, qc_0, wc_0, qc_1, wc_1, qc_2, wc_2, qc_3, wc_3, qc_4, wc_4, qc_5, wc_5, qc_6, wc_6, fr_a, ↓reduceIte, Nat.reduceEqDiff, k0, r5, k4, l4, e0, e4]); (repeat' (first | (with_reducible refine And.intro ?_ ?_) | (with_reducible intro))); (all_goals (try (first | assumption | omega | (unfold inI; omega))))))
      all_goals (first | omega | exact hK F piF.rf hbs hbo)
    · cases n with
      | zero =>
        have hik : i = gk d := by omega
        have e : bfs d 0 pk pr b = (pr, pk) := by
          unfold bfs
          refine if_pos ⟨by rw [← hik]; exact hpi.2.1, ?_⟩
          have : rst d i = 0 := by unfold rst; rw [hik, Nat.sub_self]; rfl
          omega
        rw [e] at hK
        have e1' : fu (F 0) 4 pr 1 = (gk d : Int) := by rw [fu_n (by omega)]; exact e1
        all_goals (try ((first | (refine s_X0_pick_0 hlv x ok _ _ _ _ ?_) | (refine s_X0_pick_24 hlv x ok _ _ _ _ ?_) | (refine s_X0_pick_55 hlv x ok _ _ _ _ ?_) | (refine s_X0_pick_118 hlv x ok _ _ _ _ ?_) | (refine s_X0_pick_124 hlv x ok _ _ _ _ ?_)); (try simp only [wpS, o_c, o_cl, o_il, o_ll, o_al, o_is, o_ls, o_as, o_inc, o_add, o_sub, o_mul, o_and, o_or, o_xor, o_shl, o_shr, o_div, o_neg, o_ladd, o_lsub, o_lmul, o_ldiv, o_lrem, o_lneg, o_lcmp, o_i2l, o_l2i, o_dup, o_dup2, o_pop, o_go, o_nn, o_sw, swc, o_iret, o_zret, o_lret, o_vret, o_ieq, o_eq0, o_ine, o_ne0, o_ilt, o_lt0, o_ige, o_ge0, o_igt, o_gt0, o_ile, o_le0, o_iald, o_zald, o_lald, o_aald, o_iast, o_zast, o_last, o_aast, o_alen, o_gi, o_gr, o_pi, o_pz, o_pr, o_new, o_newa, o_copy, o_oinit, o_call, o_callV, o_callVc, o_callI, popn, cnO, o_BAD, lgt, lst, isL, kil, st1, st2, entL, List.length_nil, List.length_cons, List.replicate, Nat.reduceAdd, Nat.reduceLeDiff, Nat.reduceSub, true_and, and_true, Nat.zero_le, ne_eq, qk_wi, ql_wi, qr_wi, qj_wi, qt_wi, qk_wj, ql_wj, qr_wj, qi_wj, qt_wj, qk_wr, ql_wr, qi_wr, qj_wr, qt_wr, qi_ws, qj_ws, qr_ws, Int.toNat_natCast, Int.toNat_zero, Int.reduceToNat, not_true_eq_false, not_false_eq_true, false_implies, implies_true, Option.some.injEq, reduceCtorEq, Sp0, true_or, or_true, or_self, wi_wi, wj_wj, qk_wc, ql_wc, qr_wc, qc_0, wc_0, qc_1, wc_1, qc_2, wc_2, qc_3, wc_3, qc_4, wc_4, qc_5, wc_5, qc_6, wc_6, fr_a, ↓reduceIte, Nat.reduceEqDiff, k0, r2, r3, r5, k2, l2, k3, l3, k4, l4, e0, e1, e1', e4]); (repeat' (first | (with_reducible refine And.intro ?_ ?_) | (with_reducible intro))); (all_goals (try (first | assumption | omega | (unfold inI; omega))))))
        all_goals (try ((first | (refine s_X0_pick_0 hlv x ok _ _ _ _ ?_) | (refine s_X0_pick_24 hlv x ok _ _ _ _ ?_) | (refine s_X0_pick_55 hlv x ok _ _ _ _ ?_) | (refine s_X0_pick_118 hlv x ok _ _ _ _ ?_) | (refine s_X0_pick_124 hlv x ok _ _ _ _ ?_)); (try simp only [wpS, o_c, o_cl, o_il, o_ll, o_al, o_is, o_ls, o_as, o_inc, o_add, o_sub, o_mul, o_and, o_or, o_xor, o_shl, o_shr, o_div, o_neg, o_ladd, o_lsub, o_lmul, o_ldiv, o_lrem, o_lneg, o_lcmp, o_i2l, o_l2i, o_dup, o_dup2, o_pop, o_go, o_nn, o_sw, swc, o_iret, o_zret, o_lret, o_vret, o_ieq, o_eq0, o_ine, o_ne0, o_ilt, o_lt0, o_ige, o_ge0, o_igt, o_gt0, o_ile, o_le0, o_iald, o_zald, o_lald, o_aald, o_iast, o_zast, o_last, o_aast, o_alen, o_gi, o_gr, o_pi, o_pz, o_pr, o_new, o_newa, o_copy, o_oinit, o_call, o_callV, o_callVc, o_callI, popn, cnO, o_BAD, lgt, lst, isL, kil, st1, st2, entL, List.length_nil, List.length_cons, List.replicate, Nat.reduceAdd, Nat.reduceLeDiff, Nat.reduceSub, true_and, and_true, Nat.zero_le, ne_eq, qk_wi, ql_wi, qr_wi, qj_wi, qt_wi, qk_wj, ql_wj, qr_wj, qi_wj, qt_wj, qk_wr, ql_wr, qi_wr, qj_wr, qt_wr, qi_ws, qj_ws, qr_ws, Int.toNat_natCast, Int.toNat_zero, Int.reduceToNat, not_true_eq_false, not_false_eq_true, false_implies, implies_true, Option.some.injEq, reduceCtorEq, Sp0, true_or, or_true, or_self, wi_wi, wj_wj, qk_wc, ql_wc, qr_wc, qc_0, wc_0, qc_1, wc_1, qc_2, wc_2, qc_3, wc_3, qc_4, wc_4, qc_5, wc_5, qc_6, wc_6, fr_a, ↓reduceIte, Nat.reduceEqDiff, k0, r2, r3, r5, k2, l2, k3, l3, k4, l4, e0, e1, e1', e4]); (repeat' (first | (with_reducible refine And.intro ?_ ?_) | (with_reducible intro))); (all_goals (try (first | assumption | omega | (unfold inI; omega))))))
        all_goals (try ((first | (refine s_X0_pick_0 hlv x ok _ _ _ _ ?_) | (refine s_X0_pick_24 hlv x ok _ _ _ _ ?_) | (refine s_X0_pick_55 hlv x ok _ _ _ _ ?_) | (refine s_X0_pick_118 hlv x ok _ _ _ _ ?_) | (refine s_X0_pick_124 hlv x ok _ _ _ _ ?_)); (try simp only [wpS, o_c, o_cl, o_il, o_ll, o_al, o_is, o_ls, o_as, o_inc, o_add, o_sub, o_mul, o_and, o_or, o_xor, o_shl, o_shr, o_div, o_neg, o_ladd, o_lsub, o_lmul, o_ldiv, o_lrem, o_lneg, o_lcmp, o_i2l, o_l2i, o_dup, o_dup2, o_pop, o_go, o_nn, o_sw, swc, o_iret, o_zret, o_lret, o_vret, o_ieq, o_eq0, o_ine, o_ne0, o_ilt, o_lt0, o_ige, o_ge0, o_igt, o_gt0, o_ile, o_le0, o_iald, o_zald, o_lald, o_aald, o_iast, o_zast, o_last, o_aast, o_alen, o_gi, o_gr, o_pi, o_pz, o_pr, o_new, o_newa, o_copy, o_oinit, o_call, o_callV, o_callVc, o_callI, popn, cnO, o_BAD, lgt, lst, isL, kil, st1, st2, entL, List.length_nil, List.length_cons, List.replicate, Nat.reduceAdd, Nat.reduceLeDiff, Nat.reduceSub, true_and, and_true, Nat.zero_le, ne_eq, qk_wi, ql_wi, qr_wi, qj_wi, qt_wi, qk_wj, ql_wj, qr_wj, qi_wj, qt_wj, qk_wr, ql_wr, qi_wr, qj_wr, qt_wr, qi_ws, qj_ws, qr_ws, Int.toNat_natCast, Int.toNat_zero, Int.reduceToNat, not_true_eq_false, not_false_eq_true, false_implies, implies_true, Option.some.injEq, reduceCtorEq, Sp0, true_or, or_true, or_self, wi_wi, wj_wj, qk_wc, ql_wc, qr_wc, qc_0, wc_0, qc_1, wc_1, qc_2, wc_2, qc_3, wc_3, qc_4, wc_4, qc_5, wc_5, qc_6, wc_6, fr_a, ↓reduceIte, Nat.reduceEqDiff, k0, r2, r3, r5, k2, l2, k3, l3, k4, l4, e0, e1, e1', e4]); (repeat' (first | (with_reducible refine And.intro ?_ ?_) | (with_reducible intro))); (all_goals (try (first | assumption | omega | (unfold inI; omega))))))
        all_goals (try ((first | (refine s_X0_pick_0 hlv x ok _ _ _ _ ?_) | (refine s_X0_pick_24 hlv x ok _ _ _ _ ?_) | (refine s_X0_pick_55 hlv x ok _ _ _ _ ?_) | (refine s_X0_pick_118 hlv x ok _ _ _ _ ?_) | (refine s_X0_pick_124 hlv x ok _ _ _ _ ?_)); (try simp only [wpS, o_c, o_cl, o_il, o_ll, o_al, o_is, o_ls, o_as, o_inc, o_add, o_sub, o_mul, o_and, o_or, o_xor, o_shl, o_shr, o_div, o_neg, o_ladd, o_lsub, o_lmul, o_ldiv, o_lrem, o_lneg, o_lcmp, o_i2l, o_l2i, o_dup, o_dup2, o_pop, o_go, o_nn, o_sw, swc, o_iret, o_zret, o_lret, o_vret, o_ieq, o_eq0, o_ine, o_ne0, o_ilt, o_lt0, o_ige, o_ge0, o_igt, o_gt0, o_ile, o_le0, o_iald, o_zald, o_lald, o_aald, o_iast, o_zast, o_last, o_aast, o_alen, o_gi, o_gr, o_pi, o_pz, o_pr, o_new, o_newa, o_copy, o_oinit, o_call, o_callV, o_callVc, o_callI, popn, cnO, o_BAD, lgt, lst, isL, kil, st1, st2, entL, List.length_nil, List.length_cons, List.replicate, Nat.reduceAdd, Nat.reduceLeDiff, Nat.reduceSub, true_and, and_true, Nat.zero_le, ne_eq, qk_wi, ql_wi, qr_wi, qj_wi, qt_wi, qk_wj, ql_wj, qr_wj, qi_wj, qt_wj, qk_wr, ql_wr, qi_wr, qj_wr, qt_wr, qi_ws, qj_ws, qr_ws, Int.toNat_natCast, Int.toNat_zero, Int.reduceToNat, not_true_eq_false, not_false_eq_true, false_implies, implies_true, Option.some.injEq, reduceCtorEq, Sp0, true_or, or_true, or_self, wi_wi, wj_wj, qk_wc, ql_wc, qr_wc, qc_0, wc_0, qc_1, wc_1, qc_2, wc_2, qc_3, wc_3, qc_4, wc_4, qc_5, wc_5, qc_6, wc_6, fr_a, ↓reduceIte, Nat.reduceEqDiff, k0, r2, r3, r5, k2, l2, k3, l3, k4, l4, e0, e1, e1', e4]); (repeat' (first | (with_reducible refine And.intro ?_ ?_) | (with_reducible intro))); (all_goals (try (first | assumption | omega | (unfold inI; omega))))))
        all_goals (first | omega | skip)
        all_goals (
          refine hK (fr (fr F 0 (fu (F 0) 4 pr)) 3 (cpy (F 2) (F 3) 0 0 (gk d))) ⟨fun j hj => by show fu (F 0) 4 pr j = _; rw [fu_n hj], rfl, rfl, fun _ _ => rfl, fun _ _ => ⟨rfl, rfl⟩⟩ ⟨by show fu (F 0) 4 pr 4 = _; rw [fu_s], fun _ j hj => ?_⟩ (by unfold bOk; dsimp only; omega)
          show cpy (F 2) (F 3) 0 0 _ j = _
          unfold cpy
          rw [if_pos ⟨by omega, by omega⟩, Nat.sub_zero, Nat.zero_add]
          exact hpi.2.2.1 j (by omega))
      | succ n =>
        have hi : i < gk d := by omega
        obtain ⟨g1, g2⟩ := gl_ok hi
        have hIm := hI.1 _ g1
        have hv := hIm.v
        have hS := fun G => hS0.wc (C := C) (F := G) haC
        have e : ∀ b, bfs d (n + 1) pk pr b = lpF (fun l b => bfs d n (fu pk i l) (pr + dpr d (gl d i) l) b) (dv d (gl d i)).toNat b := fun b => by
          show lpF (fun l b => bfs d n (fu pk (gk d - (n + 1)) l) (pr + dpr d (gl d (gk d - (n + 1))) l) b) (dv d (gl d (gk d - (n + 1)))).toNat b = _
          rw [show gk d - (n + 1) = i by omega]
        rw [e] at hK
        have hme := fun G => (hS G).me g1
        have loop : ∀ j, j ≤ (dv d (gl d i)).toNat → ∀ F2 : Nat → Nat → Int, piF i F F2 → bsF d (lpF (fun l b => bfs d n (fu pk i l) (pr + dpr d (gl d i) l) b) j b) F2 → bOk (lpF (fun l b => bfs d n (fu pk i l) (pr + dpr d (gl d i) l) b) j b) → V (i_X0_pick (lv + 1)) x 71 [some (vr (some C)), some (vr (some a)), some (vi i), some (vi pr), some (vr (some (a + 5 + 5 * gl d i))), some (vi j)] [] (wc h0 C F2) (0, 0) := by
          refine bwd _ ?_ ?_
          · intro F2 hF hb2 ho2
            refine s_X0_pick_71 hrec hlv x ok _ _ _ _ ?_
            simp only [wpS, o_c, o_cl, o_il, o_ll, o_al, o_is, o_ls, o_as, o_inc, o_add, o_sub, o_mul, o_and, o_or, o_xor, o_shl, o_shr, o_div, o_neg, o_ladd, o_lsub, o_lmul, o_ldiv, o_lrem, o_lneg, o_lcmp, o_i2l, o_l2i, o_dup, o_dup2, o_pop, o_go, o_nn, o_sw, swc, o_iret, o_zret, o_lret, o_vret, o_ieq, o_eq0, o_ine, o_ne0, o_ilt, o_lt0, o_ige, o_ge0, o_igt, o_gt0, o_ile, o_le0, o_iald, o_zald, o_lald, o_aald, o_iast, o_zast, o_last, o_aast, o_alen, o_gi, o_gr, o_pi, o_pz, o_pr, o_new, o_newa, o_copy, o_oinit, o_call, o_callV, o_callVc, o_callI, popn, cnO, o_BAD, lgt, lst, isL, kil, st1, st2, entL, List.length_nil, List.length_cons, List.replicate, Nat.reduceAdd, Nat.reduceLeDiff, Nat.reduceSub, true_and, and_true, Nat.zero_le, ne_eq, qk_wi, ql_wi, qr_wi, qj_wi, qt_wi, qk_wj, ql_wj, qr_wj, qi_wj, qt_wj, qk_wr, ql_wr, qi_wr, qj_wr, qt_wr, qi_ws, qj_ws, qr_ws, Int.toNat_natCast, Int.toNat_zero, Int.reduceToNat, not_true_eq_false, not_false_eq_true, false_implies, implies_true, Option.some.injEq, reduceCtorEq, Sp0, true_or, or_true, or_self, wi_wi, wj_wj, (hme F2).1.1, (hme F2).2.1.2.2.2.2.2.2.2.1]
            repeat' (first | (with_reducible refine And.intro ?_ ?_) | (with_reducible intro))
            all_goals (try (first | assumption | omega | (unfold inI; omega)))
            all_goals (try ((first | (refine s_X0_pick_0 hlv x ok _ _ _ _ ?_) | (refine s_X0_pick_24 hlv x ok _ _ _ _ ?_) | (refine s_X0_pick_55 hlv x ok _ _ _ _ ?_) | (refine s_X0_pick_118 hlv x ok _ _ _ _ ?_) | (refine s_X0_pick_124 hlv x ok _ _ _ _ ?_)); (try simp only [wpS, o_c, o_cl, o_il, o_ll, o_al, o_is, o_ls, o_as, o_inc, o_add, o_sub, o_mul, o_and, o_or, o_xor, o_shl, o_shr, o_div, o_neg, o_ladd, o_lsub, o_lmul, o_ldiv, o_lrem, o_lneg, o_lcmp, o_i2l, o_l2i, o_dup, o_dup2, o_pop, o_go, o_nn, o_sw, swc, o_iret, o_zret, o_lret, o_vret, o_ieq, o_eq0, o_ine, o_ne0, o_ilt, o_lt0, o_ige, o_ge0, o_igt, o_gt0, o_ile, o_le0, o_iald, o_zald, o_lald, o_aald, o_iast, o_zast, o_last, o_aast, o_alen, o_gi, o_gr, o_pi, o_pz, o_pr, o_new, o_newa, o_copy, o_oinit, o_call, o_callV, o_callVc, o_callI, popn, cnO, o_BAD, lgt, lst, isL, kil, st1, st2, entL, List.length_nil, List.length_cons, List.replicate, Nat.reduceAdd, Nat.reduceLeDiff, Nat.reduceSub, true_and, and_true, Nat.zero_le, ne_eq, qk_wi, ql_wi, qr_wi, qj_wi, qt_wi, qk_wj, ql_wj, qr_wj, qi_wj, qt_wj, qk_wr, ql_wr, qi_wr, qj_wr, qt_wr, qi_ws, qj_ws, qr_ws, Int.toNat_natCast, Int.toNat_zero, Int.reduceToNat, not_true_eq_false, not_false_eq_true, false_implies, implies_true, Option.some.injEq, reduceCtorEq, Sp0, true_or, or_true, or_self, wi_wi, wj_wj]); (repeat' (first | (with_reducible refine And.intro ?_ ?_) | (with_reducible intro))); (all_goals (try (first | assumption | omega | (unfold inI; omega))))))
            exact hK F2 hF hb2 ho2
          · intro j hj ih F2 hF hb2 ho2
            have es : lpF (fun l b => bfs d n (fu pk i l) (pr + dpr d (gl d i) l) b) (j + 1) b = bfs d n (fu pk i j) (pr + dpr d (gl d i) j) (lpF (fun l b => bfs d n (fu pk i l) (pr + dpr d (gl d i) l) b) j b) := rfl
            rw [es] at ih
            generalize lpF (fun l b => bfs d n (fu pk i l) (pr + dpr d (gl d i) l) b) j b = B at *
            have hpj := (hIm.w j (by omega)).2.2
            refine s_X0_pick_71 hrec hlv x ok _ _ _ _ ?_
            simp only [wpS, o_c, o_cl, o_il, o_ll, o_al, o_is, o_ls, o_as, o_inc, o_add, o_sub, o_mul, o_and, o_or, o_xor, o_shl, o_shr, o_div, o_neg, o_ladd, o_lsub, o_lmul, o_ldiv, o_lrem, o_lneg, o_lcmp, o_i2l, o_l2i, o_dup, o_dup2, o_pop, o_go, o_nn, o_sw, swc, o_iret, o_zret, o_lret, o_vret, o_ieq, o_eq0, o_ine, o_ne0, o_ilt, o_lt0, o_ige, o_ge0, o_igt, o_gt0, o_ile, o_le0, o_iald, o_zald, o_lald, o_aald, o_iast, o_zast, o_last, o_aast, o_alen, o_gi, o_gr, o_pi, o_pz, o_pr, o_new, o_newa, o_copy, o_oinit, o_call, o_callV, o_callVc, o_callI, popn, cnO, o_BAD, lgt, lst, isL, kil, st1, st2, entL, List.length_nil, List.length_cons, List.replicate, Nat.reduceAdd, Nat.reduceLeDiff, Nat.reduceSub, true_and, and_true, Nat.zero_le, ne_eq, qk_wi, ql_wi, qr_wi, qj_wi, qt_wi, qk_wj, ql_wj, qr_wj, qi_wj, qt_wj, qk_wr, ql_wr, qi_wr, qj_wr, qt_wr, qi_ws, qj_ws, qr_ws, Int.toNat_natCast, Int.toNat_zero, Int.reduceToNat, not_true_eq_false, not_false_eq_true, false_implies, implies_true, Option.some.injEq, reduceCtorEq, Sp0, true_or, or_true, or_self, wi_wi, wj_wj, (hme F2).1.1, (hme F2).2.1.2.2.2.2.2.2.2.1, qk_wc, k0]
            repeat' (first | (with_reducible refine And.intro ?_ ?_) | (with_reducible intro))
            all_goals (try (first | assumption | omega | (unfold inI; omega)))
            refine c_narrow hC hS0 haC hi (by omega) (by rw [hF.2.1]; exact hga.2.1 i hi) hpi.1 (fun c hc => by rw [(hF.2.2.2.2 _ (by omega)).1, (hF.2.2.2.2 _ (by omega)).2]; exact hpi.2.2.2 c hc) (fun F3 hF3 => ⟨fun hok hR => ?_, fun hno => ?_⟩)
            · have hrok : rok d (i + 1) (fu pk i j) := fun c hc => by
                rw [(rl_s (d := d) (c := c) (i := i) (pk := pk) (l := j)).1, (rl_s (d := d) (c := c) (i := i) (pk := pk) (l := j)).2]
                exact hok c hc
              obtain ⟨⟨t0, t1, t2, t3, t4⟩, t5⟩ := hF3
              simp only [wpS, o_c, o_cl, o_il, o_ll, o_al, o_is, o_ls, o_as, o_inc, o_add, o_sub, o_mul, o_and, o_or, o_xor, o_shl, o_shr, o_div, o_neg, o_ladd, o_lsub, o_lmul, o_ldiv, o_lrem, o_lneg, o_lcmp, o_i2l, o_l2i, o_dup, o_dup2, o_pop, o_go, o_nn, o_sw, swc, o_iret, o_zret, o_lret, o_vret, o_ieq, o_eq0, o_ine, o_ne0, o_ilt, o_lt0, o_ige, o_ge0, o_igt, o_gt0, o_ile, o_le0, o_iald, o_zald, o_lald, o_aald, o_iast, o_zast, o_last, o_aast, o_alen, o_gi, o_gr, o_pi, o_pz, o_pr, o_new, o_newa, o_copy, o_oinit, o_call, o_callV, o_callVc, o_callI, popn, cnO, o_BAD, lgt, lst, isL, kil, st1, st2, entL, List.length_nil, List.length_cons, List.replicate, Nat.reduceAdd, Nat.reduceLeDiff, Nat.reduceSub, true_and, and_true, Nat.zero_le, ne_eq, qk_wi, ql_wi, qr_wi, qj_wi, qt_wi, qk_wj, ql_wj, qr_wj, qi_wj, qt_wj, qk_wr, ql_wr, qi_wr, qj_wr, qt_wr, qi_ws, qj_ws, qr_ws, Int.toNat_natCast, Int.toNat_zero, Int.reduceToNat, not_true_eq_false, not_false_eq_true, false_implies, implies_true, Option.some.injEq, reduceCtorEq, Sp0, true_or, or_true, or_self, wi_wi, wj_wj, qk_wc, ql_wc, qr_wc, qc_0, wc_0, qc_1, wc_1, qc_2, wc_2, qc_3, wc_3, qc_4, wc_4, qc_5, wc_5, qc_6, wc_6, fr_a, ↓reduceIte, Nat.reduceEqDiff, k0, r2, k2, l2, (hme F3).1.1, (hme F3).1.2.2.2.2.1, (hme F3).1.2.2.2.2.2.2.2.2.2.2.2.1, (hme F3).1.2.2.2.2.2.2.2.2.2.2.2.2]
              repeat' (first | (with_reducible refine And.intro ?_ ?_) | (with_reducible intro))
              all_goals (try (first | assumption | omega | (unfold inI; omega)))
              have hq12 : ∀ G, qi (wc h0 C G) (a + 5 + 5 * gl d i + 4) j = dpr d (gl d i) j := fun G => (hme G).2.1.2.2.2.2.2.2.2.2.2.2.2.2 j (by omega)
              rw [hq12]
              refine c_pick (n := n) (pk := fu pk i j) (b := B) (d := d) (i := i + 1) (by omega) (by omega) hC hS0 haC ⟨?_, ?_, ?_⟩ ⟨?_, hrok, ?_, ?_⟩ ⟨?_, ?_⟩ ho2 ⟨by omega, by push_cast; omega⟩ (fun F4 hF4 hb4 ho4 => ?_)
              · show F3 0 1 = _
                rw [t0, hF.1 1 (by omega)]; exact hga.1
              · intro k hk
                show F3 1 k = _
                rw [t1, hF.2.1]; exact hga.2.1 k hk
              · intro k hk
                show F3 4 k = _
                rw [t4, hF.2.2.1]; exact hga.2.2 k hk
              · intro k hk
                by_cases q : k = i
                · subst q; rw [fu_s]; omega
                · rw [fu_n q]; exact hpi.1 k (by omega)
              · intro k hk
                show fu (F3 2) i (j : Int) k = _
                by_cases q : k = i
                · subst q; rw [fu_s, fu_s]
                · rw [fu_n q, fu_n q, t2, hF.2.2.2.1 k (by omega)]; exact hpi.2.2.1 k (by omega)
              · intro c hc
                show F3 5 _ = _ ∧ F3 6 _ = _
                rw [(rl_s (d := d) (c := c) (i := i) (pk := pk) (l := j)).1, (rl_s (d := d) (c := c) (i := i) (pk := pk) (l := j)).2]
                exact hR c hc
              · show F3 0 4 = _
                rw [t0]; exact hb2.1
              · intro q k hk
                show F3 3 k = _
                rw [t3]; exact hb2.2 q k hk
              · simp only [wpS, o_c, o_cl, o_il, o_ll, o_al, o_is, o_ls, o_as, o_inc, o_add, o_sub, o_mul, o_and, o_or, o_xor, o_shl, o_shr, o_div, o_neg, o_ladd, o_lsub, o_lmul, o_ldiv, o_lrem, o_lneg, o_lcmp, o_i2l, o_l2i, o_dup, o_dup2, o_pop, o_go, o_nn, o_sw, swc, o_iret, o_zret, o_lret, o_vret, o_ieq, o_eq0, o_ine, o_ne0, o_ilt, o_lt0, o_ige, o_ge0, o_igt, o_gt0, o_ile, o_le0, o_iald, o_zald, o_lald, o_aald, o_iast, o_zast, o_last, o_aast, o_alen, o_gi, o_gr, o_pi, o_pz, o_pr, o_new, o_newa, o_copy, o_oinit, o_call, o_callV, o_callVc, o_callI, popn, cnO, o_BAD, lgt, lst, isL, kil, st1, st2, entL, List.length_nil, List.length_cons, List.replicate, Nat.reduceAdd, Nat.reduceLeDiff, Nat.reduceSub, true_and, and_true, Nat.zero_le, ne_eq, qk_wi, ql_wi, qr_wi, qj_wi, qt_wi, qk_wj, ql_wj, qr_wj, qi_wj, qt_wj, qk_wr, ql_wr, qi_wr, qj_wr, qt_wr, qi_ws, qj_ws, qr_ws, Int.toNat_natCast, Int.toNat_zero, Int.reduceToNat, not_true_eq_false, not_false_eq_true, false_implies, implies_true, Option.some.injEq, reduceCtorEq, Sp0, true_or, or_true, or_self, wi_wi, wj_wj]
                refine ih F4 (hF.tr ⟨fun k hk => ?_, ?_, ?_, fun k hk => ?_, fun k hk => ?_⟩) hb4 ho4
                · rw [hF4.1 k hk]; show F3 0 k = _; rw [t0]
                · rw [hF4.2.1]; show F3 1 = _; rw [t1]
                · rw [hF4.2.2.1]; show F3 4 = _; rw [t4]
                · rw [hF4.2.2.2.1 k (by omega)]; show fu (F3 2) i (j : Int) k = _; rw [fu_n (by omega), t2]
                · rw [(hF4.2.2.2.2 k (by omega)).1, (hF4.2.2.2.2 k (by omega)).2]; exact t5 k hk
            · have hnr : ¬ rok d (i + 1) (fu pk i j) := fun q => hno (fun c hc => by
                have := q c hc
                rw [(rl_s (d := d) (c := c) (i := i) (pk := pk) (l := j)).1, (rl_s (d := d) (c := c) (i := i) (pk := pk) (l := j)).2] at this
                exact this)
              have eB : bfs d n (fu pk i j) (pr + dpr d (gl d i) j) B = B := bfs_tight hI n _ _ B (by omega) (by rw [show gk d - n = i + 1 by omega]; exact hnr)
              rw [eB] at ih
              obtain ⟨⟨t0, t1, t2, t3, t4⟩, t5⟩ := hF3
              simp only [wpS, o_c, o_cl, o_il, o_ll, o_al, o_is, o_ls, o_as, o_inc, o_add, o_sub, o_mul, o_and, o_or, o_xor, o_shl, o_shr, o_div, o_neg, o_ladd, o_lsub, o_lmul, o_ldiv, o_lrem, o_lneg, o_lcmp, o_i2l, o_l2i, o_dup, o_dup2, o_pop, o_go, o_nn, o_sw, swc, o_iret, o_zret, o_lret, o_vret, o_ieq, o_eq0, o_ine, o_ne0, o_ilt, o_lt0, o_ige, o_ge0, o_igt, o_gt0, o_ile, o_le0, o_iald, o_zald, o_lald, o_aald, o_iast, o_zast, o_last, o_aast, o_alen, o_gi, o_gr, o_pi, o_pz, o_pr, o_new, o_newa, o_copy, o_oinit, o_call, o_callV, o_callVc, o_callI, popn, cnO, o_BAD, lgt, lst, isL, kil, st1, st2, entL, List.length_nil, List.length_cons, List.replicate, Nat.reduceAdd, Nat.reduceLeDiff, Nat.reduceSub, true_and, and_true, Nat.zero_le, ne_eq, qk_wi, ql_wi, qr_wi, qj_wi, qt_wi, qk_wj, ql_wj, qr_wj, qi_wj, qt_wj, qk_wr, ql_wr, qi_wr, qj_wr, qt_wr, qi_ws, qj_ws, qr_ws, Int.toNat_natCast, Int.toNat_zero, Int.reduceToNat, not_true_eq_false, not_false_eq_true, false_implies, implies_true, Option.some.injEq, reduceCtorEq, Sp0, true_or, or_true, or_self, wi_wi, wj_wj]
              repeat' (first | (with_reducible refine And.intro ?_ ?_) | (with_reducible intro))
              all_goals (try (first | assumption | omega | (unfold inI; omega)))
              all_goals (try ((first | (refine s_X0_pick_0 hlv x ok _ _ _ _ ?_) | (refine s_X0_pick_24 hlv x ok _ _ _ _ ?_) | (refine s_X0_pick_55 hlv x ok _ _ _ _ ?_) | (refine s_X0_pick_118 hlv x ok _ _ _ _ ?_) | (refine s_X0_pick_124 hlv x ok _ _ _ _ ?_)); (try simp only [wpS, o_c, o_cl, o_il, o_ll, o_al, o_is, o_ls, o_as, o_inc, o_add, o_sub, o_mul, o_and, o_or, o_xor, o_shl, o_shr, o_div, o_neg, o_ladd, o_lsub, o_lmul, o_ldiv, o_lrem, o_lneg, o_lcmp, o_i2l, o_l2i, o_dup, o_dup2, o_pop, o_go, o_nn, o_sw, swc, o_iret, o_zret, o_lret, o_vret, o_ieq, o_eq0, o_ine, o_ne0, o_ilt, o_lt0, o_ige, o_ge0, o_igt, o_gt0, o_ile, o_le0, o_iald, o_zald, o_lald, o_aald, o_iast, o_zast, o_last, o_aast, o_alen, o_gi, o_gr, o_pi, o_pz, o_pr, o_new, o_newa, o_copy, o_oinit, o_call, o_callV, o_callVc, o_callI, popn, cnO, o_BAD, lgt, lst, isL, kil, st1, st2, entL, List.length_nil, List.length_cons, List.replicate, Nat.reduceAdd, Nat.reduceLeDiff, Nat.reduceSub, true_and, and_true, Nat.zero_le, ne_eq, qk_wi, ql_wi, qr_wi, qj_wi, qt_wi, qk_wj, ql_wj, qr_wj, qi_wj, qt_wj, qk_wr, ql_wr, qi_wr, qj_wr, qt_wr, qi_ws, qj_ws, qr_ws, Int.toNat_natCast, Int.toNat_zero, Int.reduceToNat, not_true_eq_false, not_false_eq_true, false_implies, implies_true, Option.some.injEq, reduceCtorEq, Sp0, true_or, or_true, or_self, wi_wi, wj_wj]); (repeat' (first | (with_reducible refine And.intro ?_ ?_) | (with_reducible intro))); (all_goals (try (first | assumption | omega | (unfold inI; omega))))))
              refine ih F3 (hF.tr ⟨fun k hk => by rw [t0], t1, t4, fun k hk => by rw [t2], t5⟩) ⟨by rw [t0]; exact hb2.1, fun q k hk => by rw [t3]; exact hb2.2 q k hk⟩ ho2
        have hgi : F 1 i = (gl d i : Int) := hga.2.1 i hi
        all_goals (try ((first | (refine s_X0_pick_0 hlv x ok _ _ _ _ ?_) | (refine s_X0_pick_24 hlv x ok _ _ _ _ ?_) | (refine s_X0_pick_55 hlv x ok _ _ _ _ ?_) | (refine s_X0_pick_118 hlv x ok _ _ _ _ ?_) | (refine s_X0_pick_124 hlv x ok _ _ _ _ ?_)); (try simp only [wpS, o_c, o_cl, o_il, o_ll, o_al, o_is, o_ls, o_as, o_inc, o_add, o_sub, o_mul, o_and, o_or, o_xor, o_shl, o_shr, o_div, o_neg, o_ladd, o_lsub, o_lmul, o_ldiv, o_lrem, o_lneg, o_lcmp, o_i2l, o_l2i, o_dup, o_dup2, o_pop, o_go, o_nn, o_sw, swc, o_iret, o_zret, o_lret, o_vret, o_ieq, o_eq0, o_ine, o_ne0, o_ilt, o_lt0, o_ige, o_ge0, o_igt, o_gt0, o_ile, o_le0, o_iald, o_zald, o_lald, o_aald, o_iast, o_zast, o_last, o_aast, o_alen, o_gi, o_gr, o_pi, o_pz, o_pr, o_new, o_newa, o_copy, o_oinit, o_call, o_callV, o_callVc, o_callI, popn, cnO, o_BAD, lgt, lst, isL, kil, st1, st2, entL, List.length_nil, List.length_cons, List.replicate, Nat.reduceAdd, Nat.reduceLeDiff, Nat.reduceSub, true_and, and_true, Nat.zero_le, ne_eq, qk_wi, ql_wi, qr_wi, qj_wi, qt_wi, qk_wj, ql_wj, qr_wj, qi_wj, qt_wj, qk_wr, ql_wr, qi_wr, qj_wr, qt_wr, qi_ws, qj_ws, qr_ws, Int.toNat_natCast, Int.toNat_zero, Int.reduceToNat, not_true_eq_false, not_false_eq_true, false_implies, implies_true, Option.some.injEq, reduceCtorEq, Sp0, true_or, or_true, or_self, wi_wi, wj_wj, qk_wc, ql_wc, qr_wc, qc_0, wc_0, qc_1, wc_1, qc_2, wc_2, qc_3, wc_3, qc_4, wc_4, qc_5, wc_5, qc_6, wc_6, fr_a, ↓reduceIte, Nat.reduceEqDiff, k0, r0, r5, k1, l1, k4, l4, e0, e1, e4, hgi, (hS F).k, (hS F).r0, (hS F).k1, (hS F).l1, (hS F).rm g1]); (repeat' (first | (with_reducible refine And.intro ?_ ?_) | (with_reducible intro))); (all_goals (try (first | assumption | omega | (unfold inI; omega))))))
        all_goals (try ((first | (refine s_X0_pick_0 hlv x ok _ _ _ _ ?_) | (refine s_X0_pick_24 hlv x ok _ _ _ _ ?_) | (refine s_X0_pick_55 hlv x ok _ _ _ _ ?_) | (refine s_X0_pick_118 hlv x ok _ _ _ _ ?_) | (refine s_X0_pick_124 hlv x ok _ _ _ _ ?_)); (try simp only [wpS, o_c, o_cl, o_il, o_ll, o_al, o_is, o_ls, o_as, o_inc, o_add, o_sub, o_mul, o_and, o_or, o_xor, o_shl, o_shr, o_div, o_neg, o_ladd, o_lsub, o_lmul, o_ldiv, o_lrem, o_lneg, o_lcmp, o_i2l, o_l2i, o_dup, o_dup2, o_pop, o_go, o_nn, o_sw, swc, o_iret, o_zret, o_lret, o_vret, o_ieq, o_eq0, o_ine, o_ne0, o_ilt, o_lt0, o_ige, o_ge0, o_igt, o_gt0, o_ile, o_le0, o_iald, o_zald, o_lald, o_aald, o_iast, o_zast, o_last, o_aast, o_alen, o_gi, o_gr, o_pi, o_pz, o_pr, o_new, o_newa, o_copy, o_oinit, o_call, o_callV, o_callVc, o_callI, popn, cnO, o_BAD, lgt, lst, isL, kil, st1, st2, entL, List.length_nil, List.length_cons, List.replicate, Nat.reduceAdd, Nat.reduceLeDiff, Nat.reduceSub, true_and, and_true, Nat.zero_le, ne_eq, qk_wi, ql_wi, qr_wi, qj_wi, qt_wi, qk_wj, ql_wj, qr_wj, qi_wj, qt_wj, qk_wr, ql_wr, qi_wr, qj_wr, qt_wr, qi_ws, qj_ws, qr_ws, Int.toNat_natCast, Int.toNat_zero, Int.reduceToNat, not_true_eq_false, not_false_eq_true, false_implies, implies_true, Option.some.injEq, reduceCtorEq, Sp0, true_or, or_true, or_self, wi_wi, wj_wj, qk_wc, ql_wc, qr_wc, qc_0, wc_0, qc_1, wc_1, qc_2, wc_2, qc_3, wc_3, qc_4, wc_4, qc_5, wc_5, qc_6, wc_6, fr_a, ↓reduceIte, Nat.reduceEqDiff, k0, r0, r5, k1, l1, k4, l4, e0, e1, e4, hgi, (hS F).k, (hS F).r0, (hS F).k1, (hS F).l1, (hS F).rm g1]); (repeat' (first | (with_reducible refine And.intro ?_ ?_) | (with_reducible intro))); (all_goals (try (first | assumption | omega | (unfold inI; omega))))))
        all_goals (try ((first | (refine s_X0_pick_0 hlv x ok _ _ _ _ ?_) | (refine s_X0_pick_24 hlv x ok _ _ _ _ ?_) | (refine s_X0_pick_55 hlv x ok _ _ _ _ ?_) | (refine s_X0_pick_118 hlv x ok _ _ _ _ ?_) | (refine s_X0_pick_124 hlv x ok _ _ _ _ ?_)); (try simp only [wpS, o_c, o_cl, o_il, o_ll, o_al, o_is, o_ls, o_as, o_inc, o_add, o_sub, o_mul, o_and, o_or, o_xor, o_shl, o_shr, o_div, o_neg, o_ladd, o_lsub, o_lmul, o_ldiv, o_lrem, o_lneg, o_lcmp, o_i2l, o_l2i, o_dup, o_dup2, o_pop, o_go, o_nn, o_sw, swc, o_iret, o_zret, o_lret, o_vret, o_ieq, o_eq0, o_ine, o_ne0, o_ilt, o_lt0, o_ige, o_ge0, o_igt, o_gt0, o_ile, o_le0, o_iald, o_zald, o_lald, o_aald, o_iast, o_zast, o_last, o_aast, o_alen, o_gi, o_gr, o_pi, o_pz, o_pr, o_new, o_newa, o_copy, o_oinit, o_call, o_callV, o_callVc, o_callI, popn, cnO, o_BAD, lgt, lst, isL, kil, st1, st2, entL, List.length_nil, List.length_cons, List.replicate, Nat.reduceAdd, Nat.reduceLeDiff, Nat.reduceSub, true_and, and_true, Nat.zero_le, ne_eq, qk_wi, ql_wi, qr_wi, qj_wi, qt_wi, qk_wj, ql_wj, qr_wj, qi_wj, qt_wj, qk_wr, ql_wr, qi_wr, qj_wr, qt_wr, qi_ws, qj_ws, qr_ws, Int.toNat_natCast, Int.toNat_zero, Int.reduceToNat, not_true_eq_false, not_false_eq_true, false_implies, implies_true, Option.some.injEq, reduceCtorEq, Sp0, true_or, or_true, or_self, wi_wi, wj_wj, qk_wc, ql_wc, qr_wc, qc_0, wc_0, qc_1, wc_1, qc_2, wc_2, qc_3, wc_3, qc_4, wc_4, qc_5, wc_5, qc_6, wc_6, fr_a, ↓reduceIte, Nat.reduceEqDiff, k0, r0, r5, k1, l1, k4, l4, e0, e1, e4, hgi, (hS F).k, (hS F).r0, (hS F).k1, (hS F).l1, (hS F).rm g1]); (repeat' (first | (with_reducible refine And.intro ?_ ?_) | (with_reducible intro))); (all_goals (try (first | assumption | omega | (unfold inI; omega))))))
        all_goals (try ((first | (refine s_X0_pick_0 hlv x ok _ _ _ _ ?_) | (refine s_X0_pick_24 hlv x ok _ _ _ _ ?_) | (refine s_X0_pick_55 hlv x ok _ _ _ _ ?_) | (refine s_X0_pick_118 hlv x ok _ _ _ _ ?_) | (refine s_X0_pick_124 hlv x ok _ _ _ _ ?_)); (try simp only [wpS, o_c, o_cl, o_il, o_ll, o_al, o_is, o_ls, o_as, o_inc, o_add, o_sub, o_mul, o_and, o_or, o_xor, o_shl, o_shr, o_div, o_neg, o_ladd, o_lsub, o_lmul, o_ldiv, o_lrem, o_lneg, o_lcmp, o_i2l, o_l2i, o_dup, o_dup2, o_pop, o_go, o_nn, o_sw, swc, o_iret, o_zret, o_lret, o_vret, o_ieq, o_eq0, o_ine, o_ne0, o_ilt, o_lt0, o_ige, o_ge0, o_igt, o_gt0, o_ile, o_le0, o_iald, o_zald, o_lald, o_aald, o_iast, o_zast, o_last, o_aast, o_alen, o_gi, o_gr, o_pi, o_pz, o_pr, o_new, o_newa, o_copy, o_oinit, o_call, o_callV, o_callVc, o_callI, popn, cnO, o_BAD, lgt, lst, isL, kil, st1, st2, entL, List.length_nil, List.length_cons, List.replicate, Nat.reduceAdd, Nat.reduceLeDiff, Nat.reduceSub, true_and, and_true, Nat.zero_le, ne_eq, qk_wi, ql_wi, qr_wi, qj_wi, qt_wi, qk_wj, ql_wj, qr_wj, qi_wj, qt_wj, qk_wr, ql_wr, qi_wr, qj_wr, qt_wr, qi_ws, qj_ws, qr_ws, Int.toNat_natCast, Int.toNat_zero, Int.reduceToNat, not_true_eq_false, not_false_eq_true, false_implies, implies_true, Option.some.injEq, reduceCtorEq, Sp0, true_or, or_true, or_self, wi_wi, wj_wj, qk_wc, ql_wc, qr_wc, qc_0, wc_0, qc_1, wc_1, qc_2, wc_2, qc_3, wc_3, qc_4, wc_4, qc_5, wc_5, qc_6, wc_6, fr_a, ↓reduceIte, Nat.reduceEqDiff, k0, r0, r5, k1, l1, k4, l4, e0, e1, e4, hgi, (hS F).k, (hS F).r0, (hS F).k1, (hS F).l1, (hS F).rm g1]); (repeat' (first | (with_reducible refine And.intro ?_ ?_) | (with_reducible intro))); (all_goals (try (first | assumption | omega | (unfold inI; omega))))))
        all_goals (first | omega | exact loop 0 (by omega) F piF.rf hbs hbo)
theorem m_X0_pick : Mth yX0_pick cX0_pick 6 none 17 (Sp0 (T_X0_pick 17)) := m_X0_pick_go 17

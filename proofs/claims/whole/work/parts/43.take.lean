/-! ===== takeAll ===== -/
/-- only ints between lo and hi have changed -/
def Chg (h h' : Hp) (lo hi : Nat) : Prop := qk h' = qk h ∧ ql h' = ql h ∧ qr h' = qr h ∧ qj h' = qj h ∧ qt h' = qt h ∧ ∀ b, b < lo ∨ hi ≤ b → qi h' b = qi h b
theorem Chg.rf (h : Hp) (lo hi : Nat) : Chg h h lo hi := ⟨rfl, rfl, rfl, rfl, rfl, fun _ _ => rfl⟩
theorem Chg.tr {h h1 h2 : Hp} {lo hi l2 h2' : Nat} (a : Chg h h1 lo hi) (b : Chg h1 h2 l2 h2') (hl : lo ≤ l2) (hh : h2' ≤ hi) : Chg h h2 lo hi := ⟨b.1.trans a.1, b.2.1.trans a.2.1, b.2.2.1.trans a.2.2.1, b.2.2.2.1.trans a.2.2.2.1, b.2.2.2.2.1.trans a.2.2.2.2.1, fun k hk => (b.2.2.2.2.2 k (by omega)).trans (a.2.2.2.2.2 k hk)⟩
theorem isMe.chg {h h' : Hp} {p lo hi : Nat} (H : isMe h p) (e : Chg h h' lo hi) : isMe h' p := by
  unfold isMe at *
  rw [e.1, e.2.1, e.2.2.1]; exact H
theorem isCh.chg {h h' : Hp} {p lo hi : Nat} (H : isCh h p) (e : Chg h h' lo hi) : isCh h' p := by
  unfold isCh at *
  rw [e.1, e.2.1, e.2.2.1]; exact H
theorem isLo.chg {h h' : Hp} {p lo hi : Nat} (H : isLo h p) (e : Chg h h' lo hi) : isLo h' p := by
  unfold isLo at *
  rw [e.1, e.2.1, e.2.2.1]; exact H
theorem isSt.chg {h h' : Hp} {p lo hi : Nat} (H : isSt h p) (e : Chg h h' lo hi) : isSt h' p := by
  unfold isSt isMe isCh isLo at *
  rw [e.1, e.2.1, e.2.2.1]; exact H
theorem MeC.chg {h h' : Hp} {p lo hi : Nat} {d : Dd} {m : Nat} (H : MeC h p d m) (e : Chg h h' lo hi) (n : p + 5 ≤ lo ∨ hi ≤ p) : MeC h' p d m := by
  have e := e.2.2.2.2.2
  unfold MeC at *
  rw [e p (by omega), e (p + 1) (by omega), e (p + 2) (by omega), e (p + 3) (by omega), e (p + 4) (by omega)]
  exact H
theorem ChC.chg {h h' : Hp} {p lo hi : Nat} {d : Dd} {m : Nat} (H : ChC h p d m) (e : Chg h h' lo hi) (n : p + 2 ≤ lo ∨ hi ≤ p) : ChC h' p d m := by
  have e := e.2.2.2.2.2
  unfold ChC at *
  rw [e p (by omega), e (p + 1) (by omega)]
  exact H
theorem LoC.chg {h h' : Hp} {p lo hi : Nat} {d : Dd} {m : Nat} (H : LoC h p d m) (e : Chg h h' lo hi) (n : p + 2 ≤ lo ∨ hi ≤ p) : LoC h' p d m := by
  have e := e.2.2.2.2.2
  unfold LoC at *
  rw [e p (by omega), e (p + 1) (by omega)]
  exact H
theorem cpy0 {f g : Nat → Int} {n j : Nat} (h : j < n) : cpy f g 0 0 n j = f j := by
  unfold cpy
  rw [if_pos (by omega), Nat.sub_zero, Nat.zero_add]
def T_X4_takeAll : TT := fun as h K => ∃ (p q : Nat) (d : Dd) (m : Nat), as = [vr (some p), vr (some q)] ∧ isMe h p ∧ isMe h q ∧ MeC h q d m ∧ (dh d m = 0 ∨ dh d m = 1) ∧ (q + 5 ≤ p ∨ p + 5 ≤ q) ∧ ∀ h', Chg h h' p (p + 5) → MeC h' p d m → K none h'
theorem c_takeAllM {h : Hp} {p q : Nat} {d : Dd} {m : Nat} {K : RT} (h1 : isMe h p) (h2 : isMe h q) (h3 : MeC h q d m) (h4 : dh d m = 0 ∨ dh d m = 1) (h5 : q + 5 ≤ p ∨ p + 5 ≤ q) (h6 : ∀ h', Chg h h' p (p + 5) → MeC h' p d m → K none h') : T_X4_takeAll [vr (some p), vr (some q)] h K := ⟨p, q, d, m, rfl, h1, h2, h3, h4, h5, h6⟩
abbrev i_X4_takeAll : MI := (cX4_takeAll, 2, RX4, none, "takeAll", 2)
theorem k_X4_takeAll_0 : Okop i_X4_takeAll 0 (o_al 0) 1 := k_aln (j := 0) (by decide +kernel)
theorem k_X4_takeAll_1 : Okop i_X4_takeAll 1 (o_al 1) 2 := k_aln (j := 1) (by decide +kernel)
theorem k_X4_takeAll_2 : Okop i_X4_takeAll 2 (o_gi 4 0) 5 := k_gi (idx := 58) fo_4 (by decide) (by decide) gw_41 (by decide +kernel)
theorem k_X4_takeAll_5 : Okop i_X4_takeAll 5 (o_pi 4 0) 8 := k_pi (idx := 58) fo_4 (by decide) (by decide) gw_41 (by decide +kernel) (.inl rfl)
theorem k_X4_takeAll_8 : Okop i_X4_takeAll 8 (o_al 0) 9 := k_aln (j := 0) (by decide +kernel)
theorem k_X4_takeAll_9 : Okop i_X4_takeAll 9 (o_al 1) 10 := k_aln (j := 1) (by decide +kernel)
theorem k_X4_takeAll_10 : Okop i_X4_takeAll 10 (o_gi 4 1) 13 := k_gi (idx := 64) fo_4 (by decide) (by decide) gw_44 (by decide +kernel)
theorem k_X4_takeAll_13 : Okop i_X4_takeAll 13 (o_pi 4 1) 16 := k_pi (idx := 64) fo_4 (by decide) (by decide) gw_44 (by decide +kernel) (.inl rfl)
theorem k_X4_takeAll_16 : Okop i_X4_takeAll 16 (o_al 0) 17 := k_aln (j := 0) (by decide +kernel)
theorem k_X4_takeAll_17 : Okop i_X4_takeAll 17 (o_al 1) 18 := k_aln (j := 1) (by decide +kernel)
theorem k_X4_takeAll_18 : Okop i_X4_takeAll 18 (o_gi 4 2) 21 := k_gi (idx := 34) fo_4 (by decide) (by decide) gw_45 (by decide +kernel)
theorem k_X4_takeAll_21 : Okop i_X4_takeAll 21 (o_pi 4 2) 24 := k_pi (idx := 34) fo_4 (by decide) (by decide) gw_45 (by decide +kernel) (.inl rfl)
theorem k_X4_takeAll_24 : Okop i_X4_takeAll 24 (o_al 0) 25 := k_aln (j := 0) (by decide +kernel)
theorem k_X4_takeAll_25 : Okop i_X4_takeAll 25 (o_al 1) 26 := k_aln (j := 1) (by decide +kernel)
theorem k_X4_takeAll_26 : Okop i_X4_takeAll 26 (o_gi 4 3) 29 := k_gi (idx := 37) fo_4 (by decide) (by decide) gw_48 (by decide +kernel)
theorem k_X4_takeAll_29 : Okop i_X4_takeAll 29 (o_pi 4 3) 32 := k_pi (idx := 37) fo_4 (by decide) (by decide) gw_48 (by decide +kernel) (.inl rfl)
theorem k_X4_takeAll_32 : Okop i_X4_takeAll 32 (o_al 0) 33 := k_aln (j := 0) (by decide +kernel)
theorem k_X4_takeAll_33 : Okop i_X4_takeAll 33 (o_al 1) 34 := k_aln (j := 1) (by decide +kernel)
theorem k_X4_takeAll_34 : Okop i_X4_takeAll 34 (o_gi 4 4) 37 := k_gi (idx := 40) fo_4 (by decide) (by decide) gw_51 (by decide +kernel)
theorem k_X4_takeAll_37 : Okop i_X4_takeAll 37 (o_pz 4 4) 40 := k_pz (idx := 40) fo_4 (by decide) (by decide) gw_51 (by decide +kernel) (.inl rfl)
theorem k_X4_takeAll_40 : Okop i_X4_takeAll 40 (o_al 1) 41 := k_aln (j := 1) (by decide +kernel)
theorem k_X4_takeAll_41 : Okop i_X4_takeAll 41 (o_gr 4 5) 44 := k_gr (idx := 9) fo_4 (by decide) (by decide) gw_53 (by decide +kernel)
theorem k_X4_takeAll_44 : Okop i_X4_takeAll 44 (o_c 0) 45 := k_iconst (by decide +kernel)
theorem k_X4_takeAll_45 : Okop i_X4_takeAll 45 (o_al 0) 46 := k_aln (j := 0) (by decide +kernel)
theorem k_X4_takeAll_46 : Okop i_X4_takeAll 46 (o_gr 4 5) 49 := k_gr (idx := 9) fo_4 (by decide) (by decide) gw_53 (by decide +kernel)
theorem k_X4_takeAll_49 : Okop i_X4_takeAll 49 (o_c 0) 50 := k_iconst (by decide +kernel)
theorem k_X4_takeAll_50 : Okop i_X4_takeAll 50 (o_al 0) 51 := k_aln (j := 0) (by decide +kernel)
theorem k_X4_takeAll_51 : Okop i_X4_takeAll 51 (o_gr 4 5) 54 := k_gr (idx := 9) fo_4 (by decide) (by decide) gw_53 (by decide +kernel)
theorem k_X4_takeAll_54 : Okop i_X4_takeAll 54 (o_alen) 55 := k_alen (by decide +kernel)
theorem k_X4_takeAll_55 : Okop i_X4_takeAll 55 (o_copy) 58 := k_copy (idx := 67) gw_637 gw_355 gw_354 gw_11 (by decide) (by decide +kernel)
theorem k_X4_takeAll_58 : Okop i_X4_takeAll 58 (o_al 0) 59 := k_aln (j := 0) (by decide +kernel)
theorem k_X4_takeAll_59 : Okop i_X4_takeAll 59 (o_al 1) 60 := k_aln (j := 1) (by decide +kernel)
theorem k_X4_takeAll_60 : Okop i_X4_takeAll 60 (o_gi 4 6) 63 := k_gi (idx := 15) fo_4 (by decide) (by decide) gw_54 (by decide +kernel)
theorem k_X4_takeAll_63 : Okop i_X4_takeAll 63 (o_pi 4 6) 66 := k_pi (idx := 15) fo_4 (by decide) (by decide) gw_54 (by decide +kernel) (.inl rfl)
theorem k_X4_takeAll_66 : Okop i_X4_takeAll 66 (o_al 0) 67 := k_aln (j := 0) (by decide +kernel)
theorem k_X4_takeAll_67 : Okop i_X4_takeAll 67 (o_al 1) 68 := k_aln (j := 1) (by decide +kernel)
theorem k_X4_takeAll_68 : Okop i_X4_takeAll 68 (o_gi 4 7) 71 := k_gi (idx := 19) fo_4 (by decide) (by decide) gw_57 (by decide +kernel)
theorem k_X4_takeAll_71 : Okop i_X4_takeAll 71 (o_pi 4 7) 74 := k_pi (idx := 19) fo_4 (by decide) (by decide) gw_57 (by decide +kernel) (.inl rfl)
theorem k_X4_takeAll_74 : Okop i_X4_takeAll 74 (o_al 0) 75 := k_aln (j := 0) (by decide +kernel)
theorem k_X4_takeAll_75 : Okop i_X4_takeAll 75 (o_al 1) 76 := k_aln (j := 1) (by decide +kernel)
theorem k_X4_takeAll_76 : Okop i_X4_takeAll 76 (o_gi 4 8) 79 := k_gi (idx := 61) fo_4 (by decide) (by decide) gw_63 (by decide +kernel)
theorem k_X4_takeAll_79 : Okop i_X4_takeAll 79 (o_pi 4 8) 82 := k_pi (idx := 61) fo_4 (by decide) (by decide) gw_63 (by decide +kernel) (.inl rfl)
theorem k_X4_takeAll_82 : Okop i_X4_takeAll 82 (o_al 1) 83 := k_aln (j := 1) (by decide +kernel)
theorem k_X4_takeAll_83 : Okop i_X4_takeAll 83 (o_gr 4 9) 86 := k_gr (idx := 22) fo_4 (by decide) (by decide) gw_64 (by decide +kernel)
theorem k_X4_takeAll_86 : Okop i_X4_takeAll 86 (o_c 0) 87 := k_iconst (by decide +kernel)
theorem k_X4_takeAll_87 : Okop i_X4_takeAll 87 (o_al 0) 88 := k_aln (j := 0) (by decide +kernel)
theorem k_X4_takeAll_88 : Okop i_X4_takeAll 88 (o_gr 4 9) 91 := k_gr (idx := 22) fo_4 (by decide) (by decide) gw_64 (by decide +kernel)
theorem k_X4_takeAll_91 : Okop i_X4_takeAll 91 (o_c 0) 92 := k_iconst (by decide +kernel)
theorem k_X4_takeAll_92 : Okop i_X4_takeAll 92 (o_c 4) 93 := k_iconst (by decide +kernel)
theorem k_X4_takeAll_93 : Okop i_X4_takeAll 93 (o_copy) 96 := k_copy (idx := 67) gw_637 gw_355 gw_354 gw_11 (by decide) (by decide +kernel)
theorem k_X4_takeAll_96 : Okop i_X4_takeAll 96 (o_al 1) 97 := k_aln (j := 1) (by decide +kernel)
theorem k_X4_takeAll_97 : Okop i_X4_takeAll 97 (o_gr 4 10) 100 := k_gr (idx := 25) fo_4 (by decide) (by decide) gw_67 (by decide +kernel)
theorem k_X4_takeAll_100 : Okop i_X4_takeAll 100 (o_c 0) 101 := k_iconst (by decide +kernel)
theorem k_X4_takeAll_101 : Okop i_X4_takeAll 101 (o_al 0) 102 := k_aln (j := 0) (by decide +kernel)
theorem k_X4_takeAll_102 : Okop i_X4_takeAll 102 (o_gr 4 10) 105 := k_gr (idx := 25) fo_4 (by decide) (by decide) gw_67 (by decide +kernel)
theorem k_X4_takeAll_105 : Okop i_X4_takeAll 105 (o_c 0) 106 := k_iconst (by decide +kernel)
theorem k_X4_takeAll_106 : Okop i_X4_takeAll 106 (o_c 4) 107 := k_iconst (by decide +kernel)
theorem k_X4_takeAll_107 : Okop i_X4_takeAll 107 (o_copy) 110 := k_copy (idx := 67) gw_637 gw_355 gw_354 gw_11 (by decide) (by decide +kernel)
theorem k_X4_takeAll_110 : Okop i_X4_takeAll 110 (o_al 1) 111 := k_aln (j := 1) (by decide +kernel)
theorem k_X4_takeAll_111 : Okop i_X4_takeAll 111 (o_gr 4 11) 114 := k_gr (idx := 28) fo_4 (by decide) (by decide) gw_70 (by decide +kernel)
theorem k_X4_takeAll_114 : Okop i_X4_takeAll 114 (o_c 0) 115 := k_iconst (by decide +kernel)
theorem k_X4_takeAll_115 : Okop i_X4_takeAll 115 (o_al 0) 116 := k_aln (j := 0) (by decide +kernel)
theorem k_X4_takeAll_116 : Okop i_X4_takeAll 116 (o_gr 4 11) 119 := k_gr (idx := 28) fo_4 (by decide) (by decide) gw_70 (by decide +kernel)
theorem k_X4_takeAll_119 : Okop i_X4_takeAll 119 (o_c 0) 120 := k_iconst (by decide +kernel)
theorem k_X4_takeAll_120 : Okop i_X4_takeAll 120 (o_c 4) 121 := k_iconst (by decide +kernel)
theorem k_X4_takeAll_121 : Okop i_X4_takeAll 121 (o_copy) 124 := k_copy (idx := 67) gw_637 gw_355 gw_354 gw_11 (by decide) (by decide +kernel)
theorem k_X4_takeAll_124 : Okop i_X4_takeAll 124 (o_al 0) 125 := k_aln (j := 0) (by decide +kernel)
theorem k_X4_takeAll_125 : Okop i_X4_takeAll 125 (o_al 1) 126 := k_aln (j := 1) (by decide +kernel)
theorem k_X4_takeAll_126 : Okop i_X4_takeAll 126 (o_gi 4 12) 129 := k_gi (idx := 31) fo_4 (by decide) (by decide) gw_73 (by decide +kernel)
theorem k_X4_takeAll_129 : Okop i_X4_takeAll 129 (o_pi 4 12) 132 := k_pi (idx := 31) fo_4 (by decide) (by decide) gw_73 (by decide +kernel) (.inl rfl)
theorem k_X4_takeAll_132 : Okop i_X4_takeAll 132 (o_vret) 133 := k_vret (by decide +kernel) rfl
theorem s_X4_takeAll_0 : Seg i_X4_takeAll 0 [o_al 0, o_al 1, o_gi 4 0, o_pi 4 0, o_al 0, o_al 1, o_gi 4 1, o_pi 4 1, o_al 0, o_al 1, o_gi 4 2, o_pi 4 2, o_al 0, o_al 1, o_gi 4 3, o_pi 4 3, o_al 0, o_al 1, o_gi 4 4, o_pz 4 4, o_al 1, o_gr 4 5, o_c 0, o_al 0, o_gr 4 5, o_c 0, o_al 0, o_gr 4 5, o_alen, o_copy, o_al 0, o_al 1, o_gi 4 6, o_pi 4 6, o_al 0, o_al 1, o_gi 4 7, o_pi 4 7, o_al 0, o_al 1, o_gi 4 8, o_pi 4 8, o_al 1, o_gr 4 9, o_c 0, o_al 0, o_gr 4 9, o_c 0, o_c 4, o_copy, o_al 1, o_gr 4 10, o_c 0, o_al 0, o_gr 4 10, o_c 0, o_c 4, o_copy, o_al 1, o_gr 4 11, o_c 0, o_al 0, o_gr 4 11, o_c 0, o_c 4, o_copy, o_al 0, o_al 1, o_gi 4 12, o_pi 4 12, o_vret] 133 := Seg.cons k_X4_takeAll_0 (Seg.cons k_X4_takeAll_1 (Seg.cons k_X4_takeAll_2 (Seg.cons k_X4_takeAll_5 (Seg.cons k_X4_takeAll_8 (Seg.cons k_X4_takeAll_9 (Seg.cons k_X4_takeAll_10 (Seg.cons k_X4_takeAll_13 (Seg.cons k_X4_takeAll_16 (Seg.cons k_X4_takeAll_17 (Seg.cons k_X4_takeAll_18 (Seg.cons k_X4_takeAll_21 (Seg.cons k_X4_takeAll_24 (Seg.cons k_X4_takeAll_25 (Seg.cons k_X4_takeAll_26 (Seg.cons k_X4_takeAll_29 (Seg.cons k_X4_takeAll_32 (Seg.cons k_X4_takeAll_33 (Seg.cons k_X4_takeAll_34 (Seg.cons k_X4_takeAll_37 (Seg.cons k_X4_takeAll_40 (Seg.cons k_X4_takeAll_41 (Seg.cons k_X4_takeAll_44 (Seg.cons k_X4_takeAll_45 (Seg.cons k_X4_takeAll_46 (Seg.cons k_X4_takeAll_49 (Seg.cons k_X4_takeAll_50 (Seg.cons k_X4_takeAll_51 (Seg.cons k_X4_takeAll_54 (Seg.cons k_X4_takeAll_55 (Seg.cons k_X4_takeAll_58 (Seg.cons k_X4_takeAll_59 (Seg.cons k_X4_takeAll_60 (Seg.cons k_X4_takeAll_63 (Seg.cons k_X4_takeAll_66 (Seg.cons k_X4_takeAll_67 (Seg.cons k_X4_takeAll_68 (Seg.cons k_X4_takeAll_71 (Seg.cons k_X4_takeAll_74 (Seg.cons k_X4_takeAll_75 (Seg.cons k_X4_takeAll_76 (Seg.cons k_X4_takeAll_79 (Seg.cons k_X4_takeAll_82 (Seg.cons k_X4_takeAll_83 (Seg.cons k_X4_takeAll_86 (Seg.cons k_X4_takeAll_87 (Seg.cons k_X4_takeAll_88 (Seg.cons k_X4_takeAll_91 (Seg.cons k_X4_takeAll_92 (Seg.cons k_X4_takeAll_93 (Seg.cons k_X4_takeAll_96 (Seg.cons k_X4_takeAll_97 (Seg.cons k_X4_takeAll_100 (Seg.cons k_X4_takeAll_101 (Seg.cons k_X4_takeAll_102 (Seg.cons k_X4_takeAll_105 (Seg.cons k_X4_takeAll_106 (Seg.cons k_X4_takeAll_107 (Seg.cons k_X4_takeAll_110 (Seg.cons k_X4_takeAll_111 (Seg.cons k_X4_takeAll_114 (Seg.cons k_X4_takeAll_115 (Seg.cons k_X4_takeAll_116 (Seg.cons k_X4_takeAll_119 (Seg.cons k_X4_takeAll_120 (Seg.cons k_X4_takeAll_121 (Seg.cons k_X4_takeAll_124 (Seg.cons k_X4_takeAll_125 (Seg.cons k_X4_takeAll_126 (Seg.cons k_X4_takeAll_129 (Seg.cons k_X4_takeAll_132 (Seg.nil)))))))))))))))))))))))))))))))))))))))))))))))))))))))))))))))))))))))

theorem m_X4_takeAll : Mth yX4_takeAll cX4_takeAll 2 none 2 (Sp0 T_X4_takeAll) := by
  refine Mth.of (by decide) ?_
  rintro x as h ok ⟨p, q, d, m, rfl, ⟨k0, r5, r9, r10, r11, k1, l1, k2, l2, k3, l3, k4, l4⟩, ⟨j0, s5, s9, s10, s11, j1, t1, j2, t2, j3, t3, j4, t4⟩, ⟨c0, c1, c2, c3, c4, c6, c7, c8, c12, cn, cl, cu, cp⟩, hb, hd, hK⟩
  refine ⟨Nat.le_of_ble_eq_true rfl, ?_⟩
  have n00 : q ≠ p := by omega
  have n01 : q ≠ (p + 1) := by omega
  have n02 : q ≠ (p + 2) := by omega
  have n03 : q ≠ (p + 3) := by omega
  have n04 : q ≠ (p + 4) := by omega
  have n10 : (q + 1) ≠ p := by omega
  have n11 : (q + 1) ≠ (p + 1) := by omega
  have n12 : (q + 1) ≠ (p + 2) := by omega
  have n13 : (q + 1) ≠ (p + 3) := by omega
  have n14 : (q + 1) ≠ (p + 4) := by omega
  have n20 : (q + 2) ≠ p := by omega
  have n21 : (q + 2) ≠ (p + 1) := by omega
  have n22 : (q + 2) ≠ (p + 2) := by omega
  have n23 : (q + 2) ≠ (p + 3) := by omega
  have n24 : (q + 2) ≠ (p + 4) := by omega
  have n30 : (q + 3) ≠ p := by omega
  have n31 : (q + 3) ≠ (p + 1) := by omega
  have n32 : (q + 3) ≠ (p + 2) := by omega
  have n33 : (q + 3) ≠ (p + 3) := by omega
  have n34 : (q + 3) ≠ (p + 4) := by omega
  have n40 : (q + 4) ≠ p := by omega
  have n41 : (q + 4) ≠ (p + 1) := by omega
  have n42 : (q + 4) ≠ (p + 2) := by omega
  have n43 : (q + 4) ≠ (p + 3) := by omega
  have n44 : (q + 4) ≠ (p + 4) := by omega
  have p01 : p ≠ (p + 1) := by omega
  have p02 : p ≠ (p + 2) := by omega
  have p03 : p ≠ (p + 3) := by omega
  have p04 : p ≠ (p + 4) := by omega
  have p10 : (p + 1) ≠ p := by omega
  have p12 : (p + 1) ≠ (p + 2) := by omega
  have p13 : (p + 1) ≠ (p + 3) := by omega
  have p14 : (p + 1) ≠ (p + 4) := by omega
  have p20 : (p + 2) ≠ p := by omega
  have p21 : (p + 2) ≠ (p + 1) := by omega
  have p23 : (p + 2) ≠ (p + 3) := by omega
  have p24 : (p + 2) ≠ (p + 4) := by omega
  have p30 : (p + 3) ≠ p := by omega
  have p31 : (p + 3) ≠ (p + 1) := by omega
  have p32 : (p + 3) ≠ (p + 2) := by omega
  have p34 : (p + 3) ≠ (p + 4) := by omega
  have p40 : (p + 4) ≠ p := by omega
  have p41 : (p + 4) ≠ (p + 1) := by omega
  have p42 : (p + 4) ≠ (p + 2) := by omega
  have p43 : (p + 4) ≠ (p + 3) := by omega
  refine s_X4_takeAll_0 x ok _ _ _ _ ?_
  simp only [wpS, o_c, o_cl, o_il, o_ll, o_al, o_is, o_ls, o_as, o_inc, o_add, o_sub, o_mul, o_and, o_or, o_xor, o_shl, o_shr, o_div, o_neg, o_ladd, o_lsub, o_lmul, o_ldiv, o_lrem, o_lneg, o_lcmp, o_i2l, o_l2i, o_dup, o_dup2, o_pop, o_go, o_nn, o_sw, swc, o_iret, o_zret, o_lret, o_vret, o_ieq, o_eq0, o_ine, o_ne0, o_ilt, o_lt0, o_ige, o_ge0, o_igt, o_gt0, o_ile, o_le0, o_iald, o_zald, o_lald, o_aald, o_iast, o_zast, o_last, o_aast, o_alen, o_gi, o_gr, o_pi, o_pz, o_pr, o_new, o_newa, o_copy, o_oinit, o_call, o_callV, o_callVc, o_callI, popn, cnO, o_BAD, lgt, lst, isL, kil, st1, st2, entL, List.length_nil, List.length_cons, List.replicate, Nat.reduceAdd, Nat.reduceLeDiff, Nat.reduceSub, true_and, and_true, Nat.zero_le, ne_eq, qk_wi, ql_wi, qr_wi, qj_wi, qt_wi, qk_wj, ql_wj, qr_wj, qi_wj, qt_wj, qk_wr, ql_wr, qi_wr, qj_wr, qt_wr, qi_ws, qj_ws, qr_ws, Int.toNat_natCast, Int.toNat_zero, Int.reduceToNat, not_true_eq_false, not_false_eq_true, false_implies, implies_true, Option.some.injEq, reduceCtorEq, Sp0, true_or, or_true, or_self, wi_wi, wj_wj, k0, r5, r9, r10, r11, k1, l1, k2, l2, k3, l3, k4, l4, j0, s5, s9, s10, s11, j1, t1, j2, t2, j3, t3, j4, t4, qi_wn n00, qi_wn n01, qi_wn n02, qi_wn n03, qi_wn n04, qi_wn n10, qi_wn n11, qi_wn n12, qi_wn n13, qi_wn n14, qi_wn n20, qi_wn n21, qi_wn n22, qi_wn n23, qi_wn n24, qi_wn n30, qi_wn n31, qi_wn n32, qi_wn n33, qi_wn n34, qi_wn n40, qi_wn n41, qi_wn n42, qi_wn n43, qi_wn n44, qi_wn p01, qi_wn p02, qi_wn p03, qi_wn p04, qi_wn p10, qi_wn p12, qi_wn p13, qi_wn p14, qi_wn p20, qi_wn p21, qi_wn p23, qi_wn p24, qi_wn p30, qi_wn p31, qi_wn p32, qi_wn p34, qi_wn p40, qi_wn p41, qi_wn p42, qi_wn p43, c0, c1, c2, c3, c4, c6, c7, c8, c12]
  repeat' (first | (with_reducible refine And.intro ?_ ?_) | (with_reducible intro))
  all_goals (try (first | with_reducible assumption | omega | (unfold inI; omega) | (unfold inL; omega) | exact cz_in _ _))
  refine hK _ ⟨rfl, rfl, rfl, rfl, rfl, fun b hb => ?_⟩ ?_
  · repeat rw [qi_wn (by omega)]
  · unfold MeC
    simp only [qi_ws, qi_wn n00, qi_wn n01, qi_wn n02, qi_wn n03, qi_wn n04, qi_wn n10, qi_wn n11, qi_wn n12, qi_wn n13, qi_wn n14, qi_wn n20, qi_wn n21, qi_wn n22, qi_wn n23, qi_wn n24, qi_wn n30, qi_wn n31, qi_wn n32, qi_wn n33, qi_wn n34, qi_wn n40, qi_wn n41, qi_wn n42, qi_wn n43, qi_wn n44, qi_wn p01, qi_wn p02, qi_wn p03, qi_wn p04, qi_wn p10, qi_wn p12, qi_wn p13, qi_wn p14, qi_wn p20, qi_wn p21, qi_wn p23, qi_wn p24, qi_wn p30, qi_wn p31, qi_wn p32, qi_wn p34, qi_wn p40, qi_wn p41, qi_wn p42, qi_wn p43, fu, Nat.reduceEqDiff, ↓reduceIte, true_and]
    refine ⟨fun j hj => ?_, fun j hj => ?_, fun j hj => ?_, fun j hj => ?_⟩
    · rw [cpy0 hj]; exact cn j hj
    · rw [cpy0 hj]; exact cl j hj
    · rw [cpy0 hj]; exact cu j hj
    · rw [cpy0 hj]; exact cp j hj
def T_X1_takeAll : TT := fun as h K => ∃ (p q : Nat) (d : Dd) (m : Nat), as = [vr (some p), vr (some q)] ∧ isCh h p ∧ isCh h q ∧ ChC h q d m ∧ (q + 2 ≤ p ∨ p + 2 ≤ q) ∧ ∀ h', Chg h h' p (p + 2) → ChC h' p d m → K none h'
theorem c_takeAllC {h : Hp} {p q : Nat} {d : Dd} {m : Nat} {K : RT} (h1 : isCh h p) (h2 : isCh h q) (h3 : ChC h q d m) (h5 : q + 2 ≤ p ∨ p + 2 ≤ q) (h6 : ∀ h', Chg h h' p (p + 2) → ChC h' p d m → K none h') : T_X1_takeAll [vr (some p), vr (some q)] h K := ⟨p, q, d, m, rfl, h1, h2, h3, h5, h6⟩
abbrev i_X1_takeAll : MI := (cX1_takeAll, 2, RX1, none, "takeAll", 2)
theorem k_X1_takeAll_0 : Okop i_X1_takeAll 0 (o_al 1) 1 := k_aln (j := 1) (by decide +kernel)
theorem k_X1_takeAll_1 : Okop i_X1_takeAll 1 (o_gr 1 0) 4 := k_gr (idx := 9) fo_1 (by decide) (by decide) gw_109 (by decide +kernel)
theorem k_X1_takeAll_4 : Okop i_X1_takeAll 4 (o_c 0) 5 := k_iconst (by decide +kernel)
theorem k_X1_takeAll_5 : Okop i_X1_takeAll 5 (o_al 0) 6 := k_aln (j := 0) (by decide +kernel)
theorem k_X1_takeAll_6 : Okop i_X1_takeAll 6 (o_gr 1 0) 9 := k_gr (idx := 9) fo_1 (by decide) (by decide) gw_109 (by decide +kernel)
theorem k_X1_takeAll_9 : Okop i_X1_takeAll 9 (o_c 0) 10 := k_iconst (by decide +kernel)
theorem k_X1_takeAll_10 : Okop i_X1_takeAll 10 (o_c 12) 12 := k_bipush (by decide +kernel) rfl
theorem k_X1_takeAll_12 : Okop i_X1_takeAll 12 (o_copy) 15 := k_copy (idx := 44) gw_642 gw_355 gw_354 gw_11 (by decide) (by decide +kernel)
theorem k_X1_takeAll_15 : Okop i_X1_takeAll 15 (o_al 0) 16 := k_aln (j := 0) (by decide +kernel)
theorem k_X1_takeAll_16 : Okop i_X1_takeAll 16 (o_al 1) 17 := k_aln (j := 1) (by decide +kernel)
theorem k_X1_takeAll_17 : Okop i_X1_takeAll 17 (o_gi 1 1) 20 := k_gi (idx := 50) fo_1 (by decide) (by decide) gw_115 (by decide +kernel)
theorem k_X1_takeAll_20 : Okop i_X1_takeAll 20 (o_pi 1 1) 23 := k_pi (idx := 50) fo_1 (by decide) (by decide) gw_115 (by decide +kernel) (.inl rfl)
theorem k_X1_takeAll_23 : Okop i_X1_takeAll 23 (o_al 0) 24 := k_aln (j := 0) (by decide +kernel)
theorem k_X1_takeAll_24 : Okop i_X1_takeAll 24 (o_al 1) 25 := k_aln (j := 1) (by decide +kernel)
theorem k_X1_takeAll_25 : Okop i_X1_takeAll 25 (o_gi 1 2) 28 := k_gi (idx := 53) fo_1 (by decide) (by decide) gw_118 (by decide +kernel)
theorem k_X1_takeAll_28 : Okop i_X1_takeAll 28 (o_pi 1 2) 31 := k_pi (idx := 53) fo_1 (by decide) (by decide) gw_118 (by decide +kernel) (.inl rfl)
theorem k_X1_takeAll_31 : Okop i_X1_takeAll 31 (o_vret) 32 := k_vret (by decide +kernel) rfl
theorem s_X1_takeAll_0 : Seg i_X1_takeAll 0 [o_al 1, o_gr 1 0, o_c 0, o_al 0, o_gr 1 0, o_c 0, o_c 12, o_copy, o_al 0, o_al 1, o_gi 1 1, o_pi 1 1, o_al 0, o_al 1, o_gi 1 2, o_pi 1 2, o_vret] 32 := Seg.cons k_X1_takeAll_0 (Seg.cons k_X1_takeAll_1 (Seg.cons k_X1_takeAll_4 (Seg.cons k_X1_takeAll_5 (Seg.cons k_X1_takeAll_6 (Seg.cons k_X1_takeAll_9 (Seg.cons k_X1_takeAll_10 (Seg.cons k_X1_takeAll_12 (Seg.cons k_X1_takeAll_15 (Seg.cons k_X1_takeAll_16 (Seg.cons k_X1_takeAll_17 (Seg.cons k_X1_takeAll_20 (Seg.cons k_X1_takeAll_23 (Seg.cons k_X1_takeAll_24 (Seg.cons k_X1_takeAll_25 (Seg.cons k_X1_takeAll_28 (Seg.cons k_X1_takeAll_31 (Seg.nil)))))))))))))))))

theorem m_X1_takeAll : Mth yX1_takeAll cX1_takeAll 2 none 2 (Sp0 T_X1_takeAll) := by
  refine Mth.of (by decide) ?_
  rintro x as h ok ⟨p, q, d, m, rfl, ⟨k0, r0, k1, l1⟩, ⟨j0, s0, j1, t1⟩, ⟨c0, c1, cn⟩, hd, hK⟩
  refine ⟨Nat.le_of_ble_eq_true rfl, ?_⟩
  have n00 : q ≠ p := by omega
  have n01 : q ≠ (p + 1) := by omega
  have n10 : (q + 1) ≠ p := by omega
  have n11 : (q + 1) ≠ (p + 1) := by omega
  have p01 : p ≠ (p + 1) := by omega
  have p10 : (p + 1) ≠ p := by omega
  refine s_X1_takeAll_0 x ok _ _ _ _ ?_
  simp only [wpS, o_c, o_cl, o_il, o_ll, o_al, o_is, o_ls, o_as, o_inc, o_add, o_sub, o_mul, o_and, o_or, o_xor, o_shl, o_shr, o_div, o_neg, o_ladd, o_lsub, o_lmul, o_ldiv, o_lrem, o_lneg, o_lcmp, o_i2l, o_l2i, o_dup, o_dup2, o_pop, o_go, o_nn, o_sw, swc, o_iret, o_zret, o_lret, o_vret, o_ieq, o_eq0, o_ine, o_ne0, o_ilt, o_lt0, o_ige, o_ge0, o_igt, o_gt0, o_ile, o_le0, o_iald, o_zald, o_lald, o_aald, o_iast, o_zast, o_last, o_aast, o_alen, o_gi, o_gr, o_pi, o_pz, o_pr, o_new, o_newa, o_copy, o_oinit, o_call, o_callV, o_callVc, o_callI, popn, cnO, o_BAD, lgt, lst, isL, kil, st1, st2, entL, List.length_nil, List.length_cons, List.replicate, Nat.reduceAdd, Nat.reduceLeDiff, Nat.reduceSub, true_and, and_true, Nat.zero_le, ne_eq, qk_wi, ql_wi, qr_wi, qj_wi, qt_wi, qk_wj, ql_wj, qr_wj, qi_wj, qt_wj, qk_wr, ql_wr, qi_wr, qj_wr, qt_wr, qi_ws, qj_ws, qr_ws, Int.toNat_natCast, Int.toNat_zero, Int.reduceToNat, not_true_eq_false, not_false_eq_true, false_implies, implies_true, Option.some.injEq, reduceCtorEq, Sp0, true_or, or_true, or_self, wi_wi, wj_wj, k0, r0, k1, l1, j0, s0, j1, t1, qi_wn n00, qi_wn n01, qi_wn n10, qi_wn n11, qi_wn p01, qi_wn p10, c0, c1]
  repeat' (first | (with_reducible refine And.intro ?_ ?_) | (with_reducible intro))
  all_goals (try (first | with_reducible assumption | omega | (unfold inI; omega) | (unfold inL; omega) | exact cz_in _ _))
  refine hK _ ⟨rfl, rfl, rfl, rfl, rfl, fun b hb => ?_⟩ ?_
  · repeat rw [qi_wn (by omega)]
  · unfold ChC
    simp only [qi_ws, qi_wn n00, qi_wn n01, qi_wn n10, qi_wn n11, qi_wn p01, qi_wn p10, fu, Nat.reduceEqDiff, ↓reduceIte, true_and]
    intro j hj
    rw [cpy0 hj]; exact cn j hj
def T_X3_takeAll : TT := fun as h K => ∃ (p q : Nat) (d : Dd) (m : Nat), as = [vr (some p), vr (some q)] ∧ isLo h p ∧ isLo h q ∧ LoC h q d m ∧ (q + 2 ≤ p ∨ p + 2 ≤ q) ∧ ∀ h', Chg h h' p (p + 2) → LoC h' p d m → K none h'
theorem c_takeAllL {h : Hp} {p q : Nat} {d : Dd} {m : Nat} {K : RT} (h1 : isLo h p) (h2 : isLo h q) (h3 : LoC h q d m) (h5 : q + 2 ≤ p ∨ p + 2 ≤ q) (h6 : ∀ h', Chg h h' p (p + 2) → LoC h' p d m → K none h') : T_X3_takeAll [vr (some p), vr (some q)] h K := ⟨p, q, d, m, rfl, h1, h2, h3, h5, h6⟩
abbrev i_X3_takeAll : MI := (cX3_takeAll, 2, RX3, none, "takeAll", 2)
theorem k_X3_takeAll_0 : Okop i_X3_takeAll 0 (o_al 1) 1 := k_aln (j := 1) (by decide +kernel)
theorem k_X3_takeAll_1 : Okop i_X3_takeAll 1 (o_gr 3 0) 4 := k_gr (idx := 9) fo_3 (by decide) (by decide) gw_132 (by decide +kernel)
theorem k_X3_takeAll_4 : Okop i_X3_takeAll 4 (o_c 0) 5 := k_iconst (by decide +kernel)
theorem k_X3_takeAll_5 : Okop i_X3_takeAll 5 (o_al 0) 6 := k_aln (j := 0) (by decide +kernel)
theorem k_X3_takeAll_6 : Okop i_X3_takeAll 6 (o_gr 3 0) 9 := k_gr (idx := 9) fo_3 (by decide) (by decide) gw_132 (by decide +kernel)
theorem k_X3_takeAll_9 : Okop i_X3_takeAll 9 (o_c 0) 10 := k_iconst (by decide +kernel)
theorem k_X3_takeAll_10 : Okop i_X3_takeAll 10 (o_c 24) 12 := k_bipush (by decide +kernel) rfl
theorem k_X3_takeAll_12 : Okop i_X3_takeAll 12 (o_copy) 15 := k_copy (idx := 23) gw_647 gw_355 gw_354 gw_11 (by decide) (by decide +kernel)
theorem k_X3_takeAll_15 : Okop i_X3_takeAll 15 (o_al 0) 16 := k_aln (j := 0) (by decide +kernel)
theorem k_X3_takeAll_16 : Okop i_X3_takeAll 16 (o_al 1) 17 := k_aln (j := 1) (by decide +kernel)
theorem k_X3_takeAll_17 : Okop i_X3_takeAll 17 (o_gi 3 1) 20 := k_gi (idx := 15) fo_3 (by decide) (by decide) gw_135 (by decide +kernel)
theorem k_X3_takeAll_20 : Okop i_X3_takeAll 20 (o_pi 3 1) 23 := k_pi (idx := 15) fo_3 (by decide) (by decide) gw_135 (by decide +kernel) (.inl rfl)
theorem k_X3_takeAll_23 : Okop i_X3_takeAll 23 (o_vret) 24 := k_vret (by decide +kernel) rfl
theorem s_X3_takeAll_0 : Seg i_X3_takeAll 0 [o_al 1, o_gr 3 0, o_c 0, o_al 0, o_gr 3 0, o_c 0, o_c 24, o_copy, o_al 0, o_al 1, o_gi 3 1, o_pi 3 1, o_vret] 24 := Seg.cons k_X3_takeAll_0 (Seg.cons k_X3_takeAll_1 (Seg.cons k_X3_takeAll_4 (Seg.cons k_X3_takeAll_5 (Seg.cons k_X3_takeAll_6 (Seg.cons k_X3_takeAll_9 (Seg.cons k_X3_takeAll_10 (Seg.cons k_X3_takeAll_12 (Seg.cons k_X3_takeAll_15 (Seg.cons k_X3_takeAll_16 (Seg.cons k_X3_takeAll_17 (Seg.cons k_X3_takeAll_20 (Seg.cons k_X3_takeAll_23 (Seg.nil)))))))))))))

theorem m_X3_takeAll : Mth yX3_takeAll cX3_takeAll 2 none 2 (Sp0 T_X3_takeAll) := by
  refine Mth.of (by decide) ?_
  rintro x as h ok ⟨p, q, d, m, rfl, ⟨k0, r0, k1, l1⟩, ⟨j0, s0, j1, t1⟩, ⟨c0, cn⟩, hd, hK⟩
  refine ⟨Nat.le_of_ble_eq_true rfl, ?_⟩
  have n00 : q ≠ p := by omega
  have n01 : q ≠ (p + 1) := by omega
  have n10 : (q + 1) ≠ p := by omega
  have n11 : (q + 1) ≠ (p + 1) := by omega
  have p01 : p ≠ (p + 1) := by omega
  have p10 : (p + 1) ≠ p := by omega
  refine s_X3_takeAll_0 x ok _ _ _ _ ?_
  simp only [wpS, o_c, o_cl, o_il, o_ll, o_al, o_is, o_ls, o_as, o_inc, o_add, o_sub, o_mul, o_and, o_or, o_xor, o_shl, o_shr, o_div, o_neg, o_ladd, o_lsub, o_lmul, o_ldiv, o_lrem, o_lneg, o_lcmp, o_i2l, o_l2i, o_dup, o_dup2, o_pop, o_go, o_nn, o_sw, swc, o_iret, o_zret, o_lret, o_vret, o_ieq, o_eq0, o_ine, o_ne0, o_ilt, o_lt0, o_ige, o_ge0, o_igt, o_gt0, o_ile, o_le0, o_iald, o_zald, o_lald, o_aald, o_iast, o_zast, o_last, o_aast, o_alen, o_gi, o_gr, o_pi, o_pz, o_pr, o_new, o_newa, o_copy, o_oinit, o_call, o_callV, o_callVc, o_callI, popn, cnO, o_BAD, lgt, lst, isL, kil, st1, st2, entL, List.length_nil, List.length_cons, List.replicate, Nat.reduceAdd, Nat.reduceLeDiff, Nat.reduceSub, true_and, and_true, Nat.zero_le, ne_eq, qk_wi, ql_wi, qr_wi, qj_wi, qt_wi, qk_wj, ql_wj, qr_wj, qi_wj, qt_wj, qk_wr, ql_wr, qi_wr, qj_wr, qt_wr, qi_ws, qj_ws, qr_ws, Int.toNat_natCast, Int.toNat_zero, Int.reduceToNat, not_true_eq_false, not_false_eq_true, false_implies, implies_true, Option.some.injEq, reduceCtorEq, Sp0, true_or, or_true, or_self, wi_wi, wj_wj, k0, r0, k1, l1, j0, s0, j1, t1, qi_wn n00, qi_wn n01, qi_wn n10, qi_wn n11, qi_wn p01, qi_wn p10, c0]
  repeat' (first | (with_reducible refine And.intro ?_ ?_) | (with_reducible intro))
  all_goals (try (first | with_reducible assumption | omega | (unfold inI; omega) | (unfold inL; omega) | exact cz_in _ _))
  refine hK _ ⟨rfl, rfl, rfl, rfl, rfl, fun b hb => ?_⟩ ?_
  · repeat rw [qi_wn (by omega)]
  · unfold LoC
    simp only [qi_ws, qi_wn n00, qi_wn n01, qi_wn n10, qi_wn n11, qi_wn p01, qi_wn p10, fu, Nat.reduceEqDiff, ↓reduceIte, true_and]
    intro j hj
    rw [cpy0 hj]; exact cn j hj
def T_X6_takeAll : TT := fun as h K => ∃ (a b : Nat) (d : Dd), as = [vr (some a), vr (some b)] ∧ isSt h a ∧ Stt h b d ∧ (b + 81 ≤ a ∨ a + 81 ≤ b) ∧ ∀ h', Chg h h' a (a + 81) → Stt h' a d → K none h'
theorem c_takeAllS {h : Hp} {a b : Nat} {d : Dd} {K : RT} (h1 : isSt h a) (h2 : Stt h b d) (h3 : b + 81 ≤ a ∨ a + 81 ≤ b) (h4 : ∀ h', Chg h h' a (a + 81) → Stt h' a d → K none h') : T_X6_takeAll [vr (some a), vr (some b)] h K := ⟨a, b, d, rfl, h1, h2, h3, h4⟩
abbrev i_X6_takeAll : MI := (cX6_takeAll, 3, RX6, none, "takeAll", 3)
theorem k_X6_takeAll_0 : Okop i_X6_takeAll 0 (o_c 0) 1 := k_iconst (by decide +kernel)
theorem k_X6_takeAll_1 : Okop i_X6_takeAll 1 (o_is 2) 2 := k_isn (j := 2) (by decide +kernel) (by decide)
theorem k_X6_takeAll_2 : Okop i_X6_takeAll 2 (o_il 2) 3 := k_iln (j := 2) (by decide +kernel)
theorem k_X6_takeAll_3 : Okop i_X6_takeAll 3 (o_c 12) 5 := k_bipush (by decide +kernel) rfl
theorem k_X6_takeAll_5 : Okop i_X6_takeAll 5 (o_ige 29) 8 := k_ige (off := 24) (by decide +kernel) (by decide)
theorem k_X6_takeAll_8 : Okop i_X6_takeAll 8 (o_al 0) 9 := k_aln (j := 0) (by decide +kernel)
theorem k_X6_takeAll_9 : Okop i_X6_takeAll 9 (o_gr 6 0) 12 := k_gr (idx := 11) fo_6 (by decide) (by decide) gw_146 (by decide +kernel)
theorem k_X6_takeAll_12 : Okop i_X6_takeAll 12 (o_il 2) 13 := k_iln (j := 2) (by decide +kernel)
theorem k_X6_takeAll_13 : Okop i_X6_takeAll 13 (o_aald) 14 := k_aald (by decide +kernel)
theorem k_X6_takeAll_14 : Okop i_X6_takeAll 14 (o_al 1) 15 := k_aln (j := 1) (by decide +kernel)
theorem k_X6_takeAll_15 : Okop i_X6_takeAll 15 (o_gr 6 0) 18 := k_gr (idx := 11) fo_6 (by decide) (by decide) gw_146 (by decide +kernel)
theorem k_X6_takeAll_18 : Okop i_X6_takeAll 18 (o_il 2) 19 := k_iln (j := 2) (by decide +kernel)
theorem k_X6_takeAll_19 : Okop i_X6_takeAll 19 (o_aald) 20 := k_aald (by decide +kernel)
theorem k_X6_takeAll_20 : Okop i_X6_takeAll 20 (o_callV 4 1 T_X4_takeAll) 23 := k_callV (idx := 68) (r0 := (RX4, TX4, 13)) m_X4_takeAll ⟨gw_636, gw_3, ⟨by decide, by decide, by decide +kernel⟩, by decide, by decide⟩ rfl gw_633 gw_634 gw_635 (by decide +kernel)
theorem k_X6_takeAll_23 : Okop i_X6_takeAll 23 (o_inc 2 1) 26 := k_inc (by decide +kernel) (by decide)
theorem k_X6_takeAll_26 : Okop i_X6_takeAll 26 (o_go 2) 29 := k_go (off := -24) (by decide +kernel) (by decide)
theorem k_X6_takeAll_29 : Okop i_X6_takeAll 29 (o_c 0) 30 := k_iconst (by decide +kernel)
theorem k_X6_takeAll_30 : Okop i_X6_takeAll 30 (o_is 2) 31 := k_isn (j := 2) (by decide +kernel) (by decide)
theorem k_X6_takeAll_31 : Okop i_X6_takeAll 31 (o_il 2) 32 := k_iln (j := 2) (by decide +kernel)
theorem k_X6_takeAll_32 : Okop i_X6_takeAll 32 (o_c 6) 34 := k_bipush (by decide +kernel) rfl
theorem k_X6_takeAll_34 : Okop i_X6_takeAll 34 (o_ige 58) 37 := k_ige (off := 24) (by decide +kernel) (by decide)
theorem k_X6_takeAll_37 : Okop i_X6_takeAll 37 (o_al 0) 38 := k_aln (j := 0) (by decide +kernel)
theorem k_X6_takeAll_38 : Okop i_X6_takeAll 38 (o_gr 6 1) 41 := k_gr (idx := 19) fo_6 (by decide) (by decide) gw_149 (by decide +kernel)
theorem k_X6_takeAll_41 : Okop i_X6_takeAll 41 (o_il 2) 42 := k_iln (j := 2) (by decide +kernel)
theorem k_X6_takeAll_42 : Okop i_X6_takeAll 42 (o_aald) 43 := k_aald (by decide +kernel)
theorem k_X6_takeAll_43 : Okop i_X6_takeAll 43 (o_al 1) 44 := k_aln (j := 1) (by decide +kernel)
theorem k_X6_takeAll_44 : Okop i_X6_takeAll 44 (o_gr 6 1) 47 := k_gr (idx := 19) fo_6 (by decide) (by decide) gw_149 (by decide +kernel)
theorem k_X6_takeAll_47 : Okop i_X6_takeAll 47 (o_il 2) 48 := k_iln (j := 2) (by decide +kernel)
theorem k_X6_takeAll_48 : Okop i_X6_takeAll 48 (o_aald) 49 := k_aald (by decide +kernel)
theorem k_X6_takeAll_49 : Okop i_X6_takeAll 49 (o_callV 1 1 T_X1_takeAll) 52 := k_callV (idx := 72) (r0 := (RX1, TX1, 3)) m_X1_takeAll ⟨gw_641, gw_4, ⟨by decide, by decide, by decide +kernel⟩, by decide, by decide⟩ rfl gw_638 gw_639 gw_640 (by decide +kernel)
theorem k_X6_takeAll_52 : Okop i_X6_takeAll 52 (o_inc 2 1) 55 := k_inc (by decide +kernel) (by decide)
theorem k_X6_takeAll_55 : Okop i_X6_takeAll 55 (o_go 31) 58 := k_go (off := -24) (by decide +kernel) (by decide)
theorem k_X6_takeAll_58 : Okop i_X6_takeAll 58 (o_c 0) 59 := k_iconst (by decide +kernel)
theorem k_X6_takeAll_59 : Okop i_X6_takeAll 59 (o_is 2) 60 := k_isn (j := 2) (by decide +kernel) (by decide)
theorem k_X6_takeAll_60 : Okop i_X6_takeAll 60 (o_il 2) 61 := k_iln (j := 2) (by decide +kernel)
theorem k_X6_takeAll_61 : Okop i_X6_takeAll 61 (o_c 2) 62 := k_iconst (by decide +kernel)
theorem k_X6_takeAll_62 : Okop i_X6_takeAll 62 (o_ige 86) 65 := k_ige (off := 24) (by decide +kernel) (by decide)
theorem k_X6_takeAll_65 : Okop i_X6_takeAll 65 (o_al 0) 66 := k_aln (j := 0) (by decide +kernel)
theorem k_X6_takeAll_66 : Okop i_X6_takeAll 66 (o_gr 6 2) 69 := k_gr (idx := 25) fo_6 (by decide) (by decide) gw_152 (by decide +kernel)
theorem k_X6_takeAll_69 : Okop i_X6_takeAll 69 (o_il 2) 70 := k_iln (j := 2) (by decide +kernel)
theorem k_X6_takeAll_70 : Okop i_X6_takeAll 70 (o_aald) 71 := k_aald (by decide +kernel)
theorem k_X6_takeAll_71 : Okop i_X6_takeAll 71 (o_al 1) 72 := k_aln (j := 1) (by decide +kernel)
theorem k_X6_takeAll_72 : Okop i_X6_takeAll 72 (o_gr 6 2) 75 := k_gr (idx := 25) fo_6 (by decide) (by decide) gw_152 (by decide +kernel)
theorem k_X6_takeAll_75 : Okop i_X6_takeAll 75 (o_il 2) 76 := k_iln (j := 2) (by decide +kernel)
theorem k_X6_takeAll_76 : Okop i_X6_takeAll 76 (o_aald) 77 := k_aald (by decide +kernel)
theorem k_X6_takeAll_77 : Okop i_X6_takeAll 77 (o_callV 3 1 T_X3_takeAll) 80 := k_callV (idx := 75) (r0 := (RX3, TX3, 2)) m_X3_takeAll ⟨gw_646, gw_5, ⟨by decide, by decide, by decide +kernel⟩, by decide, by decide⟩ rfl gw_643 gw_644 gw_645 (by decide +kernel)
theorem k_X6_takeAll_80 : Okop i_X6_takeAll 80 (o_inc 2 1) 83 := k_inc (by decide +kernel) (by decide)
theorem k_X6_takeAll_83 : Okop i_X6_takeAll 83 (o_go 60) 86 := k_go (off := -23) (by decide +kernel) (by decide)
theorem k_X6_takeAll_86 : Okop i_X6_takeAll 86 (o_al 1) 87 := k_aln (j := 1) (by decide +kernel)
theorem k_X6_takeAll_87 : Okop i_X6_takeAll 87 (o_gr 6 3) 90 := k_gr (idx := 29) fo_6 (by decide) (by decide) gw_154 (by decide +kernel)
theorem k_X6_takeAll_90 : Okop i_X6_takeAll 90 (o_c 0) 91 := k_iconst (by decide +kernel)
theorem k_X6_takeAll_91 : Okop i_X6_takeAll 91 (o_al 0) 92 := k_aln (j := 0) (by decide +kernel)
theorem k_X6_takeAll_92 : Okop i_X6_takeAll 92 (o_gr 6 3) 95 := k_gr (idx := 29) fo_6 (by decide) (by decide) gw_154 (by decide +kernel)
theorem k_X6_takeAll_95 : Okop i_X6_takeAll 95 (o_c 0) 96 := k_iconst (by decide +kernel)
theorem k_X6_takeAll_96 : Okop i_X6_takeAll 96 (o_c 24) 98 := k_bipush (by decide +kernel) rfl
theorem k_X6_takeAll_98 : Okop i_X6_takeAll 98 (o_copy) 101 := k_copy (idx := 78) gw_648 gw_355 gw_354 gw_11 (by decide) (by decide +kernel)
theorem k_X6_takeAll_101 : Okop i_X6_takeAll 101 (o_vret) 102 := k_vret (by decide +kernel) rfl
theorem s_X6_takeAll_0 : Seg i_X6_takeAll 0 [o_c 0, o_is 2] 2 := Seg.cons k_X6_takeAll_0 (Seg.cons k_X6_takeAll_1 (Seg.nil))
theorem s_X6_takeAll_2 : Seg i_X6_takeAll 2 [o_il 2, o_c 12, o_ige 29, o_al 0, o_gr 6 0, o_il 2, o_aald, o_al 1, o_gr 6 0, o_il 2, o_aald, o_callV 4 1 T_X4_takeAll, o_inc 2 1, o_go 2] 29 := Seg.cons k_X6_takeAll_2 (Seg.cons k_X6_takeAll_3 (Seg.cons k_X6_takeAll_5 (Seg.cons k_X6_takeAll_8 (Seg.cons k_X6_takeAll_9 (Seg.cons k_X6_takeAll_12 (Seg.cons k_X6_takeAll_13 (Seg.cons k_X6_takeAll_14 (Seg.cons k_X6_takeAll_15 (Seg.cons k_X6_takeAll_18 (Seg.cons k_X6_takeAll_19 (Seg.cons k_X6_takeAll_20 (Seg.cons k_X6_takeAll_23 (Seg.cons k_X6_takeAll_26 (Seg.nil))))))))))))))
theorem s_X6_takeAll_29 : Seg i_X6_takeAll 29 [o_c 0, o_is 2] 31 := Seg.cons k_X6_takeAll_29 (Seg.cons k_X6_takeAll_30 (Seg.nil))
theorem s_X6_takeAll_31 : Seg i_X6_takeAll 31 [o_il 2, o_c 6, o_ige 58, o_al 0, o_gr 6 1, o_il 2, o_aald, o_al 1, o_gr 6 1, o_il 2, o_aald, o_callV 1 1 T_X1_takeAll, o_inc 2 1, o_go 31] 58 := Seg.cons k_X6_takeAll_31 (Seg.cons k_X6_takeAll_32 (Seg.cons k_X6_takeAll_34 (Seg.cons k_X6_takeAll_37 (Seg.cons k_X6_takeAll_38 (Seg.cons k_X6_takeAll_41 (Seg.cons k_X6_takeAll_42 (Seg.cons k_X6_takeAll_43 (Seg.cons k_X6_takeAll_44 (Seg.cons k_X6_takeAll_47 (Seg.cons k_X6_takeAll_48 (Seg.cons k_X6_takeAll_49 (Seg.cons k_X6_takeAll_52 (Seg.cons k_X6_takeAll_55 (Seg.nil))))))))))))))
theorem s_X6_takeAll_58 : Seg i_X6_takeAll 58 [o_c 0, o_is 2] 60 := Seg.cons k_X6_takeAll_58 (Seg.cons k_X6_takeAll_59 (Seg.nil))
theorem s_X6_takeAll_60 : Seg i_X6_takeAll 60 [o_il 2, o_c 2, o_ige 86, o_al 0, o_gr 6 2, o_il 2, o_aald, o_al 1, o_gr 6 2, o_il 2, o_aald, o_callV 3 1 T_X3_takeAll, o_inc 2 1, o_go 60] 86 := Seg.cons k_X6_takeAll_60 (Seg.cons k_X6_takeAll_61 (Seg.cons k_X6_takeAll_62 (Seg.cons k_X6_takeAll_65 (Seg.cons k_X6_takeAll_66 (Seg.cons k_X6_takeAll_69 (Seg.cons k_X6_takeAll_70 (Seg.cons k_X6_takeAll_71 (Seg.cons k_X6_takeAll_72 (Seg.cons k_X6_takeAll_75 (Seg.cons k_X6_takeAll_76 (Seg.cons k_X6_takeAll_77 (Seg.cons k_X6_takeAll_80 (Seg.cons k_X6_takeAll_83 (Seg.nil))))))))))))))
theorem s_X6_takeAll_86 : Seg i_X6_takeAll 86 [o_al 1, o_gr 6 3, o_c 0, o_al 0, o_gr 6 3, o_c 0, o_c 24, o_copy, o_vret] 102 := Seg.cons k_X6_takeAll_86 (Seg.cons k_X6_takeAll_87 (Seg.cons k_X6_takeAll_90 (Seg.cons k_X6_takeAll_91 (Seg.cons k_X6_takeAll_92 (Seg.cons k_X6_takeAll_95 (Seg.cons k_X6_takeAll_96 (Seg.cons k_X6_takeAll_98 (Seg.cons k_X6_takeAll_101 (Seg.nil)))))))))

theorem m_X6_takeAll : Mth yX6_takeAll cX6_takeAll 3 none 3 (Sp0 T_X6_takeAll) := by
  refine Mth.of (by decide) ?_
  rintro x as h ok ⟨a, b, d, rfl, hA, ⟨hB, hC, hI⟩, hd, hK⟩
  refine ⟨Nat.le_of_ble_eq_true rfl, ?_⟩
  have lots : ∀ j, j ≤ 2 → ∀ h', Chg h h' a (a + 81) → (∀ m, m < 12 → MeC h' (a + 5 + 5 * m) d m) → (∀ c, c < 6 → ChC h' (a + 65 + 2 * c) d c) → (∀ l, l < j → LoC h' (a + 77 + 2 * l) d l) → V i_X6_takeAll x 60 [some (vr (some a)), some (vr (some b)), some (vi j)] [] h' (0, 0) := by
    refine bwd _ ?_ ?_
    · intro h' g m1 m2 m3
      have hA' := hA.chg g
      have hB' := hB.chg g
      obtain ⟨k0, r0, r1, r2, r3, -, -, -, -, -, -, k4, l4, -⟩ := id hA'
      obtain ⟨j0, s0, s1, s2, s3, -, -, -, -, -, -, j4, t4, -⟩ := id hB'
      refine s_X6_takeAll_60 x ok _ _ _ _ ?_
      simp only [wpS, o_c, o_cl, o_il, o_ll, o_al, o_is, o_ls, o_as, o_inc, o_add, o_sub, o_mul, o_and, o_or, o_xor, o_shl, o_shr, o_div, o_neg, o_ladd, o_lsub, o_lmul, o_ldiv, o_lrem, o_lneg, o_lcmp, o_i2l, o_l2i, o_dup, o_dup2, o_pop, o_go, o_nn, o_sw, swc, o_iret, o_zret, o_lret, o_vret, o_ieq, o_eq0, o_ine, o_ne0, o_ilt, o_lt0, o_ige, o_ge0, o_igt, o_gt0, o_ile, o_le0, o_iald, o_zald, o_lald, o_aald, o_iast, o_zast, o_last, o_aast, o_alen, o_gi, o_gr, o_pi, o_pz, o_pr, o_new, o_newa, o_copy, o_oinit, o_call, o_callV, o_callVc, o_callI, popn, cnO, o_BAD, lgt, lst, isL, kil, st1, st2, entL, List.length_nil, List.length_cons, List.replicate, Nat.reduceAdd, Nat.reduceLeDiff, Nat.reduceSub, true_and, and_true, Nat.zero_le, ne_eq, qk_wi, ql_wi, qr_wi, qj_wi, qt_wi, qk_wj, ql_wj, qr_wj, qi_wj, qt_wj, qk_wr, ql_wr, qi_wr, qj_wr, qt_wr, qi_ws, qj_ws, qr_ws, Int.toNat_natCast, Int.toNat_zero, Int.reduceToNat, not_true_eq_false, not_false_eq_true, false_implies, implies_true, Option.some.injEq, reduceCtorEq, Sp0, true_or, or_true, or_self, wi_wi, wj_wj]
      repeat' (first | (with_reducible refine And.intro ?_ ?_) | (with_reducible intro))
      all_goals (try (first | with_reducible assumption | omega | (unfold inI; omega) | (unfold inL; omega) | exact cz_in _ _))
      refine s_X6_takeAll_86 x ok _ _ _ _ ?_
      simp only [wpS, o_c, o_cl, o_il, o_ll, o_al, o_is, o_ls, o_as, o_inc, o_add, o_sub, o_mul, o_and, o_or, o_xor, o_shl, o_shr, o_div, o_neg, o_ladd, o_lsub, o_lmul, o_ldiv, o_lrem, o_lneg, o_lcmp, o_i2l, o_l2i, o_dup, o_dup2, o_pop, o_go, o_nn, o_sw, swc, o_iret, o_zret, o_lret, o_vret, o_ieq, o_eq0, o_ine, o_ne0, o_ilt, o_lt0, o_ige, o_ge0, o_igt, o_gt0, o_ile, o_le0, o_iald, o_zald, o_lald, o_aald, o_iast, o_zast, o_last, o_aast, o_alen, o_gi, o_gr, o_pi, o_pz, o_pr, o_new, o_newa, o_copy, o_oinit, o_call, o_callV, o_callVc, o_callI, popn, cnO, o_BAD, lgt, lst, isL, kil, st1, st2, entL, List.length_nil, List.length_cons, List.replicate, Nat.reduceAdd, Nat.reduceLeDiff, Nat.reduceSub, true_and, and_true, Nat.zero_le, ne_eq, qk_wi, ql_wi, qr_wi, qj_wi, qt_wi, qk_wj, ql_wj, qr_wj, qi_wj, qt_wj, qk_wr, ql_wr, qi_wr, qj_wr, qt_wr, qi_ws, qj_ws, qr_ws, Int.toNat_natCast, Int.toNat_zero, Int.reduceToNat, not_true_eq_false, not_false_eq_true, false_implies, implies_true, Option.some.injEq, reduceCtorEq, Sp0, true_or, or_true, or_self, wi_wi, wj_wj, k0, r3, k4, l4, j0, s3, j4, t4]
      repeat' (first | (with_reducible refine And.intro ?_ ?_) | (with_reducible intro))
      all_goals (try (first | with_reducible assumption | omega | (unfold inI; omega) | (unfold inL; omega) | exact cz_in _ _))
      have g2 : Chg h' (wi h' (a + 4) (cpy (qi h' (b + 4)) (qi h' (a + 4)) 0 0 24)) (a + 4) (a + 5) := ⟨rfl, rfl, rfl, rfl, rfl, fun k hk => qi_wn (by omega)⟩
      refine hK _ (g.tr g2 (by omega) (by omega)) ⟨hA'.chg g2, ⟨fun m hm => (m1 m hm).chg g2 (by omega), fun c hc => (m2 c hc).chg g2 (by omega), fun l hl => (m3 l hl).chg g2 (by omega), fun k hk => ?_⟩, hI⟩
      rw [qi_ws, cpy0 hk, g.2.2.2.2.2 (b + 4) (by omega)]
      exact hC.2.2.2 k hk
    · intro j hj ih h' g m1 m2 m3
      have hA' := hA.chg g
      have hB' := hB.chg g
      obtain ⟨k0, r0, r1, r2, r3, kk1, ll1, kk2, ll2, kk3, ll3, k4, l4, h14, h15, h16, h17, h18, h19⟩ := id hA'
      obtain ⟨j0, s0, s1, s2, s3, jj1, tt1, jj2, tt2, jj3, tt3, j4, t4, g14, g15, g16, g17, g18, g19⟩ := id hB'
      refine s_X6_takeAll_60 x ok _ _ _ _ ?_
      simp only [wpS, o_c, o_cl, o_il, o_ll, o_al, o_is, o_ls, o_as, o_inc, o_add, o_sub, o_mul, o_and, o_or, o_xor, o_shl, o_shr, o_div, o_neg, o_ladd, o_lsub, o_lmul, o_ldiv, o_lrem, o_lneg, o_lcmp, o_i2l, o_l2i, o_dup, o_dup2, o_pop, o_go, o_nn, o_sw, swc, o_iret, o_zret, o_lret, o_vret, o_ieq, o_eq0, o_ine, o_ne0, o_ilt, o_lt0, o_ige, o_ge0, o_igt, o_gt0, o_ile, o_le0, o_iald, o_zald, o_lald, o_aald, o_iast, o_zast, o_last, o_aast, o_alen, o_gi, o_gr, o_pi, o_pz, o_pr, o_new, o_newa, o_copy, o_oinit, o_call, o_callV, o_callVc, o_callI, popn, cnO, o_BAD, lgt, lst, isL, kil, st1, st2, entL, List.length_nil, List.length_cons, List.replicate, Nat.reduceAdd, Nat.reduceLeDiff, Nat.reduceSub, true_and, and_true, Nat.zero_le, ne_eq, qk_wi, ql_wi, qr_wi, qj_wi, qt_wi, qk_wj, ql_wj, qr_wj, qi_wj, qt_wj, qk_wr, ql_wr, qi_wr, qj_wr, qt_wr, qi_ws, qj_ws, qr_ws, Int.toNat_natCast, Int.toNat_zero, Int.reduceToNat, not_true_eq_false, not_false_eq_true, false_implies, implies_true, Option.some.injEq, reduceCtorEq, Sp0, true_or, or_true, or_self, wi_wi, wj_wj, k0, r2, kk3, ll3, h18 j hj, j0, s2, jj3, tt3, g18 j hj, (h19 j hj).1, (g19 j hj).1]
      repeat' (first | (with_reducible refine And.intro ?_ ?_) | (with_reducible intro))
      all_goals (try (first | with_reducible assumption | omega | (unfold inI; omega) | (unfold inL; omega) | exact cz_in _ _))
      refine c_takeAllL (h19 j hj) (g19 j hj) ((hC.2.2.1 j hj).chg g (by omega)) (by omega) (fun h2 g2 e2 => ?_)
      simp only [wpS, o_c, o_cl, o_il, o_ll, o_al, o_is, o_ls, o_as, o_inc, o_add, o_sub, o_mul, o_and, o_or, o_xor, o_shl, o_shr, o_div, o_neg, o_ladd, o_lsub, o_lmul, o_ldiv, o_lrem, o_lneg, o_lcmp, o_i2l, o_l2i, o_dup, o_dup2, o_pop, o_go, o_nn, o_sw, swc, o_iret, o_zret, o_lret, o_vret, o_ieq, o_eq0, o_ine, o_ne0, o_ilt, o_lt0, o_ige, o_ge0, o_igt, o_gt0, o_ile, o_le0, o_iald, o_zald, o_lald, o_aald, o_iast, o_zast, o_last, o_aast, o_alen, o_gi, o_gr, o_pi, o_pz, o_pr, o_new, o_newa, o_copy, o_oinit, o_call, o_callV, o_callVc, o_callI, popn, cnO, o_BAD, lgt, lst, isL, kil, st1, st2, entL, List.length_nil, List.length_cons, List.replicate, Nat.reduceAdd, Nat.reduceLeDiff, Nat.reduceSub, true_and, and_true, Nat.zero_le, ne_eq, qk_wi, ql_wi, qr_wi, qj_wi, qt_wi, qk_wj, ql_wj, qr_wj, qi_wj, qt_wj, qk_wr, ql_wr, qi_wr, qj_wr, qt_wr, qi_ws, qj_ws, qr_ws, Int.toNat_natCast, Int.toNat_zero, Int.reduceToNat, not_true_eq_false, not_false_eq_true, false_implies, implies_true, Option.some.injEq, reduceCtorEq, Sp0, true_or, or_true, or_self, wi_wi, wj_wj]
      repeat' (first | (with_reducible refine And.intro ?_ ?_) | (with_reducible intro))
      all_goals (try (first | with_reducible assumption | omega | (unfold inI; omega) | (unfold inL; omega) | exact cz_in _ _))
      refine ih h2 (g.tr g2 (by omega) (by omega)) (fun m hm => (m1 m hm).chg g2 (by omega)) (fun c hc => (m2 c hc).chg g2 (by omega)) (fun l hl => ?_)
      by_cases z : l = j
      · rw [z]; exact e2
      · exact (m3 l (by omega)).chg g2 (by omega)
  have chains : ∀ j, j ≤ 6 → ∀ h', Chg h h' a (a + 81) → (∀ m, m < 12 → MeC h' (a + 5 + 5 * m) d m) → (∀ c, c < j → ChC h' (a + 65 + 2 * c) d c) → V i_X6_takeAll x 31 [some (vr (some a)), some (vr (some b)), some (vi j)] [] h' (0, 0) := by
    refine bwd _ ?_ ?_
    · intro h' g m1 m2
      refine s_X6_takeAll_31 x ok _ _ _ _ ?_
      simp only [wpS, o_c, o_cl, o_il, o_ll, o_al, o_is, o_ls, o_as, o_inc, o_add, o_sub, o_mul, o_and, o_or, o_xor, o_shl, o_shr, o_div, o_neg, o_ladd, o_lsub, o_lmul, o_ldiv, o_lrem, o_lneg, o_lcmp, o_i2l, o_l2i, o_dup, o_dup2, o_pop, o_go, o_nn, o_sw, swc, o_iret, o_zret, o_lret, o_vret, o_ieq, o_eq0, o_ine, o_ne0, o_ilt, o_lt0, o_ige, o_ge0, o_igt, o_gt0, o_ile, o_le0, o_iald, o_zald, o_lald, o_aald, o_iast, o_zast, o_last, o_aast, o_alen, o_gi, o_gr, o_pi, o_pz, o_pr, o_new, o_newa, o_copy, o_oinit, o_call, o_callV, o_callVc, o_callI, popn, cnO, o_BAD, lgt, lst, isL, kil, st1, st2, entL, List.length_nil, List.length_cons, List.replicate, Nat.reduceAdd, Nat.reduceLeDiff, Nat.reduceSub, true_and, and_true, Nat.zero_le, ne_eq, qk_wi, ql_wi, qr_wi, qj_wi, qt_wi, qk_wj, ql_wj, qr_wj, qi_wj, qt_wj, qk_wr, ql_wr, qi_wr, qj_wr, qt_wr, qi_ws, qj_ws, qr_ws, Int.toNat_natCast, Int.toNat_zero, Int.reduceToNat, not_true_eq_false, not_false_eq_true, false_implies, implies_true, Option.some.injEq, reduceCtorEq, Sp0, true_or, or_true, or_self, wi_wi, wj_wj]
      repeat' (first | (with_reducible refine And.intro ?_ ?_) | (with_reducible intro))
      all_goals (try (first | with_reducible assumption | omega | (unfold inI; omega) | (unfold inL; omega) | exact cz_in _ _))
      refine s_X6_takeAll_58 x ok _ _ _ _ ?_
      simp only [wpS, o_c, o_cl, o_il, o_ll, o_al, o_is, o_ls, o_as, o_inc, o_add, o_sub, o_mul, o_and, o_or, o_xor, o_shl, o_shr, o_div, o_neg, o_ladd, o_lsub, o_lmul, o_ldiv, o_lrem, o_lneg, o_lcmp, o_i2l, o_l2i, o_dup, o_dup2, o_pop, o_go, o_nn, o_sw, swc, o_iret, o_zret, o_lret, o_vret, o_ieq, o_eq0, o_ine, o_ne0, o_ilt, o_lt0, o_ige, o_ge0, o_igt, o_gt0, o_ile, o_le0, o_iald, o_zald, o_lald, o_aald, o_iast, o_zast, o_last, o_aast, o_alen, o_gi, o_gr, o_pi, o_pz, o_pr, o_new, o_newa, o_copy, o_oinit, o_call, o_callV, o_callVc, o_callI, popn, cnO, o_BAD, lgt, lst, isL, kil, st1, st2, entL, List.length_nil, List.length_cons, List.replicate, Nat.reduceAdd, Nat.reduceLeDiff, Nat.reduceSub, true_and, and_true, Nat.zero_le, ne_eq, qk_wi, ql_wi, qr_wi, qj_wi, qt_wi, qk_wj, ql_wj, qr_wj, qi_wj, qt_wj, qk_wr, ql_wr, qi_wr, qj_wr, qt_wr, qi_ws, qj_ws, qr_ws, Int.toNat_natCast, Int.toNat_zero, Int.reduceToNat, not_true_eq_false, not_false_eq_true, false_implies, implies_true, Option.some.injEq, reduceCtorEq, Sp0, true_or, or_true, or_self, wi_wi, wj_wj]
      exact lots 0 (by omega) h' g m1 m2 (fun l hl => by omega)
    · intro j hj ih h' g m1 m2
      have hA' := hA.chg g
      have hB' := hB.chg g
      obtain ⟨k0, r0, r1, r2, r3, kk1, ll1, kk2, ll2, kk3, ll3, k4, l4, h14, h15, h16, h17, h18, h19⟩ := id hA'
      obtain ⟨j0, s0, s1, s2, s3, jj1, tt1, jj2, tt2, jj3, tt3, j4, t4, g14, g15, g16, g17, g18, g19⟩ := id hB'
      refine s_X6_takeAll_31 x ok _ _ _ _ ?_
      simp only [wpS, o_c, o_cl, o_il, o_ll, o_al, o_is, o_ls, o_as, o_inc, o_add, o_sub, o_mul, o_and, o_or, o_xor, o_shl, o_shr, o_div, o_neg, o_ladd, o_lsub, o_lmul, o_ldiv, o_lrem, o_lneg, o_lcmp, o_i2l, o_l2i, o_dup, o_dup2, o_pop, o_go, o_nn, o_sw, swc, o_iret, o_zret, o_lret, o_vret, o_ieq, o_eq0, o_ine, o_ne0, o_ilt, o_lt0, o_ige, o_ge0, o_igt, o_gt0, o_ile, o_le0, o_iald, o_zald, o_lald, o_aald, o_iast, o_zast, o_last, o_aast, o_alen, o_gi, o_gr, o_pi, o_pz, o_pr, o_new, o_newa, o_copy, o_oinit, o_call, o_callV, o_callVc, o_callI, popn, cnO, o_BAD, lgt, lst, isL, kil, st1, st2, entL, List.length_nil, List.length_cons, List.replicate, Nat.reduceAdd, Nat.reduceLeDiff, Nat.reduceSub, true_and, and_true, Nat.zero_le, ne_eq, qk_wi, ql_wi, qr_wi, qj_wi, qt_wi, qk_wj, ql_wj, qr_wj, qi_wj, qt_wj, qk_wr, ql_wr, qi_wr, qj_wr, qt_wr, qi_ws, qj_ws, qr_ws, Int.toNat_natCast, Int.toNat_zero, Int.reduceToNat, not_true_eq_false, not_false_eq_true, false_implies, implies_true, Option.some.injEq, reduceCtorEq, Sp0, true_or, or_true, or_self, wi_wi, wj_wj, k0, r1, kk2, ll2, h16 j hj, j0, s1, jj2, tt2, g16 j hj, (h17 j hj).1, (g17 j hj).1]
      repeat' (first | (with_reducible refine And.intro ?_ ?_) | (with_reducible intro))
      all_goals (try (first | with_reducible assumption | omega | (unfold inI; omega) | (unfold inL; omega) | exact cz_in _ _))
      refine c_takeAllC (h17 j hj) (g17 j hj) ((hC.2.1 j hj).chg g (by omega)) (by omega) (fun h2 g2 e2 => ?_)
      simp only [wpS, o_c, o_cl, o_il, o_ll, o_al, o_is, o_ls, o_as, o_inc, o_add, o_sub, o_mul, o_and, o_or, o_xor, o_shl, o_shr, o_div, o_neg, o_ladd, o_lsub, o_lmul, o_ldiv, o_lrem, o_lneg, o_lcmp, o_i2l, o_l2i, o_dup, o_dup2, o_pop, o_go, o_nn, o_sw, swc, o_iret, o_zret, o_lret, o_vret, o_ieq, o_eq0, o_ine, o_ne0, o_ilt, o_lt0, o_ige, o_ge0, o_igt, o_gt0, o_ile, o_le0, o_iald, o_zald, o_lald, o_aald, o_iast, o_zast, o_last, o_aast, o_alen, o_gi, o_gr, o_pi, o_pz, o_pr, o_new, o_newa, o_copy, o_oinit, o_call, o_callV, o_callVc, o_callI, popn, cnO, o_BAD, lgt, lst, isL, kil, st1, st2, entL, List.length_nil, List.length_cons, List.replicate, Nat.reduceAdd, Nat.reduceLeDiff, Nat.reduceSub, true_and, and_true, Nat.zero_le, ne_eq, qk_wi, ql_wi, qr_wi, qj_wi, qt_wi, qk_wj, ql_wj, qr_wj, qi_wj, qt_wj, qk_wr, ql_wr, qi_wr, qj_wr, qt_wr, qi_ws, qj_ws, qr_ws, Int.toNat_natCast, Int.toNat_zero, Int.reduceToNat, not_true_eq_false, not_false_eq_true, false_implies, implies_true, Option.some.injEq, reduceCtorEq, Sp0, true_or, or_true, or_self, wi_wi, wj_wj]
      repeat' (first | (with_reducible refine And.intro ?_ ?_) | (with_reducible intro))
      all_goals (try (first | with_reducible assumption | omega | (unfold inI; omega) | (unfold inL; omega) | exact cz_in _ _))
      refine ih h2 (g.tr g2 (by omega) (by omega)) (fun m hm => (m1 m hm).chg g2 (by omega)) (fun l hl => ?_)
      by_cases z : l = j
      · rw [z]; exact e2
      · exact (m2 l (by omega)).chg g2 (by omega)
  have meas : ∀ j, j ≤ 12 → ∀ h', Chg h h' a (a + 81) → (∀ m, m < j → MeC h' (a + 5 + 5 * m) d m) → V i_X6_takeAll x 2 [some (vr (some a)), some (vr (some b)), some (vi j)] [] h' (0, 0) := by
    refine bwd _ ?_ ?_
    · intro h' g m1
      refine s_X6_takeAll_2 x ok _ _ _ _ ?_
      simp only [wpS, o_c, o_cl, o_il, o_ll, o_al, o_is, o_ls, o_as, o_inc, o_add, o_sub, o_mul, o_and, o_or, o_xor, o_shl, o_shr, o_div, o_neg, o_ladd, o_lsub, o_lmul, o_ldiv, o_lrem, o_lneg, o_lcmp, o_i2l, o_l2i, o_dup, o_dup2, o_pop, o_go, o_nn, o_sw, swc, o_iret, o_zret, o_lret, o_vret, o_ieq, o_eq0, o_ine, o_ne0, o_ilt, o_lt0, o_ige, o_ge0, o_igt, o_gt0, o_ile, o_le0, o_iald, o_zald, o_lald, o_aald, o_iast, o_zast, o_last, o_aast, o_alen, o_gi, o_gr, o_pi, o_pz, o_pr, o_new, o_newa, o_copy, o_oinit, o_call, o_callV, o_callVc, o_callI, popn, cnO, o_BAD, lgt, lst, isL, kil, st1, st2, entL, List.length_nil, List.length_cons, List.replicate, Nat.reduceAdd, Nat.reduceLeDiff, Nat.reduceSub, true_and, and_true, Nat.zero_le, ne_eq, qk_wi, ql_wi, qr_wi, qj_wi, qt_wi, qk_wj, ql_wj, qr_wj, qi_wj, qt_wj, qk_wr, ql_wr, qi_wr, qj_wr, qt_wr, qi_ws, qj_ws, qr_ws, Int.toNat_natCast, Int.toNat_zero, Int.reduceToNat, not_true_eq_false, not_false_eq_true, false_implies, implies_true, Option.some.injEq, reduceCtorEq, Sp0, true_or, or_true, or_self, wi_wi, wj_wj]
      repeat' (first | (with_reducible refine And.intro ?_ ?_) | (with_reducible intro))
      all_goals (try (first | with_reducible assumption | omega | (unfold inI; omega) | (unfold inL; omega) | exact cz_in _ _))
      refine s_X6_takeAll_29 x ok _ _ _ _ ?_
      simp only [wpS, o_c, o_cl, o_il, o_ll, o_al, o_is, o_ls, o_as, o_inc, o_add, o_sub, o_mul, o_and, o_or, o_xor, o_shl, o_shr, o_div, o_neg, o_ladd, o_lsub, o_lmul, o_ldiv, o_lrem, o_lneg, o_lcmp, o_i2l, o_l2i, o_dup, o_dup2, o_pop, o_go, o_nn, o_sw, swc, o_iret, o_zret, o_lret, o_vret, o_ieq, o_eq0, o_ine, o_ne0, o_ilt, o_lt0, o_ige, o_ge0, o_igt, o_gt0, o_ile, o_le0, o_iald, o_zald, o_lald, o_aald, o_iast, o_zast, o_last, o_aast, o_alen, o_gi, o_gr, o_pi, o_pz, o_pr, o_new, o_newa, o_copy, o_oinit, o_call, o_callV, o_callVc, o_callI, popn, cnO, o_BAD, lgt, lst, isL, kil, st1, st2, entL, List.length_nil, List.length_cons, List.replicate, Nat.reduceAdd, Nat.reduceLeDiff, Nat.reduceSub, true_and, and_true, Nat.zero_le, ne_eq, qk_wi, ql_wi, qr_wi, qj_wi, qt_wi, qk_wj, ql_wj, qr_wj, qi_wj, qt_wj, qk_wr, ql_wr, qi_wr, qj_wr, qt_wr, qi_ws, qj_ws, qr_ws, Int.toNat_natCast, Int.toNat_zero, Int.reduceToNat, not_true_eq_false, not_false_eq_true, false_implies, implies_true, Option.some.injEq, reduceCtorEq, Sp0, true_or, or_true, or_self, wi_wi, wj_wj]
      exact chains 0 (by omega) h' g m1 (fun l hl => by omega)
    · intro j hj ih h' g m1
      have hA' := hA.chg g
      have hB' := hB.chg g
      obtain ⟨k0, r0, r1, r2, r3, kk1, ll1, kk2, ll2, kk3, ll3, k4, l4, h14, h15, h16, h17, h18, h19⟩ := id hA'
      obtain ⟨j0, s0, s1, s2, s3, jj1, tt1, jj2, tt2, jj3, tt3, j4, t4, g14, g15, g16, g17, g18, g19⟩ := id hB'
      refine s_X6_takeAll_2 x ok _ _ _ _ ?_
      simp only [wpS, o_c, o_cl, o_il, o_ll, o_al, o_is, o_ls, o_as, o_inc, o_add, o_sub, o_mul, o_and, o_or, o_xor, o_shl, o_shr, o_div, o_neg, o_ladd, o_lsub, o_lmul, o_ldiv, o_lrem, o_lneg, o_lcmp, o_i2l, o_l2i, o_dup, o_dup2, o_pop, o_go, o_nn, o_sw, swc, o_iret, o_zret, o_lret, o_vret, o_ieq, o_eq0, o_ine, o_ne0, o_ilt, o_lt0, o_ige, o_ge0, o_igt, o_gt0, o_ile, o_le0, o_iald, o_zald, o_lald, o_aald, o_iast, o_zast, o_last, o_aast, o_alen, o_gi, o_gr, o_pi, o_pz, o_pr, o_new, o_newa, o_copy, o_oinit, o_call, o_callV, o_callVc, o_callI, popn, cnO, o_BAD, lgt, lst, isL, kil, st1, st2, entL, List.length_nil, List.length_cons, List.replicate, Nat.reduceAdd, Nat.reduceLeDiff, Nat.reduceSub, true_and, and_true, Nat.zero_le, ne_eq, qk_wi, ql_wi, qr_wi, qj_wi, qt_wi, qk_wj, ql_wj, qr_wj, qi_wj, qt_wj, qk_wr, ql_wr, qi_wr, qj_wr, qt_wr, qi_ws, qj_ws, qr_ws, Int.toNat_natCast, Int.toNat_zero, Int.reduceToNat, not_true_eq_false, not_false_eq_true, false_implies, implies_true, Option.some.injEq, reduceCtorEq, Sp0, true_or, or_true, or_self, wi_wi, wj_wj, k0, r0, kk1, ll1, h14 j hj, j0, s0, jj1, tt1, g14 j hj, (h15 j hj).1, (g15 j hj).1]
      repeat' (first | (with_reducible refine And.intro ?_ ?_) | (with_reducible intro))
      all_goals (try (first | with_reducible assumption | omega | (unfold inI; omega) | (unfold inL; omega) | exact cz_in _ _))
      refine c_takeAllM (h15 j hj) (g15 j hj) ((hC.1 j hj).chg g (by omega)) (hI.1 j hj).2.2.2.2.1 (by omega) (fun h2 g2 e2 => ?_)
      simp only [wpS, o_c, o_cl, o_il, o_ll, o_al, o_is, o_ls, o_as, o_inc, o_add, o_sub, o_mul, o_and, o_or, o_xor, o_shl, o_shr, o_div, o_neg, o_ladd, o_lsub, o_lmul, o_ldiv, o_lrem, o_lneg, o_lcmp, o_i2l, o_l2i, o_dup, o_dup2, o_pop, o_go, o_nn, o_sw, swc, o_iret, o_zret, o_lret, o_vret, o_ieq, o_eq0, o_ine, o_ne0, o_ilt, o_lt0, o_ige, o_ge0, o_igt, o_gt0, o_ile, o_le0, o_iald, o_zald, o_lald, o_aald, o_iast, o_zast, o_last, o_aast, o_alen, o_gi, o_gr, o_pi, o_pz, o_pr, o_new, o_newa, o_copy, o_oinit, o_call, o_callV, o_callVc, o_callI, popn, cnO, o_BAD, lgt, lst, isL, kil, st1, st2, entL, List.length_nil, List.length_cons, List.replicate, Nat.reduceAdd, Nat.reduceLeDiff, Nat.reduceSub, true_and, and_true, Nat.zero_le, ne_eq, qk_wi, ql_wi, qr_wi, qj_wi, qt_wi, qk_wj, ql_wj, qr_wj, qi_wj, qt_wj, qk_wr, ql_wr, qi_wr, qj_wr, qt_wr, qi_ws, qj_ws, qr_ws, Int.toNat_natCast, Int.toNat_zero, Int.reduceToNat, not_true_eq_false, not_false_eq_true, false_implies, implies_true, Option.some.injEq, reduceCtorEq, Sp0, true_or, or_true, or_self, wi_wi, wj_wj]
      repeat' (first | (with_reducible refine And.intro ?_ ?_) | (with_reducible intro))
      all_goals (try (first | with_reducible assumption | omega | (unfold inI; omega) | (unfold inL; omega) | exact cz_in _ _))
      refine ih h2 (g.tr g2 (by omega) (by omega)) (fun l hl => ?_)
      by_cases z : l = j
      · rw [z]; exact e2
      · exact (m1 l (by omega)).chg g2 (by omega)
  refine s_X6_takeAll_0 x ok _ _ _ _ ?_
  simp only [wpS, o_c, o_cl, o_il, o_ll, o_al, o_is, o_ls, o_as, o_inc, o_add, o_sub, o_mul, o_and, o_or, o_xor, o_shl, o_shr, o_div, o_neg, o_ladd, o_lsub, o_lmul, o_ldiv, o_lrem, o_lneg, o_lcmp, o_i2l, o_l2i, o_dup, o_dup2, o_pop, o_go, o_nn, o_sw, swc, o_iret, o_zret, o_lret, o_vret, o_ieq, o_eq0, o_ine, o_ne0, o_ilt, o_lt0, o_ige, o_ge0, o_igt, o_gt0, o_ile, o_le0, o_iald, o_zald, o_lald, o_aald, o_iast, o_zast, o_last, o_aast, o_alen, o_gi, o_gr, o_pi, o_pz, o_pr, o_new, o_newa, o_copy, o_oinit, o_call, o_callV, o_callVc, o_callI, popn, cnO, o_BAD, lgt, lst, isL, kil, st1, st2, entL, List.length_nil, List.length_cons, List.replicate, Nat.reduceAdd, Nat.reduceLeDiff, Nat.reduceSub, true_and, and_true, Nat.zero_le, ne_eq, qk_wi, ql_wi, qr_wi, qj_wi, qt_wi, qk_wj, ql_wj, qr_wj, qi_wj, qt_wj, qk_wr, ql_wr, qi_wr, qj_wr, qt_wr, qi_ws, qj_ws, qr_ws, Int.toNat_natCast, Int.toNat_zero, Int.reduceToNat, not_true_eq_false, not_false_eq_true, false_implies, implies_true, Option.some.injEq, reduceCtorEq, Sp0, true_or, or_true, or_self, wi_wi, wj_wj]
  exact meas 0 (by omega) h (Chg.rf h a (a + 81)) (fun l hl => by omega)

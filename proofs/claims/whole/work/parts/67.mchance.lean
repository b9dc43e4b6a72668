/-! ===== FitBenchModel.chance, both ===== -/
theorem tw_0 (d : Dd) (e : Nat) : tw d e 0 = fun _ => 0 := if_neg (by omega)
theorem tw_1 (d : Dd) (e : Nat) : tw d e 1 = dsh d e := if_pos rfl
theorem leG_0 (d : Dd) : leG d (fun _ => 0) = 0 := by
  unfold leG plG
  rw [sg_z (fun k _ => Int.zero_mul _), sg_z (fun k _ => Int.zero_mul _)]
  rfl
theorem rgt_1 (g : Nat → Int) (rows : Nat) (lo hi le : Int) : rgt g rows 1 lo hi le 0 0 0 = sg (fun k => if lo ≤ le + k ∧ le + k ≤ hi then g k else 0) rows := by
  unfold rgt
  refine sg_c (fun k _ => ?_)
  have e : sg (fun q : Nat => if (0 : Int) ≤ 0 + q ∧ (0 : Int) + q ≤ 0 then g (k * 1 + q) else 0) 1 = g k := by
    rw [sg_s, sg_0, if_pos (by omega), Nat.mul_one, Nat.add_zero, Int.zero_add]
  rw [e]
theorem cH_self (h : Hp) (y : Nat) : cH h y (qj h (y + 7)) (qj h (y + 8)) = h := by unfold cH; rw [wj_self, wj_self]
/-- the counts of one chain, and their sum -/
theorem row_sum {d : Dd} {s t : Nat → Int} (hI : ∀ m, m < 12 → InvM d m) (hs : ∀ m, m < 12 → -3 ≤ s m ∧ s m ≤ 3) (ht : ∀ m, m < 12 → -3 ≤ t m ∧ t m ≤ 3) (hc : cpt d s t 12 ≤ 1000000000000) : sg (lyR d s t ((wdG d t).toNat + 1) 12) (((wdG d s).toNat + 1) * ((wdG d t).toNat + 1)) = cpt d s t 12 := lyR_sum (lyN_cells hI hs ht) 12 (Nat.le_refl _) hc
def T_X8_chance : TT := fun as h K => ∃ (y : Nat) (c w : Int), as = [vr (some y), vi c, vi w] ∧ Mo h y ∧ Inv (qi h (y + 1)) ∧ inI c ∧ inI w ∧ ∀ u v : Nat → Int, K (some (vl (chaF (qi h (y + 1)) c w))) (cH h y u v)
abbrev i_X8_chance : MI := (cX8_chance, 8, RX8, (some .long), "chance", 7)
theorem k_X8_chance_0 : Okop i_X8_chance 0 (o_il 1) 1 := k_iln (j := 1) (by decide +kernel)
theorem k_X8_chance_1 : Okop i_X8_chance 1 (o_call 1 T_X8_isChain) 4 := k_call (idx := 71) m_X8_isChain ⟨gw_748, gw_10, ⟨by decide, by decide, by decide +kernel⟩, by decide, by decide⟩ gw_746 gw_747 (by decide +kernel)
theorem k_X8_chance_4 : Okop i_X8_chance 4 (o_eq0 16) 7 := k_eq0 (off := 12) (by decide +kernel) (by decide)
theorem k_X8_chance_7 : Okop i_X8_chance 7 (o_il 2) 8 := k_iln (j := 2) (by decide +kernel)
theorem k_X8_chance_8 : Okop i_X8_chance 8 (o_eq0 20) 11 := k_eq0 (off := 12) (by decide +kernel) (by decide)
theorem k_X8_chance_11 : Okop i_X8_chance 11 (o_il 2) 12 := k_iln (j := 2) (by decide +kernel)
theorem k_X8_chance_12 : Okop i_X8_chance 12 (o_c 1) 13 := k_iconst (by decide +kernel)
theorem k_X8_chance_13 : Okop i_X8_chance 13 (o_ieq 20) 16 := k_ieq (off := 7) (by decide +kernel) (by decide)
theorem k_X8_chance_16 : Okop i_X8_chance 16 (o_cl (-1)) 19 := k_ldc2 (idx := 105) (by decide +kernel) gw_813
theorem k_X8_chance_19 : Okop i_X8_chance 19 (o_lret) 20 := k_lret (by decide +kernel) rfl
theorem k_X8_chance_20 : Okop i_X8_chance 20 (o_al 0) 21 := k_aln (j := 0) (by decide +kernel)
theorem k_X8_chance_21 : Okop i_X8_chance 21 (o_il 1) 22 := k_iln (j := 1) (by decide +kernel)
theorem k_X8_chance_22 : Okop i_X8_chance 22 (o_il 1) 23 := k_iln (j := 1) (by decide +kernel)
theorem k_X8_chance_23 : Okop i_X8_chance 23 (o_callV 8 2 T_X8_parts) 26 := k_callV (idx := 114) (r0 := (RX8, TX8, 14)) m_X8_parts ⟨gw_817, gw_10, ⟨by decide, by decide, by decide +kernel⟩, by decide, by decide⟩ rfl gw_814 gw_816 gs_19 (by decide +kernel)
theorem k_X8_chance_26 : Okop i_X8_chance 26 (o_ls 3) 27 := k_lsn (j := 3) (by decide +kernel) (by decide)
theorem k_X8_chance_27 : Okop i_X8_chance 27 (o_ll 3) 28 := k_lln (j := 3) (by decide +kernel)
theorem k_X8_chance_28 : Okop i_X8_chance 28 (o_cl (-1)) 31 := k_ldc2 (idx := 105) (by decide +kernel) gw_813
theorem k_X8_chance_31 : Okop i_X8_chance 31 (o_lcmp) 32 := k_lcmp (by decide +kernel)
theorem k_X8_chance_32 : Okop i_X8_chance 32 (o_ne0 39) 35 := k_ne0 (off := 7) (by decide +kernel) (by decide)
theorem k_X8_chance_35 : Okop i_X8_chance 35 (o_cl (-2)) 38 := k_ldc2 (idx := 118) (by decide +kernel) gw_819
theorem k_X8_chance_38 : Okop i_X8_chance 38 (o_lret) 39 := k_lret (by decide +kernel) rfl
theorem k_X8_chance_39 : Okop i_X8_chance 39 (o_al 0) 40 := k_aln (j := 0) (by decide +kernel)
theorem k_X8_chance_40 : Okop i_X8_chance 40 (o_il 1) 41 := k_iln (j := 1) (by decide +kernel)
theorem k_X8_chance_41 : Okop i_X8_chance 41 (o_il 1) 42 := k_iln (j := 1) (by decide +kernel)
theorem k_X8_chance_42 : Okop i_X8_chance 42 (o_c 0) 43 := k_iconst (by decide +kernel)
theorem k_X8_chance_43 : Okop i_X8_chance 43 (o_callV 8 3 T_X8_counts) 46 := k_callV (idx := 120) (r0 := (RX8, TX8, 14)) m_X8_counts ⟨gw_823, gw_10, ⟨by decide, by decide, by decide +kernel⟩, by decide, by decide⟩ rfl gw_820 gw_822 gs_20 (by decide +kernel)
theorem k_X8_chance_46 : Okop i_X8_chance 46 (o_cl 0) 47 := k_lconst (n := 0) (by decide +kernel) rfl
theorem k_X8_chance_47 : Okop i_X8_chance 47 (o_ls 5) 49 := k_ls (by decide +kernel) (by decide)
theorem k_X8_chance_49 : Okop i_X8_chance 49 (o_c 0) 50 := k_iconst (by decide +kernel)
theorem k_X8_chance_50 : Okop i_X8_chance 50 (o_is 7) 52 := k_is (by decide +kernel) (by decide)
theorem k_X8_chance_52 : Okop i_X8_chance 52 (o_il 7) 54 := k_il (by decide +kernel)
theorem k_X8_chance_54 : Okop i_X8_chance 54 (o_al 0) 55 := k_aln (j := 0) (by decide +kernel)
theorem k_X8_chance_55 : Okop i_X8_chance 55 (o_il 1) 56 := k_iln (j := 1) (by decide +kernel)
theorem k_X8_chance_56 : Okop i_X8_chance 56 (o_callV 8 1 T_X8_wide) 59 := k_callV (idx := 111) (r0 := (RX8, TX8, 14)) m_X8_wide ⟨gw_827, gw_10, ⟨by decide, by decide, by decide +kernel⟩, by decide, by decide⟩ rfl gw_824 gw_826 gs_21 (by decide +kernel)
theorem k_X8_chance_59 : Okop i_X8_chance 59 (o_igt 124) 62 := k_igt (off := 65) (by decide +kernel) (by decide)
theorem k_X8_chance_62 : Okop i_X8_chance 62 (o_al 0) 63 := k_aln (j := 0) (by decide +kernel)
theorem k_X8_chance_63 : Okop i_X8_chance 63 (o_il 1) 64 := k_iln (j := 1) (by decide +kernel)
theorem k_X8_chance_64 : Okop i_X8_chance 64 (o_c 0) 65 := k_iconst (by decide +kernel)
theorem k_X8_chance_65 : Okop i_X8_chance 65 (o_callV 8 2 T_X8_worst) 68 := k_callV (idx := 100) (r0 := (RX8, TX8, 14)) m_X8_worst ⟨gw_801, gw_10, ⟨by decide, by decide, by decide +kernel⟩, by decide, by decide⟩ rfl gw_808 gw_799 gw_800 (by decide +kernel)
theorem k_X8_chance_68 : Okop i_X8_chance 68 (o_il 7) 70 := k_il (by decide +kernel)
theorem k_X8_chance_70 : Okop i_X8_chance 70 (o_add) 71 := k_add (by decide +kernel)
theorem k_X8_chance_71 : Okop i_X8_chance 71 (o_al 0) 72 := k_aln (j := 0) (by decide +kernel)
theorem k_X8_chance_72 : Okop i_X8_chance 72 (o_gr 8 0) 75 := k_gr (idx := 7) fo_8 (by decide) (by decide) gw_660 (by decide +kernel)
theorem k_X8_chance_75 : Okop i_X8_chance 75 (o_c 1284) 78 := k_sipush (by decide +kernel) rfl
theorem k_X8_chance_78 : Okop i_X8_chance 78 (o_il 1) 79 := k_iln (j := 1) (by decide +kernel)
theorem k_X8_chance_79 : Okop i_X8_chance 79 (o_add) 80 := k_add (by decide +kernel)
theorem k_X8_chance_80 : Okop i_X8_chance 80 (o_iald) 81 := k_iald (by decide +kernel)
theorem k_X8_chance_81 : Okop i_X8_chance 81 (o_ilt 118) 84 := k_ilt (off := 37) (by decide +kernel) (by decide)
theorem k_X8_chance_84 : Okop i_X8_chance 84 (o_al 0) 85 := k_aln (j := 0) (by decide +kernel)
theorem k_X8_chance_85 : Okop i_X8_chance 85 (o_il 1) 86 := k_iln (j := 1) (by decide +kernel)
theorem k_X8_chance_86 : Okop i_X8_chance 86 (o_c 0) 87 := k_iconst (by decide +kernel)
theorem k_X8_chance_87 : Okop i_X8_chance 87 (o_callV 8 2 T_X8_worst) 90 := k_callV (idx := 100) (r0 := (RX8, TX8, 14)) m_X8_worst ⟨gw_801, gw_10, ⟨by decide, by decide, by decide +kernel⟩, by decide, by decide⟩ rfl gw_808 gw_799 gw_800 (by decide +kernel)
theorem k_X8_chance_90 : Okop i_X8_chance 90 (o_il 7) 92 := k_il (by decide +kernel)
theorem k_X8_chance_92 : Okop i_X8_chance 92 (o_add) 93 := k_add (by decide +kernel)
theorem k_X8_chance_93 : Okop i_X8_chance 93 (o_al 0) 94 := k_aln (j := 0) (by decide +kernel)
theorem k_X8_chance_94 : Okop i_X8_chance 94 (o_gr 8 0) 97 := k_gr (idx := 7) fo_8 (by decide) (by decide) gw_660 (by decide +kernel)
theorem k_X8_chance_97 : Okop i_X8_chance 97 (o_c 1290) 100 := k_sipush (by decide +kernel) rfl
theorem k_X8_chance_100 : Okop i_X8_chance 100 (o_il 1) 101 := k_iln (j := 1) (by decide +kernel)
theorem k_X8_chance_101 : Okop i_X8_chance 101 (o_add) 102 := k_add (by decide +kernel)
theorem k_X8_chance_102 : Okop i_X8_chance 102 (o_iald) 103 := k_iald (by decide +kernel)
theorem k_X8_chance_103 : Okop i_X8_chance 103 (o_igt 118) 106 := k_igt (off := 15) (by decide +kernel) (by decide)
theorem k_X8_chance_106 : Okop i_X8_chance 106 (o_ll 5) 108 := k_ll (by decide +kernel)
theorem k_X8_chance_108 : Okop i_X8_chance 108 (o_al 0) 109 := k_aln (j := 0) (by decide +kernel)
theorem k_X8_chance_109 : Okop i_X8_chance 109 (o_gr 8 6) 112 := k_gr (idx := 30) fo_8 (by decide) (by decide) gw_666 (by decide +kernel)
theorem k_X8_chance_112 : Okop i_X8_chance 112 (o_il 7) 114 := k_il (by decide +kernel)
theorem k_X8_chance_114 : Okop i_X8_chance 114 (o_lald) 115 := k_lald (by decide +kernel)
theorem k_X8_chance_115 : Okop i_X8_chance 115 (o_ladd) 116 := k_ladd (by decide +kernel)
theorem k_X8_chance_116 : Okop i_X8_chance 116 (o_ls 5) 118 := k_ls (by decide +kernel) (by decide)
theorem k_X8_chance_118 : Okop i_X8_chance 118 (o_inc 7 1) 121 := k_inc (by decide +kernel) (by decide)
theorem k_X8_chance_121 : Okop i_X8_chance 121 (o_go 52) 124 := k_go (off := -69) (by decide +kernel) (by decide)
theorem k_X8_chance_124 : Okop i_X8_chance 124 (o_ll 5) 126 := k_ll (by decide +kernel)
theorem k_X8_chance_126 : Okop i_X8_chance 126 (o_ll 3) 127 := k_lln (j := 3) (by decide +kernel)
theorem k_X8_chance_127 : Okop i_X8_chance 127 (o_il 2) 128 := k_iln (j := 2) (by decide +kernel)
theorem k_X8_chance_128 : Okop i_X8_chance 128 (o_call 3 T_X8_lowest) 131 := k_call (idx := 124) m_X8_lowest ⟨gw_830, gw_10, ⟨by decide, by decide, by decide +kernel⟩, by decide, by decide⟩ gw_828 gw_829 (by decide +kernel)
theorem k_X8_chance_131 : Okop i_X8_chance 131 (o_lret) 132 := k_lret (by decide +kernel) rfl
theorem s_X8_chance_0 : Seg i_X8_chance 0 [o_il 1, o_call 1 T_X8_isChain, o_eq0 16, o_il 2, o_eq0 20, o_il 2, o_c 1, o_ieq 20, o_cl (-1), o_lret] 20 := Seg.cons k_X8_chance_0 (Seg.cons k_X8_chance_1 (Seg.cons k_X8_chance_4 (Seg.cons k_X8_chance_7 (Seg.cons k_X8_chance_8 (Seg.cons k_X8_chance_11 (Seg.cons k_X8_chance_12 (Seg.cons k_X8_chance_13 (Seg.cons k_X8_chance_16 (Seg.cons k_X8_chance_19 (Seg.nil))))))))))
theorem s_X8_chance_16 : Seg i_X8_chance 16 [o_cl (-1), o_lret] 20 := Seg.cons k_X8_chance_16 (Seg.cons k_X8_chance_19 (Seg.nil))
theorem s_X8_chance_20 : Seg i_X8_chance 20 [o_al 0, o_il 1, o_il 1, o_callV 8 2 T_X8_parts, o_ls 3, o_ll 3, o_cl (-1), o_lcmp, o_ne0 39, o_cl (-2), o_lret] 39 := Seg.cons k_X8_chance_20 (Seg.cons k_X8_chance_21 (Seg.cons k_X8_chance_22 (Seg.cons k_X8_chance_23 (Seg.cons k_X8_chance_26 (Seg.cons k_X8_chance_27 (Seg.cons k_X8_chance_28 (Seg.cons k_X8_chance_31 (Seg.cons k_X8_chance_32 (Seg.cons k_X8_chance_35 (Seg.cons k_X8_chance_38 (Seg.nil)))))))))))
theorem s_X8_chance_39 : Seg i_X8_chance 39 [o_al 0, o_il 1, o_il 1, o_c 0, o_callV 8 3 T_X8_counts, o_cl 0, o_ls 5, o_c 0, o_is 7] 52 := Seg.cons k_X8_chance_39 (Seg.cons k_X8_chance_40 (Seg.cons k_X8_chance_41 (Seg.cons k_X8_chance_42 (Seg.cons k_X8_chance_43 (Seg.cons k_X8_chance_46 (Seg.cons k_X8_chance_47 (Seg.cons k_X8_chance_49 (Seg.cons k_X8_chance_50 (Seg.nil)))))))))
theorem s_X8_chance_52 : Seg i_X8_chance 52 [o_il 7, o_al 0, o_il 1, o_callV 8 1 T_X8_wide, o_igt 124, o_al 0, o_il 1, o_c 0, o_callV 8 2 T_X8_worst, o_il 7, o_add, o_al 0, o_gr 8 0, o_c 1284, o_il 1, o_add, o_iald, o_ilt 118, o_al 0, o_il 1, o_c 0, o_callV 8 2 T_X8_worst, o_il 7, o_add, o_al 0, o_gr 8 0, o_c 1290, o_il 1, o_add, o_iald, o_igt 118, o_ll 5, o_al 0, o_gr 8 6, o_il 7, o_lald, o_ladd, o_ls 5, o_inc 7 1, o_go 52] 124 := Seg.cons k_X8_chance_52 (Seg.cons k_X8_chance_54 (Seg.cons k_X8_chance_55 (Seg.cons k_X8_chance_56 (Seg.cons k_X8_chance_59 (Seg.cons k_X8_chance_62 (Seg.cons k_X8_chance_63 (Seg.cons k_X8_chance_64 (Seg.cons k_X8_chance_65 (Seg.cons k_X8_chance_68 (Seg.cons k_X8_chance_70 (Seg.cons k_X8_chance_71 (Seg.cons k_X8_chance_72 (Seg.cons k_X8_chance_75 (Seg.cons k_X8_chance_78 (Seg.cons k_X8_chance_79 (Seg.cons k_X8_chance_80 (Seg.cons k_X8_chance_81 (Seg.cons k_X8_chance_84 (Seg.cons k_X8_chance_85 (Seg.cons k_X8_chance_86 (Seg.cons k_X8_chance_87 (Seg.cons k_X8_chance_90 (Seg.cons k_X8_chance_92 (Seg.cons k_X8_chance_93 (Seg.cons k_X8_chance_94 (Seg.cons k_X8_chance_97 (Seg.cons k_X8_chance_100 (Seg.cons k_X8_chance_101 (Seg.cons k_X8_chance_102 (Seg.cons k_X8_chance_103 (Seg.cons k_X8_chance_106 (Seg.cons k_X8_chance_108 (Seg.cons k_X8_chance_109 (Seg.cons k_X8_chance_112 (Seg.cons k_X8_chance_114 (Seg.cons k_X8_chance_115 (Seg.cons k_X8_chance_116 (Seg.cons k_X8_chance_118 (Seg.cons k_X8_chance_121 (Seg.nil))))))))))))))))))))))))))))))))))))))))
theorem s_X8_chance_118 : Seg i_X8_chance 118 [o_inc 7 1, o_go 52] 124 := Seg.cons k_X8_chance_118 (Seg.cons k_X8_chance_121 (Seg.nil))
theorem s_X8_chance_124 : Seg i_X8_chance 124 [o_ll 5, o_ll 3, o_il 2, o_call 3 T_X8_lowest, o_lret] 132 := Seg.cons k_X8_chance_124 (Seg.cons k_X8_chance_126 (Seg.cons k_X8_chance_127 (Seg.cons k_X8_chance_128 (Seg.cons k_X8_chance_131 (Seg.nil)))))

theorem m_X8_chance : Mth yX8_chance cX8_chance 8 (some .long) 7 (Sp0 T_X8_chance) := by
  refine Mth.of (by decide) ?_
  rintro x as h ok ⟨y, c, w, rfl, hM, hI, ic, iw, hK⟩
  refine ⟨Nat.le_of_ble_eq_true rfl, ?_⟩
  have hM2 : ∀ u v : Nat → Int, Mo (cH h y u v) y := fun _ _ => hM
  have hD2 : ∀ u v : Nat → Int, qi (cH h y u v) (y + 1) = qi h (y + 1) := fun _ _ => rfl
  have hKh := hK (qj h (y + 7)) (qj h (y + 8))
  rw [cH_self] at hKh
  generalize hD : qi h (y + 1) = D at *
  have hI2 : ∀ u v : Nat → Int, Inv (qi (cH h y u v) (y + 1)) := fun u v => by rw [hD2]; exact hI
  by_cases q : (0 ≤ c ∧ c ≤ 5) ∧ (0 ≤ w ∧ w ≤ 1)
  · obtain ⟨C, rfl, hC⟩ : ∃ C : Nat, c = (C : Int) ∧ C < 6 := ⟨c.toNat, by omega, by omega⟩
    have eF : chaF D C w = rtF D (dsh D C) (fun _ => 0) (dcl D C) (dch D C) 0 0 w := if_pos q
    rw [eF] at hK hKh
    have hcp := cpt_bd (s := dsh D C) (t := fun _ => 0) hI.1 12 (Nat.le_refl _)
    have hs := (hI.2.1 C hC).1
    have hends := (hI.2.1 C hC).2
    have hlg := leG_rg hI.1 hs
    have hwd := wdG_rg hI.1 hs
    have e84 : D (1284 + C) = dcl D C := rfl
    have e90 : D (1290 + C) = dch D C := rfl
    have hnn := lyR_nn (d := D) (dsh D C) (fun _ => 0) 1 hI.1 12 (Nat.le_refl _)
    have hsum := row_sum (s := dsh D C) (t := fun _ => 0) hI.1 hs (fun m _ => by show (-3 : Int) ≤ 0 ∧ (0 : Int) ≤ 3; omega)
    unfold rtF at hK hKh
    rw [wdG_0] at hsum hK hKh
    rw [leG_0] at hK hKh
    obtain ⟨W, hW⟩ : ∃ W : Nat, wdG D (dsh D C) = (W : Int) := ⟨(wdG D (dsh D C)).toNat, by omega⟩
    rw [hW, Int.toNat_natCast, Int.toNat_zero, Nat.zero_add, Nat.mul_one] at hsum hK hKh
    rw [hW] at hwd
    have h20 : V i_X8_chance x 20 [some (vr (some y)), some (vi C), some (vi w), none, none, none, none, none] [] h (0, 0) := by
      refine s_X8_chance_20 x ok _ _ _ _ ?_
      simp only [wpS, o_c, o_cl, o_il, o_ll, o_al, o_is, o_ls, o_as, o_inc, o_add, o_sub, o_mul, o_and, o_or, o_xor, o_shl, o_shr, o_div, o_neg, o_ladd, o_lsub, o_lmul, o_ldiv, o_lrem, o_lneg, o_lcmp, o_i2l, o_l2i, o_dup, o_dup2, o_pop, o_go, o_nn, o_sw, swc, o_iret, o_zret, o_lret, o_vret, o_ieq, o_eq0, o_ine, o_ne0, o_ilt, o_lt0, o_ige, o_ge0, o_igt, o_gt0, o_ile, o_le0, o_iald, o_zald, o_lald, o_aald, o_iast, o_zast, o_last, o_aast, o_alen, o_gi, o_gr, o_pi, o_pz, o_pr, o_new, o_newa, o_copy, o_oinit, o_call, o_callV, o_callVc, o_callI, popn, cnO, o_BAD, lgt, lst, isL, kil, st1, st2, entL, List.length_nil, List.length_cons, List.replicate, Nat.reduceAdd, Nat.reduceLeDiff, Nat.reduceSub, true_and, and_true, Nat.zero_le, ne_eq, qk_wi, ql_wi, qr_wi, qj_wi, qt_wi, qk_wj, ql_wj, qr_wj, qi_wj, qt_wj, qk_wr, ql_wr, qi_wr, qj_wr, qt_wr, qi_ws, qj_ws, qr_ws, Int.toNat_natCast, Int.toNat_zero, Int.reduceToNat, not_true_eq_false, not_false_eq_true, false_implies, implies_true, Option.some.injEq, reduceCtorEq, Sp0, true_or, or_true, or_self, wi_wi, wj_wj, hM.k]
      repeat' (first | (with_reducible refine And.intro ?_ ?_) | (with_reducible intro))
      all_goals (try (first | with_reducible assumption | omega | (unfold inI; omega) | (unfold inL; omega) | exact cz_in _ _))
      refine c8_parts hM (by rw [hD]; exact hI) hC hC ?_
      rw [hD]
      unfold prt
      rw [cpt_cc]
      by_cases hbig : 1000000000000 < cpt D (dsh D C) (fun _ => 0) 12
      · rw [if_pos (.inl hbig)] at hKh
        rw [if_pos hbig]
        simp only [wpS, o_c, o_cl, o_il, o_ll, o_al, o_is, o_ls, o_as, o_inc, o_add, o_sub, o_mul, o_and, o_or, o_xor, o_shl, o_shr, o_div, o_neg, o_ladd, o_lsub, o_lmul, o_ldiv, o_lrem, o_lneg, o_lcmp, o_i2l, o_l2i, o_dup, o_dup2, o_pop, o_go, o_nn, o_sw, swc, o_iret, o_zret, o_lret, o_vret, o_ieq, o_eq0, o_ine, o_ne0, o_ilt, o_lt0, o_ige, o_ge0, o_igt, o_gt0, o_ile, o_le0, o_iald, o_zald, o_lald, o_aald, o_iast, o_zast, o_last, o_aast, o_alen, o_gi, o_gr, o_pi, o_pz, o_pr, o_new, o_newa, o_copy, o_oinit, o_call, o_callV, o_callVc, o_callI, popn, cnO, o_BAD, lgt, lst, isL, kil, st1, st2, entL, List.length_nil, List.length_cons, List.replicate, Nat.reduceAdd, Nat.reduceLeDiff, Nat.reduceSub, true_and, and_true, Nat.zero_le, ne_eq, qk_wi, ql_wi, qr_wi, qj_wi, qt_wi, qk_wj, ql_wj, qr_wj, qi_wj, qt_wj, qk_wr, ql_wr, qi_wr, qj_wr, qt_wr, qi_ws, qj_ws, qr_ws, Int.toNat_natCast, Int.toNat_zero, Int.reduceToNat, not_true_eq_false, not_false_eq_true, false_implies, implies_true, Option.some.injEq, reduceCtorEq, Sp0, true_or, or_true, or_self, wi_wi, wj_wj, hM.k, cz_in, cz_lt, cz_le, cz_gt, cz_ge, cz_eq]
        repeat' (first | (with_reducible refine And.intro ?_ ?_) | (with_reducible intro))
        all_goals (try (first | with_reducible assumption | omega | (unfold inI; omega) | (unfold inL; omega) | exact cz_in _ _))
        all_goals (first | exact hKh | (exfalso; omega) | skip)
      · have hsum2 := hsum (by omega)
        have hcnt : cpt D (dsh D C) (tw D C 0) 12 ≤ 1000000000000 ∧ (W + 1) * ((wdG D (tw D C 0)).toNat + 1) ≤ 200000 := by
          rw [tw_0, wdG_0, Int.toNat_zero]
          omega
        have hfin : ∀ u v : Nat → Int, xR x (some (vl (linF (sg (fun k => if dcl D C ≤ leG D (dsh D C) + k ∧ leG D (dsh D C) + k ≤ dch D C then lyR D (dsh D C) (fun _ => 0) 1 12 k else 0) (W + 1)) (cpt D (dsh D C) (fun _ => 0) 12) w))) (cH h y u v) := by
          intro u v
          have := hK u v
          rw [if_neg (by omega), rgt_1] at this
          exact this
        clear hK hKh hsum
        have hcntu : ∀ u : Nat → Int, (∀ k, k < (W + 1) * ((wdG D (tw D C 0)).toNat + 1) → u k = lyR D (dsh D C) (tw D C 0) ((wdG D (tw D C 0)).toNat + 1) 12 k) → ∀ k, k < W + 1 → u k = lyR D (dsh D C) (fun _ => 0) 1 12 k := by
          intro u hu k hk
          rw [tw_0, wdG_0, Int.toNat_zero, Nat.zero_add, Nat.mul_one] at hu
          exact hu k hk
        rw [if_neg hbig]
        generalize hA : cpt D (dsh D C) (fun _ => 0) 12 = A at *
        generalize lyR D (dsh D C) (fun _ => 0) 1 12 = g at *
        have hpart : ∀ j, j ≤ W + 1 → 0 ≤ sg (fun k => if dcl D C ≤ leG D (dsh D C) + k ∧ leG D (dsh D C) + k ≤ dch D C then g k else 0) j ∧ sg (fun k => if dcl D C ≤ leG D (dsh D C) + k ∧ leG D (dsh D C) + k ≤ dch D C then g k else 0) j ≤ 1000000000000 := by
          intro j hj
          have t0 : ∀ k : Nat, 0 ≤ (if dcl D C ≤ leG D (dsh D C) + k ∧ leG D (dsh D C) + k ≤ dch D C then g k else 0) ∧ (if dcl D C ≤ leG D (dsh D C) + k ∧ leG D (dsh D C) + k ≤ dch D C then g k else 0) ≤ g k := fun k => by
            have := hnn k
            split <;> omega
          have h1 := sg_nn (f := fun k => if dcl D C ≤ leG D (dsh D C) + k ∧ leG D (dsh D C) + k ≤ dch D C then g k else 0) (n := j) (fun k _ => (t0 k).1)
          have h2 := sg_mn (f := fun k => if dcl D C ≤ leG D (dsh D C) + k ∧ leG D (dsh D C) + k ≤ dch D C then g k else 0) (g := g) (n := j) (fun k _ => (t0 k).2)
          have h3 := sg_mono (g := g) (N := W + 1) (fun k _ => hnn k) hj (Nat.le_refl _)
          exact ⟨h1, by omega⟩
        have hgk : ∀ k, k < W + 1 → g k ≤ 1000000000000 := fun k hk => by
          have := sg_pt (f := g) (n := W + 1) (fun k _ => hnn k) k hk
          omega
        have loop : ∀ j, j ≤ W + 1 → ∀ u v : Nat → Int, (∀ k, k < W + 1 → u k = g k) → V i_X8_chance x 52 [some (vr (some y)), some (vi C), some (vi w), some (vl A), none, some (vl (sg (fun k => if dcl D C ≤ leG D (dsh D C) + k ∧ leG D (dsh D C) + k ≤ dch D C then g k else 0) j)), none, some (vi j)] [] (cH h y u v) (0, 0) := by
          refine bwd _ ?_ ?_
          · intro u v hu
            have hk := hfin u v
            have hp := hpart (W + 1) (Nat.le_refl _)
            generalize sg (fun k => if dcl D C ≤ leG D (dsh D C) + k ∧ leG D (dsh D C) + k ≤ dch D C then g k else 0) (W + 1) = S at *
            refine s_X8_chance_52 x ok _ _ _ _ ?_
            simp only [wpS, o_c, o_cl, o_il, o_ll, o_al, o_is, o_ls, o_as, o_inc, o_add, o_sub, o_mul, o_and, o_or, o_xor, o_shl, o_shr, o_div, o_neg, o_ladd, o_lsub, o_lmul, o_ldiv, o_lrem, o_lneg, o_lcmp, o_i2l, o_l2i, o_dup, o_dup2, o_pop, o_go, o_nn, o_sw, swc, o_iret, o_zret, o_lret, o_vret, o_ieq, o_eq0, o_ine, o_ne0, o_ilt, o_lt0, o_ige, o_ge0, o_igt, o_gt0, o_ile, o_le0, o_iald, o_zald, o_lald, o_aald, o_iast, o_zast, o_last, o_aast, o_alen, o_gi, o_gr, o_pi, o_pz, o_pr, o_new, o_newa, o_copy, o_oinit, o_call, o_callV, o_callVc, o_callI, popn, cnO, o_BAD, lgt, lst, isL, kil, st1, st2, entL, List.length_nil, List.length_cons, List.replicate, Nat.reduceAdd, Nat.reduceLeDiff, Nat.reduceSub, true_and, and_true, Nat.zero_le, ne_eq, qk_wi, ql_wi, qr_wi, qj_wi, qt_wi, qk_wj, ql_wj, qr_wj, qi_wj, qt_wj, qk_wr, ql_wr, qi_wr, qj_wr, qt_wr, qi_ws, qj_ws, qr_ws, Int.toNat_natCast, Int.toNat_zero, Int.reduceToNat, not_true_eq_false, not_false_eq_true, false_implies, implies_true, Option.some.injEq, reduceCtorEq, Sp0, true_or, or_true, or_self, wi_wi, wj_wj, hM.k, cH_k]
            repeat' (first | (with_reducible refine And.intro ?_ ?_) | (with_reducible intro))
            all_goals (try (first | with_reducible assumption | omega | (unfold inI; omega) | (unfold inL; omega) | exact cz_in _ _))
            refine c8_wide (hM2 _ _) (hI2 _ _) hC ?_
            rw [hD2, hW]
            simp only [wpS, o_c, o_cl, o_il, o_ll, o_al, o_is, o_ls, o_as, o_inc, o_add, o_sub, o_mul, o_and, o_or, o_xor, o_shl, o_shr, o_div, o_neg, o_ladd, o_lsub, o_lmul, o_ldiv, o_lrem, o_lneg, o_lcmp, o_i2l, o_l2i, o_dup, o_dup2, o_pop, o_go, o_nn, o_sw, swc, o_iret, o_zret, o_lret, o_vret, o_ieq, o_eq0, o_ine, o_ne0, o_ilt, o_lt0, o_ige, o_ge0, o_igt, o_gt0, o_ile, o_le0, o_iald, o_zald, o_lald, o_aald, o_iast, o_zast, o_last, o_aast, o_alen, o_gi, o_gr, o_pi, o_pz, o_pr, o_new, o_newa, o_copy, o_oinit, o_call, o_callV, o_callVc, o_callI, popn, cnO, o_BAD, lgt, lst, isL, kil, st1, st2, entL, List.length_nil, List.length_cons, List.replicate, Nat.reduceAdd, Nat.reduceLeDiff, Nat.reduceSub, true_and, and_true, Nat.zero_le, ne_eq, qk_wi, ql_wi, qr_wi, qj_wi, qt_wi, qk_wj, ql_wj, qr_wj, qi_wj, qt_wj, qk_wr, ql_wr, qi_wr, qj_wr, qt_wr, qi_ws, qj_ws, qr_ws, Int.toNat_natCast, Int.toNat_zero, Int.reduceToNat, not_true_eq_false, not_false_eq_true, false_implies, implies_true, Option.some.injEq, reduceCtorEq, Sp0, true_or, or_true, or_self, wi_wi, wj_wj, hM.k]
            repeat' (first | (with_reducible refine And.intro ?_ ?_) | (with_reducible intro))
            all_goals (try (first | with_reducible assumption | omega | (unfold inI; omega) | (unfold inL; omega) | exact cz_in _ _))
            all_goals (try (exfalso; omega))
            refine s_X8_chance_124 x ok _ _ _ _ ?_
            simp only [wpS, o_c, o_cl, o_il, o_ll, o_al, o_is, o_ls, o_as, o_inc, o_add, o_sub, o_mul, o_and, o_or, o_xor, o_shl, o_shr, o_div, o_neg, o_ladd, o_lsub, o_lmul, o_ldiv, o_lrem, o_lneg, o_lcmp, o_i2l, o_l2i, o_dup, o_dup2, o_pop, o_go, o_nn, o_sw, swc, o_iret, o_zret, o_lret, o_vret, o_ieq, o_eq0, o_ine, o_ne0, o_ilt, o_lt0, o_ige, o_ge0, o_igt, o_gt0, o_ile, o_le0, o_iald, o_zald, o_lald, o_aald, o_iast, o_zast, o_last, o_aast, o_alen, o_gi, o_gr, o_pi, o_pz, o_pr, o_new, o_newa, o_copy, o_oinit, o_call, o_callV, o_callVc, o_callI, popn, cnO, o_BAD, lgt, lst, isL, kil, st1, st2, entL, List.length_nil, List.length_cons, List.replicate, Nat.reduceAdd, Nat.reduceLeDiff, Nat.reduceSub, true_and, and_true, Nat.zero_le, ne_eq, qk_wi, ql_wi, qr_wi, qj_wi, qt_wi, qk_wj, ql_wj, qr_wj, qi_wj, qt_wj, qk_wr, ql_wr, qi_wr, qj_wr, qt_wr, qi_ws, qj_ws, qr_ws, Int.toNat_natCast, Int.toNat_zero, Int.reduceToNat, not_true_eq_false, not_false_eq_true, false_implies, implies_true, Option.some.injEq, reduceCtorEq, Sp0, true_or, or_true, or_self, wi_wi, wj_wj, hM.k]
            repeat' (first | (with_reducible refine And.intro ?_ ?_) | (with_reducible intro))
            all_goals (try (first | with_reducible assumption | omega | (unfold inI; omega) | (unfold inL; omega) | exact cz_in _ _))
            refine c8_lowest (by omega) (by omega) (by omega) ?_
            simp only [wpS, o_c, o_cl, o_il, o_ll, o_al, o_is, o_ls, o_as, o_inc, o_add, o_sub, o_mul, o_and, o_or, o_xor, o_shl, o_shr, o_div, o_neg, o_ladd, o_lsub, o_lmul, o_ldiv, o_lrem, o_lneg, o_lcmp, o_i2l, o_l2i, o_dup, o_dup2, o_pop, o_go, o_nn, o_sw, swc, o_iret, o_zret, o_lret, o_vret, o_ieq, o_eq0, o_ine, o_ne0, o_ilt, o_lt0, o_ige, o_ge0, o_igt, o_gt0, o_ile, o_le0, o_iald, o_zald, o_lald, o_aald, o_iast, o_zast, o_last, o_aast, o_alen, o_gi, o_gr, o_pi, o_pz, o_pr, o_new, o_newa, o_copy, o_oinit, o_call, o_callV, o_callVc, o_callI, popn, cnO, o_BAD, lgt, lst, isL, kil, st1, st2, entL, List.length_nil, List.length_cons, List.replicate, Nat.reduceAdd, Nat.reduceLeDiff, Nat.reduceSub, true_and, and_true, Nat.zero_le, ne_eq, qk_wi, ql_wi, qr_wi, qj_wi, qt_wi, qk_wj, ql_wj, qr_wj, qi_wj, qt_wj, qk_wr, ql_wr, qi_wr, qj_wr, qt_wr, qi_ws, qj_ws, qr_ws, Int.toNat_natCast, Int.toNat_zero, Int.reduceToNat, not_true_eq_false, not_false_eq_true, false_implies, implies_true, Option.some.injEq, reduceCtorEq, Sp0, true_or, or_true, or_self, wi_wi, wj_wj, hM.k]
            repeat' (first | (with_reducible refine And.intro ?_ ?_) | (with_reducible intro))
            all_goals (try (first | with_reducible assumption | omega | (unfold inI; omega) | (unfold inL; omega) | exact cz_in _ _))
            all_goals (first | exact hk | skip)
          · intro j hj ih u v hu
            have hp := hpart j (by omega)
            have huj := hu j hj
            have h0j := hnn j
            have h1j := hgk j hj
            rw [sg_s] at ih
            generalize hS : sg (fun k => if dcl D C ≤ leG D (dsh D C) + k ∧ leG D (dsh D C) + k ≤ dch D C then g k else 0) j = S at *
            refine s_X8_chance_52 x ok _ _ _ _ ?_
            simp only [wpS, o_c, o_cl, o_il, o_ll, o_al, o_is, o_ls, o_as, o_inc, o_add, o_sub, o_mul, o_and, o_or, o_xor, o_shl, o_shr, o_div, o_neg, o_ladd, o_lsub, o_lmul, o_ldiv, o_lrem, o_lneg, o_lcmp, o_i2l, o_l2i, o_dup, o_dup2, o_pop, o_go, o_nn, o_sw, swc, o_iret, o_zret, o_lret, o_vret, o_ieq, o_eq0, o_ine, o_ne0, o_ilt, o_lt0, o_ige, o_ge0, o_igt, o_gt0, o_ile, o_le0, o_iald, o_zald, o_lald, o_aald, o_iast, o_zast, o_last, o_aast, o_alen, o_gi, o_gr, o_pi, o_pz, o_pr, o_new, o_newa, o_copy, o_oinit, o_call, o_callV, o_callVc, o_callI, popn, cnO, o_BAD, lgt, lst, isL, kil, st1, st2, entL, List.length_nil, List.length_cons, List.replicate, Nat.reduceAdd, Nat.reduceLeDiff, Nat.reduceSub, true_and, and_true, Nat.zero_le, ne_eq, qk_wi, ql_wi, qr_wi, qj_wi, qt_wi, qk_wj, ql_wj, qr_wj, qi_wj, qt_wj, qk_wr, ql_wr, qi_wr, qj_wr, qt_wr, qi_ws, qj_ws, qr_ws, Int.toNat_natCast, Int.toNat_zero, Int.reduceToNat, not_true_eq_false, not_false_eq_true, false_implies, implies_true, Option.some.injEq, reduceCtorEq, Sp0, true_or, or_true, or_self, wi_wi, wj_wj, hM.k, cH_k]
            repeat' (first | (with_reducible refine And.intro ?_ ?_) | (with_reducible intro))
            all_goals (try (first | with_reducible assumption | omega | (unfold inI; omega) | (unfold inL; omega) | exact cz_in _ _))
            refine c8_wide (hM2 _ _) (hI2 _ _) hC ?_
            rw [hD2, hW]
            simp only [wpS, o_c, o_cl, o_il, o_ll, o_al, o_is, o_ls, o_as, o_inc, o_add, o_sub, o_mul, o_and, o_or, o_xor, o_shl, o_shr, o_div, o_neg, o_ladd, o_lsub, o_lmul, o_ldiv, o_lrem, o_lneg, o_lcmp, o_i2l, o_l2i, o_dup, o_dup2, o_pop, o_go, o_nn, o_sw, swc, o_iret, o_zret, o_lret, o_vret, o_ieq, o_eq0, o_ine, o_ne0, o_ilt, o_lt0, o_ige, o_ge0, o_igt, o_gt0, o_ile, o_le0, o_iald, o_zald, o_lald, o_aald, o_iast, o_zast, o_last, o_aast, o_alen, o_gi, o_gr, o_pi, o_pz, o_pr, o_new, o_newa, o_copy, o_oinit, o_call, o_callV, o_callVc, o_callI, popn, cnO, o_BAD, lgt, lst, isL, kil, st1, st2, entL, List.length_nil, List.length_cons, List.replicate, Nat.reduceAdd, Nat.reduceLeDiff, Nat.reduceSub, true_and, and_true, Nat.zero_le, ne_eq, qk_wi, ql_wi, qr_wi, qj_wi, qt_wi, qk_wj, ql_wj, qr_wj, qi_wj, qt_wj, qk_wr, ql_wr, qi_wr, qj_wr, qt_wr, qi_ws, qj_ws, qr_ws, Int.toNat_natCast, Int.toNat_zero, Int.reduceToNat, not_true_eq_false, not_false_eq_true, false_implies, implies_true, Option.some.injEq, reduceCtorEq, Sp0, true_or, or_true, or_self, wi_wi, wj_wj, hM.k, cH_k]
            repeat' (first | (with_reducible refine And.intro ?_ ?_) | (with_reducible intro))
            all_goals (try (first | with_reducible assumption | omega | (unfold inI; omega) | (unfold inL; omega) | exact cz_in _ _))
            all_goals (try (exfalso; omega))
            refine c8_worst (hM2 _ _) (hI2 _ _) ⟨by unfold inI; omega, by unfold inI; omega⟩ ?_
            rw [hD2, wst0 hC]
            by_cases z : dcl D C ≤ leG D (dsh D C) + j ∧ leG D (dsh D C) + j ≤ dch D C
            · rw [if_pos z] at ih
              simp only [wpS, o_c, o_cl, o_il, o_ll, o_al, o_is, o_ls, o_as, o_inc, o_add, o_sub, o_mul, o_and, o_or, o_xor, o_shl, o_shr, o_div, o_neg, o_ladd, o_lsub, o_lmul, o_ldiv, o_lrem, o_lneg, o_lcmp, o_i2l, o_l2i, o_dup, o_dup2, o_pop, o_go, o_nn, o_sw, swc, o_iret, o_zret, o_lret, o_vret, o_ieq, o_eq0, o_ine, o_ne0, o_ilt, o_lt0, o_ige, o_ge0, o_igt, o_gt0, o_ile, o_le0, o_iald, o_zald, o_lald, o_aald, o_iast, o_zast, o_last, o_aast, o_alen, o_gi, o_gr, o_pi, o_pz, o_pr, o_new, o_newa, o_copy, o_oinit, o_call, o_callV, o_callVc, o_callI, popn, cnO, o_BAD, lgt, lst, isL, kil, st1, st2, entL, List.length_nil, List.length_cons, List.replicate, Nat.reduceAdd, Nat.reduceLeDiff, Nat.reduceSub, true_and, and_true, Nat.zero_le, ne_eq, qk_wi, ql_wi, qr_wi, qj_wi, qt_wi, qk_wj, ql_wj, qr_wj, qi_wj, qt_wj, qk_wr, ql_wr, qi_wr, qj_wr, qt_wr, qi_ws, qj_ws, qr_ws, Int.toNat_natCast, Int.toNat_zero, Int.reduceToNat, not_true_eq_false, not_false_eq_true, false_implies, implies_true, Option.some.injEq, reduceCtorEq, Sp0, true_or, or_true, or_self, wi_wi, wj_wj, hM.k, hM.r0, hM.k1, hM.l1, ix0, ix12, ix24, ix36, ix48, ix60, ix1032, ix1044, ix1092, ix1140, ix1188, ix1200, ix1212, ix1284, ix1290, ix1296, ix1298, ix1322, ix1346, ix1358, ixm4, ixm12, ixm24, ixm81, ixm1382, ixadd, Nat.zero_add, cH_k, cH_l, cH_r, cH_i, hD, e84, e90]
              repeat' (first | (with_reducible refine And.intro ?_ ?_) | (with_reducible intro))
              all_goals (try (first | with_reducible assumption | omega | (unfold inI; omega) | (unfold inL; omega) | exact cz_in _ _))
              all_goals (try (exfalso; omega))
              refine c8_worst (hM2 _ _) (hI2 _ _) ⟨by unfold inI; omega, by unfold inI; omega⟩ ?_
              rw [hD2, wst0 hC]
              simp only [wpS, o_c, o_cl, o_il, o_ll, o_al, o_is, o_ls, o_as, o_inc, o_add, o_sub, o_mul, o_and, o_or, o_xor, o_shl, o_shr, o_div, o_neg, o_ladd, o_lsub, o_lmul, o_ldiv, o_lrem, o_lneg, o_lcmp, o_i2l, o_l2i, o_dup, o_dup2, o_pop, o_go, o_nn, o_sw, swc, o_iret, o_zret, o_lret, o_vret, o_ieq, o_eq0, o_ine, o_ne0, o_ilt, o_lt0, o_ige, o_ge0, o_igt, o_gt0, o_ile, o_le0, o_iald, o_zald, o_lald, o_aald, o_iast, o_zast, o_last, o_aast, o_alen, o_gi, o_gr, o_pi, o_pz, o_pr, o_new, o_newa, o_copy, o_oinit, o_call, o_callV, o_callVc, o_callI, popn, cnO, o_BAD, lgt, lst, isL, kil, st1, st2, entL, List.length_nil, List.length_cons, List.replicate, Nat.reduceAdd, Nat.reduceLeDiff, Nat.reduceSub, true_and, and_true, Nat.zero_le, ne_eq, qk_wi, ql_wi, qr_wi, qj_wi, qt_wi, qk_wj, ql_wj, qr_wj, qi_wj, qt_wj, qk_wr, ql_wr, qi_wr, qj_wr, qt_wr, qi_ws, qj_ws, qr_ws, Int.toNat_natCast, Int.toNat_zero, Int.reduceToNat, not_true_eq_false, not_false_eq_true, false_implies, implies_true, Option.some.injEq, reduceCtorEq, Sp0, true_or, or_true, or_self, wi_wi, wj_wj, hM.k, hM.r0, hM.k1, hM.l1, ix0, ix12, ix24, ix36, ix48, ix60, ix1032, ix1044, ix1092, ix1140, ix1188, ix1200, ix1212, ix1284, ix1290, ix1296, ix1298, ix1322, ix1346, ix1358, ixm4, ixm12, ixm24, ixm81, ixm1382, ixadd, Nat.zero_add, cH_k, cH_l, cH_r, cH_i, cH_7, hM.r6, hM.k7, hM.l7, hD, e84, e90, huj]
              repeat' (first | (with_reducible refine And.intro ?_ ?_) | (with_reducible intro))
              all_goals (try (first | with_reducible assumption | omega | (unfold inI; omega) | (unfold inL; omega) | exact cz_in _ _))
              all_goals (first | exact ih _ _ hu | (exfalso; omega) | skip)
            · rw [if_neg z, Int.add_zero] at ih
              have h118 : V i_X8_chance x 118 [some (vr (some y)), some (vi C), some (vi w), some (vl A), none, some (vl S), none, some (vi j)] [] (cH h y u v) (0, 0) := by
                have := ih u v hu
                refine s_X8_chance_118 x ok _ _ _ _ ?_
                simp only [wpS, o_c, o_cl, o_il, o_ll, o_al, o_is, o_ls, o_as, o_inc, o_add, o_sub, o_mul, o_and, o_or, o_xor, o_shl, o_shr, o_div, o_neg, o_ladd, o_lsub, o_lmul, o_ldiv, o_lrem, o_lneg, o_lcmp, o_i2l, o_l2i, o_dup, o_dup2, o_pop, o_go, o_nn, o_sw, swc, o_iret, o_zret, o_lret, o_vret, o_ieq, o_eq0, o_ine, o_ne0, o_ilt, o_lt0, o_ige, o_ge0, o_igt, o_gt0, o_ile, o_le0, o_iald, o_zald, o_lald, o_aald, o_iast, o_zast, o_last, o_aast, o_alen, o_gi, o_gr, o_pi, o_pz, o_pr, o_new, o_newa, o_copy, o_oinit, o_call, o_callV, o_callVc, o_callI, popn, cnO, o_BAD, lgt, lst, isL, kil, st1, st2, entL, List.length_nil, List.length_cons, List.replicate, Nat.reduceAdd, Nat.reduceLeDiff, Nat.reduceSub, true_and, and_true, Nat.zero_le, ne_eq, qk_wi, ql_wi, qr_wi, qj_wi, qt_wi, qk_wj, ql_wj, qr_wj, qi_wj, qt_wj, qk_wr, ql_wr, qi_wr, qj_wr, qt_wr, qi_ws, qj_ws, qr_ws, Int.toNat_natCast, Int.toNat_zero, Int.reduceToNat, not_true_eq_false, not_false_eq_true, false_implies, implies_true, Option.some.injEq, reduceCtorEq, Sp0, true_or, or_true, or_self, wi_wi, wj_wj, hM.k]
                repeat' (first | (with_reducible refine And.intro ?_ ?_) | (with_reducible intro))
                all_goals (try (first | with_reducible assumption | omega | (unfold inI; omega) | (unfold inL; omega) | exact cz_in _ _))
                all_goals (first | exact this | skip)
              simp only [wpS, o_c, o_cl, o_il, o_ll, o_al, o_is, o_ls, o_as, o_inc, o_add, o_sub, o_mul, o_and, o_or, o_xor, o_shl, o_shr, o_div, o_neg, o_ladd, o_lsub, o_lmul, o_ldiv, o_lrem, o_lneg, o_lcmp, o_i2l, o_l2i, o_dup, o_dup2, o_pop, o_go, o_nn, o_sw, swc, o_iret, o_zret, o_lret, o_vret, o_ieq, o_eq0, o_ine, o_ne0, o_ilt, o_lt0, o_ige, o_ge0, o_igt, o_gt0, o_ile, o_le0, o_iald, o_zald, o_lald, o_aald, o_iast, o_zast, o_last, o_aast, o_alen, o_gi, o_gr, o_pi, o_pz, o_pr, o_new, o_newa, o_copy, o_oinit, o_call, o_callV, o_callVc, o_callI, popn, cnO, o_BAD, lgt, lst, isL, kil, st1, st2, entL, List.length_nil, List.length_cons, List.replicate, Nat.reduceAdd, Nat.reduceLeDiff, Nat.reduceSub, true_and, and_true, Nat.zero_le, ne_eq, qk_wi, ql_wi, qr_wi, qj_wi, qt_wi, qk_wj, ql_wj, qr_wj, qi_wj, qt_wj, qk_wr, ql_wr, qi_wr, qj_wr, qt_wr, qi_ws, qj_ws, qr_ws, Int.toNat_natCast, Int.toNat_zero, Int.reduceToNat, not_true_eq_false, not_false_eq_true, false_implies, implies_true, Option.some.injEq, reduceCtorEq, Sp0, true_or, or_true, or_self, wi_wi, wj_wj, hM.k, hM.r0, hM.k1, hM.l1, ix0, ix12, ix24, ix36, ix48, ix60, ix1032, ix1044, ix1092, ix1140, ix1188, ix1200, ix1212, ix1284, ix1290, ix1296, ix1298, ix1322, ix1346, ix1358, ixm4, ixm12, ixm24, ixm81, ixm1382, ixadd, Nat.zero_add, cH_k, cH_l, cH_r, cH_i, hD, e84, e90]
              repeat' (first | (with_reducible refine And.intro ?_ ?_) | (with_reducible intro))
              all_goals (try (first | with_reducible assumption | omega | (unfold inI; omega) | (unfold inL; omega) | exact cz_in _ _))
              all_goals (first | exact h118 | (exfalso; omega) | skip)
              all_goals (
                refine c8_worst (hM2 _ _) (hI2 _ _) ⟨by unfold inI; omega, by unfold inI; omega⟩ ?_
                rw [hD2, wst0 hC]
                simp only [wpS, o_c, o_cl, o_il, o_ll, o_al, o_is, o_ls, o_as, o_inc, o_add, o_sub, o_mul, o_and, o_or, o_xor, o_shl, o_shr, o_div, o_neg, o_ladd, o_lsub, o_lmul, o_ldiv, o_lrem, o_lneg, o_lcmp, o_i2l, o_l2i, o_dup, o_dup2, o_pop, o_go, o_nn, o_sw, swc, o_iret, o_zret, o_lret, o_vret, o_ieq, o_eq0, o_ine, o_ne0, o_ilt, o_lt0, o_ige, o_ge0, o_igt, o_gt0, o_ile, o_le0, o_iald, o_zald, o_lald, o_aald, o_iast, o_zast, o_last, o_aast, o_alen, o_gi, o_gr, o_pi, o_pz, o_pr, o_new, o_newa, o_copy, o_oinit, o_call, o_callV, o_callVc, o_callI, popn, cnO, o_BAD, lgt, lst, isL, kil, st1, st2, entL, List.length_nil, List.length_cons, List.replicate, Nat.reduceAdd, Nat.reduceLeDiff, Nat.reduceSub, true_and, and_true, Nat.zero_le, ne_eq, qk_wi, ql_wi, qr_wi, qj_wi, qt_wi, qk_wj, ql_wj, qr_wj, qi_wj, qt_wj, qk_wr, ql_wr, qi_wr, qj_wr, qt_wr, qi_ws, qj_ws, qr_ws, Int.toNat_natCast, Int.toNat_zero, Int.reduceToNat, not_true_eq_false, not_false_eq_true, false_implies, implies_true, Option.some.injEq, reduceCtorEq, Sp0, true_or, or_true, or_self, wi_wi, wj_wj, hM.k, hM.r0, hM.k1, hM.l1, ix0, ix12, ix24, ix36, ix48, ix60, ix1032, ix1044, ix1092, ix1140, ix1188, ix1200, ix1212, ix1284, ix1290, ix1296, ix1298, ix1322, ix1346, ix1358, ixm4, ixm12, ixm24, ixm81, ixm1382, ixadd, Nat.zero_add, cH_k, cH_l, cH_r, cH_i, cH_7, hM.r6, hM.k7, hM.l7, hD, e84, e90, huj]
                repeat' (first | (with_reducible refine And.intro ?_ ?_) | (with_reducible intro))
                all_goals (try (first | with_reducible assumption | omega | (unfold inI; omega) | (unfold inL; omega) | exact cz_in _ _))
                all_goals (first | exact h118 | (exfalso; omega) | skip))
        have h39 : V i_X8_chance x 39 [some (vr (some y)), some (vi C), some (vi w), some (vl A), none, none, none, none] [] h (0, 0) := by
          refine s_X8_chance_39 x ok _ _ _ _ ?_
          simp only [wpS, o_c, o_cl, o_il, o_ll, o_al, o_is, o_ls, o_as, o_inc, o_add, o_sub, o_mul, o_and, o_or, o_xor, o_shl, o_shr, o_div, o_neg, o_ladd, o_lsub, o_lmul, o_ldiv, o_lrem, o_lneg, o_lcmp, o_i2l, o_l2i, o_dup, o_dup2, o_pop, o_go, o_nn, o_sw, swc, o_iret, o_zret, o_lret, o_vret, o_ieq, o_eq0, o_ine, o_ne0, o_ilt, o_lt0, o_ige, o_ge0, o_igt, o_gt0, o_ile, o_le0, o_iald, o_zald, o_lald, o_aald, o_iast, o_zast, o_last, o_aast, o_alen, o_gi, o_gr, o_pi, o_pz, o_pr, o_new, o_newa, o_copy, o_oinit, o_call, o_callV, o_callVc, o_callI, popn, cnO, o_BAD, lgt, lst, isL, kil, st1, st2, entL, List.length_nil, List.length_cons, List.replicate, Nat.reduceAdd, Nat.reduceLeDiff, Nat.reduceSub, true_and, and_true, Nat.zero_le, ne_eq, qk_wi, ql_wi, qr_wi, qj_wi, qt_wi, qk_wj, ql_wj, qr_wj, qi_wj, qt_wj, qk_wr, ql_wr, qi_wr, qj_wr, qt_wr, qi_ws, qj_ws, qr_ws, Int.toNat_natCast, Int.toNat_zero, Int.reduceToNat, not_true_eq_false, not_false_eq_true, false_implies, implies_true, Option.some.injEq, reduceCtorEq, Sp0, true_or, or_true, or_self, wi_wi, wj_wj, hM.k]
          repeat' (first | (with_reducible refine And.intro ?_ ?_) | (with_reducible intro))
          all_goals (try (first | with_reducible assumption | omega | (unfold inI; omega) | (unfold inL; omega) | exact cz_in _ _))
          refine c8_counts hM (by rw [hD]; exact hI) hC hC (.inl rfl) (by rw [hD]; exact hcnt.1) (by rw [hD, hW, Int.toNat_natCast]; exact hcnt.2) (fun u v hu => ?_)
          rw [hD, hW, Int.toNat_natCast] at hu
          simp only [wpS, o_c, o_cl, o_il, o_ll, o_al, o_is, o_ls, o_as, o_inc, o_add, o_sub, o_mul, o_and, o_or, o_xor, o_shl, o_shr, o_div, o_neg, o_ladd, o_lsub, o_lmul, o_ldiv, o_lrem, o_lneg, o_lcmp, o_i2l, o_l2i, o_dup, o_dup2, o_pop, o_go, o_nn, o_sw, swc, o_iret, o_zret, o_lret, o_vret, o_ieq, o_eq0, o_ine, o_ne0, o_ilt, o_lt0, o_ige, o_ge0, o_igt, o_gt0, o_ile, o_le0, o_iald, o_zald, o_lald, o_aald, o_iast, o_zast, o_last, o_aast, o_alen, o_gi, o_gr, o_pi, o_pz, o_pr, o_new, o_newa, o_copy, o_oinit, o_call, o_callV, o_callVc, o_callI, popn, cnO, o_BAD, lgt, lst, isL, kil, st1, st2, entL, List.length_nil, List.length_cons, List.replicate, Nat.reduceAdd, Nat.reduceLeDiff, Nat.reduceSub, true_and, and_true, Nat.zero_le, ne_eq, qk_wi, ql_wi, qr_wi, qj_wi, qt_wi, qk_wj, ql_wj, qr_wj, qi_wj, qt_wj, qk_wr, ql_wr, qi_wr, qj_wr, qt_wr, qi_ws, qj_ws, qr_ws, Int.toNat_natCast, Int.toNat_zero, Int.reduceToNat, not_true_eq_false, not_false_eq_true, false_implies, implies_true, Option.some.injEq, reduceCtorEq, Sp0, true_or, or_true, or_self, wi_wi, wj_wj, hM.k]
          repeat' (first | (with_reducible refine And.intro ?_ ?_) | (with_reducible intro))
          all_goals (try (first | with_reducible assumption | omega | (unfold inI; omega) | (unfold inL; omega) | exact cz_in _ _))
          all_goals (first | exact loop 0 (by omega) u v (hcntu u hu) | skip)
        simp only [wpS, o_c, o_cl, o_il, o_ll, o_al, o_is, o_ls, o_as, o_inc, o_add, o_sub, o_mul, o_and, o_or, o_xor, o_shl, o_shr, o_div, o_neg, o_ladd, o_lsub, o_lmul, o_ldiv, o_lrem, o_lneg, o_lcmp, o_i2l, o_l2i, o_dup, o_dup2, o_pop, o_go, o_nn, o_sw, swc, o_iret, o_zret, o_lret, o_vret, o_ieq, o_eq0, o_ine, o_ne0, o_ilt, o_lt0, o_ige, o_ge0, o_igt, o_gt0, o_ile, o_le0, o_iald, o_zald, o_lald, o_aald, o_iast, o_zast, o_last, o_aast, o_alen, o_gi, o_gr, o_pi, o_pz, o_pr, o_new, o_newa, o_copy, o_oinit, o_call, o_callV, o_callVc, o_callI, popn, cnO, o_BAD, lgt, lst, isL, kil, st1, st2, entL, List.length_nil, List.length_cons, List.replicate, Nat.reduceAdd, Nat.reduceLeDiff, Nat.reduceSub, true_and, and_true, Nat.zero_le, ne_eq, qk_wi, ql_wi, qr_wi, qj_wi, qt_wi, qk_wj, ql_wj, qr_wj, qi_wj, qt_wj, qk_wr, ql_wr, qi_wr, qj_wr, qt_wr, qi_ws, qj_ws, qr_ws, Int.toNat_natCast, Int.toNat_zero, Int.reduceToNat, not_true_eq_false, not_false_eq_true, false_implies, implies_true, Option.some.injEq, reduceCtorEq, Sp0, true_or, or_true, or_self, wi_wi, wj_wj, hM.k, cz_in, cz_lt, cz_le, cz_gt, cz_ge, cz_eq]
        repeat' (first | (with_reducible refine And.intro ?_ ?_) | (with_reducible intro))
        all_goals (try (first | with_reducible assumption | omega | (unfold inI; omega) | (unfold inL; omega) | exact cz_in _ _))
        all_goals (first | exact h39 | (exfalso; omega) | skip)
    all_goals (try ((first | (refine s_X8_chance_0 x ok _ _ _ _ ?_) | (refine s_X8_chance_16 x ok _ _ _ _ ?_) | (refine s_X8_chance_20 x ok _ _ _ _ ?_) | (refine s_X8_chance_39 x ok _ _ _ _ ?_) | (refine s_X8_chance_118 x ok _ _ _ _ ?_) | (refine s_X8_chance_124 x ok _ _ _ _ ?_) | (refine c_rg ?_)); (try simp only [wpS, o_c, o_cl, o_il, o_ll, o_al, o_is, o_ls, o_as, o_inc, o_add, o_sub, o_mul, o_and, o_or, o_xor, o_shl, o_shr, o_div, o_neg, o_ladd, o_lsub, o_lmul, o_ldiv, o_lrem, o_lneg, o_lcmp, o_i2l, o_l2i, o_dup, o_dup2, o_pop, o_go, o_nn, o_sw, swc, o_iret, o_zret, o_lret, o_vret, o_ieq, o_eq0, o_ine, o_ne0, o_ilt, o_lt0, o_ige, o_ge0, o_igt, o_gt0, o_ile, o_le0, o_iald, o_zald, o_lald, o_aald, o_iast, o_zast, o_last, o_aast, o_alen, o_gi, o_gr, o_pi, o_pz, o_pr, o_new, o_newa, o_copy, o_oinit, o_call, o_callV, o_callVc, o_callI, popn, cnO, o_BAD, lgt, lst, isL, kil, st1, st2, entL, List.length_nil, List.length_cons, List.replicate, Nat.reduceAdd, Nat.reduceLeDiff, Nat.reduceSub, true_and, and_true, Nat.zero_le, ne_eq, qk_wi, ql_wi, qr_wi, qj_wi, qt_wi, qk_wj, ql_wj, qr_wj, qi_wj, qt_wj, qk_wr, ql_wr, qi_wr, qj_wr, qt_wr, qi_ws, qj_ws, qr_ws, Int.toNat_natCast, Int.toNat_zero, Int.reduceToNat, not_true_eq_false, not_false_eq_true, false_implies, implies_true, Option.some.injEq, reduceCtorEq, Sp0, true_or, or_true, or_self, wi_wi, wj_wj, hM.k]); (repeat' (first | (with_reducible refine And.intro ?_ ?_) | (with_reducible intro))); (all_goals (try (first | with_reducible assumption | omega | (unfold inI; omega) | (unfold inL; omega) | exact cz_in _ _)))))
    all_goals (first | exact h20 | (exfalso; omega) | skip)
    all_goals (all_goals (try ((first | (refine s_X8_chance_0 x ok _ _ _ _ ?_) | (refine s_X8_chance_16 x ok _ _ _ _ ?_) | (refine s_X8_chance_20 x ok _ _ _ _ ?_) | (refine s_X8_chance_39 x ok _ _ _ _ ?_) | (refine s_X8_chance_118 x ok _ _ _ _ ?_) | (refine s_X8_chance_124 x ok _ _ _ _ ?_) | (refine c_rg ?_)); (try simp only [wpS, o_c, o_cl, o_il, o_ll, o_al, o_is, o_ls, o_as, o_inc, o_add, o_sub, o_mul, o_and, o_or, o_xor, o_shl, o_shr, o_div, o_neg, o_ladd, o_lsub, o_lmul, o_ldiv, o_lrem, o_lneg, o_lcmp, o_i2l, o_l2i, o_dup, o_dup2, o_pop, o_go, o_nn, o_sw, swc, o_iret, o_zret, o_lret, o_vret, o_ieq, o_eq0, o_ine, o_ne0, o_ilt, o_lt0, o_ige, o_ge0, o_igt, o_gt0, o_ile, o_le0, o_iald, o_zald, o_lald, o_aald, o_iast, o_zast, o_last, o_aast, o_alen, o_gi, o_gr, o_pi, o_pz, o_pr, o_new, o_newa, o_copy, o_oinit, o_call, o_callV, o_callVc, o_callI, popn, cnO, o_BAD, lgt, lst, isL, kil, st1, st2, entL, List.length_nil, List.length_cons, List.replicate, Nat.reduceAdd, Nat.reduceLeDiff, Nat.reduceSub, true_and, and_true, Nat.zero_le, ne_eq, qk_wi, ql_wi, qr_wi, qj_wi, qt_wi, qk_wj, ql_wj, qr_wj, qi_wj, qt_wj, qk_wr, ql_wr, qi_wr, qj_wr, qt_wr, qi_ws, qj_ws, qr_ws, Int.toNat_natCast, Int.toNat_zero, Int.reduceToNat, not_true_eq_false, not_false_eq_true, false_implies, implies_true, Option.some.injEq, reduceCtorEq, Sp0, true_or, or_true, or_self, wi_wi, wj_wj, hM.k]); (repeat' (first | (with_reducible refine And.intro ?_ ?_) | (with_reducible intro))); (all_goals (try (first | with_reducible assumption | omega | (unfold inI; omega) | (unfold inL; omega) | exact cz_in _ _))))))
    all_goals (first | exact h20 | (exfalso; omega) | skip)
  · have eF : chaF D c w = -1 := if_neg q
    rw [eF] at hKh
    all_goals (try ((first | (refine s_X8_chance_0 x ok _ _ _ _ ?_) | (refine s_X8_chance_16 x ok _ _ _ _ ?_) | (refine s_X8_chance_20 x ok _ _ _ _ ?_) | (refine s_X8_chance_39 x ok _ _ _ _ ?_) | (refine s_X8_chance_118 x ok _ _ _ _ ?_) | (refine s_X8_chance_124 x ok _ _ _ _ ?_) | (refine c_rg ?_)); (try simp only [wpS, o_c, o_cl, o_il, o_ll, o_al, o_is, o_ls, o_as, o_inc, o_add, o_sub, o_mul, o_and, o_or, o_xor, o_shl, o_shr, o_div, o_neg, o_ladd, o_lsub, o_lmul, o_ldiv, o_lrem, o_lneg, o_lcmp, o_i2l, o_l2i, o_dup, o_dup2, o_pop, o_go, o_nn, o_sw, swc, o_iret, o_zret, o_lret, o_vret, o_ieq, o_eq0, o_ine, o_ne0, o_ilt, o_lt0, o_ige, o_ge0, o_igt, o_gt0, o_ile, o_le0, o_iald, o_zald, o_lald, o_aald, o_iast, o_zast, o_last, o_aast, o_alen, o_gi, o_gr, o_pi, o_pz, o_pr, o_new, o_newa, o_copy, o_oinit, o_call, o_callV, o_callVc, o_callI, popn, cnO, o_BAD, lgt, lst, isL, kil, st1, st2, entL, List.length_nil, List.length_cons, List.replicate, Nat.reduceAdd, Nat.reduceLeDiff, Nat.reduceSub, true_and, and_true, Nat.zero_le, ne_eq, qk_wi, ql_wi, qr_wi, qj_wi, qt_wi, qk_wj, ql_wj, qr_wj, qi_wj, qt_wj, qk_wr, ql_wr, qi_wr, qj_wr, qt_wr, qi_ws, qj_ws, qr_ws, Int.toNat_natCast, Int.toNat_zero, Int.reduceToNat, not_true_eq_false, not_false_eq_true, false_implies, implies_true, Option.some.injEq, reduceCtorEq, Sp0, true_or, or_true, or_self, wi_wi, wj_wj, hM.k]); (repeat' (first | (with_reducible refine And.intro ?_ ?_) | (with_reducible intro))); (all_goals (try (first | with_reducible assumption | omega | (unfold inI; omega) | (unfold inL; omega) | exact cz_in _ _)))))
    all_goals (first | exact hKh | (exfalso; omega) | skip)
    all_goals (all_goals (try ((first | (refine s_X8_chance_0 x ok _ _ _ _ ?_) | (refine s_X8_chance_16 x ok _ _ _ _ ?_) | (refine s_X8_chance_20 x ok _ _ _ _ ?_) | (refine s_X8_chance_39 x ok _ _ _ _ ?_) | (refine s_X8_chance_118 x ok _ _ _ _ ?_) | (refine s_X8_chance_124 x ok _ _ _ _ ?_) | (refine c_rg ?_)); (try simp only [wpS, o_c, o_cl, o_il, o_ll, o_al, o_is, o_ls, o_as, o_inc, o_add, o_sub, o_mul, o_and, o_or, o_xor, o_shl, o_shr, o_div, o_neg, o_ladd, o_lsub, o_lmul, o_ldiv, o_lrem, o_lneg, o_lcmp, o_i2l, o_l2i, o_dup, o_dup2, o_pop, o_go, o_nn, o_sw, swc, o_iret, o_zret, o_lret, o_vret, o_ieq, o_eq0, o_ine, o_ne0, o_ilt, o_lt0, o_ige, o_ge0, o_igt, o_gt0, o_ile, o_le0, o_iald, o_zald, o_lald, o_aald, o_iast, o_zast, o_last, o_aast, o_alen, o_gi, o_gr, o_pi, o_pz, o_pr, o_new, o_newa, o_copy, o_oinit, o_call, o_callV, o_callVc, o_callI, popn, cnO, o_BAD, lgt, lst, isL, kil, st1, st2, entL, List.length_nil, List.length_cons, List.replicate, Nat.reduceAdd, Nat.reduceLeDiff, Nat.reduceSub, true_and, and_true, Nat.zero_le, ne_eq, qk_wi, ql_wi, qr_wi, qj_wi, qt_wi, qk_wj, ql_wj, qr_wj, qi_wj, qt_wj, qk_wr, ql_wr, qi_wr, qj_wr, qt_wr, qi_ws, qj_ws, qr_ws, Int.toNat_natCast, Int.toNat_zero, Int.reduceToNat, not_true_eq_false, not_false_eq_true, false_implies, implies_true, Option.some.injEq, reduceCtorEq, Sp0, true_or, or_true, or_self, wi_wi, wj_wj, hM.k]); (repeat' (first | (with_reducible refine And.intro ?_ ?_) | (with_reducible intro))); (all_goals (try (first | with_reducible assumption | omega | (unfold inI; omega) | (unfold inL; omega) | exact cz_in _ _))))))
    all_goals (first | exact hKh | (exfalso; omega) | skip)
    all_goals (all_goals (try ((first | (refine s_X8_chance_0 x ok _ _ _ _ ?_) | (refine s_X8_chance_16 x ok _ _ _ _ ?_) | (refine s_X8_chance_20 x ok _ _ _ _ ?_) | (refine s_X8_chance_39 x ok _ _ _ _ ?_) | (refine s_X8_chance_118 x ok _ _ _ _ ?_) | (refine s_X8_chance_124 x ok _ _ _ _ ?_) | (refine c_rg ?_)); (try simp only [wpS, o_c, o_cl, o_il, o_ll, o_al, o_is, o_ls, o_as, o_inc, o_add, o_sub, o_mul, o_and, o_or, o_xor, o_shl, o_shr, o_div, o_neg, o_ladd, o_lsub, o_lmul, o_ldiv, o_lrem, o_lneg, o_lcmp, o_i2l, o_l2i, o_dup, o_dup2, o_pop, o_go, o_nn, o_sw, swc, o_iret, o_zret, o_lret, o_vret, o_ieq, o_eq0, o_ine, o_ne0, o_ilt, o_lt0, o_ige, o_ge0, o_igt, o_gt0, o_ile, o_le0, o_iald, o_zald, o_lald, o_aald, o_iast, o_zast, o_last, o_aast, o_alen, o_gi, o_gr, o_pi, o_pz, o_pr, o_new, o_newa, o_copy, o_oinit, o_call, o_callV, o_callVc, o_callI, popn, cnO, o_BAD, lgt, lst, isL, kil, st1, st2, entL, List.length_nil, List.length_cons, List.replicate, Nat.reduceAdd, Nat.reduceLeDiff, Nat.reduceSub, true_and, and_true, Nat.zero_le, ne_eq, qk_wi, ql_wi, qr_wi, qj_wi, qt_wi, qk_wj, ql_wj, qr_wj, qi_wj, qt_wj, qk_wr, ql_wr, qi_wr, qj_wr, qt_wr, qi_ws, qj_ws, qr_ws, Int.toNat_natCast, Int.toNat_zero, Int.reduceToNat, not_true_eq_false, not_false_eq_true, false_implies, implies_true, Option.some.injEq, reduceCtorEq, Sp0, true_or, or_true, or_self, wi_wi, wj_wj, hM.k]); (repeat' (first | (with_reducible refine And.intro ?_ ?_) | (with_reducible intro))); (all_goals (try (first | with_reducible assumption | omega | (unfold inI; omega) | (unfold inL; omega) | exact cz_in _ _))))))
    all_goals (first | exact hKh | (exfalso; omega) | skip)

theorem sO_wk {may : Nat → Nat → Bool} {co : Nat → Nat → Int} {bg : Bool} {n : Nat} : ∀ p, sO (wkC may co bg n) p = (wkS may co bg n p).1
  | 0 => rfl
  | p + 1 => by rw [sO_s, sO_wk p, wkS_s]
theorem okO_sRw {K : Nat → Int} {n b : Nat} (h : 0 < sWy K n b) : okO (sRw K n b) n := by
  intro p hp
  have hI := wk_inv (may := (fun s i => (nxM (wtK K (K 42) (hdK K) n) n s).testBit i)) (co := (coV K (waK K (K 42) (hdK K)) b (K 40) (K 41) (bkK K 0) (bkK K 1) n (wmk (fun c => decide (ovK K c ≠ 0)) n))) (bg := (decide (b = 1))) (n := n) (fun s i hi => nx_out hi) h p (by omega)
  obtain ⟨h1, h2, _⟩ := wk_first (fun s i hi => nx_out hi) hp hI
  refine ⟨h1, ?_⟩
  have e : sO (sRw K n b) p = (wkS (fun s i => (nxM (wtK K (K 42) (hdK K) n) n s).testBit i) (coV K (waK K (K 42) (hdK K)) b (K 40) (K 41) (bkK K 0) (bkK K 1) n (wmk (fun c => decide (ovK K c ≠ 0)) n)) (decide (b = 1)) n p).1 := sO_wk p
  rw [e]
  exact nx_out h1 h2.1
/-- the row by which a day goes -/
def bkO (K : Nat → Int) (n : Nat) (how : Int) : Nat → Nat := if how = 0 then (fun i => i) else sRw K n (how.toNat - 1)
theorem bkO_0 {K : Nat → Int} {n : Nat} {how : Int} (h : how = 0) : bkO K n how = fun i => i := by unfold bkO; rw [if_pos h]
theorem bkO_s {K : Nat → Int} {n : Nat} {how : Int} (h : ¬ how = 0) : bkO K n how = sRw K n (how.toNat - 1) := by unfold bkO; rw [if_neg h]
def BkF (f f1 : Fm) (K : Nat → Int) (n : Nat) : Prop := (∀ q, q < 111 ∨ 122 < q → q < 135 ∨ 144 < q → q ≠ 163 → f1 q = f q) ∧ TdK f1 K n ∧ SrC f1 135 K n 0 ∧ SrC f1 140 K n 1
/-- how a bake ends in the class -/
def BkX (g : Gm) (f : Fm) (K : Nat → Int) (n : Nat) (how : Int) (r : Option Value) (f' : Fm) : Prop := ∃ f1, BkF f f1 K n ∧ ((¬ (0 ≤ how ∧ how ≤ 2) ∧ r = some (.int (iI (-1))) ∧ f' = xrf f1 (-1)) ∨ ((0 < how ∧ how ≤ 2) ∧ sWy K n (how.toNat - 1) = 0 ∧ r = some (.int (iI (-3))) ∧ f' = xrf f1 (-3)) ∨ ((0 ≤ how ∧ how ≤ 2) ∧ (0 < how → 0 < sWy K n (how.toNat - 1)) ∧ ¬ fitP K n (bkO K n how) ∧ r = some (.int (iI (-5))) ∧ f' = xrf f1 (-5)) ∨ ((0 ≤ how ∧ how ≤ 2) ∧ (0 < how → 0 < sWy K n (how.toNat - 1)) ∧ fitP K n (bkO K n how) ∧ r = some (.int (iI (alK K n (bkO K n how) n))) ∧ ∃ f2, (∀ q, q ≠ 66 → q ≠ 67 → q ≠ 163 → f2 q = f1 q) ∧ BK g f2 65 (goK K n (bkO K n how)) ∧ f' = stF (drp f2) 64 16 0))

theorem told_row : ∀ i, i < 8 → (sct 3).getD i 0 = ((i : Nat) : Int) := by decide
set_option maxRecDepth 100000 in
set_option maxHeartbeats 4000000 in
theorem x_bake (l : Launch) (z : Zv) (d : Nat) {g : Gm} {f : Fm} {n : Nat} {K : Nat → Int} {D0 M0 : Int} (hX : XL g) (hB : BK g f 65 K) (hO : KO K D0 M0) (hD0 : D0 ≤ 1000000) (hM0 : M0 ≤ 1100000) (hn : K 77 = ((n : Nat) : Int)) (hT : TdK f K n) (hS : SrC f 135 K n 0) (hSf : SrC f 140 K n 1) {how : Int} (h_how : -2147483648 ≤ how ∧ how ≤ 2147483647) : PM l z (d + 7) mX10_bake [.ref 64, .int (iI how)] g f 0 0 (fun r g' f' => g = g' ∧ BkX g f K n how r f') := by
  have hn8 : n ≤ 8 := by have := hO.n; omega
  refine PM.of (by decide +kernel) (Nat.le_of_ble_eq_true rfl) ?_
  refine r_iload_n (pc := 0) 1 dX10_bake_0 rfl rfl ?_
  refine r_if_lt (pc := 1) (tgt := 9) dX10_bake_1 (by decide) (by omega) (fun c_1 => ?_) (fun c_1 => ?_)
  · refine r_aload_n (pc := 9) 0 dX10_bake_9 rfl rfl ?_
    refine r_iconst (pc := 10) dX10_bake_10 ?_
    refine r_callV (pc := 11) (As := [(.int (iI (-1)))]) (S := []) dX10_bake_11 cv_X10_85 hX.k rfl (Nat.le_of_ble_eq_true rfl) (x_refuse l z _ hX (by omega)) (Nat.zero_le _) (Nat.zero_le _) (fun r_11 g_11 f_11 q_11 => ?_)
    obtain ⟨rfl, rfl, rfl⟩ := q_11
    exact r_iret (pc := 14) dX10_bake_14 rfl rfl ⟨rfl, f, ⟨fun _ _ _ _ => rfl, hT, hS, hSf⟩, Or.inl ⟨by omega, rfl, rfl⟩⟩
  · refine r_iload_n (pc := 4) 1 dX10_bake_4 rfl rfl ?_
    refine r_iconst (pc := 5) dX10_bake_5 ?_
    refine r_icmp_le (pc := 6) (tgt := 15) dX10_bake_6 (by decide) (by omega) (by omega) (fun c_6 => ?_) (fun c_6 => ?_)
    · refine r_aload_n (pc := 15) 0 dX10_bake_15 rfl rfl ?_
      refine r_getR (pc := 16) (b := 111) dX10_bake_16 fl_X10_37 rfl hX.k hX.r5 ?_
      refine r_aload_n (pc := 19) 0 dX10_bake_19 rfl rfl ?_
      refine r_getR (pc := 20) (b := 65) dX10_bake_20 fl_X10_10 rfl hX.k hX.r0 ?_
      refine r_callV (pc := 23) (As := [(.ref 65)]) (S := []) dX10_bake_23 cv_X10_115 hX.o5.k rfl (Nat.le_of_ble_eq_true rfl) (x_learnWantsK (y := 111) (b := 65) (K := K) (n := n) l z (d + 2) hX.o5 hX.o0 hB hO hD0 hn (by omega) (by omega) hT.1) (Nat.zero_le _) (Nat.zero_le _) (fun r_23 g_23 f_23 q_23 => ?_)
      obtain ⟨rfl, rfl, hl1, hl9⟩ := q_23
      have hT1 := hT.lw hl1 hl9
      have hfr1 : ∀ q, q < 111 ∨ 122 < q → f_23 q = f q := fun q hq => hl1.1 q (by omega) (by omega) (by omega) (by omega) (by omega)
      have hB1 : BK g f_23 65 K := hB.mem (fun q hq => hfr1 q (by omega))
      have hS0 : SrC f_23 135 K n 0 := hS.mv (fun q q1 q2 => hfr1 q (by omega))
      have hS1 : SrC f_23 140 K n 1 := hSf.mv (fun q q1 q2 => hfr1 q (by omega))
      refine r_gets (pc := 26) (j := 3) dX10_bake_26 (by decide) sl_X10_268 ?_
      refine r_astore_n (pc := 29) (L2 := [(2, (.ref 3)), (0, (.ref 64)), (1, (.int (iI (how))))]) dX10_bake_29 rfl (by decide) rfl ?_
      refine r_iload_n (pc := 30) 2 dX10_bake_30 rfl rfl ?_
      refine r_if_eq (pc := 31) (tgt := 81) dX10_bake_31 (by decide) (by omega) (fun c_31 => ?_) (fun c_31 => ?_)
      · refine r_aload_n (pc := 81) 1 dX10_bake_81 rfl rfl ?_
        refine r_getR (pc := 82) (b := 65) dX10_bake_82 fl_X10_10 rfl hX.k hX.r0 ?_
        refine r_aload_n (pc := 85) 1 dX10_bake_85 rfl rfl ?_
        refine r_getR (pc := 86) (b := 111) dX10_bake_86 fl_X10_37 rfl hX.k hX.r5 ?_
        refine r_aload_n (pc := 89) 0 dX10_bake_89 rfl rfl ?_
        refine r_aload_n (pc := 90) 1 dX10_bake_90 rfl rfl ?_
        refine r_getR (pc := 91) (b := 163) dX10_bake_91 fl_X10_78 rfl hX.k hX.r14 ?_
        refine r_callV (pc := 94) (As := [(.ref 111), (.ref 3), (.ref 163)]) (S := []) dX10_bake_94 cv_X10_274 hX.o0.k rfl (Nat.le_of_ble_eq_true rfl) (x_goByS (y := 111) (b := 65) (K := K) (n := n) (od := fun i => i) l z (d + 3) hX.o5 hX.o0 hB1 hO hD0 hM0 hn (by omega) (by omega) hl1.da (okO_id n) hX.a14 (fun i hi => told_row i (by omega))) (Nat.zero_le _) (Nat.zero_le _) (fun r_94 g_94 f_94 q_94 => ?_)
        obtain ⟨rfl, hg1, hg2, hg3⟩ := q_94
        have hod : bkO K n how = (fun i => i) := by rw [bkO_0 (show how = 0 by omega)]
        have hwy : 0 < how → 0 < sWy K n (how.toNat - 1) := fun h => absurd h (by omega)
        have hbf0 := (⟨fun q q1 q2 q3 => hfr1 q q1, hT1, hS0, hS1⟩ : BkF f f_23 K n)
        have hal := alK_r (od := (fun i => i)) hO hn8 (okO_id n) n (Nat.le_refl _)
        rcases hg3 with ⟨hfit, rfl, hBg⟩ | ⟨hfit, rfl, hBg⟩
        · refine r_istore_n (pc := 97) (L2 := [(3, (.int (iI (alK K n (fun i => i) n)))), (2, (.ref 3)), (0, (.ref 64)), (1, (.int (iI (how))))]) dX10_bake_97 rfl (by decide) rfl ?_
          refine r_iload_n (pc := 98) 0 dX10_bake_98 rfl rfl ?_
          refine r_if_ge (pc := 99) (tgt := 109) dX10_bake_99 (by decide) (by omega) (fun c_99 => ?_) (fun c_99 => ?_)
          · refine r_aload_n (pc := 109) 2 dX10_bake_109 rfl rfl ?_
            refine r_callV (pc := 110) (As := []) (S := []) dX10_bake_110 cv_X10_93 hX.k rfl (Nat.le_of_ble_eq_true rfl) (x_drop l z _ hX) (Nat.zero_le _) (Nat.zero_le _) (fun r_110 g_110 f_110 q_110 => ?_)
            obtain ⟨rfl, rfl, rfl⟩ := q_110
            refine r_aload_n (pc := 113) 2 dX10_bake_113 rfl rfl ?_
            refine r_iload_n (pc := 114) 0 dX10_bake_114 rfl rfl ?_
            refine r_callV (pc := 115) (As := [(.int (iI (alK K n (fun i => i) n)))]) (S := []) dX10_bake_115 cv_X10_100 hX.k rfl (Nat.le_of_ble_eq_true rfl) (x_accept l z _ _ hX) (Nat.zero_le _) (Nat.zero_le _) (fun r_115 g_115 f_115 q_115 => ?_)
            obtain ⟨rfl, rfl, rfl⟩ := q_115
            exact r_iret (pc := 118) dX10_bake_118 rfl rfl ⟨rfl, _, hbf0, Or.inr (Or.inr (Or.inr ⟨by omega, hwy, by rw [hod]; exact hfit, by rw [hod], f_94, fun q q1 q2 q3 => hg1 q q1 q2 q3, by rw [hod]; exact hBg, rfl⟩))⟩
          · exfalso; omega
        · have hgq : ∀ q, q ≠ 163 → f_94 q = f_23 q := fun q hq => by
            by_cases h1 : q = 66
            · rw [h1]; exact hBg.1
            · by_cases h2 : q = 67
              · rw [h2]; exact hBg.2
              · exact hg1 q h1 h2 hq
          refine r_istore_n (pc := 97) (L2 := [(3, (.int (iI (-1)))), (2, (.ref 3)), (0, (.ref 64)), (1, (.int (iI (how))))]) dX10_bake_97 rfl (by decide) rfl ?_
          refine r_iload_n (pc := 98) 0 dX10_bake_98 rfl rfl ?_
          refine r_if_ge (pc := 99) (tgt := 109) dX10_bake_99 (by decide) (by omega) (fun c_99 => ?_) (fun c_99 => ?_)
          · exact absurd c_99 (by decide)
          · refine r_aload_n (pc := 102) 2 dX10_bake_102 rfl rfl ?_
            refine r_bipush (pc := 103) dX10_bake_103 (by decide) ?_
            refine r_callV (pc := 105) (As := [(.int (iI (-5)))]) (S := []) dX10_bake_105 cv_X10_85 hX.k rfl (Nat.le_of_ble_eq_true rfl) (x_refuse l z _ hX (by omega)) (Nat.zero_le _) (Nat.zero_le _) (fun r_105 g_105 f_105 q_105 => ?_)
            obtain ⟨rfl, rfl, rfl⟩ := q_105
            have hbf9 : BkF f f_94 K n := ⟨fun q q1 q2 q3 => by rw [show f_94 q = _ from hgq q (by omega)]; exact hbf0.1 q q1 q2 q3, hbf0.2.1.mv (fun q q1 q2 => hgq q (by omega)), hbf0.2.2.1.mv (fun q q1 q2 => hgq q (by omega)), hbf0.2.2.2.mv (fun q q1 q2 => hgq q (by omega))⟩
            exact r_iret (pc := 108) dX10_bake_108 rfl rfl ⟨rfl, f_94, hbf9, Or.inr (Or.inr (Or.inl ⟨by omega, hwy, by rw [hod]; exact hfit, rfl, rfl⟩))⟩
      · refine r_aload_n (pc := 34) 1 dX10_bake_34 rfl rfl ?_
        refine r_getR (pc := 35) (b := 111) dX10_bake_35 fl_X10_37 rfl hX.k hX.r5 ?_
        refine r_aload_n (pc := 38) 1 dX10_bake_38 rfl rfl ?_
        refine r_getR (pc := 39) (b := 65) dX10_bake_39 fl_X10_10 rfl hX.k hX.r0 ?_
        refine r_callV (pc := 42) (As := [(.ref 65)]) (S := []) dX10_bake_42 cv_X10_185 hX.o5.k rfl (Nat.le_of_ble_eq_true rfl) (x_layOutK (y := 111) (b := 65) (K := K) (n := n) l z (d + 1) hX.o5 hX.o0 hB1 hO hD0 hn (by omega) (by omega) hM0 hT1.1 hT1.2) (Nat.zero_le _) (Nat.zero_le _) (fun r_42 g_42 f_42 q_42 => ?_)
        obtain ⟨rfl, rfl, hy1, hy2, hy3, hy4, hy5⟩ := q_42
        have hfr2 : ∀ q, q < 111 ∨ 122 < q → f_42 q = f_23 q := fun q hq => hy1 q (by omega) (by omega) (by omega) (by omega) (by omega) (by omega) (by omega) (by omega) (by omega) (by omega)
        have hB2 : BK g f_42 65 K := hB1.mem (fun q hq => hfr2 q (by omega))
        refine r_iload_n (pc := 45) 2 dX10_bake_45 rfl rfl ?_
        refine r_iconst (pc := 46) dX10_bake_46 ?_
        refine r_icmp_ne (pc := 47) (tgt := 57) dX10_bake_47 (by decide) (by omega) (by omega) (fun c_47 => ?_) (fun c_47 => ?_)
        · refine r_aload_n (pc := 57) 1 dX10_bake_57 rfl rfl ?_
          refine r_callV (pc := 58) (As := []) (S := []) dX10_bake_58 cv_X10_204 hX.k rfl (Nat.le_of_ble_eq_true rfl) (x_searchFairest (K := K) (n := n) l z (d + 1) hX hB2 hO hD0 hM0 hn hy2 (hS1.mv (fun q h1 h2 => hfr2 q (by omega)))) (Nat.zero_le _) (Nat.zero_le _) (fun r_58 g_58 f_58 q_58 => ?_)
          obtain ⟨rfl, rfl, hs1, hs2, hs3⟩ := q_58
          have hB3 : BK g f_58 65 K := hB2.mem (fun q hq => hs1 q (by omega))
          have hDA3 : DA f_58 111 K n := hy3.mv (fun q q1 q2 => hs1 q (by omega))
          have hTd3 : TdK f_58 K n := ⟨Or.inr ⟨(congrFun (hs1 111 (by omega)) 9).trans hy4, hDA3⟩, Or.inr ⟨(congrFun (hs1 111 (by omega)) 10).trans hy5, (congrFun (hs1 111 (by omega)) 9).trans hy4, hDA3, DYo.mv hy2 (fun q q1 q2 => hs1 q (by omega))⟩⟩
          have hbf : BkF f f_58 K n := ⟨fun q q1 q2 q3 => (hs1 q (by omega)).trans ((hfr2 q q1).trans (hfr1 q q1)), hTd3, (hS0.mv (fun q q1 q2 => hfr2 q (by omega))).mv (fun q q1 q2 => hs1 q (by omega)), Or.inr ⟨hs2, hs3⟩⟩
          refine r_astore_n (pc := 61) (L2 := [(3, (.ref 140)), (2, (.ref 3)), (0, (.ref 64)), (1, (.int (iI (how))))]) dX10_bake_61 rfl (by decide) rfl ?_
          refine r_aload_n (pc := 62) 0 dX10_bake_62 rfl rfl ?_
          refine r_getIv (pc := 63) (x := ((sWy K n 1 : Nat) : Int)) dX10_bake_63 fl_X10_195 rfl hX.o8.k (hs3.2.1) ?_
          refine r_if_ne (pc := 66) (tgt := 76) dX10_bake_66 (by decide) (by have h0 := sWy_r K n 0 hn8; have h1 := sWy_r K n 1 hn8; omega) (fun c_66 => ?_) (fun c_66 => ?_)
          · refine r_aload_n (pc := 76) 0 dX10_bake_76 rfl rfl ?_
            refine r_getR (pc := 77) (b := 144) dX10_bake_77 fl_X10_271 rfl hX.o8.k hX.o8.r3 ?_
            refine r_astore_n (pc := 80) (L2 := [(2, (.ref 144)), (3, (.ref 140)), (0, (.ref 64)), (1, (.int (iI (how))))]) dX10_bake_80 rfl (by decide) rfl ?_
            refine r_aload_n (pc := 81) 2 dX10_bake_81 rfl rfl ?_
            refine r_getR (pc := 82) (b := 65) dX10_bake_82 fl_X10_10 rfl hX.k hX.r0 ?_
            refine r_aload_n (pc := 85) 2 dX10_bake_85 rfl rfl ?_
            refine r_getR (pc := 86) (b := 111) dX10_bake_86 fl_X10_37 rfl hX.k hX.r5 ?_
            refine r_aload_n (pc := 89) 0 dX10_bake_89 rfl rfl ?_
            refine r_aload_n (pc := 90) 2 dX10_bake_90 rfl rfl ?_
            refine r_getR (pc := 91) (b := 163) dX10_bake_91 fl_X10_78 rfl hX.k hX.r14 ?_
            refine r_callV (pc := 94) (As := [(.ref 111), (.ref 144), (.ref 163)]) (S := []) dX10_bake_94 cv_X10_274 hX.o0.k rfl (Nat.le_of_ble_eq_true rfl) (x_goBy (y := 111) (b := 65) (o := 144) (K := K) (n := n) (od := sRw K n 1) l z (d + 3) hX.o5 hX.o0 hB3 hO hD0 hM0 hn (by omega) (by omega) hDA3 (okO_sRw (by omega)) hX.a14 hX.o8.a3 (by omega) (hs3.2.2 (by omega))) (Nat.zero_le _) (Nat.zero_le _) (fun r_94 g_94 f_94 q_94 => ?_)
            obtain ⟨rfl, hg1, hg2, hg3⟩ := q_94
            have hod : bkO K n how = (sRw K n 1) := by rw [bkO_s (show ¬ how = 0 by omega), show how.toNat - 1 = 1 by omega]
            have hwy : 0 < how → 0 < sWy K n (how.toNat - 1) := fun _ => by rw [show how.toNat - 1 = 1 by omega]; omega
            have hbf0 := hbf
            have hal := alK_r (od := (sRw K n 1)) hO hn8 (okO_sRw (by omega)) n (Nat.le_refl _)
            rcases hg3 with ⟨hfit, rfl, hBg⟩ | ⟨hfit, rfl, hBg⟩
            · refine r_istore_n (pc := 97) (L2 := [(3, (.int (iI (alK K n (sRw K n 1) n)))), (2, (.ref 144)), (0, (.ref 64)), (1, (.int (iI (how))))]) dX10_bake_97 rfl (by decide) rfl ?_
              refine r_iload_n (pc := 98) 0 dX10_bake_98 rfl rfl ?_
              refine r_if_ge (pc := 99) (tgt := 109) dX10_bake_99 (by decide) (by omega) (fun c_99 => ?_) (fun c_99 => ?_)
              · refine r_aload_n (pc := 109) 2 dX10_bake_109 rfl rfl ?_
                refine r_callV (pc := 110) (As := []) (S := []) dX10_bake_110 cv_X10_93 hX.k rfl (Nat.le_of_ble_eq_true rfl) (x_drop l z _ hX) (Nat.zero_le _) (Nat.zero_le _) (fun r_110 g_110 f_110 q_110 => ?_)
                obtain ⟨rfl, rfl, rfl⟩ := q_110
                refine r_aload_n (pc := 113) 2 dX10_bake_113 rfl rfl ?_
                refine r_iload_n (pc := 114) 0 dX10_bake_114 rfl rfl ?_
                refine r_callV (pc := 115) (As := [(.int (iI (alK K n (sRw K n 1) n)))]) (S := []) dX10_bake_115 cv_X10_100 hX.k rfl (Nat.le_of_ble_eq_true rfl) (x_accept l z _ _ hX) (Nat.zero_le _) (Nat.zero_le _) (fun r_115 g_115 f_115 q_115 => ?_)
                obtain ⟨rfl, rfl, rfl⟩ := q_115
                exact r_iret (pc := 118) dX10_bake_118 rfl rfl ⟨rfl, _, hbf0, Or.inr (Or.inr (Or.inr ⟨by omega, hwy, by rw [hod]; exact hfit, by rw [hod], f_94, fun q q1 q2 q3 => hg1 q q1 q2 q3, by rw [hod]; exact hBg, rfl⟩))⟩
              · exfalso; omega
            · have hgq : ∀ q, q ≠ 163 → f_94 q = f_58 q := fun q hq => by
                by_cases h1 : q = 66
                · rw [h1]; exact hBg.1
                · by_cases h2 : q = 67
                  · rw [h2]; exact hBg.2
                  · exact hg1 q h1 h2 hq
              refine r_istore_n (pc := 97) (L2 := [(3, (.int (iI (-1)))), (2, (.ref 144)), (0, (.ref 64)), (1, (.int (iI (how))))]) dX10_bake_97 rfl (by decide) rfl ?_
              refine r_iload_n (pc := 98) 0 dX10_bake_98 rfl rfl ?_
              refine r_if_ge (pc := 99) (tgt := 109) dX10_bake_99 (by decide) (by omega) (fun c_99 => ?_) (fun c_99 => ?_)
              · exact absurd c_99 (by decide)
              · refine r_aload_n (pc := 102) 2 dX10_bake_102 rfl rfl ?_
                refine r_bipush (pc := 103) dX10_bake_103 (by decide) ?_
                refine r_callV (pc := 105) (As := [(.int (iI (-5)))]) (S := []) dX10_bake_105 cv_X10_85 hX.k rfl (Nat.le_of_ble_eq_true rfl) (x_refuse l z _ hX (by omega)) (Nat.zero_le _) (Nat.zero_le _) (fun r_105 g_105 f_105 q_105 => ?_)
                obtain ⟨rfl, rfl, rfl⟩ := q_105
                have hbf9 : BkF f f_94 K n := ⟨fun q q1 q2 q3 => by rw [show f_94 q = _ from hgq q (by omega)]; exact hbf0.1 q q1 q2 q3, hbf0.2.1.mv (fun q q1 q2 => hgq q (by omega)), hbf0.2.2.1.mv (fun q q1 q2 => hgq q (by omega)), hbf0.2.2.2.mv (fun q q1 q2 => hgq q (by omega))⟩
                exact r_iret (pc := 108) dX10_bake_108 rfl rfl ⟨rfl, f_94, hbf9, Or.inr (Or.inr (Or.inl ⟨by omega, hwy, by rw [hod]; exact hfit, rfl, rfl⟩))⟩
          · refine r_aload_n (pc := 69) 2 dX10_bake_69 rfl rfl ?_
            refine r_bipush (pc := 70) dX10_bake_70 (by decide) ?_
            refine r_callV (pc := 72) (As := [(.int (iI (-3)))]) (S := []) dX10_bake_72 cv_X10_85 hX.k rfl (Nat.le_of_ble_eq_true rfl) (x_refuse l z _ hX (by omega)) (Nat.zero_le _) (Nat.zero_le _) (fun r_72 g_72 f_72 q_72 => ?_)
            obtain ⟨rfl, rfl, rfl⟩ := q_72
            exact r_iret (pc := 75) dX10_bake_75 rfl rfl ⟨rfl, _, hbf, Or.inr (Or.inl ⟨by omega, by rw [show how.toNat - 1 = 1 by omega]; omega, rfl, rfl⟩)⟩
        · refine r_aload_n (pc := 50) 1 dX10_bake_50 rfl rfl ?_
          refine r_callV (pc := 51) (As := []) (S := []) dX10_bake_51 cv_X10_191 hX.k rfl (Nat.le_of_ble_eq_true rfl) (x_searchBest (K := K) (n := n) l z (d + 1) hX hB2 hO hD0 hM0 hn hy2 (hS0.mv (fun q h1 h2 => hfr2 q (by omega)))) (Nat.zero_le _) (Nat.zero_le _) (fun r_51 g_51 f_51 q_51 => ?_)
          obtain ⟨rfl, rfl, hs1, hs2, hs3⟩ := q_51
          have hB3 : BK g f_51 65 K := hB2.mem (fun q hq => hs1 q (by omega))
          have hDA3 : DA f_51 111 K n := hy3.mv (fun q q1 q2 => hs1 q (by omega))
          have hTd3 : TdK f_51 K n := ⟨Or.inr ⟨(congrFun (hs1 111 (by omega)) 9).trans hy4, hDA3⟩, Or.inr ⟨(congrFun (hs1 111 (by omega)) 10).trans hy5, (congrFun (hs1 111 (by omega)) 9).trans hy4, hDA3, DYo.mv hy2 (fun q q1 q2 => hs1 q (by omega))⟩⟩
          have hbf : BkF f f_51 K n := ⟨fun q q1 q2 q3 => (hs1 q (by omega)).trans ((hfr2 q q1).trans (hfr1 q q1)), hTd3, Or.inr ⟨hs2, hs3⟩, (hS1.mv (fun q q1 q2 => hfr2 q (by omega))).mv (fun q q1 q2 => hs1 q (by omega))⟩
          refine r_goto (pc := 54) (tgt := 61) dX10_bake_54 (by decide) ?_
          refine r_astore_n (pc := 61) (L2 := [(3, (.ref 135)), (2, (.ref 3)), (0, (.ref 64)), (1, (.int (iI (how))))]) dX10_bake_61 rfl (by decide) rfl ?_
          refine r_aload_n (pc := 62) 0 dX10_bake_62 rfl rfl ?_
          refine r_getIv (pc := 63) (x := ((sWy K n 0 : Nat) : Int)) dX10_bake_63 fl_X10_195 rfl hX.o7.k (hs3.2.1) ?_
          refine r_if_ne (pc := 66) (tgt := 76) dX10_bake_66 (by decide) (by have h0 := sWy_r K n 0 hn8; have h1 := sWy_r K n 1 hn8; omega) (fun c_66 => ?_) (fun c_66 => ?_)
          · refine r_aload_n (pc := 76) 0 dX10_bake_76 rfl rfl ?_
            refine r_getR (pc := 77) (b := 139) dX10_bake_77 fl_X10_271 rfl hX.o7.k hX.o7.r3 ?_
            refine r_astore_n (pc := 80) (L2 := [(2, (.ref 139)), (3, (.ref 135)), (0, (.ref 64)), (1, (.int (iI (how))))]) dX10_bake_80 rfl (by decide) rfl ?_
            refine r_aload_n (pc := 81) 2 dX10_bake_81 rfl rfl ?_
            refine r_getR (pc := 82) (b := 65) dX10_bake_82 fl_X10_10 rfl hX.k hX.r0 ?_
            refine r_aload_n (pc := 85) 2 dX10_bake_85 rfl rfl ?_
            refine r_getR (pc := 86) (b := 111) dX10_bake_86 fl_X10_37 rfl hX.k hX.r5 ?_
            refine r_aload_n (pc := 89) 0 dX10_bake_89 rfl rfl ?_
            refine r_aload_n (pc := 90) 2 dX10_bake_90 rfl rfl ?_
            refine r_getR (pc := 91) (b := 163) dX10_bake_91 fl_X10_78 rfl hX.k hX.r14 ?_
            refine r_callV (pc := 94) (As := [(.ref 111), (.ref 139), (.ref 163)]) (S := []) dX10_bake_94 cv_X10_274 hX.o0.k rfl (Nat.le_of_ble_eq_true rfl) (x_goBy (y := 111) (b := 65) (o := 139) (K := K) (n := n) (od := sRw K n 0) l z (d + 3) hX.o5 hX.o0 hB3 hO hD0 hM0 hn (by omega) (by omega) hDA3 (okO_sRw (by omega)) hX.a14 hX.o7.a3 (by omega) (hs3.2.2 (by omega))) (Nat.zero_le _) (Nat.zero_le _) (fun r_94 g_94 f_94 q_94 => ?_)
            obtain ⟨rfl, hg1, hg2, hg3⟩ := q_94
            have hod : bkO K n how = (sRw K n 0) := by rw [bkO_s (show ¬ how = 0 by omega), show how.toNat - 1 = 0 by omega]
            have hwy : 0 < how → 0 < sWy K n (how.toNat - 1) := fun _ => by rw [show how.toNat - 1 = 0 by omega]; omega
            have hbf0 := hbf
            have hal := alK_r (od := (sRw K n 0)) hO hn8 (okO_sRw (by omega)) n (Nat.le_refl _)
            rcases hg3 with ⟨hfit, rfl, hBg⟩ | ⟨hfit, rfl, hBg⟩
            · refine r_istore_n (pc := 97) (L2 := [(3, (.int (iI (alK K n (sRw K n 0) n)))), (2, (.ref 139)), (0, (.ref 64)), (1, (.int (iI (how))))]) dX10_bake_97 rfl (by decide) rfl ?_
              refine r_iload_n (pc := 98) 0 dX10_bake_98 rfl rfl ?_
              refine r_if_ge (pc := 99) (tgt := 109) dX10_bake_99 (by decide) (by omega) (fun c_99 => ?_) (fun c_99 => ?_)
              · refine r_aload_n (pc := 109) 2 dX10_bake_109 rfl rfl ?_
                refine r_callV (pc := 110) (As := []) (S := []) dX10_bake_110 cv_X10_93 hX.k rfl (Nat.le_of_ble_eq_true rfl) (x_drop l z _ hX) (Nat.zero_le _) (Nat.zero_le _) (fun r_110 g_110 f_110 q_110 => ?_)
                obtain ⟨rfl, rfl, rfl⟩ := q_110
                refine r_aload_n (pc := 113) 2 dX10_bake_113 rfl rfl ?_
                refine r_iload_n (pc := 114) 0 dX10_bake_114 rfl rfl ?_
                refine r_callV (pc := 115) (As := [(.int (iI (alK K n (sRw K n 0) n)))]) (S := []) dX10_bake_115 cv_X10_100 hX.k rfl (Nat.le_of_ble_eq_true rfl) (x_accept l z _ _ hX) (Nat.zero_le _) (Nat.zero_le _) (fun r_115 g_115 f_115 q_115 => ?_)
                obtain ⟨rfl, rfl, rfl⟩ := q_115
                exact r_iret (pc := 118) dX10_bake_118 rfl rfl ⟨rfl, _, hbf0, Or.inr (Or.inr (Or.inr ⟨by omega, hwy, by rw [hod]; exact hfit, by rw [hod], f_94, fun q q1 q2 q3 => hg1 q q1 q2 q3, by rw [hod]; exact hBg, rfl⟩))⟩
              · exfalso; omega
            · have hgq : ∀ q, q ≠ 163 → f_94 q = f_51 q := fun q hq => by
                by_cases h1 : q = 66
                · rw [h1]; exact hBg.1
                · by_cases h2 : q = 67
                  · rw [h2]; exact hBg.2
                  · exact hg1 q h1 h2 hq
              refine r_istore_n (pc := 97) (L2 := [(3, (.int (iI (-1)))), (2, (.ref 139)), (0, (.ref 64)), (1, (.int (iI (how))))]) dX10_bake_97 rfl (by decide) rfl ?_
              refine r_iload_n (pc := 98) 0 dX10_bake_98 rfl rfl ?_
              refine r_if_ge (pc := 99) (tgt := 109) dX10_bake_99 (by decide) (by omega) (fun c_99 => ?_) (fun c_99 => ?_)
              · exact absurd c_99 (by decide)
              · refine r_aload_n (pc := 102) 2 dX10_bake_102 rfl rfl ?_
                refine r_bipush (pc := 103) dX10_bake_103 (by decide) ?_
                refine r_callV (pc := 105) (As := [(.int (iI (-5)))]) (S := []) dX10_bake_105 cv_X10_85 hX.k rfl (Nat.le_of_ble_eq_true rfl) (x_refuse l z _ hX (by omega)) (Nat.zero_le _) (Nat.zero_le _) (fun r_105 g_105 f_105 q_105 => ?_)
                obtain ⟨rfl, rfl, rfl⟩ := q_105
                have hbf9 : BkF f f_94 K n := ⟨fun q q1 q2 q3 => by rw [show f_94 q = _ from hgq q (by omega)]; exact hbf0.1 q q1 q2 q3, hbf0.2.1.mv (fun q q1 q2 => hgq q (by omega)), hbf0.2.2.1.mv (fun q q1 q2 => hgq q (by omega)), hbf0.2.2.2.mv (fun q q1 q2 => hgq q (by omega))⟩
                exact r_iret (pc := 108) dX10_bake_108 rfl rfl ⟨rfl, f_94, hbf9, Or.inr (Or.inr (Or.inl ⟨by omega, hwy, by rw [hod]; exact hfit, rfl, rfl⟩))⟩
          · refine r_aload_n (pc := 69) 2 dX10_bake_69 rfl rfl ?_
            refine r_bipush (pc := 70) dX10_bake_70 (by decide) ?_
            refine r_callV (pc := 72) (As := [(.int (iI (-3)))]) (S := []) dX10_bake_72 cv_X10_85 hX.k rfl (Nat.le_of_ble_eq_true rfl) (x_refuse l z _ hX (by omega)) (Nat.zero_le _) (Nat.zero_le _) (fun r_72 g_72 f_72 q_72 => ?_)
            obtain ⟨rfl, rfl, rfl⟩ := q_72
            exact r_iret (pc := 75) dX10_bake_75 rfl rfl ⟨rfl, _, hbf, Or.inr (Or.inl ⟨by omega, by rw [show how.toNat - 1 = 0 by omega]; omega, rfl, rfl⟩)⟩
    · refine r_aload_n (pc := 9) 0 dX10_bake_9 rfl rfl ?_
      refine r_iconst (pc := 10) dX10_bake_10 ?_
      refine r_callV (pc := 11) (As := [(.int (iI (-1)))]) (S := []) dX10_bake_11 cv_X10_85 hX.k rfl (Nat.le_of_ble_eq_true rfl) (x_refuse l z _ hX (by omega)) (Nat.zero_le _) (Nat.zero_le _) (fun r_11 g_11 f_11 q_11 => ?_)
      obtain ⟨rfl, rfl, rfl⟩ := q_11
      exact r_iret (pc := 14) dX10_bake_14 rfl rfl ⟨rfl, f, ⟨fun _ _ _ _ => rfl, hT, hS, hSf⟩, Or.inl ⟨by omega, rfl, rfl⟩⟩

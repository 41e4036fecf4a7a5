set_option maxRecDepth 100000 in
set_option maxHeartbeats 4000000 in
theorem x_queues (l : Launch) (z : Zv) (d : Nat) {g : Gm} {f : Fm} {n : Nat} {K : Nat → Int} (hX : XL g) (hB : BK g f 65 K) (hO : KO K 9999 999999) (hn : K 77 = ((n : Nat) : Int)) (hTX : ∀ i p, grm g 78 i = some p → isK g p 3) {sd m : Int} (h_sd : -2147483648 ≤ sd ∧ sd ≤ 2147483647) (h_m : -2147483648 ≤ m ∧ m ≤ 2147483647) : PM l z (d + 6) mX10_queues [.ref 64, .int (iI sd), .int (iI m)] g f 0 0 (fun r g' f' => QuX g f K n sd m r g' f') := by
  have hn8 : n ≤ 8 := by have := hO.n; omega
  refine PM.of (by decide +kernel) (Nat.le_of_ble_eq_true rfl) ?_
  refine r_iload_n (pc := 0) 1 dX10_queues_0 rfl rfl ?_
  refine r_if_lt (pc := 1) (tgt := 21) dX10_queues_1 (by decide) (by omega) (fun c_1 => ?_) (fun c_1 => ?_)
  · refine r_aload_n (pc := 21) 0 dX10_queues_21 rfl rfl ?_
    refine r_iconst (pc := 22) dX10_queues_22 ?_
    refine r_callV (pc := 23) (As := [(.int (iI (-1)))]) (S := []) dX10_queues_23 cv_X10_85 hX.k rfl (Nat.le_of_ble_eq_true rfl) (x_refuse l z _ hX (by omega)) (Nat.zero_le _) (Nat.zero_le _) (fun r_23 g_23 f_23 q_23 => ?_)
    obtain ⟨rfl, rfl, rfl⟩ := q_23
    exact r_iret (pc := 26) dX10_queues_26 rfl rfl (Or.inl ⟨by omega, rfl, rfl, rfl⟩)
  · refine r_iload_n (pc := 4) 1 dX10_queues_4 rfl rfl ?_
    refine r_ldc (pc := 5) (x := 1000000) dX10_queues_5 kc_X10_172 (by decide) ?_
    refine r_icmp_gt (pc := 7) (tgt := 21) dX10_queues_7 (by decide) (by omega) (by omega) (fun c_7 => ?_) (fun c_7 => ?_)
    · refine r_aload_n (pc := 21) 0 dX10_queues_21 rfl rfl ?_
      refine r_iconst (pc := 22) dX10_queues_22 ?_
      refine r_callV (pc := 23) (As := [(.int (iI (-1)))]) (S := []) dX10_queues_23 cv_X10_85 hX.k rfl (Nat.le_of_ble_eq_true rfl) (x_refuse l z _ hX (by omega)) (Nat.zero_le _) (Nat.zero_le _) (fun r_23 g_23 f_23 q_23 => ?_)
      obtain ⟨rfl, rfl, rfl⟩ := q_23
      exact r_iret (pc := 26) dX10_queues_26 rfl rfl (Or.inl ⟨by omega, rfl, rfl, rfl⟩)
    · refine r_iload_n (pc := 10) 2 dX10_queues_10 rfl rfl ?_
      refine r_iconst (pc := 11) dX10_queues_11 ?_
      refine r_icmp_lt (pc := 12) (tgt := 21) dX10_queues_12 (by decide) (by omega) (by omega) (fun c_12 => ?_) (fun c_12 => ?_)
      · refine r_aload_n (pc := 21) 0 dX10_queues_21 rfl rfl ?_
        refine r_iconst (pc := 22) dX10_queues_22 ?_
        refine r_callV (pc := 23) (As := [(.int (iI (-1)))]) (S := []) dX10_queues_23 cv_X10_85 hX.k rfl (Nat.le_of_ble_eq_true rfl) (x_refuse l z _ hX (by omega)) (Nat.zero_le _) (Nat.zero_le _) (fun r_23 g_23 f_23 q_23 => ?_)
        obtain ⟨rfl, rfl, rfl⟩ := q_23
        exact r_iret (pc := 26) dX10_queues_26 rfl rfl (Or.inl ⟨by omega, rfl, rfl, rfl⟩)
      · refine r_iload_n (pc := 15) 2 dX10_queues_15 rfl rfl ?_
        refine r_bipush (pc := 16) dX10_queues_16 (by decide) ?_
        refine r_icmp_le (pc := 18) (tgt := 27) dX10_queues_18 (by decide) (by omega) (by omega) (fun c_18 => ?_) (fun c_18 => ?_)
        · refine r_aload_n (pc := 27) 0 dX10_queues_27 rfl rfl ?_
          refine r_getR (pc := 28) (b := 75) dX10_queues_28 fl_X10_16 rfl hX.k hX.r1 ?_
          refine r_aload_n (pc := 31) 0 dX10_queues_31 rfl rfl ?_
          refine r_getR (pc := 32) (b := 65) dX10_queues_32 fl_X10_10 rfl hX.k hX.r0 ?_
          refine r_callV (pc := 35) (As := [(.ref 65)]) (S := []) dX10_queues_35 cv_X10_214 hX.o1.k rfl (Nat.le_of_ble_eq_true rfl) (x_copyFrom (b := 75) (q := 65) l z _ hX.o1 hX.o0 (Or.inl (by omega)) hB.lk) (Nat.zero_le _) (Nat.zero_le _) (fun r_35 g_35 f_35 q_35 => ?_)
          obtain ⟨rfl, rfl, rfl⟩ := q_35
          have hX1 : XL (cpR g 68 78 6) := hX.to (cpR_sh _ _ _ _) (cpR_hr hX.o1.a2.1)
          have hB1 : BK (cpR g 68 78 6) (cpB f 75 65) 75 K := hB.cp hO (Or.inl (by omega)) (by omega) hTX
          refine r_aload_n (pc := 38) 0 dX10_queues_38 rfl rfl ?_
          refine r_getR (pc := 39) (b := 157) dX10_queues_39 fl_X10_67 rfl hX.k hX.r11 ?_
          refine r_iload_n (pc := 42) 1 dX10_queues_42 rfl rfl ?_
          refine r_callV (pc := 43) (As := [(.int (iI (sd)))]) (S := []) dX10_queues_43 cv_X10_278 hX.o11.k rfl (Nat.le_of_ble_eq_true rfl) (x_begin (a := 157) l z _ hX1.o11) (Nat.zero_le _) (Nat.zero_le _) (fun r_43 g_43 f_43 q_43 => ?_)
          obtain ⟨rfl, rfl, hb1, hb2, hb3, hb4⟩ := q_43
          refine r_iconst (pc := 46) dX10_queues_46 ?_
          refine r_istore_n (pc := 47) (L2 := [(3, (.int (iI (0)))), (0, (.ref 64)), (1, (.int (iI (sd)))), (2, (.int (iI (m))))]) dX10_queues_47 rfl (by decide) rfl ?_
          have hsd0 : sd.toNat ≤ 1000002 := by omega
          have hmm : 1 ≤ m ∧ m ≤ 20 := by omega
          have hss : 0 ≤ sd ∧ sd ≤ 1000000 := by omega
          have loop : ∀ q i : Nat, q = m.toNat - i → i ≤ m.toNat → ∀ f1 : Fm, (∀ j, j < i → fitP (KQ K n sd.toNat j).1 n (odQ K n sd.toNat j)) → BK (cpR g 68 78 6) f1 75 (KQ K n sd.toNat i).1 → f1 157 4 = (((KQ K n sd.toNat i).2 : Nat) : Int) → (∀ c, c < n → f1 160 c = gtQ K n sd.toNat c i) → (0 < i → ∀ k, k < n → f1 162 k = ((odQ K n sd.toNat (i - 1) k : Nat) : Int)) → QuF f f1 → (∀ k, k ≠ 4 → f1 157 k = f 157 k) → f1 158 = f 158 → f1 159 = f 159 → PW l z (d + 6) mX10_queues 0 0 (fun r g' f' => QuX g f K n sd m r g' f') 48 [(3, (.int (iI (((i : Nat) : Int))))), (0, (.ref 64)), (1, (.int (iI (sd)))), (2, (.int (iI (m))))] [] (cpR g 68 78 6) f1 0 0 := by
            intro q
            induction q using Nat.strongRecOn with
            | _ q ih =>
              intro i hq hi f1 hfj hBi hsd hgt hrow hqf h57 h58 h59
              have hKi := KQ_ok (s0 := sd.toNat) hO hn i hfj
              refine r_iload_n (pc := 48) 0 dX10_queues_48 rfl rfl ?_
              refine r_iload_n (pc := 49) 3 dX10_queues_49 rfl rfl ?_
              refine r_icmp_ge (pc := 50) (tgt := 150) dX10_queues_50 (by decide) (by omega) (by omega) (fun c_50 => ?_) (fun c_50 => ?_)
              · refine r_aload_n (pc := 150) 1 dX10_queues_150 rfl rfl ?_
                refine r_aload_n (pc := 151) 1 dX10_queues_151 rfl rfl ?_
                refine r_getR (pc := 152) (b := 157) dX10_queues_152 fl_X10_67 rfl hX.k hX.r11 ?_
                refine r_aload_n (pc := 155) 1 dX10_queues_155 rfl rfl ?_
                refine r_getR (pc := 156) (b := 162) dX10_queues_156 fl_X10_75 rfl hX.k hX.r13 ?_
                refine r_aload_n (pc := 159) 1 dX10_queues_159 rfl rfl ?_
                refine r_getR (pc := 160) (b := 75) dX10_queues_160 fl_X10_16 rfl hX.k hX.r1 ?_
                refine r_getIv (pc := 163) (x := ((n : Nat) : Int)) dX10_queues_163 fl_X10_89 rfl hX.o1.k (hBi.n.trans hKi.2) ?_
                refine r_callV (pc := 166) (As := [(.ref 162), (.int (iI (((n : Nat) : Int))))]) (S := [(.ref 64)]) dX10_queues_166 cv_X10_293 hX.o11.k rfl (Nat.le_of_ble_eq_true rfl) (x_keep (a := 157) (q := 162) (n := n) (P := fun c => gtQ K n sd.toNat c i) (od := odQ K n sd.toNat (i - 1)) l z _ hX1.o11 hX1.a13 (by omega) hn8 (okO_q hn8) hgt (hrow (by omega))) (Nat.zero_le _) (Nat.zero_le _) (fun r_166 g_166 f_166 q_166 => ?_)
                obtain ⟨rfl, rfl, hk1, hk2, hk3, hk4⟩ := q_166
                refine r_callV (pc := 169) (As := [(.int (iI (sumN n (fun c => gtQ K n sd.toNat c i))))]) (S := []) dX10_queues_169 cv_X10_100 hX.k rfl (Nat.le_of_ble_eq_true rfl) (x_accept l z _ _ hX1) (Nat.zero_le _) (Nat.zero_le _) (fun r_169 g_169 f_169 q_169 => ?_)
                obtain ⟨rfl, rfl, rfl⟩ := q_169
                have hie : i = m.toNat := by omega
                exact r_iret (pc := 172) dX10_queues_172 rfl rfl (Or.inr ⟨⟨hss, hmm⟩, rfl, Or.inr ⟨by rw [← hie]; exact hfj, by rw [← hie], f_166, fun q hq => (hk1 q (by omega) (by omega) (by omega)).trans (hqf q hq), hk2, fun c hc => by rw [← hie]; exact hk3 c hc, fun k hk => by rw [← hie]; exact hk4 k hk, rfl⟩⟩)
              · refine r_aload_n (pc := 53) 1 dX10_queues_53 rfl rfl ?_
                refine r_getR (pc := 54) (b := 123) dX10_queues_54 fl_X10_41 rfl hX.k hX.r6 ?_
                refine r_callV (pc := 57) (As := []) (S := []) dX10_queues_57 cv_X10_279 hX.o6.k rfl (Nat.le_of_ble_eq_true rfl) (x_daydrop l z _ hX1.o6) (Nat.zero_le _) (Nat.zero_le _) (fun r_57 g_57 f_57 q_57 => ?_)
                obtain ⟨rfl, rfl, rfl⟩ := q_57
                have hBd : BK (cpR g 68 78 6) (stF (stF f1 123 9 0) 123 10 0) 75 (KQ K n sd.toNat i).1 := hBi.mem (fun q hq => by rw [stF_n _ _ _ (by omega), stF_n _ _ _ (by omega)])
                refine r_aload_n (pc := 60) 1 dX10_queues_60 rfl rfl ?_
                refine r_getR (pc := 61) (b := 123) dX10_queues_61 fl_X10_41 rfl hX.k hX.r6 ?_
                refine r_aload_n (pc := 64) 1 dX10_queues_64 rfl rfl ?_
                refine r_getR (pc := 65) (b := 75) dX10_queues_65 fl_X10_16 rfl hX.k hX.r1 ?_
                refine r_callV (pc := 68) (As := [(.ref 75)]) (S := []) dX10_queues_68 cv_X10_115 hX.o6.k rfl (Nat.le_of_ble_eq_true rfl) (x_learnWants (y := 123) (b := 75) (K := (KQ K n sd.toNat i).1) (n := n) l z (d + 1) hX1.o6 hX1.o1 hBd hKi.1 (by decide) hKi.2 (by omega) (by omega) (by rw [stF_i _ _ _ (by decide), stF_s])) (Nat.zero_le _) (Nat.zero_le _) (fun r_68 g_68 f_68 q_68 => ?_)
                obtain ⟨rfl, rfl, hI1, hq9⟩ := q_68
                have hK1 : BK (cpR g 68 78 6) f_68 75 (KQ K n sd.toNat i).1 := hBd.mem (fun q hq => hI1.1 q (by omega) (by omega) (by omega) (by omega) (by omega))
                refine r_aload_n (pc := 71) 1 dX10_queues_71 rfl rfl ?_
                refine r_getR (pc := 72) (b := 123) dX10_queues_72 fl_X10_41 rfl hX.k hX.r6 ?_
                refine r_aload_n (pc := 75) 1 dX10_queues_75 rfl rfl ?_
                refine r_getR (pc := 76) (b := 75) dX10_queues_76 fl_X10_16 rfl hX.k hX.r1 ?_
                refine r_callV (pc := 79) (As := [(.ref 75)]) (S := []) dX10_queues_79 cv_X10_282 hX.o6.k rfl (Nat.le_of_ble_eq_true rfl) (x_learnWaits (y := 123) (b := 75) (K := (KQ K n sd.toNat i).1) (n := n) l z (d + 1) hX1.o6 hX1.o1 hK1 hKi.1 (by decide) hKi.2 (by omega) (by omega)) (Nat.zero_le _) (Nat.zero_le _) (fun r_79 g_79 f_79 q_79 => ?_)
                obtain ⟨rfl, rfl, hI2⟩ := q_79
                have hfA : ∀ q, q < 123 ∨ 129 < q → f_79 q = f1 q := fun q hq => by rw [hI2.1 q (by omega) (by omega) (by omega), hI1.1 q (by omega) (by omega) (by omega) (by omega) (by omega), stF_n _ _ _ (by omega), stF_n _ _ _ (by omega)]
                have hDAi : DA f_79 123 (KQ K n sd.toNat i).1 n := ⟨by rw [hI2.1 123 (by omega) (by omega) (by omega)]; exact hI1.2.2.1, by rw [hI2.1 123 (by omega) (by omega) (by omega)]; exact hI1.2.2.2.1, fun c hc => by rw [hI2.1 (123 + 4) (by omega) (by omega) (by omega), hI2.1 (123 + 5) (by omega) (by omega) (by omega)]; exact hI1.2.2.2.2 c hc⟩
                refine r_aload_n (pc := 82) 1 dX10_queues_82 rfl rfl ?_
                refine r_getR (pc := 83) (b := 157) dX10_queues_83 fl_X10_67 rfl hX.k hX.r11 ?_
                refine r_aload_n (pc := 86) 1 dX10_queues_86 rfl rfl ?_
                refine r_getR (pc := 87) (b := 123) dX10_queues_87 fl_X10_41 rfl hX.k hX.r6 ?_
                refine r_aload_n (pc := 90) 1 dX10_queues_90 rfl rfl ?_
                refine r_getR (pc := 91) (b := 162) dX10_queues_91 fl_X10_75 rfl hX.k hX.r13 ?_
                refine r_callV (pc := 94) (As := [(.ref 123), (.ref 162)]) (S := []) dX10_queues_94 cv_X10_285 hX.o11.k rfl (Nat.le_of_ble_eq_true rfl) (x_drawRow (a := 157) (y := 123) (q := 162) (n := n) (s0 := (KQ K n sd.toNat i).2) (wt := (wtK (KQ K n sd.toNat i).1 ((KQ K n sd.toNat i).1 42) (hdK (KQ K n sd.toNat i).1) n)) l z (d + 3) hX1.o11 hX1.o6 hX1.a13 (by omega) (by omega) hn8 ⟨hDAi.1, fun c hc => ⟨hI2.2 c hc, wmk_lt _ n⟩⟩ (KQ_sd hsd0 i) (by rw [hfA 157 (by omega)]; exact hsd)) (Nat.zero_le _) (Nat.zero_le _) (fun r_94 g_94 f_94 q_94 => ?_)
                obtain ⟨rfl, rfl, hd1, hd2, hd3, hd4⟩ := q_94
                refine r_aload_n (pc := 97) 1 dX10_queues_97 rfl rfl ?_
                refine r_getR (pc := 98) (b := 75) dX10_queues_98 fl_X10_16 rfl hX.k hX.r1 ?_
                refine r_aload_n (pc := 101) 1 dX10_queues_101 rfl rfl ?_
                refine r_getR (pc := 102) (b := 123) dX10_queues_102 fl_X10_41 rfl hX.k hX.r6 ?_
                refine r_aload_n (pc := 105) 1 dX10_queues_105 rfl rfl ?_
                refine r_getR (pc := 106) (b := 162) dX10_queues_106 fl_X10_75 rfl hX.k hX.r13 ?_
                refine r_aload_n (pc := 109) 1 dX10_queues_109 rfl rfl ?_
                refine r_getR (pc := 110) (b := 163) dX10_queues_110 fl_X10_78 rfl hX.k hX.r14 ?_
                refine r_callV (pc := 113) (As := [(.ref 123), (.ref 162), (.ref 163)]) (S := []) dX10_queues_113 cv_X10_274 hX.o1.k rfl (Nat.le_of_ble_eq_true rfl) (x_goBy (y := 123) (b := 75) (o := 162) (K := (KQ K n sd.toNat i).1) (n := n) (od := (odQ K n sd.toNat i)) l z (d + 2) hX1.o6 hX1.o1 (hK1.mem (fun q hq => by rw [hd1 q (by omega) (by omega)]; exact hI2.1 q (by omega) (by omega) (by omega))) hKi.1 (by decide) (by decide) hKi.2 (by omega) (by omega) (hDAi.mv (fun q q1 q2 => hd1 q (by omega) (by omega))) (okO_q hn8) hX1.a14 hX1.a13 (by omega) hd4) (Nat.zero_le _) (Nat.zero_le _) (fun r_113 g_113 f_113 q_113 => ?_)
                obtain ⟨rfl, hg1, hg2, hg3⟩ := q_113
                have hal := alK_r (od := (odQ K n sd.toNat i)) hKi.1 hn8 (okO_q hn8) n (Nat.le_refl _)
                have hfB : ∀ q, q < 75 ∨ (84 < q ∧ q < 123) ∨ (134 < q ∧ q < 157) ∨ (157 < q ∧ q < 162) ∨ 163 < q → f_113 q = f1 q := fun q hq => by rw [hg1 q (by omega) (by omega) (by omega), hd1 q (by omega) (by omega)]; exact hfA q (by omega)
                have hf57 : ∀ k, k ≠ 4 → f_113 157 k = f1 157 k := fun k hk => by rw [hg1 157 (by omega) (by omega) (by omega), hd2 k hk, hfA 157 (by omega)]
                rcases hg3 with ⟨hfit, rfl, hBg⟩ | ⟨hfit, rfl, hBg⟩
                · refine r_if_ge (pc := 116) (tgt := 126) dX10_queues_116 (by decide) (by omega) (fun c_116 => ?_) (fun c_116 => ?_)
                  · refine r_aload_n (pc := 126) 1 dX10_queues_126 rfl rfl ?_
                    refine r_getR (pc := 127) (b := 157) dX10_queues_127 fl_X10_67 rfl hX.k hX.r11 ?_
                    refine r_aload_n (pc := 130) 1 dX10_queues_130 rfl rfl ?_
                    refine r_getR (pc := 131) (b := 163) dX10_queues_131 fl_X10_78 rfl hX.k hX.r14 ?_
                    refine r_aload_n (pc := 134) 1 dX10_queues_134 rfl rfl ?_
                    refine r_getR (pc := 135) (b := 75) dX10_queues_135 fl_X10_16 rfl hX.k hX.r1 ?_
                    refine r_getIv (pc := 138) (x := ((n : Nat) : Int)) dX10_queues_138 fl_X10_89 rfl hX.o1.k (hBg.n.trans ((goK_o _ _ (Or.inr (by decide)) hn8).trans hKi.2)) ?_
                    refine r_callV (pc := 141) (As := [(.ref 163), (.int (iI (((n : Nat) : Int))))]) (S := []) dX10_queues_141 cv_X10_289 hX.o11.k rfl (Nat.le_of_ble_eq_true rfl) (x_gather (a := 157) (q := 163) (n := n) (P := fun c => gtQ K n sd.toNat c i) (G := fun c => gcK (KQ K n sd.toNat i).1 n (odQ K n sd.toNat i) c) l z _ hX1.o11 hX1.a14 (by omega) hn8 (fun c hc => ⟨by rw [hfB 160 (by omega)]; exact hgt c hc, hg2 c hc⟩)) (Nat.zero_le _) (Nat.zero_le _) (fun r_141 g_141 f_141 q_141 => ?_)
                    obtain ⟨rfl, rfl, hh1, hh2⟩ := q_141
                    refine r_iincv (pc := 144) (y := ((i + 1 : Nat) : Int)) (L2 := [(3, (.int (iI (((i + 1 : Nat) : Int))))), (0, (.ref 64)), (1, (.int (iI (sd)))), (2, (.int (iI (m))))]) 0 dX10_queues_144 rfl (by omega) (by decide) rfl ?_
                    refine r_goto (pc := 147) (tgt := 48) dX10_queues_147 (by decide) ?_
                    refine r_sub (L2 := [(3, (.int (iI (((i + 1 : Nat) : Int))))), (0, (.ref 64)), (1, (.int (iI (sd)))), (2, (.int (iI (m))))]) [0, 1, 2, 3] rfl ?_
                    exact ih (m.toNat - (i + 1)) (by omega) (i + 1) (by omega) (by omega) _ (fun j hj => by rcases Nat.lt_succ_iff_lt_or_eq.mp hj with h | h; exact hfj j h; subst h; exact hfit) (hBg.mem (fun q hq => hh1 q (by omega))) (by rw [hh1 157 (by omega), hg1 157 (by omega) (by omega) (by omega)]; exact hd3) (fun c hc => hh2 c hc) (fun _ k hk => by rw [hh1 162 (by omega), hg1 162 (by omega) (by omega) (by omega), show i + 1 - 1 = i by omega]; exact hd4 k hk) (fun q hq => by rw [hh1 q (by omega), hfB q (by omega)]; exact hqf q hq) (fun k hk => by rw [hh1 157 (by omega), hf57 k hk]; exact h57 k hk) (by rw [hh1 158 (by omega), hfB 158 (by omega)]; exact h58) (by rw [hh1 159 (by omega), hfB 159 (by omega)]; exact h59)
                  · exfalso; omega
                · refine r_if_ge (pc := 116) (tgt := 126) dX10_queues_116 (by decide) (by omega) (fun c_116 => ?_) (fun c_116 => ?_)
                  · exact absurd c_116 (by decide)
                  · refine r_aload_n (pc := 119) 1 dX10_queues_119 rfl rfl ?_
                    refine r_bipush (pc := 120) dX10_queues_120 (by decide) ?_
                    refine r_callV (pc := 122) (As := [(.int (iI (-5)))]) (S := []) dX10_queues_122 cv_X10_85 hX.k rfl (Nat.le_of_ble_eq_true rfl) (x_refuse l z _ hX1 (by omega)) (Nat.zero_le _) (Nat.zero_le _) (fun r_122 g_122 f_122 q_122 => ?_)
                    obtain ⟨rfl, rfl, rfl⟩ := q_122
                    exact r_iret (pc := 125) dX10_queues_125 rfl rfl (Or.inr ⟨⟨hss, hmm⟩, rfl, Or.inl ⟨i, by omega, hfj, hfit, rfl, f_113, fun q hq => (hfB q (by omega)).trans (hqf q hq), fun k hk => (hf57 k hk).trans (h57 k hk), (hfB 158 (by omega)).trans h58, (hfB 159 (by omega)).trans h59, rfl⟩⟩)
          refine r_sub (L2 := [(3, (.int (iI (((0 : Nat) : Int))))), (0, (.ref 64)), (1, (.int (iI (sd)))), (2, (.int (iI (m))))]) [0, 1, 2, 3] rfl ?_
          exact loop m.toNat 0 (by omega) (by omega) _ (fun j hj => absurd hj (by omega)) (hB1.mem (fun q hq => hb1 q (by omega) (by omega))) (by rw [hb3]; show sd = ((sd.toNat : Nat) : Int); omega) (fun c hc => hb4 c (by omega)) (fun h => absurd h (by omega)) (fun q hq => by rw [hb1 q (by omega) (by omega)]; exact cpB_n (by omega)) (fun k hk => by rw [hb2 k hk]; exact congrFun (cpB_n (by omega)) k) (by rw [hb1 158 (by omega) (by omega)]; exact cpB_n (by omega)) (by rw [hb1 159 (by omega) (by omega)]; exact cpB_n (by omega))
        · refine r_aload_n (pc := 21) 0 dX10_queues_21 rfl rfl ?_
          refine r_iconst (pc := 22) dX10_queues_22 ?_
          refine r_callV (pc := 23) (As := [(.int (iI (-1)))]) (S := []) dX10_queues_23 cv_X10_85 hX.k rfl (Nat.le_of_ble_eq_true rfl) (x_refuse l z _ hX (by omega)) (Nat.zero_le _) (Nat.zero_le _) (fun r_23 g_23 f_23 q_23 => ?_)
          obtain ⟨rfl, rfl, rfl⟩ := q_23
          exact r_iret (pc := 26) dX10_queues_26 rfl rfl (Or.inl ⟨by omega, rfl, rfl, rfl⟩)

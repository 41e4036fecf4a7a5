theorem waK_i {K : Nat → Int} {D M day : Int} {hd : Nat → Int} {c : Nat} (hO : KO K D M) (hc : c < 8) : wantK K day (hd c) c = ((waK K day hd c : Nat) : Int) := by
  have := wantK_r (day := day) (had := hd c) hO hc
  unfold waK
  omega
theorem ovK_i {K : Nat → Int} {D M : Int} {c : Nat} (hO : KO K D M) (hc : c < 8) : K (5 * c + 2) = ((ovK K c : Nat) : Int) ∧ ovK K c ≤ 1 := by
  have := (hO.f hc).2.2.1
  unfold ovK
  omega
theorem waK_r {K : Nat → Int} {D M day : Int} {hd : Nat → Int} {c : Nat} (hO : KO K D M) (hc : c < 8) : waK K day hd c ≤ 40 := by
  have := wantK_r (day := day) (had := hd c) hO hc
  unfold waK
  omega
theorem x_ov (l : Launch) (z : Zv) (d : Nat) {g : Gm} {f : Fm} {b c : Nat} {v : Int} (hB : BL g b) (hc : c < 8) (hv : f (b + 1) (8 * 2 + c) = v) : PM l z (d + 1) mX1_ovenOf [.ref b, .int (iI ((c : Nat) : Int))] g f 0 0 (rdQ (.int (iI v)) g f) := by
  refine PM.mono (c_ovenOf l z d f (c := (c : Int)) hB (by omega)) (fun r g' f' hq => ?_)
  obtain ⟨h1, h2, h3⟩ := hq
  refine ⟨?_, h2, h3⟩
  rw [h1, ← hv]
  congr 4
/-- what learnWants has learnt of the first i customers -/
def LwI (f f1 : Fm) (K : Nat → Int) (y n i : Nat) : Prop := (∀ q, q ≠ y → q ≠ y + 2 → q ≠ y + 3 → q ≠ y + 4 → q ≠ y + 5 → f1 q = f q) ∧ (∀ k, k ≠ 9 → k ≠ 11 → k ≠ 12 → f1 y k = f y k) ∧ f1 y 11 = ((n : Nat) : Int) ∧ f1 y 12 = ((wmk (fun c => decide (ovK K c ≠ 0)) i : Nat) : Int) ∧ ∀ c, c < i → f1 (y + 4) c = ((waK K (K 42) (hdK K) c : Nat) : Int) ∧ f1 (y + 5) c = ((swN (ovK K) (waK K (K 42) (hdK K)) (ovK K c) c : Nat) : Int)

set_option maxRecDepth 100000 in
set_option maxHeartbeats 4000000 in
theorem x_learnWants (l : Launch) (z : Zv) (d : Nat) {g : Gm} {f : Fm} {y b n : Nat} {K : Nat → Int} {D0 M0 : Int} (hY : DL g y) (hB : BL g b) (hK : BK g f b K) (hO : KO K D0 M0) (hD0 : D0 ≤ 1000000) (hn : K 77 = ((n : Nat) : Int)) (hby : b + 10 ≤ y) (hy : y + 12 ≤ 195) (h9 : f y 9 = 0) : PM l z (d + 4) mX2_learnWants [.ref y, .ref b] g f 0 0 (fun r g' f' => r = none ∧ g = g' ∧ LwI f f' K y n n ∧ f' y 9 = 1) := by
  have hn8 : n ≤ 8 := by have := hO.n; omega
  refine PM.of (by decide +kernel) (Nat.le_of_ble_eq_true rfl) ?_
  have loop : ∀ m i : Nat, m = n - i → i ≤ n → ∀ f1 : Fm, LwI f f1 K y n i → f1 y 9 = 0 → PW l z (d + 4) mX2_learnWants 0 0 (fun r g' f' => r = none ∧ g = g' ∧ LwI f f' K y n n ∧ f' y 9 = 1) 28 [(4, (.int (iI (((i : Nat) : Int))))), (3, (.int (iI (((swN (ovK K) (waK K (K 42) (hdK K)) 1 i : Nat) : Int))))), (2, (.int (iI (((swN (ovK K) (waK K (K 42) (hdK K)) 0 i : Nat) : Int))))), (0, (.ref y)), (1, (.ref b))] [] g f1 0 0 := by
    intro m
    induction m using Nat.strongRecOn with
    | _ m ih =>
      intro i hm hi f1 hI h91
      have hK1 : BK g f1 b K := hK.mem (fun q hq => hI.1 q (by omega) (by omega) (by omega) (by omega) (by omega))
      refine r_iload (pc := 28) 0 dX2_learnWants_28 rfl ?_
      refine r_aload_n (pc := 30) 3 dX2_learnWants_30 rfl rfl ?_
      refine r_getIv (pc := 31) (x := ((n : Nat) : Int)) dX2_learnWants_31 fl_X2_56 rfl hY.k (hI.2.2.1) ?_
      refine r_icmp_ge (pc := 34) (tgt := 121) dX2_learnWants_34 (by decide) (by omega) (by omega) (fun c_34 => ?_) (fun c_34 => ?_)
      · refine r_aload_n (pc := 121) 3 dX2_learnWants_121 rfl rfl ?_
        refine r_iconst (pc := 122) dX2_learnWants_122 ?_
        refine r_putB (pc := 123) dX2_learnWants_123 fl_X2_43 rfl rfl (by omega) hY.k ?_
        have hin : i = n := by omega
        subst hin
        exact r_vret (pc := 126) dX2_learnWants_126 rfl ⟨rfl, rfl, ⟨fun q h1 h2 h3 h4 h5 => by rw [stF_n _ _ _ h1]; exact hI.1 q h1 h2 h3 h4 h5, fun k h1 h2 h3 => by rw [stF_i _ _ _ h1]; exact hI.2.1 k h1 h2 h3, rdi (by decide) hI.2.2.1, rdi (by decide) hI.2.2.2.1, fun c hc => ⟨rdn (by omega) (hI.2.2.2.2 c hc).1, rdn (by omega) (hI.2.2.2.2 c hc).2⟩⟩, stF_s _ _ _ _⟩
      · have hoi := ovK_i (c := i) hO (by omega)
        have hwr := waK_r (day := K 42) (hd := hdK K) (c := i) hO (by omega)
        have hs0 := swN_r (ov := ovK K) (wa := waK K (K 42) (hdK K)) (o := 0) i (fun c hc => waK_r hO (by omega))
        have hs1 := swN_r (ov := ovK K) (wa := waK K (K 42) (hdK K)) (o := 1) i (fun c hc => waK_r hO (by omega))
        refine r_aload_n (pc := 37) 3 dX2_learnWants_37 rfl rfl ?_
        refine r_getR (pc := 38) (b := (y + 4)) dX2_learnWants_38 fl_X2_18 rfl hY.k hY.r1 ?_
        refine r_iload (pc := 41) 0 dX2_learnWants_41 rfl ?_
        refine r_aload_n (pc := 43) 3 dX2_learnWants_43 rfl rfl ?_
        refine r_getR (pc := 44) (b := (y + 1)) dX2_learnWants_44 fl_X2_12 rfl hY.k hY.r0 ?_
        refine r_aload_n (pc := 47) 4 dX2_learnWants_47 rfl rfl ?_
        refine r_iload (pc := 48) 0 dX2_learnWants_48 rfl ?_
        refine r_callV (pc := 50) (As := [(.ref b), (.int (iI (((i : Nat) : Int))))]) (S := [(.int (iI (((i : Nat) : Int)))), (.ref (y + 4))]) dX2_learnWants_50 cv_X2_60 hY.o0.k rfl (Nat.le_of_ble_eq_true rfl) (x_askWants l z _ hY.o0 hB hK1 hO hD0 (by omega) (by omega) (by omega)) (Nat.zero_le _) (Nat.zero_le _) (fun r_50 g_50 f_50 q_50 => ?_)
        obtain ⟨rfl, hA_50, rfl⟩ := q_50
        have hK_50 : BK g f_50 b K := hK1.mem (fun q hq => hA_50 q (by omega) (by omega))
        refine r_eqI (y := ((waK K (K 42) (hdK K) i : Nat) : Int)) (waK_i (hd := hdK K) hO (by omega)) ?_
        refine r_iastv (pc := 53) (i := i) dX2_learnWants_53 hY.a1 (by omega) (by decide) rfl ?_
        refine r_aload_n (pc := 54) 4 dX2_learnWants_54 rfl rfl ?_
        refine r_iload (pc := 55) 0 dX2_learnWants_55 rfl ?_
        refine r_callV (pc := 57) (As := [(.int (iI (((i : Nat) : Int))))]) (S := []) dX2_learnWants_57 cv_X2_64 hB.k rfl (Nat.le_of_ble_eq_true rfl) (x_ov (c := i) (v := ((ovK K i : Nat) : Int)) l z _ hB (by omega) (rdn (by omega) ((hK_50.tr (w := 2) (by decide) (by omega)).trans hoi.1))) (Nat.zero_le _) (Nat.zero_le _) (fun r_57 g_57 f_57 q_57 => ?_)
        obtain ⟨rfl, rfl, rfl⟩ := q_57
        refine r_if_ne (pc := 60) (tgt := 84) dX2_learnWants_60 (by decide) (by omega) (fun c_60 => ?_) (fun c_60 => ?_)
        · refine r_aload_n (pc := 84) 3 dX2_learnWants_84 rfl rfl ?_
          refine r_getR (pc := 85) (b := (y + 5)) dX2_learnWants_85 fl_X2_22 rfl hY.k hY.r2 ?_
          refine r_iload (pc := 88) 0 dX2_learnWants_88 rfl ?_
          refine r_iload_n (pc := 90) 1 dX2_learnWants_90 rfl rfl ?_
          refine r_iastv (pc := 91) (i := i) dX2_learnWants_91 hY.a2 (by omega) (by decide) rfl ?_
          refine r_iload_n (pc := 92) 1 dX2_learnWants_92 rfl rfl ?_
          refine r_aload_n (pc := 93) 3 dX2_learnWants_93 rfl rfl ?_
          refine r_getR (pc := 94) (b := (y + 4)) dX2_learnWants_94 fl_X2_18 rfl hY.k hY.r1 ?_
          refine r_iload (pc := 97) 0 dX2_learnWants_97 rfl ?_
          refine r_ialdv (pc := 99) (w := ((waK K (K 42) (hdK K) i : Nat) : Int)) dX2_learnWants_99 hY.a1 (by omega) (by decide) (rdn (by omega) (stF_s _ _ _ _)) ?_
          refine r_iadd (pc := 100) dX2_learnWants_100 ?_
          refine r_eqI (y := ((swN (ovK K) (waK K (K 42) (hdK K)) 1 i + waK K (K 42) (hdK K) i : Nat) : Int)) (Int.natCast_add _ _ |>.symm) ?_
          refine r_istore_n (pc := 101) (L2 := [(3, (.int (iI (((swN (ovK K) (waK K (K 42) (hdK K)) 1 i + waK K (K 42) (hdK K) i : Nat) : Int))))), (4, (.int (iI (((i : Nat) : Int))))), (2, (.int (iI (((swN (ovK K) (waK K (K 42) (hdK K)) 0 i : Nat) : Int))))), (0, (.ref y)), (1, (.ref b))]) dX2_learnWants_101 rfl (by decide) rfl ?_
          refine r_aload_n (pc := 102) 3 dX2_learnWants_102 rfl rfl ?_
          refine r_dup (pc := 103) dX2_learnWants_103 rfl ?_
          refine r_getIv (pc := 104) (x := ((wmk (fun c => decide (ovK K c ≠ 0)) i : Nat) : Int)) dX2_learnWants_104 fl_X2_57 rfl hY.k (rdn (by omega) (rdn (by omega) (by rw [hA_50 y (by omega) (by omega)]; exact hI.2.2.2.1))) ?_
          refine r_iconst (pc := 107) dX2_learnWants_107 ?_
          refine r_iload (pc := 108) 1 dX2_learnWants_108 rfl ?_
          refine r_ishl (pc := 110) (w := ((2 ^ i : Nat) : Int)) dX2_learnWants_110  (iI_shl1 (by omega)) ?_
          refine r_ior (pc := 111) (w := (((wmk (fun c => decide (ovK K c ≠ 0)) i) ||| (2 ^ i) : Nat) : Int)) dX2_learnWants_111  (iI_or _ _) ?_
          refine r_putI (pc := 112) dX2_learnWants_112 fl_X2_57 rfl rfl hY.k ?_
          refine r_iincv (pc := 115) (y := ((i + 1 : Nat) : Int)) (L2 := [(4, (.int (iI (((i + 1 : Nat) : Int))))), (3, (.int (iI (((swN (ovK K) (waK K (K 42) (hdK K)) 1 i + waK K (K 42) (hdK K) i : Nat) : Int))))), (2, (.int (iI (((swN (ovK K) (waK K (K 42) (hdK K)) 0 i : Nat) : Int))))), (0, (.ref y)), (1, (.ref b))]) 1 dX2_learnWants_115 rfl (by omega) (by decide) rfl ?_
          refine r_goto (pc := 118) (tgt := 28) dX2_learnWants_118 (by decide) ?_
          have e0 : swN (ovK K) (waK K (K 42) (hdK K)) 0 (i + 1) = swN (ovK K) (waK K (K 42) (hdK K)) 0 i := by rw [swN_s, if_neg (by omega), Nat.add_zero]
          have e1 : swN (ovK K) (waK K (K 42) (hdK K)) 1 (i + 1) = swN (ovK K) (waK K (K 42) (hdK K)) 1 i + waK K (K 42) (hdK K) i := by rw [swN_s, if_pos (by omega)]
          refine r_sub (L2 := [(4, (.int (iI (((i + 1 : Nat) : Int))))), (3, (.int (iI (((swN (ovK K) (waK K (K 42) (hdK K)) 1 (i + 1) : Nat) : Int))))), (2, (.int (iI (((swN (ovK K) (waK K (K 42) (hdK K)) 0 (i + 1) : Nat) : Int))))), (0, (.ref y)), (1, (.ref b))]) [0, 1, 2, 3, 4] (by rw [e0, e1]; rfl) ?_
          refine ih (n - (i + 1)) (by omega) (i + 1) (by omega) (by omega) _ ⟨fun q h1 h2 h3 h4 h5 => by rw [stF_n _ _ _ h1, stF_n _ _ _ h5, stF_n _ _ _ h4, hA_50 q (by omega) (by omega)]; exact hI.1 q h1 h2 h3 h4 h5, fun k h1 h2 h3 => by rw [stF_i _ _ _ h3, stF_n _ _ _ (by omega), stF_n _ _ _ (by omega), hA_50 y (by omega) (by omega)]; exact hI.2.1 k h1 h2 h3, rdi (by decide) (rdn (by omega) (rdn (by omega) (by rw [hA_50 y (by omega) (by omega)]; exact hI.2.2.1))), (stF_s _ _ _ _).trans (by rw [wmk_t (P := (fun c => decide (ovK K c ≠ 0))) (by simp; omega)]), fun c hc => ?_⟩ (rdi (by decide) (rdn (by omega) (rdn (by omega) (by rw [hA_50 y (by omega) (by omega)]; exact h91))))
          rcases (show c < i ∨ c = i by omega) with q | rfl
          · exact ⟨rdn (by omega) (rdn (by omega) (rdi (by omega) (by rw [hA_50 (y + 4) (by omega) (by omega)]; exact (hI.2.2.2.2 c q).1))), rdn (by omega) (rdi (by omega) (rdn (by omega) (by rw [hA_50 (y + 5) (by omega) (by omega)]; exact (hI.2.2.2.2 c q).2)))⟩
          · exact ⟨rdn (by omega) (rdn (by omega) (stF_s _ _ _ _)), ((rdn (by omega) (stF_s _ _ _ _)).trans (by rw [show ovK K c = 1 by omega]))⟩
        · refine r_aload_n (pc := 63) 3 dX2_learnWants_63 rfl rfl ?_
          refine r_getR (pc := 64) (b := (y + 5)) dX2_learnWants_64 fl_X2_22 rfl hY.k hY.r2 ?_
          refine r_iload (pc := 67) 0 dX2_learnWants_67 rfl ?_
          refine r_iload_n (pc := 69) 2 dX2_learnWants_69 rfl rfl ?_
          refine r_iastv (pc := 70) (i := i) dX2_learnWants_70 hY.a2 (by omega) (by decide) rfl ?_
          refine r_iload_n (pc := 71) 2 dX2_learnWants_71 rfl rfl ?_
          refine r_aload_n (pc := 72) 3 dX2_learnWants_72 rfl rfl ?_
          refine r_getR (pc := 73) (b := (y + 4)) dX2_learnWants_73 fl_X2_18 rfl hY.k hY.r1 ?_
          refine r_iload (pc := 76) 0 dX2_learnWants_76 rfl ?_
          refine r_ialdv (pc := 78) (w := ((waK K (K 42) (hdK K) i : Nat) : Int)) dX2_learnWants_78 hY.a1 (by omega) (by decide) (rdn (by omega) (stF_s _ _ _ _)) ?_
          refine r_iadd (pc := 79) dX2_learnWants_79 ?_
          refine r_eqI (y := ((swN (ovK K) (waK K (K 42) (hdK K)) 0 i + waK K (K 42) (hdK K) i : Nat) : Int)) (Int.natCast_add _ _ |>.symm) ?_
          refine r_istore_n (pc := 80) (L2 := [(2, (.int (iI (((swN (ovK K) (waK K (K 42) (hdK K)) 0 i + waK K (K 42) (hdK K) i : Nat) : Int))))), (4, (.int (iI (((i : Nat) : Int))))), (3, (.int (iI (((swN (ovK K) (waK K (K 42) (hdK K)) 1 i : Nat) : Int))))), (0, (.ref y)), (1, (.ref b))]) dX2_learnWants_80 rfl (by decide) rfl ?_
          refine r_goto (pc := 81) (tgt := 115) dX2_learnWants_81 (by decide) ?_
          refine r_iincv (pc := 115) (y := ((i + 1 : Nat) : Int)) (L2 := [(4, (.int (iI (((i + 1 : Nat) : Int))))), (2, (.int (iI (((swN (ovK K) (waK K (K 42) (hdK K)) 0 i + waK K (K 42) (hdK K) i : Nat) : Int))))), (3, (.int (iI (((swN (ovK K) (waK K (K 42) (hdK K)) 1 i : Nat) : Int))))), (0, (.ref y)), (1, (.ref b))]) 1 dX2_learnWants_115 rfl (by omega) (by decide) rfl ?_
          refine r_goto (pc := 118) (tgt := 28) dX2_learnWants_118 (by decide) ?_
          have e0 : swN (ovK K) (waK K (K 42) (hdK K)) 0 (i + 1) = swN (ovK K) (waK K (K 42) (hdK K)) 0 i + waK K (K 42) (hdK K) i := by rw [swN_s, if_pos (by omega)]
          have e1 : swN (ovK K) (waK K (K 42) (hdK K)) 1 (i + 1) = swN (ovK K) (waK K (K 42) (hdK K)) 1 i := by rw [swN_s, if_neg (by omega), Nat.add_zero]
          refine r_sub (L2 := [(4, (.int (iI (((i + 1 : Nat) : Int))))), (3, (.int (iI (((swN (ovK K) (waK K (K 42) (hdK K)) 1 (i + 1) : Nat) : Int))))), (2, (.int (iI (((swN (ovK K) (waK K (K 42) (hdK K)) 0 (i + 1) : Nat) : Int))))), (0, (.ref y)), (1, (.ref b))]) [0, 2, 1, 3, 4] (by rw [e0, e1]; rfl) ?_
          refine ih (n - (i + 1)) (by omega) (i + 1) (by omega) (by omega) _ ⟨fun q h1 h2 h3 h4 h5 => by rw [stF_n _ _ _ h5, stF_n _ _ _ h4, hA_50 q (by omega) (by omega)]; exact hI.1 q h1 h2 h3 h4 h5, fun k h1 h2 h3 => by rw [stF_n _ _ _ (by omega), stF_n _ _ _ (by omega), hA_50 y (by omega) (by omega)]; exact hI.2.1 k h1 h2 h3, rdn (by omega) (rdn (by omega) (by rw [hA_50 y (by omega) (by omega)]; exact hI.2.2.1)), by rw [wmk_f (P := (fun c => decide (ovK K c ≠ 0))) (by simp; omega)]; exact (rdn (by omega) (rdn (by omega) (by rw [hA_50 y (by omega) (by omega)]; exact hI.2.2.2.1))), fun c hc => ?_⟩ (rdn (by omega) (rdn (by omega) (by rw [hA_50 y (by omega) (by omega)]; exact h91)))
          rcases (show c < i ∨ c = i by omega) with q | rfl
          · exact ⟨rdn (by omega) (rdi (by omega) (by rw [hA_50 (y + 4) (by omega) (by omega)]; exact (hI.2.2.2.2 c q).1)), rdi (by omega) (rdn (by omega) (by rw [hA_50 (y + 5) (by omega) (by omega)]; exact (hI.2.2.2.2 c q).2))⟩
          · exact ⟨rdn (by omega) (stF_s _ _ _ _), ((stF_s _ _ _ _).trans (by rw [show ovK K c = 0 by omega]))⟩
  refine r_aload_n (pc := 0) 0 dX2_learnWants_0 rfl rfl ?_
  refine r_getIv (pc := 1) (x := 0) dX2_learnWants_1 fl_X2_43 rfl hY.k (h9) ?_
  refine r_if_eq (pc := 4) (tgt := 8) dX2_learnWants_4 (by decide) (by omega) (fun c_4 => ?_) (fun c_4 => ?_)
  · refine r_iconst (pc := 8) dX2_learnWants_8 ?_
    refine r_istore_n (pc := 9) (L2 := [(2, (.int (iI (0)))), (0, (.ref y)), (1, (.ref b))]) dX2_learnWants_9 rfl (by decide) rfl ?_
    refine r_iconst (pc := 10) dX2_learnWants_10 ?_
    refine r_istore_n (pc := 11) (L2 := [(3, (.int (iI (0)))), (2, (.int (iI (0)))), (0, (.ref y)), (1, (.ref b))]) dX2_learnWants_11 rfl (by decide) rfl ?_
    refine r_aload_n (pc := 12) 2 dX2_learnWants_12 rfl rfl ?_
    refine r_aload_n (pc := 13) 3 dX2_learnWants_13 rfl rfl ?_
    refine r_getIv (pc := 14) (x := K 77) dX2_learnWants_14 fl_X2_50 rfl hB.k (hK.n) ?_
    refine r_eqI (y := ((n : Nat) : Int)) (hn) ?_
    refine r_putI (pc := 17) dX2_learnWants_17 fl_X2_56 rfl rfl hY.k ?_
    refine r_aload_n (pc := 20) 2 dX2_learnWants_20 rfl rfl ?_
    refine r_iconst (pc := 21) dX2_learnWants_21 ?_
    refine r_putI (pc := 22) dX2_learnWants_22 fl_X2_57 rfl rfl hY.k ?_
    refine r_iconst (pc := 25) dX2_learnWants_25 ?_
    refine r_istore (pc := 26) (L2 := [(4, (.int (iI (0)))), (3, (.int (iI (0)))), (2, (.int (iI (0)))), (0, (.ref y)), (1, (.ref b))]) dX2_learnWants_26 (by decide) rfl ?_
    refine r_sub (L2 := [(4, (.int (iI (((0 : Nat) : Int))))), (3, (.int (iI (((0 : Nat) : Int))))), (2, (.int (iI (((0 : Nat) : Int))))), (0, (.ref y)), (1, (.ref b))]) [0, 1, 2, 3, 4] rfl ?_
    exact loop n 0 (by omega) (by omega) _ ⟨fun q h1 _ _ _ _ => by rw [stF_n _ _ _ h1, stF_n _ _ _ h1], fun k h1 h2 h3 => by rw [stF_i _ _ _ h3, stF_i _ _ _ h2], rdi (by decide) (stF_s _ _ _ _), stF_s _ _ _ _, fun c hc => absurd hc (by omega)⟩ (rdi (by decide) (rdi (by decide) h9))
  · exact absurd c_4 (by decide)

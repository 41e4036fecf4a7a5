/-- what learnWaits has learnt of the first i customers -/
def LtI (f f1 : Fm) (K : Nat → Int) (y n i : Nat) : Prop := (∀ q, q ≠ y + 2 → q ≠ y + 3 → q ≠ y + 6 → f1 q = f q) ∧ ∀ c, c < i → f1 (y + 6) c = ((wtK K (K 42) (hdK K) n c : Nat) : Int)

set_option maxRecDepth 100000 in
set_option maxHeartbeats 4000000 in
theorem x_learnWaits (l : Launch) (z : Zv) (d : Nat) {g : Gm} {f : Fm} {y b n : Nat} {K : Nat → Int} {D0 M0 : Int} (hY : DL g y) (hB : BL g b) (hK : BK g f b K) (hO : KO K D0 M0) (hD0 : D0 ≤ 1000000) (hn : K 77 = ((n : Nat) : Int)) (hby : b + 10 ≤ y) (hy : y + 12 ≤ 195) : PM l z (d + 4) mX2_learnWaits [.ref y, .ref b] g f 0 0 (fun r g' f' => r = none ∧ g = g' ∧ LtI f f' K y n n) := by
  have hn8 : n ≤ 8 := by have := hO.n; omega
  refine PM.of (by decide +kernel) (Nat.le_of_ble_eq_true rfl) ?_
  have outer : ∀ m i : Nat, m = n - i → i ≤ n → ∀ f1 : Fm, LtI f f1 K y n i → PW l z (d + 4) mX2_learnWaits 0 0 (fun r g' f' => r = none ∧ g = g' ∧ LtI f f' K y n n) 2 [(2, (.int (iI (((i : Nat) : Int))))), (0, (.ref y)), (1, (.ref b))] [] g f1 0 0 := by
    intro m
    induction m using Nat.strongRecOn with
    | _ m ihO =>
      intro i hm hi f1 hI
      have hK1 : BK g f1 b K := hK.mem (fun q hq => hI.1 q (by omega) (by omega) (by omega))
      have inner : i < n → ∀ m2 o : Nat, m2 = n - o → o ≤ n → ∀ f2 : Fm, (∀ q, q ≠ y + 2 → q ≠ y + 3 → f2 q = f1 q) → PW l z (d + 4) mX2_learnWaits 0 0 (fun r g' f' => r = none ∧ g = g' ∧ LtI f f' K y n n) 15 [(4, (.int (iI (((o : Nat) : Int))))), (3, (.int (iI (((wmk (fun q => decide (q ≠ i) && waitK K (K 42) (hdK K i) i q) o : Nat) : Int))))), (2, (.int (iI (((i : Nat) : Int))))), (0, (.ref y)), (1, (.ref b))] [] g f2 0 0 := by
        intro hin m2
        induction m2 using Nat.strongRecOn with
        | _ m2 ihI =>
          intro o hm2 ho f2 hJ
          have hK2 : BK g f2 b K := hK1.mem (fun q hq => hJ q (by omega) (by omega))
          have hw8 := wmk_8 (fun q => decide (q ≠ i) && waitK K (K 42) (hdK K i) i q) (n := o) (by omega)
          refine r_iload (pc := 15) 0 dX2_learnWaits_15 rfl ?_
          refine r_aload_n (pc := 17) 4 dX2_learnWaits_17 rfl rfl ?_
          refine r_getIv (pc := 18) (x := ((n : Nat) : Int)) dX2_learnWaits_18 fl_X2_50 rfl hB.k (hK2.n.trans hn) ?_
          refine r_icmp_ge (pc := 21) (tgt := 57) dX2_learnWaits_21 (by decide) (by omega) (by omega) (fun c_21 => ?_) (fun c_21 => ?_)
          · refine r_aload_n (pc := 57) 3 dX2_learnWaits_57 rfl rfl ?_
            refine r_getR (pc := 58) (b := (y + 6)) dX2_learnWaits_58 fl_X2_25 rfl hY.k hY.r3 ?_
            refine r_iload_n (pc := 61) 2 dX2_learnWaits_61 rfl rfl ?_
            refine r_iload_n (pc := 62) 1 dX2_learnWaits_62 rfl rfl ?_
            refine r_iastv (pc := 63) (i := i) dX2_learnWaits_63 hY.a3 (by omega) (by decide) rfl ?_
            refine r_iincv (pc := 64) (y := ((i + 1 : Nat) : Int)) (L2 := [(2, (.int (iI (((i + 1 : Nat) : Int))))), (4, (.int (iI (((o : Nat) : Int))))), (3, (.int (iI (((wmk (fun q => decide (q ≠ i) && waitK K (K 42) (hdK K i) i q) o : Nat) : Int))))), (0, (.ref y)), (1, (.ref b))]) 2 dX2_learnWaits_64 rfl (by omega) (by decide) rfl ?_
            refine r_goto (pc := 67) (tgt := 2) dX2_learnWaits_67 (by decide) ?_
            refine r_sub (L2 := [(2, (.int (iI (((i + 1 : Nat) : Int))))), (0, (.ref y)), (1, (.ref b))]) [0, 3, 4] rfl ?_
            have hon : o = n := by omega
            exact ihO (n - (i + 1)) (by omega) (i + 1) (by omega) (by omega) _ ⟨fun q h1 h2 h3 => by rw [stF_n _ _ _ h3, hJ q h1 h2]; exact hI.1 q h1 h2 h3, fun c hc => by rcases (show c < i ∨ c = i by omega) with q | rfl; exact rdi (by omega) (by rw [hJ _ (by omega) (by omega)]; exact hI.2 c q); rw [stF_s, hon]; rfl⟩
          · refine r_iload (pc := 24) 0 dX2_learnWaits_24 rfl ?_
            refine r_iload_n (pc := 26) 2 dX2_learnWaits_26 rfl rfl ?_
            refine r_icmp_eq (pc := 27) (tgt := 51) dX2_learnWaits_27 (by decide) (by omega) (by omega) (fun c_27 => ?_) (fun c_27 => ?_)
            · refine r_iincv (pc := 51) (y := ((o + 1 : Nat) : Int)) (L2 := [(4, (.int (iI (((o + 1 : Nat) : Int))))), (3, (.int (iI (((wmk (fun q => decide (q ≠ i) && waitK K (K 42) (hdK K i) i q) o : Nat) : Int))))), (2, (.int (iI (((i : Nat) : Int))))), (0, (.ref y)), (1, (.ref b))]) 0 dX2_learnWaits_51 rfl (by omega) (by decide) rfl ?_
              refine r_goto (pc := 54) (tgt := 15) dX2_learnWaits_54 (by decide) ?_
              refine r_sub (L2 := [(4, (.int (iI (((o + 1 : Nat) : Int))))), (3, (.int (iI (((wmk (fun q => decide (q ≠ i) && waitK K (K 42) (hdK K i) i q) (o + 1) : Nat) : Int))))), (2, (.int (iI (((i : Nat) : Int))))), (0, (.ref y)), (1, (.ref b))]) [0, 1, 2, 3, 4] (by rw [wmk_f (P := (fun q => decide (q ≠ i) && waitK K (K 42) (hdK K i) i q)) (by simp only [Bool.and_eq_true, decide_eq_true_eq]; intro h; omega)]; rfl) ?_
              exact ihI (n - (o + 1)) (by omega) (o + 1) (by omega) (by omega) _ hJ
            · refine r_aload_n (pc := 30) 3 dX2_learnWaits_30 rfl rfl ?_
              refine r_getR (pc := 31) (b := (y + 1)) dX2_learnWaits_31 fl_X2_12 rfl hY.k hY.r0 ?_
              refine r_aload_n (pc := 34) 4 dX2_learnWaits_34 rfl rfl ?_
              refine r_iload_n (pc := 35) 2 dX2_learnWaits_35 rfl rfl ?_
              refine r_iload (pc := 36) 0 dX2_learnWaits_36 rfl ?_
              refine r_callV (pc := 38) (As := [(.ref b), (.int (iI (((i : Nat) : Int)))), (.int (iI (((o : Nat) : Int))))]) (S := []) dX2_learnWaits_38 cv_X2_68 hY.o0.k rfl (Nat.le_of_ble_eq_true rfl) (x_askWaits (c := i) (o := o) l z _ hY.o0 hB hK2 hO hD0 (by omega) (by omega) (by omega) (by omega)) (Nat.zero_le _) (Nat.zero_le _) (fun r_38 g_38 f_38 q_38 => ?_)
              obtain ⟨rfl, hA_38, rfl⟩ := q_38
              refine r_if_eq (pc := 41) (tgt := 51) dX2_learnWaits_41 (by decide) (b01_r) (fun c_41 => ?_) (fun c_41 => ?_)
              · replace c_41 := b01_z c_41
                refine r_iincv (pc := 51) (y := ((o + 1 : Nat) : Int)) (L2 := [(4, (.int (iI (((o + 1 : Nat) : Int))))), (3, (.int (iI (((wmk (fun q => decide (q ≠ i) && waitK K (K 42) (hdK K i) i q) o : Nat) : Int))))), (2, (.int (iI (((i : Nat) : Int))))), (0, (.ref y)), (1, (.ref b))]) 0 dX2_learnWaits_51 rfl (by omega) (by decide) rfl ?_
                refine r_goto (pc := 54) (tgt := 15) dX2_learnWaits_54 (by decide) ?_
                refine r_sub (L2 := [(4, (.int (iI (((o + 1 : Nat) : Int))))), (3, (.int (iI (((wmk (fun q => decide (q ≠ i) && waitK K (K 42) (hdK K i) i q) (o + 1) : Nat) : Int))))), (2, (.int (iI (((i : Nat) : Int))))), (0, (.ref y)), (1, (.ref b))]) [0, 1, 2, 3, 4] (by rw [wmk_f (P := (fun q => decide (q ≠ i) && waitK K (K 42) (hdK K i) i q)) (by simp only [Bool.and_eq_true, decide_eq_true_eq]; exact fun h => c_41 h.2)]; rfl) ?_
                exact ihI (n - (o + 1)) (by omega) (o + 1) (by omega) (by omega) _ (fun q h1 h2 => by rw [hA_38 q (by omega) (by omega)]; exact hJ q h1 h2)
              · replace c_41 := b01_nz c_41
                refine r_iload_n (pc := 44) 1 dX2_learnWaits_44 rfl rfl ?_
                refine r_iconst (pc := 45) dX2_learnWaits_45 ?_
                refine r_iload (pc := 46) 0 dX2_learnWaits_46 rfl ?_
                refine r_ishl (pc := 48) (w := ((2 ^ o : Nat) : Int)) dX2_learnWaits_48  (iI_shl1 (by omega)) ?_
                refine r_ior (pc := 49) (w := (((wmk (fun q => decide (q ≠ i) && waitK K (K 42) (hdK K i) i q) o) ||| (2 ^ o) : Nat) : Int)) dX2_learnWaits_49  (iI_or _ _) ?_
                refine r_istore_n (pc := 50) (L2 := [(3, (.int (iI ((((wmk (fun q => decide (q ≠ i) && waitK K (K 42) (hdK K i) i q) o) ||| (2 ^ o) : Nat) : Int))))), (4, (.int (iI (((o : Nat) : Int))))), (2, (.int (iI (((i : Nat) : Int))))), (0, (.ref y)), (1, (.ref b))]) dX2_learnWaits_50 rfl (by decide) rfl ?_
                refine r_iincv (pc := 51) (y := ((o + 1 : Nat) : Int)) (L2 := [(4, (.int (iI (((o + 1 : Nat) : Int))))), (3, (.int (iI ((((wmk (fun q => decide (q ≠ i) && waitK K (K 42) (hdK K i) i q) o) ||| (2 ^ o) : Nat) : Int))))), (2, (.int (iI (((i : Nat) : Int))))), (0, (.ref y)), (1, (.ref b))]) 1 dX2_learnWaits_51 rfl (by omega) (by decide) rfl ?_
                refine r_goto (pc := 54) (tgt := 15) dX2_learnWaits_54 (by decide) ?_
                refine r_sub (L2 := [(4, (.int (iI (((o + 1 : Nat) : Int))))), (3, (.int (iI (((wmk (fun q => decide (q ≠ i) && waitK K (K 42) (hdK K i) i q) (o + 1) : Nat) : Int))))), (2, (.int (iI (((i : Nat) : Int))))), (0, (.ref y)), (1, (.ref b))]) [0, 1, 2, 3, 4] (by rw [wmk_t (P := (fun q => decide (q ≠ i) && waitK K (K 42) (hdK K i) i q)) (by simp only [Bool.and_eq_true, decide_eq_true_eq]; exact ⟨by omega, c_41⟩)]; rfl) ?_
                exact ihI (n - (o + 1)) (by omega) (o + 1) (by omega) (by omega) _ (fun q h1 h2 => by rw [hA_38 q (by omega) (by omega)]; exact hJ q h1 h2)
      refine r_iload_n (pc := 2) 0 dX2_learnWaits_2 rfl rfl ?_
      refine r_aload_n (pc := 3) 2 dX2_learnWaits_3 rfl rfl ?_
      refine r_getIv (pc := 4) (x := ((n : Nat) : Int)) dX2_learnWaits_4 fl_X2_50 rfl hB.k (hK1.n.trans hn) ?_
      refine r_icmp_ge (pc := 7) (tgt := 70) dX2_learnWaits_7 (by decide) (by omega) (by omega) (fun c_7 => ?_) (fun c_7 => ?_)
      · have hin : i = n := by omega
        subst hin
        exact r_vret (pc := 70) dX2_learnWaits_70 rfl ⟨rfl, rfl, hI⟩
      · refine r_iconst (pc := 10) dX2_learnWaits_10 ?_
        refine r_istore_n (pc := 11) (L2 := [(3, (.int (iI (0)))), (2, (.int (iI (((i : Nat) : Int))))), (0, (.ref y)), (1, (.ref b))]) dX2_learnWaits_11 rfl (by decide) rfl ?_
        refine r_iconst (pc := 12) dX2_learnWaits_12 ?_
        refine r_istore (pc := 13) (L2 := [(4, (.int (iI (0)))), (3, (.int (iI (0)))), (2, (.int (iI (((i : Nat) : Int))))), (0, (.ref y)), (1, (.ref b))]) dX2_learnWaits_13 (by decide) rfl ?_
        refine r_sub (L2 := [(4, (.int (iI (((0 : Nat) : Int))))), (3, (.int (iI (((wmk (fun q => decide (q ≠ i) && waitK K (K 42) (hdK K i) i q) 0 : Nat) : Int))))), (2, (.int (iI (((i : Nat) : Int))))), (0, (.ref y)), (1, (.ref b))]) [0, 1, 2, 3, 4] rfl ?_
        exact inner (by omega) n 0 (by omega) (by omega) f1 (fun _ _ _ => rfl)
  refine r_iconst (pc := 0) dX2_learnWaits_0 ?_
  refine r_istore_n (pc := 1) (L2 := [(2, (.int (iI (0)))), (0, (.ref y)), (1, (.ref b))]) dX2_learnWaits_1 rfl (by decide) rfl ?_
  refine r_sub (L2 := [(2, (.int (iI (((0 : Nat) : Int))))), (0, (.ref y)), (1, (.ref b))]) [0, 1, 2] rfl ?_
  exact outer n 0 (by omega) (by omega) f ⟨fun _ _ _ _ => rfl, fun c hc => absurd hc (by omega)⟩

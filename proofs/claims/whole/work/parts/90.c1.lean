def DA (f : Fm) (y : Nat) (K : Nat → Int) (n : Nat) : Prop := f y 11 = ((n : Nat) : Int) ∧ f y 12 = (((wmk (fun c => decide (ovK K c ≠ 0)) n) : Nat) : Int) ∧ ∀ c, c < n → f (y + 4) c = ((waK K (K 42) (hdK K) c : Nat) : Int) ∧ f (y + 5) c = ((swN (ovK K) (waK K (K 42) (hdK K)) (ovK K c) c : Nat) : Int)
def DYK (f : Fm) (y : Nat) (K : Nat → Int) (n : Nat) : Prop := DYo f y n (wmk (fun c => decide (ovK K c ≠ 0)) n) (waK K (K 42) (hdK K)) (wtK K (K 42) (hdK K) n) (K 40) (K 41) (bkK K 0) (bkK K 1)

set_option maxRecDepth 100000 in
set_option maxHeartbeats 4000000 in
theorem x_learnWantsK (l : Launch) (z : Zv) (d : Nat) {g : Gm} {f : Fm} {y b n : Nat} {K : Nat → Int} {D0 M0 : Int} (hY : DL g y) (hB : BL g b) (hK : BK g f b K) (hO : KO K D0 M0) (hD0 : D0 ≤ 1000000) (hn : K 77 = ((n : Nat) : Int)) (hby : b + 10 ≤ y) (hy : y + 12 ≤ 195) (h9 : f y 9 = 0 ∨ (f y 9 = 1 ∧ DA f y K n)) : PM l z (d + 4) mX2_learnWants [.ref y, .ref b] g f 0 0 (fun r g' f' => r = none ∧ g = g' ∧ LwI f f' K y n n ∧ f' y 9 = 1) := by
  rcases h9 with h9 | h9
  · exact x_learnWants l z d hY hB hK hO hD0 hn hby hy h9
  · refine PM.of (by decide +kernel) (Nat.le_of_ble_eq_true rfl) ?_
    refine r_aload_n (pc := 0) 0 dX2_learnWants_0 rfl rfl ?_
    refine r_getIv (pc := 1) (x := 1) dX2_learnWants_1 fl_X2_43 rfl hY.k (h9.1) ?_
    refine r_if_eq (pc := 4) (tgt := 8) dX2_learnWants_4 (by decide) (by omega) (fun c_4 => ?_) (fun c_4 => ?_)
    · exact absurd c_4 (by decide)
    · exact r_vret (pc := 7) dX2_learnWants_7 rfl ⟨rfl, rfl, ⟨fun _ _ _ _ _ _ => rfl, fun _ _ _ _ => rfl, h9.2⟩, h9.1⟩

set_option maxRecDepth 100000 in
set_option maxHeartbeats 4000000 in
theorem x_layOutK (l : Launch) (z : Zv) (d : Nat) {g : Gm} {f : Fm} {y b n : Nat} {K : Nat → Int} {D0 M0 : Int} (hY : DL g y) (hB : BL g b) (hK : BK g f b K) (hO : KO K D0 M0) (hD0 : D0 ≤ 1000000) (hn : K 77 = ((n : Nat) : Int)) (hby : b + 10 ≤ y) (hy : y + 12 ≤ 195) (hM0 : M0 ≤ 1100000) (h9 : f y 9 = 0 ∨ (f y 9 = 1 ∧ DA f y K n)) (h10 : f y 10 = 0 ∨ (f y 10 = 1 ∧ f y 9 = 1 ∧ DA f y K n ∧ DYK f y K n)) : PM l z (d + 5) mX2_layOut [.ref y, .ref b] g f 0 0 (fun r g' f' => r = none ∧ g = g' ∧ (∀ q, q ≠ y → q ≠ y + 2 → q ≠ y + 3 → q ≠ y + 4 → q ≠ y + 5 → q ≠ y + 6 → q ≠ y + 7 → q ≠ y + 8 → q ≠ y + 9 → q ≠ y + 10 → f' q = f q) ∧ DYK f' y K n ∧ DA f' y K n ∧ f' y 9 = 1 ∧ f' y 10 = 1) := by
  have hn8 : n ≤ 8 := by have := hO.n; omega
  have hbb : K 43 = ((bkK K 0 : Nat) : Int) ∧ K 44 = ((bkK K 1 : Nat) : Int) ∧ bkK K 0 ≤ 1100000 ∧ bkK K 1 ≤ 1100000 := by
    have h1 := hO.b0
    have h2 := hO.b1
    have e1 : bkK K 0 = (K 43).toNat := rfl
    have e2 : bkK K 1 = (K 44).toNat := rfl
    omega
  rcases h10 with h10 | h10
  · refine PM.of (by decide +kernel) (Nat.le_of_ble_eq_true rfl) ?_
    refine r_aload_n (pc := 0) 0 dX2_layOut_0 rfl rfl ?_
    refine r_getIv (pc := 1) (x := 0) dX2_layOut_1 fl_X2_47 rfl hY.k (h10) ?_
    refine r_if_eq (pc := 4) (tgt := 8) dX2_layOut_4 (by decide) (by omega) (fun c_4 => ?_) (fun c_4 => ?_)
    · refine r_aload_n (pc := 8) 0 dX2_layOut_8 rfl rfl ?_
      refine r_aload_n (pc := 9) 1 dX2_layOut_9 rfl rfl ?_
      refine r_callV (pc := 10) (As := [(.ref b)]) (S := []) dX2_layOut_10 cv_X2_72 hY.k rfl (Nat.le_of_ble_eq_true rfl) (x_learnWantsK l z _ hY hB hK hO hD0 hn hby hy h9) (Nat.zero_le _) (Nat.zero_le _) (fun r_10 g_10 f_10 q_10 => ?_)
      obtain ⟨rfl, rfl, hI1, hq9⟩ := q_10
      have hK1 : BK g f_10 b K := hK.mem (fun q hq => hI1.1 q (by omega) (by omega) (by omega) (by omega) (by omega))
      refine r_aload_n (pc := 13) 0 dX2_layOut_13 rfl rfl ?_
      refine r_aload_n (pc := 14) 1 dX2_layOut_14 rfl rfl ?_
      refine r_callV (pc := 15) (As := [(.ref b)]) (S := []) dX2_layOut_15 cv_X2_76 hY.k rfl (Nat.le_of_ble_eq_true rfl) (x_learnWaits l z _ hY hB hK1 hO hD0 hn hby hy) (Nat.zero_le _) (Nat.zero_le _) (fun r_15 g_15 f_15 q_15 => ?_)
      obtain ⟨rfl, rfl, hI2⟩ := q_15
      have hW : DW f_15 y n (waK K (K 42) (hdK K)) (wtK K (K 42) (hdK K) n) := ⟨hn8, by rw [hI2.1 y (by omega) (by omega) (by omega)]; exact hI1.2.2.1, fun c hc => ⟨by rw [hI2.1 (y + 4) (by omega) (by omega) (by omega)]; exact (hI1.2.2.2.2 c hc).1, waK_r hO (by omega)⟩, fun c hc => ⟨hI2.2 c hc, wmk_8 _ hn8⟩⟩
      refine r_aload_n (pc := 18) 0 dX2_layOut_18 rfl rfl ?_
      refine r_callV (pc := 19) (As := []) (S := []) dX2_layOut_19 cv_X2_79 hY.k rfl (Nat.le_of_ble_eq_true rfl) (x_layOutSets l z _ hY hW) (Nat.zero_le _) (Nat.zero_le _) (fun r_19 g_19 f_19 q_19 => ?_)
      obtain ⟨rfl, rfl, hI3⟩ := q_19
      refine r_aload_n (pc := 22) 0 dX2_layOut_22 rfl rfl ?_
      refine r_aload_n (pc := 23) 1 dX2_layOut_23 rfl rfl ?_
      refine r_callV (pc := 24) (As := [(.ref b)]) (S := []) dX2_layOut_24 cv_X2_82 hY.k rfl (Nat.le_of_ble_eq_true rfl) (x_layOutLoaves (a2 := (wmk (fun c => decide (ovK K c ≠ 0)) n)) (wa := (waK K (K 42) (hdK K))) (dz := K 40) (lp := K 41) (b0 := bkK K 0) (b1 := bkK K 1) l z _ hY hB hby hn8 (by rw [hI3.1 y (by omega) (by omega)]; exact hW.2.1) (by rw [hI3.1 y (by omega) (by omega), hI2.1 y (by omega) (by omega) (by omega)]; exact hI1.2.2.2.1) (fun c hc => waK_r hO (by omega)) (fun s hs => (hI3.2 s hs).2) (by rw [hI3.1 (b + 2) (by omega) (by omega), hI2.1 (b + 2) (by omega) (by omega) (by omega)]; exact hK1.te (t := 0) (by decide)) (by rw [hI3.1 (b + 2) (by omega) (by omega), hI2.1 (b + 2) (by omega) (by omega) (by omega)]; exact hK1.te (t := 1) (by decide)) hO.dz hO.lp ((by rw [hI3.1 (b + 2) (by omega) (by omega), hI2.1 (b + 2) (by omega) (by omega) (by omega)]; exact hK1.te (t := 3) (by decide) : f_19 (b + 2) 3 = K 43).trans hbb.1) ((by rw [hI3.1 (b + 2) (by omega) (by omega), hI2.1 (b + 2) (by omega) (by omega) (by omega)]; exact hK1.te (t := 4) (by decide) : f_19 (b + 2) 4 = K 44).trans hbb.2.1) ⟨hbb.2.2.1, hbb.2.2.2⟩) (Nat.zero_le _) (Nat.zero_le _) (fun r_24 g_24 f_24 q_24 => ?_)
      obtain ⟨rfl, rfl, hI4⟩ := q_24
      refine r_aload_n (pc := 27) 0 dX2_layOut_27 rfl rfl ?_
      refine r_iconst (pc := 28) dX2_layOut_28 ?_
      refine r_putB (pc := 29) dX2_layOut_29 fl_X2_47 rfl rfl (by omega) hY.k ?_
      have hdy : DYo f_24 y n (wmk (fun c => decide (ovK K c ≠ 0)) n) (waK K (K 42) (hdK K)) (wtK K (K 42) (hdK K) n) (K 40) (K 41) (bkK K 0) (bkK K 1) := ⟨⟨hn8, by rw [hI4.1 y (by omega) (by omega), hI3.1 y (by omega) (by omega)]; exact hW.2.1, fun c hc => by rw [hI4.1 (y + 4) (by omega) (by omega), hI3.1 (y + 4) (by omega) (by omega)]; exact hW.2.2.1 c hc, fun c hc => by rw [hI4.1 (y + 6) (by omega) (by omega), hI3.1 (y + 6) (by omega) (by omega)]; exact hW.2.2.2 c hc⟩, by rw [hI4.1 y (by omega) (by omega), hI3.1 y (by omega) (by omega), hI2.1 y (by omega) (by omega) (by omega)]; exact hI1.2.2.2.1, wmk_lt _ n, fun t ht => by rw [hI4.1 (y + 7) (by omega) (by omega), hI4.1 (y + 8) (by omega) (by omega)]; exact hI3.2 t ht, hI4.2⟩
      exact r_vret (pc := 32) dX2_layOut_32 rfl ⟨rfl, rfl, fun q h0 h2 h3 h4 h5 h6 h7 h8 h9 h10 => by rw [stF_n _ _ _ h0, hI4.1 q h9 h10, hI3.1 q h7 h8, hI2.1 q h2 h3 h6]; exact hI1.1 q h0 h2 h3 h4 h5, DYo.mem (f := f_24) hdy (fun q hq => stF_n _ _ _ (by omega)) (stF_i _ _ _ (by decide)) (stF_i _ _ _ (by decide)), ⟨rdi (by decide) (by rw [hI4.1 y (by omega) (by omega), hI3.1 y (by omega) (by omega), hI2.1 y (by omega) (by omega) (by omega)]; exact hI1.2.2.1), rdi (by decide) (by rw [hI4.1 y (by omega) (by omega), hI3.1 y (by omega) (by omega), hI2.1 y (by omega) (by omega) (by omega)]; exact hI1.2.2.2.1), fun c hc => ⟨rdn (by omega) (by rw [hI4.1 (y + 4) (by omega) (by omega), hI3.1 (y + 4) (by omega) (by omega), hI2.1 (y + 4) (by omega) (by omega) (by omega)]; exact (hI1.2.2.2.2 c hc).1), rdn (by omega) (by rw [hI4.1 (y + 5) (by omega) (by omega), hI3.1 (y + 5) (by omega) (by omega), hI2.1 (y + 5) (by omega) (by omega) (by omega)]; exact (hI1.2.2.2.2 c hc).2)⟩⟩, rdi (by decide) (by rw [hI4.1 y (by omega) (by omega), hI3.1 y (by omega) (by omega), hI2.1 y (by omega) (by omega) (by omega)]; exact hq9), stF_s _ _ _ _⟩
    · exact absurd c_4 (by decide)
  · refine PM.of (by decide +kernel) (Nat.le_of_ble_eq_true rfl) ?_
    refine r_aload_n (pc := 0) 0 dX2_layOut_0 rfl rfl ?_
    refine r_getIv (pc := 1) (x := 1) dX2_layOut_1 fl_X2_47 rfl hY.k (h10.1) ?_
    refine r_if_eq (pc := 4) (tgt := 8) dX2_layOut_4 (by decide) (by omega) (fun c_4 => ?_) (fun c_4 => ?_)
    · exact absurd c_4 (by decide)
    · exact r_vret (pc := 7) dX2_layOut_7 rfl ⟨rfl, rfl, fun _ _ _ _ _ _ _ _ _ _ _ => rfl, h10.2.2.2, h10.2.2.1, h10.2.1, h10.1⟩

set_option maxRecDepth 100000 in
set_option maxHeartbeats 4000000 in
theorem c_abs (l : Launch) (z : Zv) (d : Nat) {g : Gm} {f : Fm} {x : Int} (hx : -2147483648 ≤ x ∧ x ≤ 2147483647) : PM l z d mJ9_abs_0f7a4 [(.int (iI (x)))] g f 0 0 (rdQ (.int (iI (abI x))) g f) := by
  refine PM.ofF (by decide +kernel) (Nat.le_of_ble_eq_true rfl) ?_
  refine r_iload_n (pc := 0) 0 dJ9_abs_0f7a4_0 rfl rfl ?_
  refine r_if_ge (pc := 1) (tgt := 9) dJ9_abs_0f7a4_1 (by decide) (by omega) (fun c_1 => ?_) (fun c_1 => ?_)
  · refine r_iload_n (pc := 9) 0 dJ9_abs_0f7a4_9 rfl rfl ?_
    exact r_iret (pc := 10) dJ9_abs_0f7a4_10 rfl rfl ⟨by unfold abI; first | rw [if_pos (by omega)] | rw [if_neg (by omega)], rfl, rfl⟩
  · refine r_iload_n (pc := 4) 0 dJ9_abs_0f7a4_4 rfl rfl ?_
    refine r_ineg (pc := 5) dJ9_abs_0f7a4_5 ?_
    refine r_goto (pc := 6) (tgt := 10) dJ9_abs_0f7a4_6 (by decide) ?_
    exact r_iret (pc := 10) dJ9_abs_0f7a4_10 rfl rfl ⟨by unfold abI; first | rw [if_pos (by omega)] | rw [if_neg (by omega)], rfl, rfl⟩

set_option maxRecDepth 100000 in
set_option maxHeartbeats 4000000 in
theorem x_falseIf (l : Launch) (z : Zv) (d : Nat) {g : Gm} {f : Fm} {a c k : Nat} {K : Nat → Int} {D0 M0 : Int} (hS : SL g a) (hO : KO K D0 M0) (hm : f a 2 = K 79) (hci : ∀ i, i < 8 → f (a + 1) i = K (61 + 2 * i) ∧ f (a + 2) i = K (62 + 2 * i)) (hc : c < 8) (hk : k ≤ 20) : PM l z d mX5_falseIf [.ref a, .int (iI ((c : Nat) : Int)), .int (iI ((k : Nat) : Int))] g f 0 0 (rdQ (.int (iI ((clN K c ((k : Nat) : Int) (K 79).toNat : Nat) : Int))) g f) := by
  have hcm := hO.cm
  refine PM.of (by decide +kernel) (Nat.le_of_ble_eq_true rfl) ?_
  have loop : ∀ m i : Nat, m = (K 79).toNat - i → i ≤ (K 79).toNat → PW l z d mX5_falseIf 0 0 (rdQ (.int (iI ((clN K c ((k : Nat) : Int) (K 79).toNat : Nat) : Int))) g f) 5 [(4, (.int (iI (((i : Nat) : Int))))), (3, (.int (iI (((clN K c ((k : Nat) : Int) i : Nat) : Int))))), (0, (.ref a)), (1, (.int (iI (((c : Nat) : Int))))), (2, (.int (iI (((k : Nat) : Int)))))] [] g f 0 0 := by
    intro m
    induction m using Nat.strongRecOn with
    | _ m ih =>
      intro i hmm hi
      refine r_iload (pc := 5) 0 dX5_falseIf_5 rfl ?_
      refine r_aload_n (pc := 7) 2 dX5_falseIf_7 rfl rfl ?_
      refine r_getIv (pc := 8) (x := K 79) dX5_falseIf_8 fl_X5_18 rfl hS.k (hm) ?_
      refine r_icmp_ge (pc := 11) (tgt := 45) dX5_falseIf_11 (by decide) (by omega) (by omega) (fun c_11 => ?_) (fun c_11 => ?_)
      · refine r_iload_n (pc := 45) 1 dX5_falseIf_45 rfl rfl ?_
        have hke : i = (K 79).toNat := by omega
        exact r_iret (pc := 46) dX5_falseIf_46 rfl rfl ⟨by rw [hke], rfl, rfl⟩
      · have h77 := hO.n
        have hck := hO.ci i (by omega)
        refine r_aload_n (pc := 14) 2 dX5_falseIf_14 rfl rfl ?_
        refine r_getR (pc := 15) (b := (a + 1)) dX5_falseIf_15 fl_X5_9 rfl hS.k hS.r0 ?_
        refine r_iload (pc := 18) 0 dX5_falseIf_18 rfl ?_
        refine r_ialdv (pc := 20) (w := K (61 + 2 * i)) dX5_falseIf_20 hS.a0 (by omega) (by decide) ((hci _ (by omega)).1) ?_
        refine r_iload_n (pc := 21) 3 dX5_falseIf_21 rfl rfl ?_
        refine r_icmp_ne (pc := 22) (tgt := 39) dX5_falseIf_22 (by decide) (by omega) (by omega) (fun c_22 => ?_) (fun c_22 => ?_)
        · refine r_iincv (pc := 39) (y := ((i + 1 : Nat) : Int)) (L2 := [(4, (.int (iI (((i + 1 : Nat) : Int))))), (3, (.int (iI (((clN K c ((k : Nat) : Int) i : Nat) : Int))))), (0, (.ref a)), (1, (.int (iI (((c : Nat) : Int))))), (2, (.int (iI (((k : Nat) : Int)))))]) 0 dX5_falseIf_39 rfl (by omega) (by decide) rfl ?_
          refine r_goto (pc := 42) (tgt := 5) dX5_falseIf_42 (by decide) ?_
          refine r_sub (L2 := [(4, (.int (iI (((i + 1 : Nat) : Int))))), (3, (.int (iI (((clN K c ((k : Nat) : Int) (i + 1) : Nat) : Int))))), (0, (.ref a)), (1, (.int (iI (((c : Nat) : Int))))), (2, (.int (iI (((k : Nat) : Int)))))]) [0, 1, 2, 3, 4] (by rw [clN_s, if_neg (fun h => by obtain ⟨h1, h2⟩ := h; omega)]; rfl) ?_
          exact ih ((K 79).toNat - (i + 1)) (by omega) (i + 1) (by omega) (by omega)
        · refine r_aload_n (pc := 25) 2 dX5_falseIf_25 rfl rfl ?_
          refine r_getR (pc := 26) (b := (a + 2)) dX5_falseIf_26 fl_X5_15 rfl hS.k hS.r1 ?_
          refine r_iload (pc := 29) 0 dX5_falseIf_29 rfl ?_
          refine r_ialdv (pc := 31) (w := K (62 + 2 * i)) dX5_falseIf_31 hS.a1 (by omega) (by decide) ((hci _ (by omega)).2) ?_
          refine r_iload_n (pc := 32) 4 dX5_falseIf_32 rfl rfl ?_
          refine r_icmp_eq (pc := 33) (tgt := 39) dX5_falseIf_33 (by decide) (by omega) (by omega) (fun c_33 => ?_) (fun c_33 => ?_)
          · refine r_iincv (pc := 39) (y := ((i + 1 : Nat) : Int)) (L2 := [(4, (.int (iI (((i + 1 : Nat) : Int))))), (3, (.int (iI (((clN K c ((k : Nat) : Int) i : Nat) : Int))))), (0, (.ref a)), (1, (.int (iI (((c : Nat) : Int))))), (2, (.int (iI (((k : Nat) : Int)))))]) 0 dX5_falseIf_39 rfl (by omega) (by decide) rfl ?_
            refine r_goto (pc := 42) (tgt := 5) dX5_falseIf_42 (by decide) ?_
            refine r_sub (L2 := [(4, (.int (iI (((i + 1 : Nat) : Int))))), (3, (.int (iI (((clN K c ((k : Nat) : Int) (i + 1) : Nat) : Int))))), (0, (.ref a)), (1, (.int (iI (((c : Nat) : Int))))), (2, (.int (iI (((k : Nat) : Int)))))]) [0, 1, 2, 3, 4] (by rw [clN_s, if_neg (fun h => by obtain ⟨h1, h2⟩ := h; omega)]; rfl) ?_
            exact ih ((K 79).toNat - (i + 1)) (by omega) (i + 1) (by omega) (by omega)
          · refine r_iincv (pc := 36) (y := ((clN K c ((k : Nat) : Int) i + 1 : Nat) : Int)) (L2 := [(3, (.int (iI (((clN K c ((k : Nat) : Int) i + 1 : Nat) : Int))))), (4, (.int (iI (((i : Nat) : Int))))), (0, (.ref a)), (1, (.int (iI (((c : Nat) : Int))))), (2, (.int (iI (((k : Nat) : Int)))))]) 1 dX5_falseIf_36 rfl (by omega) (by decide) rfl ?_
            refine r_iincv (pc := 39) (y := ((i + 1 : Nat) : Int)) (L2 := [(4, (.int (iI (((i + 1 : Nat) : Int))))), (3, (.int (iI (((clN K c ((k : Nat) : Int) i + 1 : Nat) : Int))))), (0, (.ref a)), (1, (.int (iI (((c : Nat) : Int))))), (2, (.int (iI (((k : Nat) : Int)))))]) 1 dX5_falseIf_39 rfl (by omega) (by decide) rfl ?_
            refine r_goto (pc := 42) (tgt := 5) dX5_falseIf_42 (by decide) ?_
            refine r_sub (L2 := [(4, (.int (iI (((i + 1 : Nat) : Int))))), (3, (.int (iI (((clN K c ((k : Nat) : Int) (i + 1) : Nat) : Int))))), (0, (.ref a)), (1, (.int (iI (((c : Nat) : Int))))), (2, (.int (iI (((k : Nat) : Int)))))]) [0, 1, 2, 3, 4] (by rw [clN_s, if_pos ⟨by omega, by omega⟩]; rfl) ?_
            exact ih ((K 79).toNat - (i + 1)) (by omega) (i + 1) (by omega) (by omega)
  refine r_iconst (pc := 0) dX5_falseIf_0 ?_
  refine r_istore_n (pc := 1) (L2 := [(3, (.int (iI (0)))), (0, (.ref a)), (1, (.int (iI (((c : Nat) : Int))))), (2, (.int (iI (((k : Nat) : Int)))))]) dX5_falseIf_1 rfl (by decide) rfl ?_
  refine r_iconst (pc := 2) dX5_falseIf_2 ?_
  refine r_istore (pc := 3) (L2 := [(4, (.int (iI (0)))), (3, (.int (iI (0)))), (0, (.ref a)), (1, (.int (iI (((c : Nat) : Int))))), (2, (.int (iI (((k : Nat) : Int)))))]) dX5_falseIf_3 (by decide) rfl ?_
  refine r_sub (L2 := [(4, (.int (iI (((0 : Nat) : Int))))), (3, (.int (iI (((clN K c ((k : Nat) : Int) 0 : Nat) : Int))))), (0, (.ref a)), (1, (.int (iI (((c : Nat) : Int))))), (2, (.int (iI (((k : Nat) : Int)))))]) [0, 1, 2, 3, 4] rfl ?_
  exact loop (K 79).toNat 0 (by omega) (by omega)

def SrK (f : Fm) (e : Nat) (K : Nat → Int) (n b : Nat) : Prop := f e 5 = sLo K n b ∧ f e 6 = ((sWy K n b : Nat) : Int) ∧ (0 < sWy K n b → ∀ p, p < n → f (e + 4) p = ((sRw K n b p : Nat) : Int))
theorem iI_w (x : Int) : iI x = iI (x + 4294967296) := by
  unfold iI
  rw [Int32.ofInt_add, show Int32.ofInt 4294967296 = 0 from rfl, Int32.add_zero]
theorem x_placedW (l : Launch) (z : Zv) (d : Nat) {g : Gm} {f : Fm} {e n wy : Nat} {pl : Int} (hE : EL g e) (hn : n ≤ 8) (hwr : wy ≤ 16777216) (hpl : -2147483650 ≤ pl ∧ pl ≤ 2147483647) (hw : f e 6 = ((wy : Nat) : Int)) : PM l z (d + 1) mX6_placed [.ref e, .int (iI pl), .int (iI ((n : Nat) : Int))] g f 0 0 (rdQ (.int (iI (if 0 < wy ∧ 0 ≤ pl ∧ pl < (n : Int) then f (e + 4) pl.toNat else -1))) g f) := by
  rcases (show -2147483648 ≤ pl ∨ pl < -2147483648 by omega) with h | h
  · exact x_placed l z d hE hn hwr (by omega) hw
  · have := x_placed (pl := pl + 4294967296) l z d hE hn hwr (by omega) hw
    rw [if_neg (by omega)] at this
    rw [if_neg (by omega), iI_w pl]
    exact this

theorem co_rK {K : Nat → Int} {D0 M0 : Int} {n a2 b s i : Nat} {b0 b1 : Nat} {dz lp : Int} (hO : KO K D0 M0) (hn : K 77 = ((n : Nat) : Int)) (hi : i < n) : -50000000 ≤ coV K (waK K (K 42) (hdK K)) b dz lp b0 b1 n a2 s i ∧ coV K (waK K (K 42) (hdK K)) b dz lp b0 b1 n a2 s i ≤ 50000000 := by
  unfold coV
  have := hO.n
  exact msV_r hO (by omega) (waK_r hO (by omega)) (by omega)
theorem owK {g : Gm} {f f1 : Fm} {K : Nat → Int} {n c e : Nat} (hF : ∀ q, q ≠ e → f1 q = f q) (hB : BK g f 65 K) (hn : K 77 = ((n : Nat) : Int)) (hc : c < n) (he : e = 141) (h8 : c < 8) : xaOwed f1 ((c : Nat) : Int) = K (5 * c + 4) - K 40 * K (5 * c + 3) := by
  subst he
  unfold xaOwed
  rw [hF 65 (by decide), hF 66 (by decide), hF 67 (by decide), hB.n, if_pos (by omega)]
  have h4 : f 66 (8 * 4 + c) = K (5 * c + 4) := hB.tr (by decide) h8
  have h3 : f 66 (8 * 3 + c) = K (5 * c + 3) := hB.tr (by decide) h8
  have h0 : f 67 0 = K 40 := hB.te (t := 0) (by decide)
  rw [show (4 * 8 + ((c : Nat) : Int)).toNat = 8 * 4 + c by omega, show (3 * 8 + ((c : Nat) : Int)).toNat = 8 * 3 + c by omega, h4, h3, h0]
set_option maxRecDepth 100000 in
set_option maxHeartbeats 4000000 in
theorem x_searchBest (l : Launch) (z : Zv) (d : Nat) {g : Gm} {f : Fm} {n : Nat} {K : Nat → Int} {D0 M0 : Int} (hX : XL g) (hB : BK g f 65 K) (hO : KO K D0 M0) (hD0 : D0 ≤ 1000000) (hM0 : M0 ≤ 1100000) (hn : K 77 = ((n : Nat) : Int)) (hY : DYK f 111 K n) (hkn : f 135 4 = 0 ∨ (f 135 4 = 1 ∧ SrK f 135 K n 0)) : PM l z (d + 5) mX10_searchBest [.ref 64] g f 0 0 (fun r g' f' => r = some (.ref 135) ∧ g = g' ∧ (∀ q, q < 135 ∨ 139 < q → f' q = f q) ∧ f' 135 4 = 1 ∧ SrK f' 135 K n 0) := by
  have hn8 : n ≤ 8 := by have := hO.n; omega
  have hbb : bkK K 0 ≤ 1100000 ∧ bkK K 1 ≤ 1100000 := by
    have h1 := hO.b0
    have h2 := hO.b1
    have e1 : bkK K 0 = (K 43).toNat := rfl
    have e2 : bkK K 1 = (K 44).toNat := rfl
    omega
  have inner : ∀ c, c < n → ∀ m k : Nat, m = 21 - k → k ≤ 21 → ∀ f1 : Fm, (∀ q, q ≠ 136 → f1 q = f q) → (∀ c1, c1 < c → ∀ k1 : Nat, k1 ≤ 20 → f1 136 (21 * c1 + k1) = msV K (waK K (K 42) (hdK K)) 0 c1 ((k1 : Nat) : Int)) → (∀ k1 : Nat, k1 < k → f1 136 (21 * c + k1) = msV K (waK K (K 42) (hdK K)) 0 c ((k1 : Nat) : Int)) → (∀ f2 : Fm, (∀ q, q ≠ 136 → f2 q = f q) → (∀ c1, c1 < c + 1 → ∀ k1 : Nat, k1 ≤ 20 → f2 136 (21 * c1 + k1) = msV K (waK K (K 42) (hdK K)) 0 c1 ((k1 : Nat) : Int)) → PW l z (d + 5) mX10_searchBest 0 0 (fun r g' f' => r = some (.ref 135) ∧ g = g' ∧ (∀ q, q < 135 ∨ 139 < q → f' q = f q) ∧ f' 135 4 = 1 ∧ SrK f' 135 K n 0) 12 [(1, (.int (iI (((c + 1 : Nat) : Int))))), (0, (.ref 64))] [] g f2 0 0) → PW l z (d + 5) mX10_searchBest 0 0 (fun r g' f' => r = some (.ref 135) ∧ g = g' ∧ (∀ q, q < 135 ∨ 139 < q → f' q = f q) ∧ f' 135 4 = 1 ∧ SrK f' 135 K n 0) 25 [(2, (.int (iI (((k : Nat) : Int))))), (1, (.int (iI (((c : Nat) : Int))))), (0, (.ref 64))] [] g f1 0 0 := by
    intro c hcc m
    induction m using Nat.strongRecOn with
    | _ m ih2 =>
      intro k hm hk0 f1 hF1 hC1 hC2 hk
      refine r_iload_n (pc := 25) 0 dX10_searchBest_25 rfl rfl ?_
      refine r_bipush (pc := 26) dX10_searchBest_26 (by decide) ?_
      refine r_icmp_gt (pc := 28) (tgt := 55) dX10_searchBest_28 (by decide) (by omega) (by omega) (fun c_28 => ?_) (fun c_28 => ?_)
      · refine r_iincv (pc := 55) (y := ((c + 1 : Nat) : Int)) (L2 := [(1, (.int (iI (((c + 1 : Nat) : Int))))), (2, (.int (iI (((k : Nat) : Int))))), (0, (.ref 64))]) 1 dX10_searchBest_55 rfl (by omega) (by decide) rfl ?_
        refine r_goto (pc := 58) (tgt := 12) dX10_searchBest_58 (by decide) ?_
        refine r_sub (L2 := [(1, (.int (iI (((c + 1 : Nat) : Int))))), (0, (.ref 64))]) [0, 2] rfl ?_
        exact hk f1 hF1 (fun c1 hc1 k1 hk1 => by rcases Nat.lt_succ_iff_lt_or_eq.mp hc1 with h | h; exact hC1 c1 h k1 hk1; subst h; exact hC2 k1 (by omega))
      · refine r_aload_n (pc := 31) 2 dX10_searchBest_31 rfl rfl ?_
        refine r_getR (pc := 32) (b := 135) dX10_searchBest_32 fl_X10_47 rfl hX.k hX.r7 ?_
        refine r_iload_n (pc := 35) 1 dX10_searchBest_35 rfl rfl ?_
        refine r_iload_n (pc := 36) 0 dX10_searchBest_36 rfl rfl ?_
        refine r_iload_n (pc := 37) 0 dX10_searchBest_37 rfl rfl ?_
        refine r_if_le (pc := 38) (tgt := 45) dX10_searchBest_38 (by decide) (by omega) (fun c_38 => ?_) (fun c_38 => ?_)
        · refine r_iconst (pc := 45) dX10_searchBest_45 ?_
          refine r_eqI (y := msV K (waK K (K 42) (hdK K)) 0 c ((k : Nat) : Int)) (by unfold msV; rw [if_pos rfl, if_neg (by omega)]) ?_
          refine r_callV (pc := 46) (As := [(.int (iI (((c : Nat) : Int)))), (.int (iI (((k : Nat) : Int)))), (.int (iI (msV K (waK K (K 42) (hdK K)) 0 c ((k : Nat) : Int))))]) (S := []) dX10_searchBest_46 cv_X10_335 hX.o7.k rfl (Nat.le_of_ble_eq_true rfl) (x_setCost (c := c) (k := k) l z _ hX.o7 (by omega) (by omega)) (Nat.zero_le _) (Nat.zero_le _) (fun r_46 g_46 f_46 q_46 => ?_)
          obtain ⟨rfl, rfl, rfl⟩ := q_46
          refine r_iincv (pc := 49) (y := ((k + 1 : Nat) : Int)) (L2 := [(2, (.int (iI (((k + 1 : Nat) : Int))))), (1, (.int (iI (((c : Nat) : Int))))), (0, (.ref 64))]) 0 dX10_searchBest_49 rfl (by omega) (by decide) rfl ?_
          refine r_goto (pc := 52) (tgt := 25) dX10_searchBest_52 (by decide) ?_
          refine r_sub (L2 := [(2, (.int (iI (((k + 1 : Nat) : Int))))), (1, (.int (iI (((c : Nat) : Int))))), (0, (.ref 64))]) [0, 1, 2] rfl ?_
          exact ih2 (21 - (k + 1)) (by omega) (k + 1) (by omega) (by omega) _ (fun q hq => by rw [stF_n _ _ _ hq]; exact hF1 q hq) (fun c1 hc1 k1 hk1 => by rw [stF_i _ _ _ (by omega)]; exact hC1 c1 hc1 k1 hk1) (fun k1 hk1 => by rcases Nat.lt_succ_iff_lt_or_eq.mp hk1 with h | h; rw [stF_i _ _ _ (by omega)]; exact hC2 k1 h; subst h; exact stF_s _ _ _ _) hk
        · refine r_iconst (pc := 41) dX10_searchBest_41 ?_
          refine r_goto (pc := 42) (tgt := 46) dX10_searchBest_42 (by decide) ?_
          refine r_eqI (y := msV K (waK K (K 42) (hdK K)) 0 c ((k : Nat) : Int)) (by unfold msV; rw [if_pos rfl, if_pos (by omega)]) ?_
          refine r_callV (pc := 46) (As := [(.int (iI (((c : Nat) : Int)))), (.int (iI (((k : Nat) : Int)))), (.int (iI (msV K (waK K (K 42) (hdK K)) 0 c ((k : Nat) : Int))))]) (S := []) dX10_searchBest_46 cv_X10_335 hX.o7.k rfl (Nat.le_of_ble_eq_true rfl) (x_setCost (c := c) (k := k) l z _ hX.o7 (by omega) (by omega)) (Nat.zero_le _) (Nat.zero_le _) (fun r_46 g_46 f_46 q_46 => ?_)
          obtain ⟨rfl, rfl, rfl⟩ := q_46
          refine r_iincv (pc := 49) (y := ((k + 1 : Nat) : Int)) (L2 := [(2, (.int (iI (((k + 1 : Nat) : Int))))), (1, (.int (iI (((c : Nat) : Int))))), (0, (.ref 64))]) 0 dX10_searchBest_49 rfl (by omega) (by decide) rfl ?_
          refine r_goto (pc := 52) (tgt := 25) dX10_searchBest_52 (by decide) ?_
          refine r_sub (L2 := [(2, (.int (iI (((k + 1 : Nat) : Int))))), (1, (.int (iI (((c : Nat) : Int))))), (0, (.ref 64))]) [0, 1, 2] rfl ?_
          exact ih2 (21 - (k + 1)) (by omega) (k + 1) (by omega) (by omega) _ (fun q hq => by rw [stF_n _ _ _ hq]; exact hF1 q hq) (fun c1 hc1 k1 hk1 => by rw [stF_i _ _ _ (by omega)]; exact hC1 c1 hc1 k1 hk1) (fun k1 hk1 => by rcases Nat.lt_succ_iff_lt_or_eq.mp hk1 with h | h; rw [stF_i _ _ _ (by omega)]; exact hC2 k1 h; subst h; exact stF_s _ _ _ _) hk
  have outer : ∀ m c : Nat, m = n - c → c ≤ n → ∀ f1 : Fm, (∀ q, q ≠ 136 → f1 q = f q) → (∀ c1, c1 < c → ∀ k1 : Nat, k1 ≤ 20 → f1 136 (21 * c1 + k1) = msV K (waK K (K 42) (hdK K)) 0 c1 ((k1 : Nat) : Int)) → PW l z (d + 5) mX10_searchBest 0 0 (fun r g' f' => r = some (.ref 135) ∧ g = g' ∧ (∀ q, q < 135 ∨ 139 < q → f' q = f q) ∧ f' 135 4 = 1 ∧ SrK f' 135 K n 0) 12 [(1, (.int (iI (((c : Nat) : Int))))), (0, (.ref 64))] [] g f1 0 0 := by
    intro m
    induction m using Nat.strongRecOn with
    | _ m ih =>
      intro c hm hc0 f1 hF1 hC1
      refine r_iload_n (pc := 12) 0 dX10_searchBest_12 rfl rfl ?_
      refine r_aload_n (pc := 13) 1 dX10_searchBest_13 rfl rfl ?_
      refine r_getR (pc := 14) (b := 65) dX10_searchBest_14 fl_X10_10 rfl hX.k hX.r0 ?_
      refine r_getIv (pc := 17) (x := ((n : Nat) : Int)) dX10_searchBest_17 fl_X10_89 rfl hX.o0.k (((congrFun (hF1 65 (by decide)) 5).trans (hB.n.trans hn))) ?_
      refine r_icmp_ge (pc := 20) (tgt := 61) dX10_searchBest_20 (by decide) (by omega) (by omega) (fun c_20 => ?_) (fun c_20 => ?_)
      · have hC1 : ∀ c1, c1 < n → ∀ k1 : Nat, k1 ≤ 20 → f1 136 (21 * c1 + k1) = msV K (waK K (K 42) (hdK K)) 0 c1 ((k1 : Nat) : Int) := fun c1 h => hC1 c1 (by omega)
        refine r_aload_n (pc := 61) 1 dX10_searchBest_61 rfl rfl ?_
        refine r_getR (pc := 62) (b := 135) dX10_searchBest_62 fl_X10_47 rfl hX.k hX.r7 ?_
        refine r_aload_n (pc := 65) 1 dX10_searchBest_65 rfl rfl ?_
        refine r_getR (pc := 66) (b := 111) dX10_searchBest_66 fl_X10_37 rfl hX.k hX.r5 ?_
        refine r_iconst (pc := 69) dX10_searchBest_69 ?_
        refine r_eqI (y := b01 (decide ((0 : Nat) = 1) = true)) (by decide) ?_
        refine r_callV (pc := 70) (As := [(.ref 111), (.int (iI (b01 (decide ((0 : Nat) = 1) = true))))]) (S := []) dX10_searchBest_70 cv_X10_338 hX.o7.k rfl (Nat.le_of_ble_eq_true rfl) (x_run (e := 135) (y := 111) (co := (coV K (waK K (K 42) (hdK K)) 0 (K 40) (K 41) (bkK K 0) (bkK K 1) n (wmk (fun c => decide (ovK K c ≠ 0)) n))) (bg := decide ((0 : Nat) = 1)) l z _ hX.o7 hX.o5 (hY.mv (fun q h1 h2 => hF1 q (by omega))) hO.dz hO.lp hbb (by omega) (fun s hs i hi => by unfold coV; rw [hC1 i hi _ (by omega)]; congr 1; omega) (fun s i hi => co_rK hO hn hi)) (Nat.zero_le _) (Nat.zero_le _) (fun r_70 g_70 f_70 q_70 => ?_)
        obtain ⟨rfl, rfl, hr1, hr2, hr3, hr4, hr5⟩ := q_70
        refine r_aload_n (pc := 73) 1 dX10_searchBest_73 rfl rfl ?_
        refine r_getR (pc := 74) (b := 135) dX10_searchBest_74 fl_X10_47 rfl hX.k hX.r7 ?_
        have hcn : c = n := by omega
        exact r_aret (pc := 77) dX10_searchBest_77 rfl (by simp) ⟨rfl, rfl, fun q hq => by rw [hr1 q (by omega) (by omega) (by omega) (by omega)]; exact hF1 q (by omega), hr2, hr3, hr4, hr5⟩
      · refine r_iconst (pc := 23) dX10_searchBest_23 ?_
        refine r_istore_n (pc := 24) (L2 := [(2, (.int (iI (0)))), (1, (.int (iI (((c : Nat) : Int))))), (0, (.ref 64))]) dX10_searchBest_24 rfl (by decide) rfl ?_
        refine r_sub (L2 := [(2, (.int (iI (((0 : Nat) : Int))))), (1, (.int (iI (((c : Nat) : Int))))), (0, (.ref 64))]) [0, 1, 2] rfl ?_
        exact inner c (by omega) 21 0 (by omega) (by omega) f1 hF1 hC1 (fun k1 hk => absurd hk (by omega)) (fun f2 v1 v2 => ih (n - (c + 1)) (by omega) (c + 1) (by omega) (by omega) f2 v1 v2)
  rcases hkn with hkn | hkn
  · refine PM.of (by decide +kernel) (Nat.le_of_ble_eq_true rfl) ?_
    refine r_aload_n (pc := 0) 0 dX10_searchBest_0 rfl rfl ?_
    refine r_getR (pc := 1) (b := 135) dX10_searchBest_1 fl_X10_47 rfl hX.k hX.r7 ?_
    refine r_getIv (pc := 4) (x := 0) dX10_searchBest_4 fl_X10_256 rfl hX.o7.k (hkn) ?_
    refine r_if_ne (pc := 7) (tgt := 73) dX10_searchBest_7 (by decide) (by omega) (fun c_7 => ?_) (fun c_7 => ?_)
    · exact absurd c_7 (by decide)
    · refine r_iconst (pc := 10) dX10_searchBest_10 ?_
      refine r_istore_n (pc := 11) (L2 := [(1, (.int (iI (0)))), (0, (.ref 64))]) dX10_searchBest_11 rfl (by decide) rfl ?_
      refine r_sub (L2 := [(1, (.int (iI (((0 : Nat) : Int))))), (0, (.ref 64))]) [0, 1] rfl ?_
      exact outer n 0 (by omega) (by omega) f (fun _ _ => rfl) (fun c1 hc1 => absurd hc1 (by omega))
  · refine PM.of (by decide +kernel) (Nat.le_of_ble_eq_true rfl) ?_
    refine r_aload_n (pc := 0) 0 dX10_searchBest_0 rfl rfl ?_
    refine r_getR (pc := 1) (b := 135) dX10_searchBest_1 fl_X10_47 rfl hX.k hX.r7 ?_
    refine r_getIv (pc := 4) (x := 1) dX10_searchBest_4 fl_X10_256 rfl hX.o7.k (hkn.1) ?_
    refine r_if_ne (pc := 7) (tgt := 73) dX10_searchBest_7 (by decide) (by omega) (fun c_7 => ?_) (fun c_7 => ?_)
    · refine r_aload_n (pc := 73) 0 dX10_searchBest_73 rfl rfl ?_
      refine r_getR (pc := 74) (b := 135) dX10_searchBest_74 fl_X10_47 rfl hX.k hX.r7 ?_
      exact r_aret (pc := 77) dX10_searchBest_77 rfl (by simp) ⟨rfl, rfl, fun _ _ => rfl, hkn.1, hkn.2⟩
    · exact absurd c_7 (by decide)

set_option maxRecDepth 100000 in
set_option maxHeartbeats 4000000 in
theorem x_searchFairest (l : Launch) (z : Zv) (d : Nat) {g : Gm} {f : Fm} {n : Nat} {K : Nat → Int} {D0 M0 : Int} (hX : XL g) (hB : BK g f 65 K) (hO : KO K D0 M0) (hD0 : D0 ≤ 1000000) (hM0 : M0 ≤ 1100000) (hn : K 77 = ((n : Nat) : Int)) (hY : DYK f 111 K n) (hkn : f 140 4 = 0 ∨ (f 140 4 = 1 ∧ SrK f 140 K n 1)) : PM l z (d + 5) mX10_searchFairest [.ref 64] g f 0 0 (fun r g' f' => r = some (.ref 140) ∧ g = g' ∧ (∀ q, q < 140 ∨ 144 < q → f' q = f q) ∧ f' 140 4 = 1 ∧ SrK f' 140 K n 1) := by
  have hn8 : n ≤ 8 := by have := hO.n; omega
  have hbb : bkK K 0 ≤ 1100000 ∧ bkK K 1 ≤ 1100000 := by
    have h1 := hO.b0
    have h2 := hO.b1
    have e1 : bkK K 0 = (K 43).toNat := rfl
    have e2 : bkK K 1 = (K 44).toNat := rfl
    omega
  have inner : ∀ c, c < n → ∀ m k : Nat, m = 21 - k → k ≤ 21 → ∀ f1 : Fm, (∀ q, q ≠ 141 → f1 q = f q) → (∀ c1, c1 < c → ∀ k1 : Nat, k1 ≤ 20 → f1 141 (21 * c1 + k1) = msV K (waK K (K 42) (hdK K)) 1 c1 ((k1 : Nat) : Int)) → (∀ k1 : Nat, k1 < k → f1 141 (21 * c + k1) = msV K (waK K (K 42) (hdK K)) 1 c ((k1 : Nat) : Int)) → (∀ f2 : Fm, (∀ q, q ≠ 141 → f2 q = f q) → (∀ c1, c1 < c + 1 → ∀ k1 : Nat, k1 ≤ 20 → f2 141 (21 * c1 + k1) = msV K (waK K (K 42) (hdK K)) 1 c1 ((k1 : Nat) : Int)) → PW l z (d + 5) mX10_searchFairest 0 0 (fun r g' f' => r = some (.ref 140) ∧ g = g' ∧ (∀ q, q < 140 ∨ 144 < q → f' q = f q) ∧ f' 140 4 = 1 ∧ SrK f' 140 K n 1) 12 [(1, (.int (iI (((c + 1 : Nat) : Int))))), (0, (.ref 64))] [] g f2 0 0) → PW l z (d + 5) mX10_searchFairest 0 0 (fun r g' f' => r = some (.ref 140) ∧ g = g' ∧ (∀ q, q < 140 ∨ 144 < q → f' q = f q) ∧ f' 140 4 = 1 ∧ SrK f' 140 K n 1) 41 [(3, (.int (iI (((k : Nat) : Int))))), (2, (.int (iI ((K (5 * c + 4) - K 40 * K (5 * c + 3)) + (((waK K (K 42) (hdK K) c : Nat) : Int)))))), (1, (.int (iI (((c : Nat) : Int))))), (0, (.ref 64))] [] g f1 0 0 := by
    intro c hcc m
    induction m using Nat.strongRecOn with
    | _ m ih2 =>
      intro k hm hk0 f1 hF1 hC1 hC2 hk
      have hcf := hO.f (c := c) (by omega)
      have hdz := hO.dz
      have hmr := mul20_r (x := K 40) (y := K (5 * c + 3)) (by omega) (by omega)
      have hw4 := waK_r (day := K 42) (hd := hdK K) hO (c := c) (by omega)
      refine r_iload_n (pc := 41) 0 dX10_searchFairest_41 rfl rfl ?_
      refine r_bipush (pc := 42) dX10_searchFairest_42 (by decide) ?_
      refine r_icmp_gt (pc := 44) (tgt := 78) dX10_searchFairest_44 (by decide) (by omega) (by omega) (fun c_44 => ?_) (fun c_44 => ?_)
      · refine r_iincv (pc := 78) (y := ((c + 1 : Nat) : Int)) (L2 := [(1, (.int (iI (((c + 1 : Nat) : Int))))), (3, (.int (iI (((k : Nat) : Int))))), (2, (.int (iI ((K (5 * c + 4) - K 40 * K (5 * c + 3)) + (((waK K (K 42) (hdK K) c : Nat) : Int)))))), (0, (.ref 64))]) 2 dX10_searchFairest_78 rfl (by omega) (by decide) rfl ?_
        refine r_goto (pc := 81) (tgt := 12) dX10_searchFairest_81 (by decide) ?_
        refine r_sub (L2 := [(1, (.int (iI (((c + 1 : Nat) : Int))))), (0, (.ref 64))]) [0, 3] rfl ?_
        exact hk f1 hF1 (fun c1 hc1 k1 hk1 => by rcases Nat.lt_succ_iff_lt_or_eq.mp hc1 with h | h; exact hC1 c1 h k1 hk1; subst h; exact hC2 k1 (by omega))
      · refine r_aload_n (pc := 47) 3 dX10_searchFairest_47 rfl rfl ?_
        refine r_getR (pc := 48) (b := 140) dX10_searchFairest_48 fl_X10_51 rfl hX.k hX.r8 ?_
        refine r_iload_n (pc := 51) 2 dX10_searchFairest_51 rfl rfl ?_
        refine r_iload_n (pc := 52) 0 dX10_searchFairest_52 rfl rfl ?_
        refine r_iload_n (pc := 53) 1 dX10_searchFairest_53 rfl rfl ?_
        refine r_aload_n (pc := 54) 3 dX10_searchFairest_54 rfl rfl ?_
        refine r_getR (pc := 55) (b := 65) dX10_searchFairest_55 fl_X10_10 rfl hX.k hX.r0 ?_
        refine r_getR (pc := 58) (b := 67) dX10_searchFairest_58 fl_X10_123 rfl hX.o0.k hX.o0.r1 ?_
        refine r_iconst (pc := 61) dX10_searchFairest_61 ?_
        refine r_ialdv (pc := 62) (w := K 40) dX10_searchFairest_62 hX.o0.a1 (by decide) (by decide) ((congrFun (hF1 67 (by decide)) 0).trans (hB.te (t := 0) (by decide))) ?_
        refine r_iload_n (pc := 63) 0 dX10_searchFairest_63 rfl rfl ?_
        refine r_imul (pc := 64) dX10_searchFairest_64 ?_
        refine r_isub (pc := 65) dX10_searchFairest_65 ?_
        have hmk := mul20_r (x := K 40) (y := ((k : Nat) : Int)) (by omega) (by omega)
        refine r_callS (pc := 66) (As := [(.int (iI (((K (5 * c + 4) - K 40 * K (5 * c + 3)) + (((waK K (K 42) (hdK K) c : Nat) : Int))) - ((K 40) * (((k : Nat) : Int))))))]) (S := [(.int (iI (((k : Nat) : Int)))), (.int (iI (((c : Nat) : Int)))), (.ref 140)]) dX10_searchFairest_66 cs_X10_345 rfl (Nat.le_of_ble_eq_true rfl) (c_abs l z _ (by omega)) (Nat.zero_le _) (Nat.zero_le _) (fun r_66 g_66 f_66 q_66 => ?_)
        obtain ⟨rfl, rfl, rfl⟩ := q_66
        refine r_eqI (y := msV K (waK K (K 42) (hdK K)) 1 c ((k : Nat) : Int)) (by unfold msV; rw [if_neg (by decide), if_pos rfl, Int.mul_add]; congr 1; omega) ?_
        refine r_callV (pc := 69) (As := [(.int (iI (((c : Nat) : Int)))), (.int (iI (((k : Nat) : Int)))), (.int (iI (msV K (waK K (K 42) (hdK K)) 1 c ((k : Nat) : Int))))]) (S := []) dX10_searchFairest_69 cv_X10_335 hX.o8.k rfl (Nat.le_of_ble_eq_true rfl) (x_setCost (c := c) (k := k) l z _ hX.o8 (by omega) (by omega)) (Nat.zero_le _) (Nat.zero_le _) (fun r_69 g_69 f_69 q_69 => ?_)
        obtain ⟨rfl, rfl, rfl⟩ := q_69
        refine r_iincv (pc := 72) (y := ((k + 1 : Nat) : Int)) (L2 := [(3, (.int (iI (((k + 1 : Nat) : Int))))), (2, (.int (iI ((K (5 * c + 4) - K 40 * K (5 * c + 3)) + (((waK K (K 42) (hdK K) c : Nat) : Int)))))), (1, (.int (iI (((c : Nat) : Int))))), (0, (.ref 64))]) 0 dX10_searchFairest_72 rfl (by omega) (by decide) rfl ?_
        refine r_goto (pc := 75) (tgt := 41) dX10_searchFairest_75 (by decide) ?_
        refine r_sub (L2 := [(3, (.int (iI (((k + 1 : Nat) : Int))))), (2, (.int (iI ((K (5 * c + 4) - K 40 * K (5 * c + 3)) + (((waK K (K 42) (hdK K) c : Nat) : Int)))))), (1, (.int (iI (((c : Nat) : Int))))), (0, (.ref 64))]) [0, 1, 2, 3] rfl ?_
        exact ih2 (21 - (k + 1)) (by omega) (k + 1) (by omega) (by omega) _ (fun q hq => by rw [stF_n _ _ _ hq]; exact hF1 q hq) (fun c1 hc1 k1 hk1 => by rw [stF_i _ _ _ (by omega)]; exact hC1 c1 hc1 k1 hk1) (fun k1 hk1 => by rcases Nat.lt_succ_iff_lt_or_eq.mp hk1 with h | h; rw [stF_i _ _ _ (by omega)]; exact hC2 k1 h; subst h; exact stF_s _ _ _ _) hk
  have outer : ∀ m c : Nat, m = n - c → c ≤ n → ∀ f1 : Fm, (∀ q, q ≠ 141 → f1 q = f q) → (∀ c1, c1 < c → ∀ k1 : Nat, k1 ≤ 20 → f1 141 (21 * c1 + k1) = msV K (waK K (K 42) (hdK K)) 1 c1 ((k1 : Nat) : Int)) → PW l z (d + 5) mX10_searchFairest 0 0 (fun r g' f' => r = some (.ref 140) ∧ g = g' ∧ (∀ q, q < 140 ∨ 144 < q → f' q = f q) ∧ f' 140 4 = 1 ∧ SrK f' 140 K n 1) 12 [(1, (.int (iI (((c : Nat) : Int))))), (0, (.ref 64))] [] g f1 0 0 := by
    intro m
    induction m using Nat.strongRecOn with
    | _ m ih =>
      intro c hm hc0 f1 hF1 hC1
      refine r_iload_n (pc := 12) 0 dX10_searchFairest_12 rfl rfl ?_
      refine r_aload_n (pc := 13) 1 dX10_searchFairest_13 rfl rfl ?_
      refine r_getR (pc := 14) (b := 65) dX10_searchFairest_14 fl_X10_10 rfl hX.k hX.r0 ?_
      refine r_getIv (pc := 17) (x := ((n : Nat) : Int)) dX10_searchFairest_17 fl_X10_89 rfl hX.o0.k (((congrFun (hF1 65 (by decide)) 5).trans (hB.n.trans hn))) ?_
      refine r_icmp_ge (pc := 20) (tgt := 84) dX10_searchFairest_20 (by decide) (by omega) (by omega) (fun c_20 => ?_) (fun c_20 => ?_)
      · have hC1 : ∀ c1, c1 < n → ∀ k1 : Nat, k1 ≤ 20 → f1 141 (21 * c1 + k1) = msV K (waK K (K 42) (hdK K)) 1 c1 ((k1 : Nat) : Int) := fun c1 h => hC1 c1 (by omega)
        refine r_aload_n (pc := 84) 1 dX10_searchFairest_84 rfl rfl ?_
        refine r_getR (pc := 85) (b := 140) dX10_searchFairest_85 fl_X10_51 rfl hX.k hX.r8 ?_
        refine r_aload_n (pc := 88) 1 dX10_searchFairest_88 rfl rfl ?_
        refine r_getR (pc := 89) (b := 111) dX10_searchFairest_89 fl_X10_37 rfl hX.k hX.r5 ?_
        refine r_iconst (pc := 92) dX10_searchFairest_92 ?_
        refine r_eqI (y := b01 (decide ((1 : Nat) = 1) = true)) (by decide) ?_
        refine r_callV (pc := 93) (As := [(.ref 111), (.int (iI (b01 (decide ((1 : Nat) = 1) = true))))]) (S := []) dX10_searchFairest_93 cv_X10_338 hX.o8.k rfl (Nat.le_of_ble_eq_true rfl) (x_run (e := 140) (y := 111) (co := (coV K (waK K (K 42) (hdK K)) 1 (K 40) (K 41) (bkK K 0) (bkK K 1) n (wmk (fun c => decide (ovK K c ≠ 0)) n))) (bg := decide ((1 : Nat) = 1)) l z _ hX.o8 hX.o5 (hY.mv (fun q h1 h2 => hF1 q (by omega))) hO.dz hO.lp hbb (by omega) (fun s hs i hi => by unfold coV; rw [hC1 i hi _ (by omega)]; congr 1; omega) (fun s i hi => co_rK hO hn hi)) (Nat.zero_le _) (Nat.zero_le _) (fun r_93 g_93 f_93 q_93 => ?_)
        obtain ⟨rfl, rfl, hr1, hr2, hr3, hr4, hr5⟩ := q_93
        refine r_aload_n (pc := 96) 1 dX10_searchFairest_96 rfl rfl ?_
        refine r_getR (pc := 97) (b := 140) dX10_searchFairest_97 fl_X10_51 rfl hX.k hX.r8 ?_
        have hcn : c = n := by omega
        exact r_aret (pc := 100) dX10_searchFairest_100 rfl (by simp) ⟨rfl, rfl, fun q hq => by rw [hr1 q (by omega) (by omega) (by omega) (by omega)]; exact hF1 q (by omega), hr2, hr3, hr4, hr5⟩
      · have hcf := hO.f (c := c) (by omega)
        have hdz := hO.dz
        have hmr := mul20_r (x := K 40) (y := K (5 * c + 3)) (by omega) (by omega)
        have hw4 := waK_r (day := K 42) (hd := hdK K) hO (c := c) (by omega)
        refine r_aload_n (pc := 23) 1 dX10_searchFairest_23 rfl rfl ?_
        refine r_iload_n (pc := 24) 0 dX10_searchFairest_24 rfl rfl ?_
        refine r_callV (pc := 25) (As := [(.int (iI (((c : Nat) : Int))))]) (S := []) dX10_searchFairest_25 cv_X10_342 hX.k rfl (Nat.le_of_ble_eq_true rfl) (x_owed (c := ((c : Nat) : Int)) l z _ hX (by rw [((congrFun (hF1 65 (by decide)) 5).trans (hB.n.trans hn))]; omega) (by omega)) (Nat.zero_le _) (Nat.zero_le _) (fun r_25 g_25 f_25 q_25 => ?_)
        obtain ⟨rfl, rfl, rfl⟩ := q_25
        refine r_eqI (y := K (5 * c + 4) - K 40 * K (5 * c + 3)) (owK (e := 141) hF1 hB hn (by omega) rfl (by omega)) ?_
        refine r_aload_n (pc := 28) 1 dX10_searchFairest_28 rfl rfl ?_
        refine r_getR (pc := 29) (b := 111) dX10_searchFairest_29 fl_X10_37 rfl hX.k hX.r5 ?_
        refine r_getR (pc := 32) (b := 115) dX10_searchFairest_32 fl_X10_119 rfl hX.o5.k hX.o5.r1 ?_
        refine r_iload_n (pc := 35) 0 dX10_searchFairest_35 rfl rfl ?_
        refine r_ialdv (pc := 36) (w := ((waK K (K 42) (hdK K) c : Nat) : Int)) dX10_searchFairest_36 hX.o5.a1 (by omega) (by decide) ((congrFun (hF1 115 (by decide)) _).trans (hY.1.2.2.1 c (by omega)).1) ?_
        refine r_iadd (pc := 37) dX10_searchFairest_37 ?_
        refine r_istore_n (pc := 38) (L2 := [(2, (.int (iI ((K (5 * c + 4) - K 40 * K (5 * c + 3)) + (((waK K (K 42) (hdK K) c : Nat) : Int)))))), (1, (.int (iI (((c : Nat) : Int))))), (0, (.ref 64))]) dX10_searchFairest_38 rfl (by decide) rfl ?_
        refine r_iconst (pc := 39) dX10_searchFairest_39 ?_
        refine r_istore_n (pc := 40) (L2 := [(3, (.int (iI (0)))), (2, (.int (iI ((K (5 * c + 4) - K 40 * K (5 * c + 3)) + (((waK K (K 42) (hdK K) c : Nat) : Int)))))), (1, (.int (iI (((c : Nat) : Int))))), (0, (.ref 64))]) dX10_searchFairest_40 rfl (by decide) rfl ?_
        refine r_sub (L2 := [(3, (.int (iI (((0 : Nat) : Int))))), (2, (.int (iI ((K (5 * c + 4) - K 40 * K (5 * c + 3)) + (((waK K (K 42) (hdK K) c : Nat) : Int)))))), (1, (.int (iI (((c : Nat) : Int))))), (0, (.ref 64))]) [0, 1, 2, 3] rfl ?_
        exact inner c (by omega) 21 0 (by omega) (by omega) f1 hF1 hC1 (fun k1 hk => absurd hk (by omega)) (fun f2 v1 v2 => ih (n - (c + 1)) (by omega) (c + 1) (by omega) (by omega) f2 v1 v2)
  rcases hkn with hkn | hkn
  · refine PM.of (by decide +kernel) (Nat.le_of_ble_eq_true rfl) ?_
    refine r_aload_n (pc := 0) 0 dX10_searchFairest_0 rfl rfl ?_
    refine r_getR (pc := 1) (b := 140) dX10_searchFairest_1 fl_X10_51 rfl hX.k hX.r8 ?_
    refine r_getIv (pc := 4) (x := 0) dX10_searchFairest_4 fl_X10_256 rfl hX.o8.k (hkn) ?_
    refine r_if_ne (pc := 7) (tgt := 96) dX10_searchFairest_7 (by decide) (by omega) (fun c_7 => ?_) (fun c_7 => ?_)
    · exact absurd c_7 (by decide)
    · refine r_iconst (pc := 10) dX10_searchFairest_10 ?_
      refine r_istore_n (pc := 11) (L2 := [(1, (.int (iI (0)))), (0, (.ref 64))]) dX10_searchFairest_11 rfl (by decide) rfl ?_
      refine r_sub (L2 := [(1, (.int (iI (((0 : Nat) : Int))))), (0, (.ref 64))]) [0, 1] rfl ?_
      exact outer n 0 (by omega) (by omega) f (fun _ _ => rfl) (fun c1 hc1 => absurd hc1 (by omega))
  · refine PM.of (by decide +kernel) (Nat.le_of_ble_eq_true rfl) ?_
    refine r_aload_n (pc := 0) 0 dX10_searchFairest_0 rfl rfl ?_
    refine r_getR (pc := 1) (b := 140) dX10_searchFairest_1 fl_X10_51 rfl hX.k hX.r8 ?_
    refine r_getIv (pc := 4) (x := 1) dX10_searchFairest_4 fl_X10_256 rfl hX.o8.k (hkn.1) ?_
    refine r_if_ne (pc := 7) (tgt := 96) dX10_searchFairest_7 (by decide) (by omega) (fun c_7 => ?_) (fun c_7 => ?_)
    · refine r_aload_n (pc := 96) 0 dX10_searchFairest_96 rfl rfl ?_
      refine r_getR (pc := 97) (b := 140) dX10_searchFairest_97 fl_X10_51 rfl hX.k hX.r8 ?_
      exact r_aret (pc := 100) dX10_searchFairest_100 rfl (by simp) ⟨rfl, rfl, fun _ _ => rfl, hkn.1, hkn.2⟩
    · exact absurd c_7 (by decide)

set_option maxRecDepth 100000 in
set_option maxHeartbeats 4000000 in
theorem x_searchFalse (l : Launch) (z : Zv) (d : Nat) {g : Gm} {f : Fm} {n : Nat} {K : Nat → Int} {D0 M0 : Int} (hX : XL g) (hB : BK g f 65 K) (hO : KO K D0 M0) (hD0 : D0 ≤ 1000000) (hM0 : M0 ≤ 1100000) (hn : K 77 = ((n : Nat) : Int)) (hY : DYK f 111 K n) (hkn : f 145 4 = 0 ∨ (f 145 4 = 1 ∧ SrK f 145 K n 2)) : PM l z (d + 5) mX10_searchFalse [.ref 64] g f 0 0 (fun r g' f' => r = some (.ref 145) ∧ g = g' ∧ (∀ q, q < 145 ∨ 149 < q → f' q = f q) ∧ f' 145 4 = 1 ∧ SrK f' 145 K n 2) := by
  have hn8 : n ≤ 8 := by have := hO.n; omega
  have hbb : bkK K 0 ≤ 1100000 ∧ bkK K 1 ≤ 1100000 := by
    have h1 := hO.b0
    have h2 := hO.b1
    have e1 : bkK K 0 = (K 43).toNat := rfl
    have e2 : bkK K 1 = (K 44).toNat := rfl
    omega
  have inner : ∀ c, c < n → ∀ m k : Nat, m = 21 - k → k ≤ 21 → ∀ f1 : Fm, (∀ q, q ≠ 146 → f1 q = f q) → (∀ c1, c1 < c → ∀ k1 : Nat, k1 ≤ 20 → f1 146 (21 * c1 + k1) = msV K (waK K (K 42) (hdK K)) 2 c1 ((k1 : Nat) : Int)) → (∀ k1 : Nat, k1 < k → f1 146 (21 * c + k1) = msV K (waK K (K 42) (hdK K)) 2 c ((k1 : Nat) : Int)) → (∀ f2 : Fm, (∀ q, q ≠ 146 → f2 q = f q) → (∀ c1, c1 < c + 1 → ∀ k1 : Nat, k1 ≤ 20 → f2 146 (21 * c1 + k1) = msV K (waK K (K 42) (hdK K)) 2 c1 ((k1 : Nat) : Int)) → PW l z (d + 5) mX10_searchFalse 0 0 (fun r g' f' => r = some (.ref 145) ∧ g = g' ∧ (∀ q, q < 145 ∨ 149 < q → f' q = f q) ∧ f' 145 4 = 1 ∧ SrK f' 145 K n 2) 12 [(1, (.int (iI (((c + 1 : Nat) : Int))))), (0, (.ref 64))] [] g f2 0 0) → PW l z (d + 5) mX10_searchFalse 0 0 (fun r g' f' => r = some (.ref 145) ∧ g = g' ∧ (∀ q, q < 145 ∨ 149 < q → f' q = f q) ∧ f' 145 4 = 1 ∧ SrK f' 145 K n 2) 25 [(2, (.int (iI (((k : Nat) : Int))))), (1, (.int (iI (((c : Nat) : Int))))), (0, (.ref 64))] [] g f1 0 0 := by
    intro c hcc m
    induction m using Nat.strongRecOn with
    | _ m ih2 =>
      intro k hm hk0 f1 hF1 hC1 hC2 hk
      refine r_iload_n (pc := 25) 0 dX10_searchFalse_25 rfl rfl ?_
      refine r_bipush (pc := 26) dX10_searchFalse_26 (by decide) ?_
      refine r_icmp_gt (pc := 28) (tgt := 58) dX10_searchFalse_28 (by decide) (by omega) (by omega) (fun c_28 => ?_) (fun c_28 => ?_)
      · refine r_iincv (pc := 58) (y := ((c + 1 : Nat) : Int)) (L2 := [(1, (.int (iI (((c + 1 : Nat) : Int))))), (2, (.int (iI (((k : Nat) : Int))))), (0, (.ref 64))]) 1 dX10_searchFalse_58 rfl (by omega) (by decide) rfl ?_
        refine r_goto (pc := 61) (tgt := 12) dX10_searchFalse_61 (by decide) ?_
        refine r_sub (L2 := [(1, (.int (iI (((c + 1 : Nat) : Int))))), (0, (.ref 64))]) [0, 2] rfl ?_
        exact hk f1 hF1 (fun c1 hc1 k1 hk1 => by rcases Nat.lt_succ_iff_lt_or_eq.mp hc1 with h | h; exact hC1 c1 h k1 hk1; subst h; exact hC2 k1 (by omega))
      · refine r_aload_n (pc := 31) 2 dX10_searchFalse_31 rfl rfl ?_
        refine r_getR (pc := 32) (b := 145) dX10_searchFalse_32 fl_X10_54 rfl hX.k hX.r9 ?_
        refine r_iload_n (pc := 35) 1 dX10_searchFalse_35 rfl rfl ?_
        refine r_iload_n (pc := 36) 0 dX10_searchFalse_36 rfl rfl ?_
        refine r_aload_n (pc := 37) 2 dX10_searchFalse_37 rfl rfl ?_
        refine r_getR (pc := 38) (b := 65) dX10_searchFalse_38 fl_X10_10 rfl hX.k hX.r0 ?_
        refine r_getR (pc := 41) (b := 72) dX10_searchFalse_41 fl_X10_257 rfl hX.o0.k hX.o0.r4 ?_
        refine r_iload_n (pc := 44) 1 dX10_searchFalse_44 rfl rfl ?_
        refine r_iload_n (pc := 45) 0 dX10_searchFalse_45 rfl rfl ?_
        refine r_callV (pc := 46) (As := [(.int (iI (((c : Nat) : Int)))), (.int (iI (((k : Nat) : Int))))]) (S := [(.int (iI (((k : Nat) : Int)))), (.int (iI (((c : Nat) : Int)))), (.ref 145)]) dX10_searchFalse_46 cv_X10_350 hX.o0.o4.k rfl (Nat.le_of_ble_eq_true rfl) (x_falseIf (c := c) (k := k) l z _ hX.o0.o4 hO ((congrFun (hF1 72 (by decide)) 2).trans hB.cm) (fun i hi => ⟨(congrFun (hF1 73 (by decide)) i).trans (hB.ci hi).1, (congrFun (hF1 74 (by decide)) i).trans (hB.ci hi).2⟩) (by omega) (by omega)) (Nat.zero_le _) (Nat.zero_le _) (fun r_46 g_46 f_46 q_46 => ?_)
        obtain ⟨rfl, rfl, rfl⟩ := q_46
        refine r_eqI (y := msV K (waK K (K 42) (hdK K)) 2 c ((k : Nat) : Int)) (by unfold msV; rw [if_neg (by decide), if_neg (by decide)]) ?_
        refine r_callV (pc := 49) (As := [(.int (iI (((c : Nat) : Int)))), (.int (iI (((k : Nat) : Int)))), (.int (iI (msV K (waK K (K 42) (hdK K)) 2 c ((k : Nat) : Int))))]) (S := []) dX10_searchFalse_49 cv_X10_335 hX.o9.k rfl (Nat.le_of_ble_eq_true rfl) (x_setCost (c := c) (k := k) l z _ hX.o9 (by omega) (by omega)) (Nat.zero_le _) (Nat.zero_le _) (fun r_49 g_49 f_49 q_49 => ?_)
        obtain ⟨rfl, rfl, rfl⟩ := q_49
        refine r_iincv (pc := 52) (y := ((k + 1 : Nat) : Int)) (L2 := [(2, (.int (iI (((k + 1 : Nat) : Int))))), (1, (.int (iI (((c : Nat) : Int))))), (0, (.ref 64))]) 0 dX10_searchFalse_52 rfl (by omega) (by decide) rfl ?_
        refine r_goto (pc := 55) (tgt := 25) dX10_searchFalse_55 (by decide) ?_
        refine r_sub (L2 := [(2, (.int (iI (((k + 1 : Nat) : Int))))), (1, (.int (iI (((c : Nat) : Int))))), (0, (.ref 64))]) [0, 1, 2] rfl ?_
        exact ih2 (21 - (k + 1)) (by omega) (k + 1) (by omega) (by omega) _ (fun q hq => by rw [stF_n _ _ _ hq]; exact hF1 q hq) (fun c1 hc1 k1 hk1 => by rw [stF_i _ _ _ (by omega)]; exact hC1 c1 hc1 k1 hk1) (fun k1 hk1 => by rcases Nat.lt_succ_iff_lt_or_eq.mp hk1 with h | h; rw [stF_i _ _ _ (by omega)]; exact hC2 k1 h; subst h; exact stF_s _ _ _ _) hk
  have outer : ∀ m c : Nat, m = n - c → c ≤ n → ∀ f1 : Fm, (∀ q, q ≠ 146 → f1 q = f q) → (∀ c1, c1 < c → ∀ k1 : Nat, k1 ≤ 20 → f1 146 (21 * c1 + k1) = msV K (waK K (K 42) (hdK K)) 2 c1 ((k1 : Nat) : Int)) → PW l z (d + 5) mX10_searchFalse 0 0 (fun r g' f' => r = some (.ref 145) ∧ g = g' ∧ (∀ q, q < 145 ∨ 149 < q → f' q = f q) ∧ f' 145 4 = 1 ∧ SrK f' 145 K n 2) 12 [(1, (.int (iI (((c : Nat) : Int))))), (0, (.ref 64))] [] g f1 0 0 := by
    intro m
    induction m using Nat.strongRecOn with
    | _ m ih =>
      intro c hm hc0 f1 hF1 hC1
      refine r_iload_n (pc := 12) 0 dX10_searchFalse_12 rfl rfl ?_
      refine r_aload_n (pc := 13) 1 dX10_searchFalse_13 rfl rfl ?_
      refine r_getR (pc := 14) (b := 65) dX10_searchFalse_14 fl_X10_10 rfl hX.k hX.r0 ?_
      refine r_getIv (pc := 17) (x := ((n : Nat) : Int)) dX10_searchFalse_17 fl_X10_89 rfl hX.o0.k (((congrFun (hF1 65 (by decide)) 5).trans (hB.n.trans hn))) ?_
      refine r_icmp_ge (pc := 20) (tgt := 64) dX10_searchFalse_20 (by decide) (by omega) (by omega) (fun c_20 => ?_) (fun c_20 => ?_)
      · have hC1 : ∀ c1, c1 < n → ∀ k1 : Nat, k1 ≤ 20 → f1 146 (21 * c1 + k1) = msV K (waK K (K 42) (hdK K)) 2 c1 ((k1 : Nat) : Int) := fun c1 h => hC1 c1 (by omega)
        refine r_aload_n (pc := 64) 1 dX10_searchFalse_64 rfl rfl ?_
        refine r_getR (pc := 65) (b := 145) dX10_searchFalse_65 fl_X10_54 rfl hX.k hX.r9 ?_
        refine r_aload_n (pc := 68) 1 dX10_searchFalse_68 rfl rfl ?_
        refine r_getR (pc := 69) (b := 111) dX10_searchFalse_69 fl_X10_37 rfl hX.k hX.r5 ?_
        refine r_iconst (pc := 72) dX10_searchFalse_72 ?_
        refine r_eqI (y := b01 (decide ((2 : Nat) = 1) = true)) (by decide) ?_
        refine r_callV (pc := 73) (As := [(.ref 111), (.int (iI (b01 (decide ((2 : Nat) = 1) = true))))]) (S := []) dX10_searchFalse_73 cv_X10_338 hX.o9.k rfl (Nat.le_of_ble_eq_true rfl) (x_run (e := 145) (y := 111) (co := (coV K (waK K (K 42) (hdK K)) 2 (K 40) (K 41) (bkK K 0) (bkK K 1) n (wmk (fun c => decide (ovK K c ≠ 0)) n))) (bg := decide ((2 : Nat) = 1)) l z _ hX.o9 hX.o5 (hY.mv (fun q h1 h2 => hF1 q (by omega))) hO.dz hO.lp hbb (by omega) (fun s hs i hi => by unfold coV; rw [hC1 i hi _ (by omega)]; congr 1; omega) (fun s i hi => co_rK hO hn hi)) (Nat.zero_le _) (Nat.zero_le _) (fun r_73 g_73 f_73 q_73 => ?_)
        obtain ⟨rfl, rfl, hr1, hr2, hr3, hr4, hr5⟩ := q_73
        refine r_aload_n (pc := 76) 1 dX10_searchFalse_76 rfl rfl ?_
        refine r_getR (pc := 77) (b := 145) dX10_searchFalse_77 fl_X10_54 rfl hX.k hX.r9 ?_
        have hcn : c = n := by omega
        exact r_aret (pc := 80) dX10_searchFalse_80 rfl (by simp) ⟨rfl, rfl, fun q hq => by rw [hr1 q (by omega) (by omega) (by omega) (by omega)]; exact hF1 q (by omega), hr2, hr3, hr4, hr5⟩
      · refine r_iconst (pc := 23) dX10_searchFalse_23 ?_
        refine r_istore_n (pc := 24) (L2 := [(2, (.int (iI (0)))), (1, (.int (iI (((c : Nat) : Int))))), (0, (.ref 64))]) dX10_searchFalse_24 rfl (by decide) rfl ?_
        refine r_sub (L2 := [(2, (.int (iI (((0 : Nat) : Int))))), (1, (.int (iI (((c : Nat) : Int))))), (0, (.ref 64))]) [0, 1, 2] rfl ?_
        exact inner c (by omega) 21 0 (by omega) (by omega) f1 hF1 hC1 (fun k1 hk => absurd hk (by omega)) (fun f2 v1 v2 => ih (n - (c + 1)) (by omega) (c + 1) (by omega) (by omega) f2 v1 v2)
  rcases hkn with hkn | hkn
  · refine PM.of (by decide +kernel) (Nat.le_of_ble_eq_true rfl) ?_
    refine r_aload_n (pc := 0) 0 dX10_searchFalse_0 rfl rfl ?_
    refine r_getR (pc := 1) (b := 145) dX10_searchFalse_1 fl_X10_54 rfl hX.k hX.r9 ?_
    refine r_getIv (pc := 4) (x := 0) dX10_searchFalse_4 fl_X10_256 rfl hX.o9.k (hkn) ?_
    refine r_if_ne (pc := 7) (tgt := 76) dX10_searchFalse_7 (by decide) (by omega) (fun c_7 => ?_) (fun c_7 => ?_)
    · exact absurd c_7 (by decide)
    · refine r_iconst (pc := 10) dX10_searchFalse_10 ?_
      refine r_istore_n (pc := 11) (L2 := [(1, (.int (iI (0)))), (0, (.ref 64))]) dX10_searchFalse_11 rfl (by decide) rfl ?_
      refine r_sub (L2 := [(1, (.int (iI (((0 : Nat) : Int))))), (0, (.ref 64))]) [0, 1] rfl ?_
      exact outer n 0 (by omega) (by omega) f (fun _ _ => rfl) (fun c1 hc1 => absurd hc1 (by omega))
  · refine PM.of (by decide +kernel) (Nat.le_of_ble_eq_true rfl) ?_
    refine r_aload_n (pc := 0) 0 dX10_searchFalse_0 rfl rfl ?_
    refine r_getR (pc := 1) (b := 145) dX10_searchFalse_1 fl_X10_54 rfl hX.k hX.r9 ?_
    refine r_getIv (pc := 4) (x := 1) dX10_searchFalse_4 fl_X10_256 rfl hX.o9.k (hkn.1) ?_
    refine r_if_ne (pc := 7) (tgt := 76) dX10_searchFalse_7 (by decide) (by omega) (fun c_7 => ?_) (fun c_7 => ?_)
    · refine r_aload_n (pc := 76) 0 dX10_searchFalse_76 rfl rfl ?_
      refine r_getR (pc := 77) (b := 145) dX10_searchFalse_77 fl_X10_54 rfl hX.k hX.r9 ?_
      exact r_aret (pc := 80) dX10_searchFalse_80 rfl (by simp) ⟨rfl, rfl, fun _ _ => rfl, hkn.1, hkn.2⟩
    · exact absurd c_7 (by decide)

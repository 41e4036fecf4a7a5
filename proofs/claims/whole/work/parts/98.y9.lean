theorem ptP_self {may lk : Nat → Nat → Bool} {n s i g : Nat} : ptP may lk n s i s g ↔ ptP may lk n s 0 s g := by
  unfold ptP
  constructor
  · rintro (h | ⟨j, hj, h1, h2⟩)
    · exact Or.inl h
    · exact Or.inr ⟨j, hj, Or.inl (by have := xb_l (stp_bit h2); omega), h2⟩
  · rintro (h | ⟨j, hj, h1, h2⟩)
    · exact Or.inl h
    · exact Or.inr ⟨j, hj, by omega, h2⟩
theorem sub_le {x s : Nat} (h : ∀ j, x.testBit j = true → s.testBit j = true) : x ≤ s := by
  have : x ||| s = s := by
    have := subB_iff.mpr h
    unfold subB at this
    exact of_decide_eq_true this
  rw [← this]
  exact Nat.left_le_or
theorem ptP_00 {may lk : Nat → Nat → Bool} {n t g : Nat} : ptP may lk n 0 0 t g ↔ (t = 0 ∧ g = 0) := by
  unfold ptP
  constructor
  · rintro (h | ⟨j, _, h1, _⟩)
    · exact h
    · omega
  · intro h; exact Or.inl h

set_option maxRecDepth 100000 in
set_option maxHeartbeats 4000000 in
theorem x_goThrough (l : Launch) (z : Zv) (d : Nat) {g : Gm} {J : Nat → Nat → Int} {f : Fm} {p n : Nat} {y a2 b0 b1 : Nat} {wa wt : Nat → Nat} {dz lp : Int} (hP : YL g p) (hY : DL g y) (hL : DYo f y n a2 wa wt dz lp b0 b1) (h0 : 2 ≤ dz ∧ dz ≤ 20) (h1 : 0 ≤ lp ∧ lp ≤ 9) (hb : b0 ≤ 1100000 ∧ b1 ≤ 1100000) (h10 : f p 10 = ((n : Nat) : Int)) (h11 : f p 11 = ((2 ^ n - 1 : Nat) : Int)) : PM l z (d + 1) mX9_goThroughOrders [.ref p, .ref y] (gwJ g J) f 0 0 (fun r g' f' => r = none ∧ f = f' ∧ ∃ J', gwJ g J' = g' ∧ (∀ b k, b ≠ p + 4 → J' b k = J b k) ∧ ∀ t, t < 2 ^ n → ∀ x, x < 256 → fmB J' (p + 4) t x = rW (fun s i => (nxM wt n s).testBit i) (fun s i => decide (0 < gnV dz lp b0 b1 wa n a2 s i)) n t x) := by
  have hn8 := hL.1.1
  have hp8 := pow8 hn8
  have hwa : ∀ c, c < n → wa c ≤ 40 := fun c hc => (hL.1.2.2.1 c hc).2
  refine PM.of (by decide +kernel) (Nat.le_of_ble_eq_true rfl) ?_
  have Lo : ∀ m s : Nat, m = 2 ^ n - s → s ≤ 2 ^ n - 1 → ∀ J1 : Nat → Nat → Int, (∀ b k, b ≠ p + 4 → J1 b k = J b k) → (∀ t, t < 2 ^ n → ∀ g, g < 256 → (fmB J1 (p + 4) t g = true ↔ ptP (fun s i => (nxM wt n s).testBit i) (fun s i => decide (0 < gnV dz lp b0 b1 wa n a2 s i)) n s 0 t g)) → PW l z (d + 1) mX9_goThroughOrders 0 0 (fun r g' f' => r = none ∧ f = f' ∧ ∃ J', gwJ g J' = g' ∧ (∀ b k, b ≠ p + 4 → J' b k = J b k) ∧ ∀ t, t < 2 ^ n → ∀ x, x < 256 → fmB J' (p + 4) t x = rW (fun s i => (nxM wt n s).testBit i) (fun s i => decide (0 < gnV dz lp b0 b1 wa n a2 s i)) n t x) 17 [(2, (.int (iI (((s : Nat) : Int))))), (0, (.ref p)), (1, (.ref y))] [] (gwJ g J1) f 0 0 := by
    intro m
    induction m using Nat.strongRecOn with
    | _ m ih_Lo =>
      intro s hm hs0 J1 hJ1 hB
      refine r_iload_n (pc := 17) 0 dX9_goThroughOrders_17 rfl rfl ?_
      refine r_aload_n (pc := 18) 1 dX9_goThroughOrders_18 rfl rfl ?_
      refine r_getIv (pc := 19) (x := ((2 ^ n - 1 : Nat) : Int)) dX9_goThroughOrders_19 fl_X9_35 rfl hP.k (h11) ?_
      refine r_icmp_ge (pc := 22) (tgt := 87) dX9_goThroughOrders_22 (by decide) (by omega) (by omega) (fun c_22 => ?_) (fun c_22 => ?_)
      · exact r_vret (pc := 87) dX9_goThroughOrders_87 rfl ⟨rfl, rfl, J1, rfl, hJ1, fun t ht x hx => by rw [Bool.eq_iff_iff, hB t ht x hx]; exact ptP_full ht (by omega)⟩
      · have hs : s < 2 ^ n := by omega
        have hnx2 : nxM wt n s < 256 := wmk_8 (nxP wt s) (n := n) hn8
        refine r_aload_n (pc := 25) 2 dX9_goThroughOrders_25 rfl rfl ?_
        refine r_getR (pc := 26) (b := (y + 7)) dX9_goThroughOrders_26 fl_X9_89 rfl hY.k hY.r4 ?_
        refine r_iload_n (pc := 29) 0 dX9_goThroughOrders_29 rfl rfl ?_
        refine r_ialdv (pc := 30) (w := ((nxM wt n s : Nat) : Int)) dX9_goThroughOrders_30 hY.a4 (by omega) (by decide) ((hL.2.2.2.1 s (by omega)).1) ?_
        refine r_istore_n (pc := 31) (L2 := [(3, (.int (iI (((nxM wt n s : Nat) : Int))))), (2, (.int (iI (((s : Nat) : Int))))), (0, (.ref p)), (1, (.ref y))]) dX9_goThroughOrders_31 rfl (by decide) rfl ?_
        refine r_iconst (pc := 32) dX9_goThroughOrders_32 ?_
        refine r_istore (pc := 33) (L2 := [(4, (.int (iI (0)))), (3, (.int (iI (((nxM wt n s : Nat) : Int))))), (2, (.int (iI (((s : Nat) : Int))))), (0, (.ref p)), (1, (.ref y))]) dX9_goThroughOrders_33 (by decide) rfl ?_
        have Li : ∀ m i : Nat, m = n - i → i ≤ n → ∀ J1 : Nat → Nat → Int, (∀ b k, b ≠ p + 4 → J1 b k = J b k) → (∀ t, t < 2 ^ n → ∀ g, g < 256 → (fmB J1 (p + 4) t g = true ↔ ptP (fun s i => (nxM wt n s).testBit i) (fun s i => decide (0 < gnV dz lp b0 b1 wa n a2 s i)) n s i t g)) → PW l z (d + 1) mX9_goThroughOrders 0 0 (fun r g' f' => r = none ∧ f = f' ∧ ∃ J', gwJ g J' = g' ∧ (∀ b k, b ≠ p + 4 → J' b k = J b k) ∧ ∀ t, t < 2 ^ n → ∀ x, x < 256 → fmB J' (p + 4) t x = rW (fun s i => (nxM wt n s).testBit i) (fun s i => decide (0 < gnV dz lp b0 b1 wa n a2 s i)) n t x) 35 [(4, (.int (iI (((i : Nat) : Int))))), (3, (.int (iI (((nxM wt n s : Nat) : Int))))), (2, (.int (iI (((s : Nat) : Int))))), (0, (.ref p)), (1, (.ref y))] [] (gwJ g J1) f 0 0 := by
          intro m
          induction m using Nat.strongRecOn with
          | _ m ih_Li =>
            intro i hm2 hi0 J1 hJ1 hB
            refine r_iload (pc := 35) 0 dX9_goThroughOrders_35 rfl ?_
            refine r_aload_n (pc := 37) 3 dX9_goThroughOrders_37 rfl rfl ?_
            refine r_getIv (pc := 38) (x := ((n : Nat) : Int)) dX9_goThroughOrders_38 fl_X9_31 rfl hP.k (h10) ?_
            refine r_icmp_ge (pc := 41) (tgt := 81) dX9_goThroughOrders_41 (by decide) (by omega) (by omega) (fun c_41 => ?_) (fun c_41 => ?_)
            · refine r_iincv (pc := 81) (y := ((s + 1 : Nat) : Int)) (L2 := [(2, (.int (iI (((s + 1 : Nat) : Int))))), (4, (.int (iI (((i : Nat) : Int))))), (3, (.int (iI (((nxM wt n s : Nat) : Int))))), (0, (.ref p)), (1, (.ref y))]) 2 dX9_goThroughOrders_81 rfl (by omega) (by decide) rfl ?_
              refine r_goto (pc := 84) (tgt := 17) dX9_goThroughOrders_84 (by decide) ?_
              have hin : i = n := by omega
              refine r_sub (L2 := [(2, (.int (iI (((s + 1 : Nat) : Int))))), (0, (.ref p)), (1, (.ref y))]) [0, 3, 4] rfl ?_
              exact ih_Lo (2 ^ n - (s + 1)) (by omega) (s + 1) (by omega) (by omega) J1 hJ1 (fun t ht g hg => by rw [hB t ht g hg, hin, ptP_next])
            · refine r_iload_n (pc := 44) 1 dX9_goThroughOrders_44 rfl rfl ?_
              refine r_iload (pc := 45) 0 dX9_goThroughOrders_45 rfl ?_
              refine r_ishr (pc := 47) (w := ((nxM wt n s / 2 ^ i : Nat) : Int)) dX9_goThroughOrders_47  (iI_shr (by omega) (by omega)) ?_
              refine r_iconst (pc := 48) dX9_goThroughOrders_48 ?_
              refine r_iand (pc := 49) (w := (((nxM wt n s / 2 ^ i) &&& 1 : Nat) : Int)) dX9_goThroughOrders_49  (iI_and _ _) ?_
              refine r_eqI (y := b01 ((nxM wt n s).testBit i = true)) (bitI _ _) ?_
              refine r_if_eq (pc := 50) (tgt := 75) dX9_goThroughOrders_50 (by decide) (b01_r) (fun c_50 => ?_) (fun c_50 => ?_)
              · replace c_50 := b01_z c_50
                refine r_iincv (pc := 75) (y := ((i + 1 : Nat) : Int)) (L2 := [(4, (.int (iI (((i + 1 : Nat) : Int))))), (3, (.int (iI (((nxM wt n s : Nat) : Int))))), (2, (.int (iI (((s : Nat) : Int))))), (0, (.ref p)), (1, (.ref y))]) 0 dX9_goThroughOrders_75 rfl (by omega) (by decide) rfl ?_
                refine r_goto (pc := 78) (tgt := 35) dX9_goThroughOrders_78 (by decide) ?_
                refine r_sub (L2 := [(4, (.int (iI (((i + 1 : Nat) : Int))))), (3, (.int (iI (((nxM wt n s : Nat) : Int))))), (2, (.int (iI (((s : Nat) : Int))))), (0, (.ref p)), (1, (.ref y))]) [0, 1, 2, 3, 4] rfl ?_
                exact ih_Li (n - (i + 1)) (by omega) (i + 1) (by omega) (by omega) J1 hJ1 (fun t ht g hg => by rw [hB t ht g hg, ptP_skip (may := (fun s i => (nxM wt n s).testBit i)) (s := s) (fun q => c_50 q.2)])
              · replace c_50 := b01_nz c_50
                have hni : ¬ s.testBit i = true := nx_out2 c_50
                have hRs : ∀ x, x < 256 → (fmB J1 (p + 4) s x = true ↔ rW (fun s i => (nxM wt n s).testBit i) (fun s i => decide (0 < gnV dz lp b0 b1 wa n a2 s i)) n s x = true) := fun x hx => by rw [hB s hs x hx, ptP_self, ptP_full hs (Nat.le_refl _)]
                have hFx : ∀ x, x < 256 → fmB J1 (p + 4) s x = true → ¬ x.testBit i = true ∧ x < 2 ^ n := fun x hx e => by
                  have hsb := rW_sub (bc s n) s x rfl hs ((hRs x hx).mp e)
                  exact ⟨fun q => hni (hsb i q), Nat.lt_of_le_of_lt (sub_le hsb) hs⟩
                have hul := or_lt hs (show i < n by omega)
                refine r_aload_n (pc := 53) 3 dX9_goThroughOrders_53 rfl rfl ?_
                refine r_iload_n (pc := 54) 2 dX9_goThroughOrders_54 rfl rfl ?_
                refine r_iload (pc := 55) 0 dX9_goThroughOrders_55 rfl ?_
                refine r_aload_n (pc := 57) 4 dX9_goThroughOrders_57 rfl rfl ?_
                refine r_iload (pc := 58) 0 dX9_goThroughOrders_58 rfl ?_
                refine r_iload_n (pc := 60) 2 dX9_goThroughOrders_60 rfl rfl ?_
                refine r_callV (pc := 61) (As := [(.int (iI (((i : Nat) : Int)))), (.int (iI (((s : Nat) : Int))))]) (S := [(.int (iI (((i : Nat) : Int)))), (.int (iI (((s : Nat) : Int)))), (.ref p)]) dX9_goThroughOrders_61 cv_X9_94 hY.k rfl (Nat.le_of_ble_eq_true rfl) (x_gain (g := gwJ g J1) (s := s) (i := i) l z _ hY hL (by omega) (by omega)) (Nat.zero_le _) (Nat.zero_le _) (fun r_61 g_61 f_61 q_61 => ?_)
                obtain ⟨rfl, rfl, rfl⟩ := q_61
                have hgr := gnV_r (a2 := a2) (s := s) (i := i) h0.1 h1 hb hwa hn8
                refine r_if_le (pc := 64) (tgt := 71) dX9_goThroughOrders_64 (by decide) (by omega) (fun c_64 => ?_) (fun c_64 => ?_)
                · refine r_iconst (pc := 71) dX9_goThroughOrders_71 ?_
                  refine r_eqI (y := b01 (decide (0 < gnV dz lp b0 b1 wa n a2 s i) = true)) (by rw [b01_f (fun q => by have := of_decide_eq_true q; omega)]) ?_
                  refine r_callV (pc := 72) (As := [(.int (iI (((s : Nat) : Int)))), (.int (iI (((i : Nat) : Int)))), (.int (iI (b01 (decide (0 < gnV dz lp b0 b1 wa n a2 s i) = true))))]) (S := []) dX9_goThroughOrders_72 cv_X9_97 hP.k rfl (Nat.le_of_ble_eq_true rfl) (x_serve (J := J1) (s := s) (i := i) (lk := decide (0 < gnV dz lp b0 b1 wa n a2 s i)) l z _ hP hn8 h11 (by omega) (by omega) hni hFx) (Nat.zero_le _) (Nat.zero_le _) (fun r_72 g_72 f_72 q_72 => ?_)
                  obtain ⟨rfl, rfl, J2, rfl, hv1, hv2⟩ := q_72
                  refine r_iincv (pc := 75) (y := ((i + 1 : Nat) : Int)) (L2 := [(4, (.int (iI (((i + 1 : Nat) : Int))))), (3, (.int (iI (((nxM wt n s : Nat) : Int))))), (2, (.int (iI (((s : Nat) : Int))))), (0, (.ref p)), (1, (.ref y))]) 0 dX9_goThroughOrders_75 rfl (by omega) (by decide) rfl ?_
                  refine r_goto (pc := 78) (tgt := 35) dX9_goThroughOrders_78 (by decide) ?_
                  refine r_sub (L2 := [(4, (.int (iI (((i + 1 : Nat) : Int))))), (3, (.int (iI (((nxM wt n s : Nat) : Int))))), (2, (.int (iI (((s : Nat) : Int))))), (0, (.ref p)), (1, (.ref y))]) [0, 1, 2, 3, 4] rfl ?_
                  exact ih_Li (n - (i + 1)) (by omega) (i + 1) (by omega) (by omega) J2 (fun b k h => by rw [hv1 b k (Or.inl h)]; exact hJ1 b k h) (fun t ht g hg => by
                    rw [ptP_step (by omega) hni c_50]
                    by_cases e : t = s ||| 2 ^ i
                    · rw [e, hv2 g hg, Bool.or_eq_true, hB _ hul g hg]
                      refine or_congr Iff.rfl ?_
                      by_cases hl : decide (0 < gnV dz lp b0 b1 wa n a2 s i) = true
                      · rw [if_pos hl, if_pos hl, Bool.and_eq_true, Bool.and_eq_true, hRs (xb g i) (by have := xb_lt (n := 8) (i := i) hg (by omega); exact this)]; exact ⟨fun q => ⟨rfl, q⟩, fun q => q.2⟩
                      · rw [if_neg hl, if_neg hl, hRs g hg]; exact ⟨fun q => ⟨rfl, q⟩, fun q => q.2⟩
                    · have hfm : fmB J2 (p + 4) t g = fmB J1 (p + 4) t g := by unfold fmB; rw [hv1 _ _ (by omega)]
                      rw [hfm, hB t ht g hg]
                      exact ⟨fun q => Or.inl q, fun q => q.elim id (fun w => absurd w.1 e)⟩)
                · refine r_iconst (pc := 67) dX9_goThroughOrders_67 ?_
                  refine r_goto (pc := 68) (tgt := 72) dX9_goThroughOrders_68 (by decide) ?_
                  refine r_eqI (y := b01 (decide (0 < gnV dz lp b0 b1 wa n a2 s i) = true)) (by rw [b01_t (decide_eq_true (by omega))]) ?_
                  refine r_callV (pc := 72) (As := [(.int (iI (((s : Nat) : Int)))), (.int (iI (((i : Nat) : Int)))), (.int (iI (b01 (decide (0 < gnV dz lp b0 b1 wa n a2 s i) = true))))]) (S := []) dX9_goThroughOrders_72 cv_X9_97 hP.k rfl (Nat.le_of_ble_eq_true rfl) (x_serve (J := J1) (s := s) (i := i) (lk := decide (0 < gnV dz lp b0 b1 wa n a2 s i)) l z _ hP hn8 h11 (by omega) (by omega) hni hFx) (Nat.zero_le _) (Nat.zero_le _) (fun r_72 g_72 f_72 q_72 => ?_)
                  obtain ⟨rfl, rfl, J2, rfl, hv1, hv2⟩ := q_72
                  refine r_iincv (pc := 75) (y := ((i + 1 : Nat) : Int)) (L2 := [(4, (.int (iI (((i + 1 : Nat) : Int))))), (3, (.int (iI (((nxM wt n s : Nat) : Int))))), (2, (.int (iI (((s : Nat) : Int))))), (0, (.ref p)), (1, (.ref y))]) 0 dX9_goThroughOrders_75 rfl (by omega) (by decide) rfl ?_
                  refine r_goto (pc := 78) (tgt := 35) dX9_goThroughOrders_78 (by decide) ?_
                  refine r_sub (L2 := [(4, (.int (iI (((i + 1 : Nat) : Int))))), (3, (.int (iI (((nxM wt n s : Nat) : Int))))), (2, (.int (iI (((s : Nat) : Int))))), (0, (.ref p)), (1, (.ref y))]) [0, 1, 2, 3, 4] rfl ?_
                  exact ih_Li (n - (i + 1)) (by omega) (i + 1) (by omega) (by omega) J2 (fun b k h => by rw [hv1 b k (Or.inl h)]; exact hJ1 b k h) (fun t ht g hg => by
                    rw [ptP_step (by omega) hni c_50]
                    by_cases e : t = s ||| 2 ^ i
                    · rw [e, hv2 g hg, Bool.or_eq_true, hB _ hul g hg]
                      refine or_congr Iff.rfl ?_
                      by_cases hl : decide (0 < gnV dz lp b0 b1 wa n a2 s i) = true
                      · rw [if_pos hl, if_pos hl, Bool.and_eq_true, Bool.and_eq_true, hRs (xb g i) (by have := xb_lt (n := 8) (i := i) hg (by omega); exact this)]; exact ⟨fun q => ⟨rfl, q⟩, fun q => q.2⟩
                      · rw [if_neg hl, if_neg hl, hRs g hg]; exact ⟨fun q => ⟨rfl, q⟩, fun q => q.2⟩
                    · have hfm : fmB J2 (p + 4) t g = fmB J1 (p + 4) t g := by unfold fmB; rw [hv1 _ _ (by omega)]
                      rw [hfm, hB t ht g hg]
                      exact ⟨fun q => Or.inl q, fun q => q.elim id (fun w => absurd w.1 e)⟩)
        refine r_sub (L2 := [(4, (.int (iI (((0 : Nat) : Int))))), (3, (.int (iI (((nxM wt n s : Nat) : Int))))), (2, (.int (iI (((s : Nat) : Int))))), (0, (.ref p)), (1, (.ref y))]) [0, 1, 2, 3, 4] rfl ?_
        exact Li n 0 (by omega) (by omega) J1 hJ1 hB
  refine r_aload_n (pc := 0) 0 dX9_goThroughOrders_0 rfl rfl ?_
  refine r_getR (pc := 1) (b := (p + 4)) dX9_goThroughOrders_1 fl_X9_22 rfl hP.k hP.r3 ?_
  refine r_lconst (pc := 4) (x := 0) dX9_goThroughOrders_4 (by decide) ?_
  refine r_callS (pc := 5) (As := [(.ref (p + 4)), (.long (lI (0)))]) (S := []) dX9_goThroughOrders_5 cs_X9_83 rfl (Nat.le_of_ble_eq_true rfl) (s_fillJ (J := J) (N := 1024) (v := 0) l z _ hP.a3 (by decide)) (Nat.zero_le _) (Nat.zero_le _) (fun r_5 g_5 f_5 q_5 => ?_)
  obtain ⟨rfl, rfl, J0, rfl, hz1, hz2⟩ := q_5
  refine r_aload_n (pc := 8) 0 dX9_goThroughOrders_8 rfl rfl ?_
  refine r_getR (pc := 9) (b := (p + 4)) dX9_goThroughOrders_9 fl_X9_22 rfl hP.k hP.r3 ?_
  refine r_iconst (pc := 12) dX9_goThroughOrders_12 ?_
  refine r_lconst (pc := 13) (x := 1) dX9_goThroughOrders_13 (by decide) ?_
  refine r_last (pc := 14) dX9_goThroughOrders_14 hP.a3 (by decide) (by decide) ?_
  refine r_iconst (pc := 15) dX9_goThroughOrders_15 ?_
  refine r_istore_n (pc := 16) (L2 := [(2, (.int (iI (0)))), (0, (.ref p)), (1, (.ref y))]) dX9_goThroughOrders_16 rfl (by decide) rfl ?_
  refine r_sub (L2 := [(2, (.int (iI (((0 : Nat) : Int))))), (0, (.ref p)), (1, (.ref y))]) [0, 1, 2] rfl ?_
  exact Lo (2 ^ n) 0 (by omega) (by omega) (jS J0 (p + 4) 0 1) (fun b k h => by rw [jS_n _ _ _ _ h]; exact hz1 b k h) (fun t ht g hg => by
    rw [ptP_00]
    unfold fmB
    by_cases e : 4 * t + g / 64 = 0
    · rw [e, jS_s, lB_1, decide_eq_true_iff]; omega
    · rw [jS_i _ _ _ e, hz2 _ (by omega), lB_0]
      constructor
      · intro h; exact absurd h (by decide)
      · intro h; omega)

theorem lwF_c {n h : Nat} {A A' B B' : Nat → Bool} (hA : ∀ t, t < 2 ^ n → A t = A' t) (hB : ∀ t, t < 2 ^ n → B t = B' t) : ∀ s, s ≤ 2 ^ n → lwF n h A B s = lwF n h A' B' s
  | 0, _ => rfl
  | s + 1, hs => by
    have hp := Nat.two_pow_pos n
    have hn := ndf_le (2 ^ n - 1) (h ||| s)
    rw [lwF, lwF, lwF_c hA hB s (by omega), hA s (by omega), hB _ (by omega)]
set_option maxRecDepth 100000 in
set_option maxHeartbeats 4000000 in
theorem x_findWay (l : Launch) (z : Zv) (d : Nat) {g : Gm} {J : Nat → Nat → Int} {f : Fm} {p n : Nat} {D : Nat} (hP : YL g p) (hn8 : n ≤ 8) (h10 : f p 10 = ((n : Nat) : Int)) (h11 : f p 11 = ((2 ^ n - 1 : Nat) : Int)) (h8 : f p 8 = ((D : Nat) : Int)) (hD : D ≤ 30) : PM l z (d + 3) mX9_findWay [.ref p] (gwJ g J) f 0 0 (fun r g' f' => r = none ∧ (∀ b, b ≠ p → b ≠ p + 1 → b ≠ p + 5 → b ≠ p + 6 → f' b = f b) ∧ (∀ k, k ≠ 6 → f' p k = f p k) ∧ f' p 6 = 1 ∧ (∃ J', gwJ g J' = g') ∧ ∀ i, i < D → f' (p + 1) i = ((wyH n (fun d => fmB J (p + 2) d) D (i + 1) : Nat) : Int)) := by
  have hp8 := pow8 hn8
  refine PM.of (by decide +kernel) (Nat.le_of_ble_eq_true rfl) ?_
  refine r_aload_n (pc := 0) 0 dX9_findWay_0 rfl rfl ?_
  refine r_iconst (pc := 1) dX9_findWay_1 ?_
  refine r_putB (pc := 2) dX9_findWay_2 fl_X9_69 rfl rfl (by decide) hP.k ?_
  refine r_aload_n (pc := 5) 0 dX9_findWay_5 rfl rfl ?_
  refine r_getIv (pc := 6) (x := ((D : Nat) : Int)) dX9_findWay_6 fl_X9_38 rfl hP.k (rdi (by decide) (h8)) ?_
  refine r_if_ne (pc := 9) (tgt := 13) dX9_findWay_9 (by decide) (by omega) (fun c_9 => ?_) (fun c_9 => ?_)
  · refine r_aload_n (pc := 13) 0 dX9_findWay_13 rfl rfl ?_
    refine r_callV (pc := 14) (As := []) (S := []) dX9_findWay_14 cv_X9_72 hP.k rfl (Nat.le_of_ble_eq_true rfl) (x_lookBack (D := D) (n := n) l z _ hP hn8 (rdi (by decide) h10) (rdi (by decide) h11) (rdi (by decide) h8) (by omega)) (Nat.zero_le _) (Nat.zero_le _) (fun r_14 g_14 f_14 q_14 => ?_)
    obtain ⟨rfl, hb1, J2, rfl, hb2, hb3⟩ := q_14
    refine r_iconst (pc := 17) dX9_findWay_17 ?_
    refine r_istore_n (pc := 18) (L2 := [(1, (.int (iI (0)))), (0, (.ref p))]) dX9_findWay_18 rfl (by decide) rfl ?_
    refine r_iconst (pc := 19) dX9_findWay_19 ?_
    refine r_istore_n (pc := 20) (L2 := [(2, (.int (iI (0)))), (1, (.int (iI (0)))), (0, (.ref p))]) dX9_findWay_20 rfl (by decide) rfl ?_
    have Lw : ∀ m i : Nat, m = D - i → i ≤ D → ∀ f1 : Fm, (∀ b, b ≠ p + 1 → f1 b = f_14 b) → (∀ q, q < i → f1 (p + 1) q = ((wyH n (fun d => fmB J (p + 2) d) D (q + 1) : Nat) : Int)) → PW l z (d + 3) mX9_findWay 0 0 (fun r g' f' => r = none ∧ (∀ b, b ≠ p → b ≠ p + 1 → b ≠ p + 5 → b ≠ p + 6 → f' b = f b) ∧ (∀ k, k ≠ 6 → f' p k = f p k) ∧ f' p 6 = 1 ∧ (∃ J', gwJ g J' = g') ∧ ∀ i, i < D → f' (p + 1) i = ((wyH n (fun d => fmB J (p + 2) d) D (i + 1) : Nat) : Int)) 21 [(2, (.int (iI (((i : Nat) : Int))))), (1, (.int (iI (((wyH n (fun d => fmB J (p + 2) d) D i : Nat) : Int))))), (0, (.ref p))] [] (gwJ g J2) f1 0 0 := by
      intro m
      induction m using Nat.strongRecOn with
      | _ m ih =>
        intro i hm hi0 f1 hF1 hR1
        refine r_iload_n (pc := 21) 0 dX9_findWay_21 rfl rfl ?_
        refine r_aload_n (pc := 22) 2 dX9_findWay_22 rfl rfl ?_
        refine r_getIv (pc := 23) (x := ((D : Nat) : Int)) dX9_findWay_23 fl_X9_38 rfl hP.k ((congrFun (hF1 p (by omega)) 8).trans ((congrFun (hb1 p (by omega) (by omega)) 8).trans (rdi (by decide) h8))) ?_
        refine r_icmp_ge (pc := 26) (tgt := 49) dX9_findWay_26 (by decide) (by omega) (by omega) (fun c_26 => ?_) (fun c_26 => ?_)
        · exact r_vret (pc := 49) dX9_findWay_49 rfl ⟨rfl, fun b h1 h2 h3 h4 => by rw [hF1 b h2, hb1 b h3 h4]; exact stF_n _ _ _ h1, fun k hk => by rw [hF1 p (by omega), hb1 p (by omega) (by omega)]; exact stF_i _ _ _ hk, by rw [hF1 p (by omega), hb1 p (by omega) (by omega)]; exact stF_s _ _ _ _, ⟨J2, rfl⟩, fun q hq => hR1 q (by omega)⟩
        · refine r_aload_n (pc := 29) 2 dX9_findWay_29 rfl rfl ?_
          refine r_iload_n (pc := 30) 1 dX9_findWay_30 rfl rfl ?_
          refine r_iload_n (pc := 31) 0 dX9_findWay_31 rfl rfl ?_
          refine r_callV (pc := 32) (As := [(.int (iI (((wyH n (fun d => fmB J (p + 2) d) D i : Nat) : Int)))), (.int (iI (((i : Nat) : Int))))]) (S := []) dX9_findWay_32 cv_X9_75 hP.k rfl (Nat.le_of_ble_eq_true rfl) (x_lowest (J := J2) (dy := i) (h := wyH n (fun d => fmB J (p + 2) d) D i) l z _ hP hn8 (by rw [hF1 p (by omega), hb1 p (by omega) (by omega)]; exact rdi (by decide) h11) (by omega) (wyH_r hn8 i)) (Nat.zero_le _) (Nat.zero_le _) (fun r_32 g_32 f_32 q_32 => ?_)
          obtain ⟨rfl, rfl, rfl⟩ := q_32
          have hlw : lwF n (wyH n (fun d => fmB J (p + 2) d) D i) (fmB J2 (p + 2) i) (fmB J2 (p + 3) (i + 1)) (2 ^ n) = wyH n (fun d => fmB J (p + 2) d) D (i + 1) := lwF_c (fun t ht => by unfold fmB; rw [hb2 _ _ (by omega)]) (fun t ht => hb3 (i + 1) (by omega) (by omega) t (by omega)) (2 ^ n) (Nat.le_refl _)
          rw [hlw]
          refine r_istore_n (pc := 35) (L2 := [(1, (.int (iI (((wyH n (fun d => fmB J (p + 2) d) D (i + 1) : Nat) : Int))))), (2, (.int (iI (((i : Nat) : Int))))), (0, (.ref p))]) dX9_findWay_35 rfl (by decide) rfl ?_
          refine r_aload_n (pc := 36) 2 dX9_findWay_36 rfl rfl ?_
          refine r_getR (pc := 37) (b := (p + 1)) dX9_findWay_37 fl_X9_9 rfl hP.k hP.r0 ?_
          refine r_iload_n (pc := 40) 1 dX9_findWay_40 rfl rfl ?_
          refine r_iload_n (pc := 41) 0 dX9_findWay_41 rfl rfl ?_
          refine r_iastv (pc := 42) (i := i) dX9_findWay_42 hP.a0 (by omega) (by decide) rfl ?_
          refine r_iincv (pc := 43) (y := ((i + 1 : Nat) : Int)) (L2 := [(2, (.int (iI (((i + 1 : Nat) : Int))))), (1, (.int (iI (((wyH n (fun d => fmB J (p + 2) d) D (i + 1) : Nat) : Int))))), (0, (.ref p))]) 1 dX9_findWay_43 rfl (by omega) (by decide) rfl ?_
          refine r_goto (pc := 46) (tgt := 21) dX9_findWay_46 (by decide) ?_
          refine r_sub (L2 := [(2, (.int (iI (((i + 1 : Nat) : Int))))), (1, (.int (iI (((wyH n (fun d => fmB J (p + 2) d) D (i + 1) : Nat) : Int))))), (0, (.ref p))]) [0, 1, 2] rfl ?_
          exact ih (D - (i + 1)) (by omega) (i + 1) (by omega) (by omega) _ (fun b hb => by rw [stF_n _ _ _ hb]; exact hF1 b hb) (fun q hq => by
            rcases Nat.lt_succ_iff_lt_or_eq.mp hq with h | h
            · exact rdi (by omega) (hR1 q h)
            · subst h; exact stF_s _ _ _ _)
    refine r_sub (L2 := [(2, (.int (iI (((0 : Nat) : Int))))), (1, (.int (iI (((wyH n (fun d => fmB J (p + 2) d) D 0 : Nat) : Int))))), (0, (.ref p))]) [0, 1, 2] rfl ?_
    exact Lw D 0 (by omega) (by omega) f_14 (fun _ _ => rfl) (fun q hq => absurd hq (by omega))
  · exact r_vret (pc := 12) dX9_findWay_12 rfl ⟨rfl, fun b h1 h2 h3 h4 => stF_n _ _ _ h1, fun k hk => stF_i _ _ _ hk, stF_s _ _ _ _, ⟨J, rfl⟩, fun i hi => absurd hi (by omega)⟩

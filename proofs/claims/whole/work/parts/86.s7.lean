set_option maxRecDepth 100000 in
set_option maxHeartbeats 4000000 in
theorem x_walk (l : Launch) (z : Zv) (d : Nat) {g : Gm} {f : Fm} {e y n a2 b0 b1 : Nat} {wa wt : Nat → Nat} {dz lp : Int} {co : Nat → Nat → Int} {bg : Bool} (hE : EL g e) (hY : DL g y) (hL : DYo f y n a2 wa wt dz lp b0 b1) (h0 : 2 ≤ dz ∧ dz ≤ 20) (h1 : 0 ≤ lp ∧ lp ≤ 9) (hb : b0 ≤ 1100000 ∧ b1 ≤ 1100000) (hye : y + 12 ≤ e) (hco : ∀ s, s < 2 ^ n → ∀ i, i < n → f (e + 1) (21 * i + (max (0) (min (gnV dz lp b0 b1 wa n a2 s i) (20))).toNat) = co s i) (hcr : ∀ s i, i < n → -50000000 ≤ co s i ∧ co s i ≤ 50000000) (hLt : ∀ u, u < 2 ^ n → f (e + 2) u = tbL (fun s i => (nxM wt n s).testBit i) co bg n u) (hWt : ∀ u, u < 2 ^ n → f (e + 3) u = ((tbW (fun s i => (nxM wt n s).testBit i) co bg n u : Nat) : Int)) (hw0 : 0 < tbW (fun s i => (nxM wt n s).testBit i) co bg n 0) (hls : f e 5 = tbL (fun s i => (nxM wt n s).testBit i) co bg n 0) : PM l z (d + 3) mX6_walk [.ref e, .ref y, .int (iI (b01 (bg = true)))] g f 0 0 (fun r g' f' => r = none ∧ g = g' ∧ (∀ q, q ≠ e + 4 → f' q = f q) ∧ ∀ p, p < n → f' (e + 4) p = ((wkC (fun s i => (nxM wt n s).testBit i) co bg n p : Nat) : Int)) := by
  have hn8 := hL.1.1
  have hp8 := pow8 hn8
  refine PM.of (by decide +kernel) (Nat.le_of_ble_eq_true rfl) ?_
  have loop : ∀ m p : Nat, m = n - p → p ≤ n → ∀ f1 : Fm, (∀ q, q ≠ e + 4 → f1 q = f q) → (∀ j, j < p → f1 (e + 4) j = ((wkC (fun s i => (nxM wt n s).testBit i) co bg n j : Nat) : Int)) → PW l z (d + 3) mX6_walk 0 0 (fun r g' f' => r = none ∧ g = g' ∧ (∀ q, q ≠ e + 4 → f' q = f q) ∧ ∀ p, p < n → f' (e + 4) p = ((wkC (fun s i => (nxM wt n s).testBit i) co bg n p : Nat) : Int)) 11 [(5, (.int (iI (((p : Nat) : Int))))), (4, (.int (iI ((wkS (fun s i => (nxM wt n s).testBit i) co bg n p).2)))), (3, (.int (iI ((((wkS (fun s i => (nxM wt n s).testBit i) co bg n p).1 : Nat) : Int))))), (0, (.ref e)), (1, (.ref y)), (2, (.int (iI (b01 (bg = true)))))] [] g f1 0 0 := by
    intro m
    induction m using Nat.strongRecOn with
    | _ m ih =>
      intro p hm hp f1 hF1 hR1
      have hI := wk_inv (fun s i hi => nx_out hi) hw0 p hp
      have hL1 : DYo f1 y n a2 wa wt dz lp b0 b1 := hL.mv (fun q hq1 hq2 => hF1 q (by omega))
      have hsb : (wkS (fun s i => (nxM wt n s).testBit i) co bg n p).1 < 2 ^ n := hI.1
      refine r_iload (pc := 11) 0 dX6_walk_11 rfl ?_
      refine r_aload_n (pc := 13) 4 dX6_walk_13 rfl rfl ?_
      refine r_getIv (pc := 14) (x := ((n : Nat) : Int)) dX6_walk_14 fl_X6_53 rfl hY.k (hL1.1.2.1) ?_
      refine r_icmp_ge (pc := 17) (tgt := 77) dX6_walk_17 (by decide) (by omega) (by omega) (fun c_17 => ?_) (fun c_17 => ?_)
      · have hin : p = n := by omega
        subst hin
        exact r_vret (pc := 77) dX6_walk_77 rfl ⟨rfl, rfl, hF1, hR1⟩
      · have hc := wk_first (fun s i hi => nx_out hi) (show p < n by omega) hI
        obtain ⟨hc1, hc2, hc3⟩ := hc
        have hlim : -1000000000 ≤ (wkS (fun s i => (nxM wt n s).testBit i) co bg n p).2 ∧ (wkS (fun s i => (nxM wt n s).testBit i) co bg n p).2 ≤ 1000000000 := by
          by_cases hbg : bg = true
          · rw [hI.2.2.2.2.1 hbg]; have := tbL_r hn8 hcr hw0; omega
          · rw [hI.2.2.2.2.2 hbg]; have := tbL_r hn8 hcr hI.2.2.1; omega
        refine r_aload_n (pc := 20) 3 dX6_walk_20 rfl rfl ?_
        refine r_aload_n (pc := 21) 4 dX6_walk_21 rfl rfl ?_
        refine r_iload_n (pc := 22) 2 dX6_walk_22 rfl rfl ?_
        refine r_iload (pc := 23) 1 dX6_walk_23 rfl ?_
        refine r_iload_n (pc := 25) 5 dX6_walk_25 rfl rfl ?_
        refine r_callV (pc := 26) (As := [(.ref y), (.int (iI ((((wkS (fun s i => (nxM wt n s).testBit i) co bg n p).1 : Nat) : Int)))), (.int (iI ((wkS (fun s i => (nxM wt n s).testBit i) co bg n p).2))), (.int (iI (b01 (bg = true))))]) (S := []) dX6_walk_26 cv_X6_64 hE.k rfl (Nat.le_of_ble_eq_true rfl) (x_firstWithin (co := co) (Lt := tbL (fun s i => (nxM wt n s).testBit i) co bg n) (Wt := tbW (fun s i => (nxM wt n s).testBit i) co bg n) l z _ hE hY hL1 h0 h1 hb hI.1 hlim (fun i hi => ⟨by rw [hF1 _ (by omega)]; exact hco _ hI.1 i hi, by have := hcr (wkS (fun s i => (nxM wt n s).testBit i) co bg n p).1 i hi; omega, by have := hcr (wkS (fun s i => (nxM wt n s).testBit i) co bg n p).1 i hi; omega⟩) (fun u hu => by rw [hF1 _ (by omega)]; exact hLt u hu) (fun u hu => by rw [hF1 _ (by omega)]; exact hWt u hu) (fun i hi hw => by have := tbL_r hn8 hcr hw; omega) (fun i hi => tbW_r hn8 _)) (Nat.zero_le _) (Nat.zero_le _) (fun r_26 g_26 f_26 q_26 => ?_)
        obtain ⟨cc, rfl, hcc, rfl, rfl⟩ := q_26
        have hce : cc = ((wkC (fun s i => (nxM wt n s).testBit i) co bg n p : Nat) : Int) := by
          rcases hcc with ⟨k, hk, rfl, hk1, hk2⟩ | ⟨_, hk2⟩
          · rcases Nat.lt_trichotomy k (wkC (fun s i => (nxM wt n s).testBit i) co bg n p) with q | q | q
            · exact absurd hk1 (hc3 k q)
            · rw [q]
            · exact absurd hc2 (hk2 _ q)
          · exact absurd hc2 (hk2 _ hc1)
        subst hce
        refine r_istore (pc := 29) (L2 := [(6, (.int (iI (((wkC (fun s i => (nxM wt n s).testBit i) co bg n p : Nat) : Int))))), (5, (.int (iI (((p : Nat) : Int))))), (4, (.int (iI ((wkS (fun s i => (nxM wt n s).testBit i) co bg n p).2)))), (3, (.int (iI ((((wkS (fun s i => (nxM wt n s).testBit i) co bg n p).1 : Nat) : Int))))), (0, (.ref e)), (1, (.ref y)), (2, (.int (iI (b01 (bg = true)))))]) dX6_walk_29 (by decide) rfl ?_
        refine r_iload (pc := 31) 0 dX6_walk_31 rfl ?_
        refine r_iconst (pc := 33) dX6_walk_33 ?_
        refine r_icmp_ne (pc := 34) (tgt := 38) dX6_walk_34 (by decide) (by omega) (by omega) (fun c_34 => ?_) (fun c_34 => ?_)
        · refine r_aload_n (pc := 38) 4 dX6_walk_38 rfl rfl ?_
          refine r_getR (pc := 39) (b := (e + 4)) dX6_walk_39 fl_X6_21 rfl hE.k hE.r3 ?_
          refine r_iload (pc := 42) 1 dX6_walk_42 rfl ?_
          refine r_iload (pc := 44) 0 dX6_walk_44 rfl ?_
          refine r_iastv (pc := 46) (i := p) dX6_walk_46 hE.a3 (by omega) (by decide) rfl ?_
          refine r_iload_n (pc := 47) 6 dX6_walk_47 rfl rfl ?_
          refine r_if_ne (pc := 48) (tgt := 64) dX6_walk_48 (by decide) (b01_r) (fun c_48 => ?_) (fun c_48 => ?_)
          · replace c_48 := b01_nz c_48
            refine r_iload_n (pc := 64) 3 dX6_walk_64 rfl rfl ?_
            refine r_iconst (pc := 65) dX6_walk_65 ?_
            refine r_iload (pc := 66) 0 dX6_walk_66 rfl ?_
            refine r_ishl (pc := 68) (w := ((2 ^ (wkC (fun s i => (nxM wt n s).testBit i) co bg n p) : Nat) : Int)) dX6_walk_68  (iI_shl1 (by omega)) ?_
            refine r_ior (pc := 69) (w := ((((wkS (fun s i => (nxM wt n s).testBit i) co bg n p).1) ||| (2 ^ (wkC (fun s i => (nxM wt n s).testBit i) co bg n p)) : Nat) : Int)) dX6_walk_69  (iI_or _ _) ?_
            refine r_istore_n (pc := 70) (L2 := [(3, (.int (iI (((((wkS (fun s i => (nxM wt n s).testBit i) co bg n p).1) ||| (2 ^ (wkC (fun s i => (nxM wt n s).testBit i) co bg n p)) : Nat) : Int))))), (6, (.int (iI (((wkC (fun s i => (nxM wt n s).testBit i) co bg n p : Nat) : Int))))), (5, (.int (iI (((p : Nat) : Int))))), (4, (.int (iI ((wkS (fun s i => (nxM wt n s).testBit i) co bg n p).2)))), (0, (.ref e)), (1, (.ref y)), (2, (.int (iI (b01 (bg = true)))))]) dX6_walk_70 rfl (by decide) rfl ?_
            refine r_iincv (pc := 71) (y := ((p + 1 : Nat) : Int)) (L2 := [(5, (.int (iI (((p + 1 : Nat) : Int))))), (3, (.int (iI (((((wkS (fun s i => (nxM wt n s).testBit i) co bg n p).1) ||| (2 ^ (wkC (fun s i => (nxM wt n s).testBit i) co bg n p)) : Nat) : Int))))), (6, (.int (iI (((wkC (fun s i => (nxM wt n s).testBit i) co bg n p : Nat) : Int))))), (4, (.int (iI ((wkS (fun s i => (nxM wt n s).testBit i) co bg n p).2)))), (0, (.ref e)), (1, (.ref y)), (2, (.int (iI (b01 (bg = true)))))]) 2 dX6_walk_71 rfl (by omega) (by decide) rfl ?_
            refine r_goto (pc := 74) (tgt := 11) dX6_walk_74 (by decide) ?_
            refine r_sub (L2 := [(5, (.int (iI (((p + 1 : Nat) : Int))))), (4, (.int (iI ((wkS (fun s i => (nxM wt n s).testBit i) co bg n (p + 1)).2)))), (3, (.int (iI ((((wkS (fun s i => (nxM wt n s).testBit i) co bg n (p + 1)).1 : Nat) : Int))))), (0, (.ref e)), (1, (.ref y)), (2, (.int (iI (b01 (bg = true)))))]) [0, 3, 1, 4, 5, 6] (by rw [wkS_s, if_pos c_48]; rfl) ?_
            exact ih (n - (p + 1)) (by omega) (p + 1) (by omega) (by omega) _ (fun q hq => by rw [stF_n _ _ _ hq]; exact hF1 q hq) (fun j hj => by rcases Nat.lt_succ_iff_lt_or_eq.mp hj with h | h; rw [stF_i _ _ _ (by omega)]; exact hR1 j h; subst h; exact stF_s _ _ _ _)
          · replace c_48 := b01_z c_48
            refine r_iload (pc := 51) 2 dX6_walk_51 rfl ?_
            refine r_aload_n (pc := 53) 4 dX6_walk_53 rfl rfl ?_
            refine r_aload_n (pc := 54) 5 dX6_walk_54 rfl rfl ?_
            refine r_iload (pc := 55) 0 dX6_walk_55 rfl ?_
            refine r_iload_n (pc := 57) 3 dX6_walk_57 rfl rfl ?_
            refine r_callV (pc := 58) (As := [(.ref y), (.int (iI (((wkC (fun s i => (nxM wt n s).testBit i) co bg n p : Nat) : Int)))), (.int (iI ((((wkS (fun s i => (nxM wt n s).testBit i) co bg n p).1 : Nat) : Int))))]) (S := [(.int (iI ((wkS (fun s i => (nxM wt n s).testBit i) co bg n p).2)))]) dX6_walk_58 cv_X6_56 hE.k rfl (Nat.le_of_ble_eq_true rfl) (x_costOf (i := wkC (fun s i => (nxM wt n s).testBit i) co bg n p) (s := (wkS (fun s i => (nxM wt n s).testBit i) co bg n p).1) l z _ hE hY (hL1.mv (fun q hq1 hq2 => stF_n _ _ _ (by omega))) h0 h1 hb hI.1 hc1) (Nat.zero_le _) (Nat.zero_le _) (fun r_58 g_58 f_58 q_58 => ?_)
            obtain ⟨rfl, rfl, rfl⟩ := q_58
            refine r_eqI (y := co (wkS (fun s i => (nxM wt n s).testBit i) co bg n p).1 (wkC (fun s i => (nxM wt n s).testBit i) co bg n p)) (by rw [stF_n _ _ _ (by omega), hF1 _ (by omega)]; exact hco _ hI.1 _ hc1) ?_
            refine r_isub (pc := 61) dX6_walk_61 ?_
            refine r_istore (pc := 62) (L2 := [(4, (.int (iI (((wkS (fun s i => (nxM wt n s).testBit i) co bg n p).2) - (co (wkS (fun s i => (nxM wt n s).testBit i) co bg n p).1 (wkC (fun s i => (nxM wt n s).testBit i) co bg n p)))))), (6, (.int (iI (((wkC (fun s i => (nxM wt n s).testBit i) co bg n p : Nat) : Int))))), (5, (.int (iI (((p : Nat) : Int))))), (3, (.int (iI ((((wkS (fun s i => (nxM wt n s).testBit i) co bg n p).1 : Nat) : Int))))), (0, (.ref e)), (1, (.ref y)), (2, (.int (iI (b01 (bg = true)))))]) dX6_walk_62 (by decide) rfl ?_
            refine r_iload_n (pc := 64) 3 dX6_walk_64 rfl rfl ?_
            refine r_iconst (pc := 65) dX6_walk_65 ?_
            refine r_iload (pc := 66) 1 dX6_walk_66 rfl ?_
            refine r_ishl (pc := 68) (w := ((2 ^ (wkC (fun s i => (nxM wt n s).testBit i) co bg n p) : Nat) : Int)) dX6_walk_68  (iI_shl1 (by omega)) ?_
            refine r_ior (pc := 69) (w := ((((wkS (fun s i => (nxM wt n s).testBit i) co bg n p).1) ||| (2 ^ (wkC (fun s i => (nxM wt n s).testBit i) co bg n p)) : Nat) : Int)) dX6_walk_69  (iI_or _ _) ?_
            refine r_istore_n (pc := 70) (L2 := [(3, (.int (iI (((((wkS (fun s i => (nxM wt n s).testBit i) co bg n p).1) ||| (2 ^ (wkC (fun s i => (nxM wt n s).testBit i) co bg n p)) : Nat) : Int))))), (4, (.int (iI (((wkS (fun s i => (nxM wt n s).testBit i) co bg n p).2) - (co (wkS (fun s i => (nxM wt n s).testBit i) co bg n p).1 (wkC (fun s i => (nxM wt n s).testBit i) co bg n p)))))), (6, (.int (iI (((wkC (fun s i => (nxM wt n s).testBit i) co bg n p : Nat) : Int))))), (5, (.int (iI (((p : Nat) : Int))))), (0, (.ref e)), (1, (.ref y)), (2, (.int (iI (b01 (bg = true)))))]) dX6_walk_70 rfl (by decide) rfl ?_
            refine r_iincv (pc := 71) (y := ((p + 1 : Nat) : Int)) (L2 := [(5, (.int (iI (((p + 1 : Nat) : Int))))), (3, (.int (iI (((((wkS (fun s i => (nxM wt n s).testBit i) co bg n p).1) ||| (2 ^ (wkC (fun s i => (nxM wt n s).testBit i) co bg n p)) : Nat) : Int))))), (4, (.int (iI (((wkS (fun s i => (nxM wt n s).testBit i) co bg n p).2) - (co (wkS (fun s i => (nxM wt n s).testBit i) co bg n p).1 (wkC (fun s i => (nxM wt n s).testBit i) co bg n p)))))), (6, (.int (iI (((wkC (fun s i => (nxM wt n s).testBit i) co bg n p : Nat) : Int))))), (0, (.ref e)), (1, (.ref y)), (2, (.int (iI (b01 (bg = true)))))]) 3 dX6_walk_71 rfl (by omega) (by decide) rfl ?_
            refine r_goto (pc := 74) (tgt := 11) dX6_walk_74 (by decide) ?_
            refine r_sub (L2 := [(5, (.int (iI (((p + 1 : Nat) : Int))))), (4, (.int (iI ((wkS (fun s i => (nxM wt n s).testBit i) co bg n (p + 1)).2)))), (3, (.int (iI ((((wkS (fun s i => (nxM wt n s).testBit i) co bg n (p + 1)).1 : Nat) : Int))))), (0, (.ref e)), (1, (.ref y)), (2, (.int (iI (b01 (bg = true)))))]) [0, 2, 1, 4, 5, 6] (by rw [wkS_s, if_neg c_48]; rfl) ?_
            exact ih (n - (p + 1)) (by omega) (p + 1) (by omega) (by omega) _ (fun q hq => by rw [stF_n _ _ _ hq]; exact hF1 q hq) (fun j hj => by rcases Nat.lt_succ_iff_lt_or_eq.mp hj with h | h; rw [stF_i _ _ _ (by omega)]; exact hR1 j h; subst h; exact stF_s _ _ _ _)
        · exfalso; omega
  refine r_iconst (pc := 0) dX6_walk_0 ?_
  refine r_istore_n (pc := 1) (L2 := [(3, (.int (iI (0)))), (0, (.ref e)), (1, (.ref y)), (2, (.int (iI (b01 (bg = true)))))]) dX6_walk_1 rfl (by decide) rfl ?_
  refine r_aload_n (pc := 2) 1 dX6_walk_2 rfl rfl ?_
  refine r_getIv (pc := 3) (x := tbL (fun s i => (nxM wt n s).testBit i) co bg n 0) dX6_walk_3 fl_X6_38 rfl hE.k (hls) ?_
  refine r_istore (pc := 6) (L2 := [(4, (.int (iI (tbL (fun s i => (nxM wt n s).testBit i) co bg n 0)))), (3, (.int (iI (0)))), (0, (.ref e)), (1, (.ref y)), (2, (.int (iI (b01 (bg = true)))))]) dX6_walk_6 (by decide) rfl ?_
  refine r_iconst (pc := 8) dX6_walk_8 ?_
  refine r_istore (pc := 9) (L2 := [(5, (.int (iI (0)))), (4, (.int (iI (tbL (fun s i => (nxM wt n s).testBit i) co bg n 0)))), (3, (.int (iI (0)))), (0, (.ref e)), (1, (.ref y)), (2, (.int (iI (b01 (bg = true)))))]) dX6_walk_9 (by decide) rfl ?_
  refine r_sub (L2 := [(5, (.int (iI (((0 : Nat) : Int))))), (4, (.int (iI ((wkS (fun s i => (nxM wt n s).testBit i) co bg n 0).2)))), (3, (.int (iI ((((wkS (fun s i => (nxM wt n s).testBit i) co bg n 0).1 : Nat) : Int))))), (0, (.ref e)), (1, (.ref y)), (2, (.int (iI (b01 (bg = true)))))]) [0, 1, 2, 3, 4, 5] rfl ?_
  exact loop n 0 (by omega) (by omega) f (fun _ _ => rfl) (fun _ h => absurd h (Nat.not_lt_zero _))

set_option maxRecDepth 100000 in
set_option maxHeartbeats 4000000 in
theorem x_run (l : Launch) (z : Zv) (d : Nat) {g : Gm} {f : Fm} {e y n a2 b0 b1 : Nat} {wa wt : Nat → Nat} {dz lp : Int} {co : Nat → Nat → Int} {bg : Bool} (hE : EL g e) (hY : DL g y) (hL : DYo f y n a2 wa wt dz lp b0 b1) (h0 : 2 ≤ dz ∧ dz ≤ 20) (h1 : 0 ≤ lp ∧ lp ≤ 9) (hb : b0 ≤ 1100000 ∧ b1 ≤ 1100000) (hye : y + 12 ≤ e) (hco : ∀ s, s < 2 ^ n → ∀ i, i < n → f (e + 1) (21 * i + (max (0) (min (gnV dz lp b0 b1 wa n a2 s i) (20))).toNat) = co s i) (hcr : ∀ s i, i < n → -50000000 ≤ co s i ∧ co s i ≤ 50000000) : PM l z (d + 4) mX6_run [.ref e, .ref y, .int (iI (b01 (bg = true)))] g f 0 0 (fun r g' f' => r = none ∧ g = g' ∧ (∀ q, q ≠ e → q ≠ e + 2 → q ≠ e + 3 → q ≠ e + 4 → f' q = f q) ∧ f' e 4 = 1 ∧ f' e 5 = tbL (fun s i => (nxM wt n s).testBit i) co bg n 0 ∧ f' e 6 = ((tbW (fun s i => (nxM wt n s).testBit i) co bg n 0 : Nat) : Int) ∧ (0 < tbW (fun s i => (nxM wt n s).testBit i) co bg n 0 → ∀ p, p < n → f' (e + 4) p = ((wkC (fun s i => (nxM wt n s).testBit i) co bg n p : Nat) : Int))) := by
  have hn8 := hL.1.1
  have hp8 := pow8 hn8
  refine PM.of (by decide +kernel) (Nat.le_of_ble_eq_true rfl) ?_
  have loop : ∀ m k : Nat, m = k → k ≤ 2 ^ n - 1 → ∀ f1 : Fm, (∀ q, q ≠ e + 2 → q ≠ e + 3 → f1 q = f q) → (∀ u, k ≤ u → u < 2 ^ n → f1 (e + 2) u = tbL (fun s i => (nxM wt n s).testBit i) co bg n u) → (∀ u, k ≤ u → u < 2 ^ n → f1 (e + 3) u = ((tbW (fun s i => (nxM wt n s).testBit i) co bg n u : Nat) : Int)) → PW l z (d + 4) mX6_run 0 0 (fun r g' f' => r = none ∧ g = g' ∧ (∀ q, q ≠ e → q ≠ e + 2 → q ≠ e + 3 → q ≠ e + 4 → f' q = f q) ∧ f' e 4 = 1 ∧ f' e 5 = tbL (fun s i => (nxM wt n s).testBit i) co bg n 0 ∧ f' e 6 = ((tbW (fun s i => (nxM wt n s).testBit i) co bg n 0 : Nat) : Int) ∧ (0 < tbW (fun s i => (nxM wt n s).testBit i) co bg n 0 → ∀ p, p < n → f' (e + 4) p = ((wkC (fun s i => (nxM wt n s).testBit i) co bg n p : Nat) : Int))) 24 [(4, (.int (iI (((k : Nat) : Int) - 1)))), (3, (.int (iI (((2 ^ n - 1 : Nat) : Int))))), (0, (.ref e)), (1, (.ref y)), (2, (.int (iI (b01 (bg = true)))))] [] g f1 0 0 := by
    intro m
    induction m using Nat.strongRecOn with
    | _ m ih =>
      intro k hm hk f1 hF1 hLt1 hWt1
      have hL1 : DYo f1 y n a2 wa wt dz lp b0 b1 := hL.mv (fun q hq1 hq2 => hF1 q (by omega) (by omega))
      refine r_iload (pc := 24) 0 dX6_run_24 rfl ?_
      refine r_if_lt (pc := 26) (tgt := 43) dX6_run_26 (by decide) (by omega) (fun c_26 => ?_) (fun c_26 => ?_)
      · have hk0 : k = 0 := by omega
        subst hk0
        refine r_aload_n (pc := 43) 2 dX6_run_43 rfl rfl ?_
        refine r_aload_n (pc := 44) 2 dX6_run_44 rfl rfl ?_
        refine r_getR (pc := 45) (b := (e + 2)) dX6_run_45 fl_X6_15 rfl hE.k hE.r1 ?_
        refine r_iconst (pc := 48) dX6_run_48 ?_
        refine r_ialdv (pc := 49) (w := tbL (fun s i => (nxM wt n s).testBit i) co bg n 0) dX6_run_49 hE.a1 (by decide) (by decide) (hLt1 0 (by omega) (by omega)) ?_
        refine r_putI (pc := 50) dX6_run_50 fl_X6_38 rfl rfl hE.k ?_
        refine r_aload_n (pc := 53) 2 dX6_run_53 rfl rfl ?_
        refine r_aload_n (pc := 54) 2 dX6_run_54 rfl rfl ?_
        refine r_getR (pc := 55) (b := (e + 3)) dX6_run_55 fl_X6_18 rfl hE.k hE.r2 ?_
        refine r_iconst (pc := 58) dX6_run_58 ?_
        refine r_ialdv (pc := 59) (w := ((tbW (fun s i => (nxM wt n s).testBit i) co bg n 0 : Nat) : Int)) dX6_run_59 hE.a2 (by decide) (by decide) (rdn (by omega) (hWt1 0 (by omega) (by omega))) ?_
        refine r_putI (pc := 60) dX6_run_60 fl_X6_24 rfl rfl hE.k ?_
        refine r_aload_n (pc := 63) 2 dX6_run_63 rfl rfl ?_
        refine r_getIv (pc := 64) (x := ((tbW (fun s i => (nxM wt n s).testBit i) co bg n 0 : Nat) : Int)) dX6_run_64 fl_X6_24 rfl hE.k (stF_s _ _ _ _) ?_
        refine r_if_le (pc := 67) (tgt := 76) dX6_run_67 (by decide) (by have := tbW_r (may := (fun s i => (nxM wt n s).testBit i)) (co := co) (bg := bg) hn8 0; omega) (fun c_67 => ?_) (fun c_67 => ?_)
        · refine r_aload_n (pc := 76) 2 dX6_run_76 rfl rfl ?_
          refine r_iconst (pc := 77) dX6_run_77 ?_
          refine r_putB (pc := 78) dX6_run_78 fl_X6_45 rfl rfl (by omega) hE.k ?_
          exact r_vret (pc := 81) dX6_run_81 rfl ⟨rfl, rfl, fun q h1 h2 h3 h4 => by rw [stF_n _ _ _ h1, stF_n _ _ _ h1, stF_n _ _ _ h1]; exact hF1 q h2 h3, stF_s _ _ _ _, by rw [stF_i _ _ _ (by decide), stF_i _ _ _ (by decide), stF_s], by rw [stF_i _ _ _ (by decide), stF_s], fun h => absurd h (by omega)⟩
        · refine r_aload_n (pc := 70) 2 dX6_run_70 rfl rfl ?_
          refine r_aload_n (pc := 71) 3 dX6_run_71 rfl rfl ?_
          refine r_iload_n (pc := 72) 4 dX6_run_72 rfl rfl ?_
          refine r_callV (pc := 73) (As := [(.ref y), (.int (iI (b01 (bg = true))))]) (S := []) dX6_run_73 cv_X6_41 hE.k rfl (Nat.le_of_ble_eq_true rfl) (x_walk (co := co) (bg := bg) l z _ hE hY (hL1.mv (fun q hq1 hq2 => by rw [stF_n _ _ _ (by omega), stF_n _ _ _ (by omega)])) h0 h1 hb hye (fun s hs i hi => by rw [stF_n _ _ _ (by omega), stF_n _ _ _ (by omega), hF1 _ (by omega) (by omega)]; exact hco s hs i hi) hcr (fun u hu => by rw [stF_n _ _ _ (by omega), stF_n _ _ _ (by omega)]; exact hLt1 u (by omega) hu) (fun u hu => by rw [stF_n _ _ _ (by omega), stF_n _ _ _ (by omega)]; exact hWt1 u (by omega) hu) (by omega) (by rw [stF_i _ _ _ (by decide), stF_s])) (Nat.zero_le _) (Nat.zero_le _) (fun r_73 g_73 f_73 q_73 => ?_)
          obtain ⟨rfl, rfl, hw1, hw2⟩ := q_73
          refine r_aload_n (pc := 76) 2 dX6_run_76 rfl rfl ?_
          refine r_iconst (pc := 77) dX6_run_77 ?_
          refine r_putB (pc := 78) dX6_run_78 fl_X6_45 rfl rfl (by omega) hE.k ?_
          exact r_vret (pc := 81) dX6_run_81 rfl ⟨rfl, rfl, fun q h1 h2 h3 h4 => by rw [stF_n _ _ _ h1, hw1 q h4, stF_n _ _ _ h1, stF_n _ _ _ h1]; exact hF1 q h2 h3, stF_s _ _ _ _, by rw [stF_i _ _ _ (by decide), hw1 e (by omega), stF_i _ _ _ (by decide), stF_s], by rw [stF_i _ _ _ (by decide), hw1 e (by omega), stF_s], fun _ p hp => by rw [stF_n _ _ _ (by omega)]; exact hw2 p hp⟩
      · obtain ⟨s, rfl⟩ : ∃ s, k = s + 1 := ⟨k - 1, by omega⟩
        refine r_aload_n (pc := 29) 2 dX6_run_29 rfl rfl ?_
        refine r_aload_n (pc := 30) 3 dX6_run_30 rfl rfl ?_
        refine r_iload (pc := 31) 0 dX6_run_31 rfl ?_
        refine r_eqI (y := ((s : Nat) : Int)) (by omega) ?_
        refine r_iload_n (pc := 33) 4 dX6_run_33 rfl rfl ?_
        refine r_callV (pc := 34) (As := [(.ref y), (.int (iI (((s : Nat) : Int)))), (.int (iI (b01 (bg = true))))]) (S := []) dX6_run_34 cv_X6_34 hE.k rfl (Nat.le_of_ble_eq_true rfl) (x_lookFrom (s := s) (co := co) (bg := bg) (Lt := tbL (fun s i => (nxM wt n s).testBit i) co bg n) (Wt := tbW (fun s i => (nxM wt n s).testBit i) co bg n) l z _ hE hY hL1 h0 h1 hb (by omega) (fun i hi => ⟨by rw [hF1 _ (by omega) (by omega)]; exact hco _ (by omega) i hi, by have := hcr s i hi; omega, by have := hcr s i hi; omega⟩) (fun u hu1 hu2 => hLt1 u (by omega) hu2) (fun u hu1 hu2 => hWt1 u (by omega) hu2) (fun i hi hw => by have := tbL_r hn8 hcr hw; omega) (fun i hi => tbW_r hn8 _)) (Nat.zero_le _) (Nat.zero_le _) (fun r_34 g_34 f_34 q_34 => ?_)
        rw [tb_rec (fun i hi => nx_out hi) (by omega)] at q_34
        obtain ⟨rfl, rfl, rfl⟩ := q_34
        refine r_iincv (pc := 37) (y := ((s : Nat) : Int) - 1) (L2 := [(4, (.int (iI (((s : Nat) : Int) - 1)))), (3, (.int (iI (((2 ^ n - 1 : Nat) : Int))))), (0, (.ref e)), (1, (.ref y)), (2, (.int (iI (b01 (bg = true)))))]) 0 dX6_run_37 rfl (by omega) (by decide) rfl ?_
        refine r_goto (pc := 40) (tgt := 24) dX6_run_40 (by decide) ?_
        refine r_sub (L2 := [(4, (.int (iI (((s : Nat) : Int) - 1)))), (3, (.int (iI (((2 ^ n - 1 : Nat) : Int))))), (0, (.ref e)), (1, (.ref y)), (2, (.int (iI (b01 (bg = true)))))]) [0, 1, 2, 3, 4] rfl ?_
        exact ih s (by omega) s rfl (by omega) _ (fun q h2 h3 => by rw [stF_n _ _ _ h3, stF_n _ _ _ h2]; exact hF1 q h2 h3) (fun u hu1 hu2 => by
          rw [stF_n _ _ _ (by omega)]
          rcases Nat.eq_or_lt_of_le hu1 with h | h
          · subst h; exact stF_s _ _ _ _
          · rw [stF_i _ _ _ (by omega)]; exact hLt1 u (by omega) hu2) (fun u hu1 hu2 => by
          rcases Nat.eq_or_lt_of_le hu1 with h | h
          · subst h; exact stF_s _ _ _ _
          · rw [stF_i _ _ _ (by omega), stF_n _ _ _ (by omega)]; exact hWt1 u (by omega) hu2)
  refine r_aload_n (pc := 0) 1 dX6_run_0 rfl rfl ?_
  refine r_callV (pc := 1) (As := []) (S := []) dX6_run_1 cv_X6_28 hY.k rfl (Nat.le_of_ble_eq_true rfl) (x_every (n := n) l z _ hY hL.1.2.1 hn8) (Nat.zero_le _) (Nat.zero_le _) (fun r_1 g_1 f_1 q_1 => ?_)
  obtain ⟨rfl, rfl, rfl⟩ := q_1
  refine r_istore_n (pc := 4) (L2 := [(3, (.int (iI (((2 ^ n - 1 : Nat) : Int))))), (0, (.ref e)), (1, (.ref y)), (2, (.int (iI (b01 (bg = true)))))]) dX6_run_4 rfl (by decide) rfl ?_
  refine r_aload_n (pc := 5) 1 dX6_run_5 rfl rfl ?_
  refine r_getR (pc := 6) (b := (e + 2)) dX6_run_6 fl_X6_15 rfl hE.k hE.r1 ?_
  refine r_iload_n (pc := 9) 0 dX6_run_9 rfl rfl ?_
  refine r_iconst (pc := 10) dX6_run_10 ?_
  refine r_iastv (pc := 11) (i := 2 ^ n - 1) dX6_run_11 hE.a1 (by omega) (by decide) rfl ?_
  refine r_aload_n (pc := 12) 1 dX6_run_12 rfl rfl ?_
  refine r_getR (pc := 13) (b := (e + 3)) dX6_run_13 fl_X6_18 rfl hE.k hE.r2 ?_
  refine r_iload_n (pc := 16) 0 dX6_run_16 rfl rfl ?_
  refine r_iconst (pc := 17) dX6_run_17 ?_
  refine r_iastv (pc := 18) (i := 2 ^ n - 1) dX6_run_18 hE.a2 (by omega) (by decide) rfl ?_
  refine r_iload_n (pc := 19) 0 dX6_run_19 rfl rfl ?_
  refine r_iconst (pc := 20) dX6_run_20 ?_
  refine r_isub (pc := 21) dX6_run_21 ?_
  refine r_istore (pc := 22) (L2 := [(4, (.int (iI ((((2 ^ n - 1 : Nat) : Int)) - (1))))), (3, (.int (iI (((2 ^ n - 1 : Nat) : Int))))), (0, (.ref e)), (1, (.ref y)), (2, (.int (iI (b01 (bg = true)))))]) dX6_run_22 (by decide) rfl ?_
  refine r_sub (L2 := [(4, (.int (iI ((((2 ^ n - 1 : Nat) : Int)) - (1))))), (3, (.int (iI (((2 ^ n - 1 : Nat) : Int))))), (0, (.ref e)), (1, (.ref y)), (2, (.int (iI (b01 (bg = true)))))]) [0, 1, 2, 3, 4] rfl ?_
  exact loop (2 ^ n - 1) (2 ^ n - 1) rfl (by omega) _ (fun q h2 h3 => by rw [stF_n _ _ _ h3, stF_n _ _ _ h2]) (fun u hu1 hu2 => by rw [show u = 2 ^ n - 1 by omega, stF_n _ _ _ (by omega), stF_s, tb_all.1]) (fun u hu1 hu2 => by rw [show u = 2 ^ n - 1 by omega, stF_s, tb_all.2]; rfl)

/-- customer i may come after s within the limit -/
def fwP (may : Nat → Nat → Bool) (co : Nat → Nat → Int) (bg : Bool) (Lt : Nat → Int) (Wt : Nat → Nat) (s : Nat) (lim : Int) (i : Nat) : Prop := may s i = true ∧ 0 < Wt (s ||| 2 ^ i) ∧ jnB bg (co s i) (Lt (s ||| 2 ^ i)) ≤ lim

set_option maxRecDepth 100000 in
set_option maxHeartbeats 4000000 in
theorem x_firstWithin (l : Launch) (z : Zv) (d : Nat) {g : Gm} {f : Fm} {e y n a2 b0 b1 s : Nat} {wa wt : Nat → Nat} {dz lp lim : Int} {co : Nat → Nat → Int} {bg : Bool} {Lt : Nat → Int} {Wt : Nat → Nat} (hE : EL g e) (hY : DL g y) (hL : DYo f y n a2 wa wt dz lp b0 b1) (h0 : 2 ≤ dz ∧ dz ≤ 20) (h1 : 0 ≤ lp ∧ lp ≤ 9) (hb : b0 ≤ 1100000 ∧ b1 ≤ 1100000) (hs : s < 2 ^ n) (hlim : -1000000000 ≤ lim ∧ lim ≤ 1000000000) (hco : ∀ i, i < n → f (e + 1) (21 * i + (max (0) (min (gnV dz lp b0 b1 wa n a2 s i) (20))).toNat) = co s i ∧ -500000000 ≤ co s i ∧ co s i ≤ 500000000) (hLt : ∀ u, u < 2 ^ n → f (e + 2) u = Lt u) (hWt : ∀ u, u < 2 ^ n → f (e + 3) u = ((Wt u : Nat) : Int)) (hLr : ∀ i, i < n → 0 < Wt (s ||| 2 ^ i) → -500000000 ≤ Lt (s ||| 2 ^ i) ∧ Lt (s ||| 2 ^ i) ≤ 500000000) (hWr : ∀ i, i < n → Wt (s ||| 2 ^ i) ≤ 16777216) : PM l z (d + 2) mX6_firstWithin [.ref e, .ref y, .int (iI ((s : Nat) : Int)), .int (iI lim), .int (iI (b01 (bg = true)))] g f 0 0 (fun r g' f' => ∃ c : Int, r = some (.int (iI c)) ∧ ((∃ k : Nat, k < n ∧ c = (k : Int) ∧ fwP (fun s i => (nxM wt n s).testBit i) co bg Lt Wt s lim k ∧ ∀ j, j < k → ¬ fwP (fun s i => (nxM wt n s).testBit i) co bg Lt Wt s lim j) ∨ (c = -1 ∧ ∀ j, j < n → ¬ fwP (fun s i => (nxM wt n s).testBit i) co bg Lt Wt s lim j)) ∧ g = g' ∧ f = f') := by
  have hn8 := hL.1.1
  have hp8 := pow8 hn8
  refine PM.of (by decide +kernel) (Nat.le_of_ble_eq_true rfl) ?_
  have loop : ∀ m i : Nat, m = n - i → i ≤ n → (∀ j, j < i → ¬ fwP (fun s i => (nxM wt n s).testBit i) co bg Lt Wt s lim j) → PW l z (d + 2) mX6_firstWithin 0 0 (fun r g' f' => ∃ c : Int, r = some (.int (iI c)) ∧ ((∃ k : Nat, k < n ∧ c = (k : Int) ∧ fwP (fun s i => (nxM wt n s).testBit i) co bg Lt Wt s lim k ∧ ∀ j, j < k → ¬ fwP (fun s i => (nxM wt n s).testBit i) co bg Lt Wt s lim j) ∨ (c = -1 ∧ ∀ j, j < n → ¬ fwP (fun s i => (nxM wt n s).testBit i) co bg Lt Wt s lim j)) ∧ g = g' ∧ f = f') 3 [(5, (.int (iI (((i : Nat) : Int))))), (0, (.ref e)), (1, (.ref y)), (2, (.int (iI (((s : Nat) : Int))))), (3, (.int (iI (lim)))), (4, (.int (iI (b01 (bg = true)))))] [] g f 0 0 := by
    intro m
    induction m using Nat.strongRecOn with
    | _ m ih =>
      intro i hm hi hp
      refine r_iload (pc := 3) 0 dX6_firstWithin_3 rfl ?_
      refine r_aload_n (pc := 5) 2 dX6_firstWithin_5 rfl rfl ?_
      refine r_getIv (pc := 6) (x := ((n : Nat) : Int)) dX6_firstWithin_6 fl_X6_53 rfl hY.k (hL.1.2.1) ?_
      refine r_icmp_ge (pc := 9) (tgt := 77) dX6_firstWithin_9 (by decide) (by omega) (by omega) (fun c_9 => ?_) (fun c_9 => ?_)
      · refine r_iconst (pc := 77) dX6_firstWithin_77 ?_
        have hin : i = n := by omega
        subst hin
        exact r_iret (pc := 78) dX6_firstWithin_78 rfl rfl ⟨_, rfl, Or.inr ⟨rfl, hp⟩, rfl, rfl⟩
      · have hou := or_lt (i := i) hs (by omega)
        have hnx2 : nxM wt n s < 256 := wmk_8 (nxP wt s) (n := n) hn8
        refine r_iload_n (pc := 12) 3 dX6_firstWithin_12 rfl rfl ?_
        refine r_iconst (pc := 13) dX6_firstWithin_13 ?_
        refine r_iload (pc := 14) 0 dX6_firstWithin_14 rfl ?_
        refine r_ishl (pc := 16) (w := ((2 ^ i : Nat) : Int)) dX6_firstWithin_16  (iI_shl1 (by omega)) ?_
        refine r_ior (pc := 17) (w := ((s ||| (2 ^ i) : Nat) : Int)) dX6_firstWithin_17  (iI_or _ _) ?_
        refine r_istore (pc := 18) (L2 := [(6, (.int (iI (((s ||| (2 ^ i) : Nat) : Int))))), (5, (.int (iI (((i : Nat) : Int))))), (0, (.ref e)), (1, (.ref y)), (2, (.int (iI (((s : Nat) : Int))))), (3, (.int (iI (lim)))), (4, (.int (iI (b01 (bg = true)))))]) dX6_firstWithin_18 (by decide) rfl ?_
        refine r_aload_n (pc := 20) 3 dX6_firstWithin_20 rfl rfl ?_
        refine r_getR (pc := 21) (b := (y + 7)) dX6_firstWithin_21 fl_X6_50 rfl hY.k hY.r4 ?_
        refine r_iload_n (pc := 24) 4 dX6_firstWithin_24 rfl rfl ?_
        refine r_ialdv (pc := 25) (w := ((nxM wt n s : Nat) : Int)) dX6_firstWithin_25 hY.a4 (by omega) (by decide) ((hL.2.2.2.1 s (by omega)).1) ?_
        refine r_iload (pc := 26) 1 dX6_firstWithin_26 rfl ?_
        refine r_ishr (pc := 28) (w := ((nxM wt n s / 2 ^ i : Nat) : Int)) dX6_firstWithin_28  (iI_shr (by omega) (by omega)) ?_
        refine r_iconst (pc := 29) dX6_firstWithin_29 ?_
        refine r_iand (pc := 30) (w := (((nxM wt n s / 2 ^ i) &&& 1 : Nat) : Int)) dX6_firstWithin_30  (iI_and _ _) ?_
        refine r_eqI (y := b01 ((nxM wt n s).testBit i = true)) (bitI _ _) ?_
        refine r_if_eq (pc := 31) (tgt := 71) dX6_firstWithin_31 (by decide) (b01_r) (fun c_31 => ?_) (fun c_31 => ?_)
        · replace c_31 := b01_z c_31
          refine r_iincv (pc := 71) (y := ((i + 1 : Nat) : Int)) (L2 := [(5, (.int (iI (((i + 1 : Nat) : Int))))), (6, (.int (iI (((s ||| (2 ^ i) : Nat) : Int))))), (0, (.ref e)), (1, (.ref y)), (2, (.int (iI (((s : Nat) : Int))))), (3, (.int (iI (lim)))), (4, (.int (iI (b01 (bg = true)))))]) 1 dX6_firstWithin_71 rfl (by omega) (by decide) rfl ?_
          refine r_goto (pc := 74) (tgt := 3) dX6_firstWithin_74 (by decide) ?_
          refine r_sub (L2 := [(5, (.int (iI (((i + 1 : Nat) : Int))))), (0, (.ref e)), (1, (.ref y)), (2, (.int (iI (((s : Nat) : Int))))), (3, (.int (iI (lim)))), (4, (.int (iI (b01 (bg = true)))))]) [0, 2, 3, 4, 5, 6] rfl ?_
          exact ih (n - (i + 1)) (by omega) (i + 1) (by omega) (by omega) (fun j hj => by rcases Nat.lt_succ_iff_lt_or_eq.mp hj with h | h; exact hp j h; subst h; exact fun h => c_31 h.1)
        · replace c_31 := b01_nz c_31
          refine r_aload_n (pc := 34) 2 dX6_firstWithin_34 rfl rfl ?_
          refine r_getR (pc := 35) (b := (e + 3)) dX6_firstWithin_35 fl_X6_18 rfl hE.k hE.r2 ?_
          refine r_iload (pc := 38) 0 dX6_firstWithin_38 rfl ?_
          refine r_ialdv (pc := 40) (w := ((Wt (s ||| (2 ^ i)) : Nat) : Int)) dX6_firstWithin_40 hE.a2 (by omega) (by decide) (hWt _ (or_lt hs (by omega))) ?_
          refine r_if_le (pc := 41) (tgt := 71) dX6_firstWithin_41 (by decide) (by have := hWr i (by omega); omega) (fun c_41 => ?_) (fun c_41 => ?_)
          · refine r_iincv (pc := 71) (y := ((i + 1 : Nat) : Int)) (L2 := [(5, (.int (iI (((i + 1 : Nat) : Int))))), (6, (.int (iI (((s ||| (2 ^ i) : Nat) : Int))))), (0, (.ref e)), (1, (.ref y)), (2, (.int (iI (((s : Nat) : Int))))), (3, (.int (iI (lim)))), (4, (.int (iI (b01 (bg = true)))))]) 1 dX6_firstWithin_71 rfl (by omega) (by decide) rfl ?_
            refine r_goto (pc := 74) (tgt := 3) dX6_firstWithin_74 (by decide) ?_
            refine r_sub (L2 := [(5, (.int (iI (((i + 1 : Nat) : Int))))), (0, (.ref e)), (1, (.ref y)), (2, (.int (iI (((s : Nat) : Int))))), (3, (.int (iI (lim)))), (4, (.int (iI (b01 (bg = true)))))]) [0, 2, 3, 4, 5, 6] rfl ?_
            exact ih (n - (i + 1)) (by omega) (i + 1) (by omega) (by omega) (fun j hj => by rcases Nat.lt_succ_iff_lt_or_eq.mp hj with h | h; exact hp j h; subst h; exact fun h => by have := h.2.1; omega)
          · refine r_aload_n (pc := 44) 2 dX6_firstWithin_44 rfl rfl ?_
            refine r_aload_n (pc := 45) 3 dX6_firstWithin_45 rfl rfl ?_
            refine r_iload (pc := 46) 1 dX6_firstWithin_46 rfl ?_
            refine r_iload_n (pc := 48) 4 dX6_firstWithin_48 rfl rfl ?_
            refine r_callV (pc := 49) (As := [(.ref y), (.int (iI (((i : Nat) : Int)))), (.int (iI (((s : Nat) : Int))))]) (S := []) dX6_firstWithin_49 cv_X6_56 hE.k rfl (Nat.le_of_ble_eq_true rfl) (x_costOf l z _ hE hY hL h0 h1 hb hs (by omega)) (Nat.zero_le _) (Nat.zero_le _) (fun r_49 g_49 f_49 q_49 => ?_)
            obtain ⟨rfl, rfl, rfl⟩ := q_49
            refine r_eqI (y := co s i) (hco i (by omega)).1 ?_
            have hcr := (hco i (by omega)).2
            have hlq := hLr i (by omega) (by omega)
            refine r_aload_n (pc := 52) 2 dX6_firstWithin_52 rfl rfl ?_
            refine r_getR (pc := 53) (b := (e + 2)) dX6_firstWithin_53 fl_X6_15 rfl hE.k hE.r1 ?_
            refine r_iload (pc := 56) 0 dX6_firstWithin_56 rfl ?_
            refine r_ialdv (pc := 58) (w := Lt (s ||| (2 ^ i))) dX6_firstWithin_58 hE.a1 (by omega) (by decide) (hLt _ (or_lt hs (by omega))) ?_
            refine r_iload (pc := 59) 6 dX6_firstWithin_59 rfl ?_
            refine r_callS (pc := 61) (As := [(.int (iI (co s i))), (.int (iI (Lt (s ||| (2 ^ i))))), (.int (iI (b01 (bg = true))))]) (S := []) dX6_firstWithin_61 cs_X6_60 rfl (Nat.le_of_ble_eq_true rfl) (x_together (bg := bg) l z _ (by omega) (by omega)) (Nat.zero_le _) (Nat.zero_le _) (fun r_61 g_61 f_61 q_61 => ?_)
            obtain ⟨rfl, rfl, rfl⟩ := q_61
            refine r_eqI (y := jnB bg (co s i) (Lt (s ||| 2 ^ i))) rfl ?_
            have hjr := jnB_r (bg := bg) hcr (hLr i (by omega) (by omega))
            refine r_iload_n (pc := 64) 5 dX6_firstWithin_64 rfl rfl ?_
            refine r_icmp_gt (pc := 65) (tgt := 71) dX6_firstWithin_65 (by decide) (by omega) (by omega) (fun c_65 => ?_) (fun c_65 => ?_)
            · refine r_iincv (pc := 71) (y := ((i + 1 : Nat) : Int)) (L2 := [(5, (.int (iI (((i + 1 : Nat) : Int))))), (6, (.int (iI (((s ||| (2 ^ i) : Nat) : Int))))), (0, (.ref e)), (1, (.ref y)), (2, (.int (iI (((s : Nat) : Int))))), (3, (.int (iI (lim)))), (4, (.int (iI (b01 (bg = true)))))]) 1 dX6_firstWithin_71 rfl (by omega) (by decide) rfl ?_
              refine r_goto (pc := 74) (tgt := 3) dX6_firstWithin_74 (by decide) ?_
              refine r_sub (L2 := [(5, (.int (iI (((i + 1 : Nat) : Int))))), (0, (.ref e)), (1, (.ref y)), (2, (.int (iI (((s : Nat) : Int))))), (3, (.int (iI (lim)))), (4, (.int (iI (b01 (bg = true)))))]) [0, 2, 3, 4, 5, 6] rfl ?_
              exact ih (n - (i + 1)) (by omega) (i + 1) (by omega) (by omega) (fun j hj => by rcases Nat.lt_succ_iff_lt_or_eq.mp hj with h | h; exact hp j h; subst h; exact fun h => by have := h.2.2; omega)
            · refine r_iload (pc := 68) 1 dX6_firstWithin_68 rfl ?_
              exact r_iret (pc := 70) dX6_firstWithin_70 rfl rfl ⟨_, rfl, Or.inl ⟨i, by omega, rfl, ⟨c_31, by omega, by omega⟩, hp⟩, rfl, rfl⟩
  refine r_iconst (pc := 0) dX6_firstWithin_0 ?_
  refine r_istore (pc := 1) (L2 := [(5, (.int (iI (0)))), (0, (.ref e)), (1, (.ref y)), (2, (.int (iI (((s : Nat) : Int))))), (3, (.int (iI (lim)))), (4, (.int (iI (b01 (bg = true)))))]) dX6_firstWithin_1 (by decide) rfl ?_
  refine r_sub (L2 := [(5, (.int (iI (((0 : Nat) : Int))))), (0, (.ref e)), (1, (.ref y)), (2, (.int (iI (((s : Nat) : Int))))), (3, (.int (iI (lim)))), (4, (.int (iI (b01 (bg = true)))))]) [0, 1, 2, 3, 4, 5] rfl ?_
  exact loop n 0 (by omega) (by omega) (fun _ h => absurd h (Nat.not_lt_zero _))

set_option maxRecDepth 100000 in
set_option maxHeartbeats 4000000 in
theorem x_setCost (l : Launch) (z : Zv) (d : Nat) {g : Gm} {f : Fm} {e c k : Nat} {v : Int} (hE : EL g e) (hc : c < 8) (hk : k < 21) : PM l z d mX6_setCost [(.ref e), (.int (iI (((c : Nat) : Int)))), (.int (iI (((k : Nat) : Int)))), (.int (iI (v)))] g f 0 0 (fun r g' f' => r = none ∧ g = g' ∧ stF f (e + 1) (21 * c + k) v = f') := by
  refine PM.of (by decide +kernel) (Nat.le_of_ble_eq_true rfl) ?_
  refine r_aload_n (pc := 0) 0 dX6_setCost_0 rfl rfl ?_
  refine r_getR (pc := 1) (b := (e + 1)) dX6_setCost_1 fl_X6_9 rfl hE.k hE.r0 ?_
  refine r_iload_n (pc := 4) 1 dX6_setCost_4 rfl rfl ?_
  refine r_bipush (pc := 5) dX6_setCost_5 (by decide) ?_
  refine r_imul (pc := 7) dX6_setCost_7 ?_
  refine r_eqI (y := ((c * 21 : Nat) : Int)) (Int.natCast_mul _ _ |>.symm) ?_
  refine r_iload_n (pc := 8) 2 dX6_setCost_8 rfl rfl ?_
  refine r_iadd (pc := 9) dX6_setCost_9 ?_
  refine r_eqI (y := (((c * 21) + k : Nat) : Int)) (Int.natCast_add _ _ |>.symm) ?_
  refine r_iload_n (pc := 10) 3 dX6_setCost_10 rfl rfl ?_
  refine r_iastv (pc := 11) (i := 21 * c + k) dX6_setCost_11 hE.a0 (by omega) (by decide) (by omega) ?_
  exact r_vret (pc := 12) dX6_setCost_12 rfl ⟨rfl, rfl, rfl⟩

set_option maxRecDepth 100000 in
set_option maxHeartbeats 4000000 in
theorem x_together (l : Launch) (z : Zv) (d : Nat) {g : Gm} {f : Fm} {x y : Int} {bg : Bool} (hx : -1000000000 ≤ x ∧ x ≤ 1000000000) (hy : -1000000000 ≤ y ∧ y ≤ 1000000000) : PM l z (d + 1) mX6_together [(.int (iI (x))), (.int (iI (y))), (.int (iI (b01 (bg = true))))] g f 0 0 (rdQ (.int (iI (if bg = true then max x y else x + y))) g f) := by
  refine PM.of (by decide +kernel) (Nat.le_of_ble_eq_true rfl) ?_
  refine r_iload_n (pc := 0) 2 dX6_together_0 rfl rfl ?_
  refine r_if_eq (pc := 1) (tgt := 12) dX6_together_1 (by decide) (b01_r) (fun c_1 => ?_) (fun c_1 => ?_)
  · replace c_1 := b01_z c_1
    refine r_iload_n (pc := 12) 0 dX6_together_12 rfl rfl ?_
    refine r_iload_n (pc := 13) 1 dX6_together_13 rfl rfl ?_
    refine r_iadd (pc := 14) dX6_together_14 ?_
    exact r_iret (pc := 15) dX6_together_15 rfl rfl ⟨by rw [if_neg (by first | assumption | omega)], rfl, rfl⟩
  · replace c_1 := b01_nz c_1
    refine r_iload_n (pc := 4) 0 dX6_together_4 rfl rfl ?_
    refine r_iload_n (pc := 5) 1 dX6_together_5 rfl rfl ?_
    refine r_callS (pc := 6) (As := [(.int (iI (x))), (.int (iI (y)))]) (S := []) dX6_together_6 cs_X6_77 rfl (Nat.le_of_ble_eq_true rfl) (c_max l z _ g f _ _ (by omega) (by omega)) (Nat.zero_le _) (Nat.zero_le _) (fun r_6 g_6 f_6 q_6 => ?_)
    obtain ⟨rfl, rfl, rfl⟩ := q_6
    refine r_goto (pc := 9) (tgt := 15) dX6_together_9 (by decide) ?_
    exact r_iret (pc := 15) dX6_together_15 rfl rfl ⟨by rw [if_pos (by first | assumption | omega)], rfl, rfl⟩

set_option maxRecDepth 100000 in
set_option maxHeartbeats 4000000 in
theorem x_costOf (l : Launch) (z : Zv) (d : Nat) {g : Gm} {f : Fm} {e y n a2 b0 b1 s i : Nat} {wa wt : Nat → Nat} {dz lp : Int} (hE : EL g e) (hY : DL g y) (hL : DYo f y n a2 wa wt dz lp b0 b1) (h0 : 2 ≤ dz ∧ dz ≤ 20) (h1 : 0 ≤ lp ∧ lp ≤ 9) (hb : b0 ≤ 1100000 ∧ b1 ≤ 1100000) (hs : s < 2 ^ n) (hi : i < n) : PM l z (d + 1) mX6_costOf [(.ref e), (.ref y), (.int (iI (((i : Nat) : Int)))), (.int (iI (((s : Nat) : Int))))] g f 0 0 (rdQ (.int (iI (f (e + 1) (21 * i + (max (0) (min (gnV dz lp b0 b1 wa n a2 s i) (20))).toNat)))) g f) := by
  refine PM.of (by decide +kernel) (Nat.le_of_ble_eq_true rfl) ?_
  have hn8 := hL.1.1
  have hgr := gnV_r (a2 := a2) (s := s) (i := i) h0.1 h1 hb (fun c hc => (hL.1.2.2.1 c hc).2) hn8
  refine r_iconst (pc := 0) dX6_costOf_0 ?_
  refine r_aload_n (pc := 1) 1 dX6_costOf_1 rfl rfl ?_
  refine r_iload_n (pc := 2) 2 dX6_costOf_2 rfl rfl ?_
  refine r_iload_n (pc := 3) 3 dX6_costOf_3 rfl rfl ?_
  refine r_callV (pc := 4) (As := [(.int (iI (((i : Nat) : Int)))), (.int (iI (((s : Nat) : Int))))]) (S := [(.int (iI (0)))]) dX6_costOf_4 cv_X6_68 hY.k rfl (Nat.le_of_ble_eq_true rfl) (x_gain l z _ hY hL hs hi) (Nat.zero_le _) (Nat.zero_le _) (fun r_4 g_4 f_4 q_4 => ?_)
  obtain ⟨rfl, rfl, rfl⟩ := q_4
  refine r_bipush (pc := 7) dX6_costOf_7 (by decide) ?_
  refine r_callS (pc := 9) (As := [(.int (iI (gnV dz lp b0 b1 wa n a2 s i))), (.int (iI (20)))]) (S := [(.int (iI (0)))]) dX6_costOf_9 cs_X6_72 rfl (Nat.le_of_ble_eq_true rfl) (c_min l z _ g f _ _ (by omega) (by omega)) (Nat.zero_le _) (Nat.zero_le _) (fun r_9 g_9 f_9 q_9 => ?_)
  obtain ⟨rfl, rfl, rfl⟩ := q_9
  refine r_callS (pc := 12) (As := [(.int (iI (0))), (.int (iI (min (gnV dz lp b0 b1 wa n a2 s i) (20))))]) (S := []) dX6_costOf_12 cs_X6_77 rfl (Nat.le_of_ble_eq_true rfl) (c_max l z _ g f _ _ (by omega) (by omega)) (Nat.zero_le _) (Nat.zero_le _) (fun r_12 g_12 f_12 q_12 => ?_)
  obtain ⟨rfl, rfl, rfl⟩ := q_12
  refine r_istore (pc := 15) (L2 := [(4, (.int (iI (max (0) (min (gnV dz lp b0 b1 wa n a2 s i) (20)))))), (0, (.ref e)), (1, (.ref y)), (2, (.int (iI (((i : Nat) : Int))))), (3, (.int (iI (((s : Nat) : Int)))))]) dX6_costOf_15 (by decide) rfl ?_
  refine r_aload_n (pc := 17) 1 dX6_costOf_17 rfl rfl ?_
  refine r_getR (pc := 18) (b := (e + 1)) dX6_costOf_18 fl_X6_9 rfl hE.k hE.r0 ?_
  refine r_iload_n (pc := 21) 3 dX6_costOf_21 rfl rfl ?_
  refine r_bipush (pc := 22) dX6_costOf_22 (by decide) ?_
  refine r_imul (pc := 24) dX6_costOf_24 ?_
  refine r_eqI (y := ((i * 21 : Nat) : Int)) (Int.natCast_mul _ _ |>.symm) ?_
  refine r_iload (pc := 25) 0 dX6_costOf_25 rfl ?_
  refine r_iadd (pc := 27) dX6_costOf_27 ?_
  refine r_eqI (y := ((21 * i + (max (0) (min (gnV dz lp b0 b1 wa n a2 s i) (20))).toNat : Nat) : Int)) (by omega) ?_
  refine r_ialdv (pc := 28) (w := f (e + 1) (21 * i + (max (0) (min (gnV dz lp b0 b1 wa n a2 s i) (20))).toNat)) dX6_costOf_28 hE.a0 (by omega) (by decide) (rfl) ?_
  exact r_iret (pc := 29) dX6_costOf_29 rfl rfl ⟨rfl, rfl, rfl⟩

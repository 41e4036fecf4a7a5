set_option maxRecDepth 100000 in
set_option maxHeartbeats 4000000 in
theorem x_placed (l : Launch) (z : Zv) (d : Nat) {g : Gm} {f : Fm} {e n wy : Nat} {pl : Int} (hE : EL g e) (hn : n ≤ 8) (hwr : wy ≤ 16777216) (hpl : -2147483648 ≤ pl ∧ pl ≤ 2147483647) (hw : f e 6 = ((wy : Nat) : Int)) : PM l z (d + 1) mX6_placed [(.ref e), (.int (iI (pl))), (.int (iI (((n : Nat) : Int))))] g f 0 0 (rdQ (.int (iI (if 0 < wy ∧ 0 ≤ pl ∧ pl < (n : Int) then f (e + 4) pl.toNat else -1))) g f) := by
  refine PM.of (by decide +kernel) (Nat.le_of_ble_eq_true rfl) ?_
  refine r_aload_n (pc := 0) 0 dX6_placed_0 rfl rfl ?_
  refine r_getIv (pc := 1) (x := ((wy : Nat) : Int)) dX6_placed_1 fl_X6_24 rfl hE.k (hw) ?_
  refine r_if_le (pc := 4) (tgt := 25) dX6_placed_4 (by decide) (by omega) (fun c_4 => ?_) (fun c_4 => ?_)
  · refine r_iconst (pc := 25) dX6_placed_25 ?_
    exact r_iret (pc := 26) dX6_placed_26 rfl rfl ⟨by rw [if_neg (by omega)], rfl, rfl⟩
  · refine r_iload_n (pc := 7) 1 dX6_placed_7 rfl rfl ?_
    refine r_if_lt (pc := 8) (tgt := 25) dX6_placed_8 (by decide) (by omega) (fun c_8 => ?_) (fun c_8 => ?_)
    · refine r_iconst (pc := 25) dX6_placed_25 ?_
      exact r_iret (pc := 26) dX6_placed_26 rfl rfl ⟨by rw [if_neg (by omega)], rfl, rfl⟩
    · refine r_iload_n (pc := 11) 1 dX6_placed_11 rfl rfl ?_
      refine r_iload_n (pc := 12) 2 dX6_placed_12 rfl rfl ?_
      refine r_icmp_ge (pc := 13) (tgt := 25) dX6_placed_13 (by decide) (by omega) (by omega) (fun c_13 => ?_) (fun c_13 => ?_)
      · refine r_iconst (pc := 25) dX6_placed_25 ?_
        exact r_iret (pc := 26) dX6_placed_26 rfl rfl ⟨by rw [if_neg (by omega)], rfl, rfl⟩
      · refine r_aload_n (pc := 16) 0 dX6_placed_16 rfl rfl ?_
        refine r_getR (pc := 17) (b := (e + 4)) dX6_placed_17 fl_X6_21 rfl hE.k hE.r3 ?_
        refine r_iload_n (pc := 20) 1 dX6_placed_20 rfl rfl ?_
        refine r_eqI (y := ((pl.toNat : Nat) : Int)) (by omega) ?_
        refine r_ialdv (pc := 21) (w := f (e + 4) (pl.toNat)) dX6_placed_21 hE.a3 (by omega) (by decide) (rfl) ?_
        refine r_goto (pc := 22) (tgt := 26) dX6_placed_22 (by decide) ?_
        exact r_iret (pc := 26) dX6_placed_26 rfl rfl ⟨by rw [if_pos (by omega)], rfl, rfl⟩

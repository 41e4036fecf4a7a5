set_option maxRecDepth 100000 in
set_option maxHeartbeats 4000000 in
theorem x_planBegin (l : Launch) (z : Zv) (d : Nat) {g : Gm} {f : Fm} {p n : Nat} (hP : YL g p) (hn8 : n ≤ 8) : PM l z (d + 2) mX9_begin [(.ref p), (.int (iI (((n : Nat) : Int))))] g f 0 0 (fun r g' f' => r = none ∧ g = g' ∧ (∀ b, b ≠ p → b ≠ p + 5 → f' b = f b) ∧ f' p 10 = ((n : Nat) : Int) ∧ f' p 11 = ((2 ^ n - 1 : Nat) : Int) ∧ f' p 8 = 0 ∧ f' p 9 = 0 ∧ f' p 7 = b01 (0 < n) ∧ ∀ s, s < 256 → f' (p + 5) s = fI (fun s => decide (s = 0)) s) := by
  refine PM.of (by decide +kernel) (Nat.le_of_ble_eq_true rfl) ?_
  have hp8 := pow8 hn8
  refine r_aload_n (pc := 0) 0 dX9_begin_0 rfl rfl ?_
  refine r_iload_n (pc := 1) 1 dX9_begin_1 rfl rfl ?_
  refine r_putI (pc := 2) dX9_begin_2 fl_X9_31 rfl rfl hP.k ?_
  refine r_aload_n (pc := 5) 0 dX9_begin_5 rfl rfl ?_
  refine r_iconst (pc := 6) dX9_begin_6 ?_
  refine r_iload_n (pc := 7) 1 dX9_begin_7 rfl rfl ?_
  refine r_ishl (pc := 8) (w := ((2 ^ n : Nat) : Int)) dX9_begin_8  (iI_shl1 (by omega)) ?_
  refine r_iconst (pc := 9) dX9_begin_9 ?_
  refine r_isub (pc := 10) dX9_begin_10 ?_
  refine r_eqI (y := ((2 ^ n - 1 : Nat) : Int)) (by omega) ?_
  refine r_putI (pc := 11) dX9_begin_11 fl_X9_35 rfl rfl hP.k ?_
  refine r_aload_n (pc := 14) 0 dX9_begin_14 rfl rfl ?_
  refine r_iconst (pc := 15) dX9_begin_15 ?_
  refine r_putI (pc := 16) dX9_begin_16 fl_X9_38 rfl rfl hP.k ?_
  refine r_aload_n (pc := 19) 0 dX9_begin_19 rfl rfl ?_
  refine r_iconst (pc := 20) dX9_begin_20 ?_
  refine r_putI (pc := 21) dX9_begin_21 fl_X9_41 rfl rfl hP.k ?_
  refine r_aload_n (pc := 24) 0 dX9_begin_24 rfl rfl ?_
  refine r_iload_n (pc := 25) 1 dX9_begin_25 rfl rfl ?_
  refine r_if_le (pc := 26) (tgt := 33) dX9_begin_26 (by decide) (by omega) (fun c_26 => ?_) (fun c_26 => ?_)
  · refine r_iconst (pc := 33) dX9_begin_33 ?_
    refine r_putB (pc := 34) dX9_begin_34 fl_X9_44 rfl rfl (by decide) hP.k ?_
    refine r_aload_n (pc := 37) 0 dX9_begin_37 rfl rfl ?_
    refine r_callV (pc := 38) (As := []) (S := []) dX9_begin_38 cv_X9_48 hP.k rfl (Nat.le_of_ble_eq_true rfl) (x_startU l z _ hP) (Nat.zero_le _) (Nat.zero_le _) (fun r_38 g_38 f_38 q_38 => ?_)
    obtain ⟨rfl, rfl, hs1, hs2⟩ := q_38
    exact r_vret (pc := 41) dX9_begin_41 rfl ⟨rfl, rfl, fun b h1 h2 => by rw [hs1 b h2, stF_n _ _ _ h1, stF_n _ _ _ h1, stF_n _ _ _ h1, stF_n _ _ _ h1, stF_n _ _ _ h1], by rw [hs1 p (by omega)]; exact rdi (by decide) (rdi (by decide) (rdi (by decide) (rdi (by decide) (stF_s _ _ _ _)))), by rw [hs1 p (by omega)]; exact rdi (by decide) (rdi (by decide) (rdi (by decide) (stF_s _ _ _ _))), by rw [hs1 p (by omega)]; exact rdi (by decide) (rdi (by decide) (stF_s _ _ _ _)), by rw [hs1 p (by omega)]; exact rdi (by decide) (stF_s _ _ _ _), by rw [hs1 p (by omega), b01_f (by omega)]; exact stF_s _ _ _ _, hs2⟩
  · refine r_iconst (pc := 29) dX9_begin_29 ?_
    refine r_goto (pc := 30) (tgt := 34) dX9_begin_30 (by decide) ?_
    refine r_putB (pc := 34) dX9_begin_34 fl_X9_44 rfl rfl (by decide) hP.k ?_
    refine r_aload_n (pc := 37) 0 dX9_begin_37 rfl rfl ?_
    refine r_callV (pc := 38) (As := []) (S := []) dX9_begin_38 cv_X9_48 hP.k rfl (Nat.le_of_ble_eq_true rfl) (x_startU l z _ hP) (Nat.zero_le _) (Nat.zero_le _) (fun r_38 g_38 f_38 q_38 => ?_)
    obtain ⟨rfl, rfl, hs1, hs2⟩ := q_38
    exact r_vret (pc := 41) dX9_begin_41 rfl ⟨rfl, rfl, fun b h1 h2 => by rw [hs1 b h2, stF_n _ _ _ h1, stF_n _ _ _ h1, stF_n _ _ _ h1, stF_n _ _ _ h1, stF_n _ _ _ h1], by rw [hs1 p (by omega)]; exact rdi (by decide) (rdi (by decide) (rdi (by decide) (rdi (by decide) (stF_s _ _ _ _)))), by rw [hs1 p (by omega)]; exact rdi (by decide) (rdi (by decide) (rdi (by decide) (stF_s _ _ _ _))), by rw [hs1 p (by omega)]; exact rdi (by decide) (rdi (by decide) (stF_s _ _ _ _)), by rw [hs1 p (by omega)]; exact rdi (by decide) (stF_s _ _ _ _), by rw [hs1 p (by omega), b01_t (by omega)]; exact stF_s _ _ _ _, hs2⟩

set_option maxRecDepth 100000 in
set_option maxHeartbeats 4000000 in
theorem x_takeDay (l : Launch) (z : Zv) (d : Nat) {g : Gm} {J : Nat → Nat → Int} {f : Fm} {p n : Nat} {y a2 b0 b1 : Nat} {wa wt : Nat → Nat} {dz lp : Int} {tk : Nat} {U : Nat → Bool} (hP : YL g p) (hY : DL g y) (hL : DYo f y n a2 wa wt dz lp b0 b1) (h0 : 2 ≤ dz ∧ dz ≤ 20) (h1 : 0 ≤ lp ∧ lp ≤ 9) (hb : b0 ≤ 1100000 ∧ b1 ≤ 1100000) (h10 : f p 10 = ((n : Nat) : Int)) (h11 : f p 11 = ((2 ^ n - 1 : Nat) : Int)) (h9 : f p 9 = ((tk : Nat) : Int)) (htk : tk < 30) (h8 : f p 8 = 0) (hu : ∀ s, s < 2 ^ n → f (p + 5) s = fI U s) : PM l z (d + 3) mX9_takeDay [.ref p, .ref y] (gwJ g J) f 0 0 (fun r g' f' => r = none ∧ ∃ J', gwJ g J' = g' ∧ (∀ b k, b ≠ p + 4 → (b ≠ p + 2 ∨ k < 4 * tk ∨ 4 * tk + 4 ≤ k) → J' b k = J b k) ∧ (∀ x, x < 256 → fmB J' (p + 2) tk x = (rW (fun s i => (nxM wt n s).testBit i) (fun s i => decide (0 < gnV dz lp b0 b1 wa n a2 s i)) n (2 ^ n - 1)) x) ∧ (∀ b, b ≠ p → b ≠ p + 5 → b ≠ p + 6 → f' b = f b) ∧ f' p 9 = ((tk + 1 : Nat) : Int) ∧ (∀ k, k ≠ 7 → k ≠ 8 → k ≠ 9 → f' p k = f p k) ∧ (∀ s, s < 2 ^ n → f' (p + 5) s = fI (unB n U (rW (fun s i => (nxM wt n s).testBit i) (fun s i => decide (0 < gnV dz lp b0 b1 wa n a2 s i)) n (2 ^ n - 1))) s) ∧ f' p 8 = (if unB n U (rW (fun s i => (nxM wt n s).testBit i) (fun s i => decide (0 < gnV dz lp b0 b1 wa n a2 s i)) n (2 ^ n - 1)) (2 ^ n - 1) = true then ((tk + 1 : Nat) : Int) else 0) ∧ ∃ bb : Bool, f' p 7 = b01 (bb = true) ∧ (bb = true ↔ (¬ unB n U (rW (fun s i => (nxM wt n s).testBit i) (fun s i => decide (0 < gnV dz lp b0 b1 wa n a2 s i)) n (2 ^ n - 1)) (2 ^ n - 1) = true ∧ ∃ x, x < 256 ∧ (rW (fun s i => (nxM wt n s).testBit i) (fun s i => decide (0 < gnV dz lp b0 b1 wa n a2 s i)) n (2 ^ n - 1)) x = true))) := by
  have hn8 := hL.1.1
  have hp8 := pow8 hn8
  refine PM.of (by decide +kernel) (Nat.le_of_ble_eq_true rfl) ?_
  refine r_aload_n (pc := 0) 0 dX9_takeDay_0 rfl rfl ?_
  refine r_getIv (pc := 1) (x := ((tk : Nat) : Int)) dX9_takeDay_1 fl_X9_41 rfl hP.k (h9) ?_
  refine r_bipush (pc := 4) dX9_takeDay_4 (by decide) ?_
  refine r_icmp_lt (pc := 6) (tgt := 15) dX9_takeDay_6 (by decide) (by omega) (by omega) (fun c_6 => ?_) (fun c_6 => ?_)
  · refine r_aload_n (pc := 15) 0 dX9_takeDay_15 rfl rfl ?_
    refine r_aload_n (pc := 16) 1 dX9_takeDay_16 rfl rfl ?_
    refine r_callV (pc := 17) (As := [(.ref y)]) (S := []) dX9_takeDay_17 cv_X9_51 hP.k rfl (Nat.le_of_ble_eq_true rfl) (x_goThrough (n := n) l z (d + 1) hP hY hL h0 h1 hb h10 h11) (Nat.zero_le _) (Nat.zero_le _) (fun r_17 g_17 f_17 q_17 => ?_)
    obtain ⟨rfl, rfl, J1, rfl, hg1, hg2⟩ := q_17
    refine r_aload_n (pc := 20) 0 dX9_takeDay_20 rfl rfl ?_
    refine r_getR (pc := 21) (b := (p + 4)) dX9_takeDay_21 fl_X9_22 rfl hP.k hP.r3 ?_
    refine r_aload_n (pc := 24) 0 dX9_takeDay_24 rfl rfl ?_
    refine r_getIv (pc := 25) (x := ((2 ^ n - 1 : Nat) : Int)) dX9_takeDay_25 fl_X9_35 rfl hP.k (h11) ?_
    refine r_iconst (pc := 28) dX9_takeDay_28 ?_
    refine r_imul (pc := 29) dX9_takeDay_29 ?_
    refine r_eqI (y := (((2 ^ n - 1) * 4 : Nat) : Int)) (Int.natCast_mul _ _ |>.symm) ?_
    refine r_aload_n (pc := 30) 0 dX9_takeDay_30 rfl rfl ?_
    refine r_getR (pc := 31) (b := (p + 2)) dX9_takeDay_31 fl_X9_15 rfl hP.k hP.r1 ?_
    refine r_aload_n (pc := 34) 0 dX9_takeDay_34 rfl rfl ?_
    refine r_getIv (pc := 35) (x := ((tk : Nat) : Int)) dX9_takeDay_35 fl_X9_41 rfl hP.k (h9) ?_
    refine r_iconst (pc := 38) dX9_takeDay_38 ?_
    refine r_imul (pc := 39) dX9_takeDay_39 ?_
    refine r_eqI (y := ((tk * 4 : Nat) : Int)) (Int.natCast_mul _ _ |>.symm) ?_
    refine r_iconst (pc := 40) dX9_takeDay_40 ?_
    refine r_acopyJ (pc := 41) dX9_takeDay_41 ac_X9_55 (sp := (((2 ^ n - 1) * 4 : Nat) : Int)) (dp := ((tk * 4 : Nat) : Int)) (n := 4) hP.a3 hP.a1 (by omega) (by omega) (by omega) (by decide) (Nat.le_of_ble_eq_true rfl) ?_
    rw [show cpG (gwJ g J1) (p + 4) (p + 2) (((2 ^ n - 1) * 4 : Nat) : Int).toNat ((tk * 4 : Nat) : Int).toNat (4 : Int).toNat = gwJ g (fun b k => if b = p + 2 ∧ 4 * tk ≤ k ∧ k < 4 * tk + 4 then J1 (p + 4) (4 * (2 ^ n - 1) + (k - 4 * tk)) else J1 b k) by
      unfold cpG gwJ
      congr 4
      funext b k
      show (if b = p + 2 ∧ tk * 4 ≤ k ∧ k < tk * 4 + 4 then J1 (p + 4) ((2 ^ n - 1) * 4 + (k - tk * 4)) else J1 b k) = if b = p + 2 ∧ 4 * tk ≤ k ∧ k < 4 * tk + 4 then J1 (p + 4) (4 * (2 ^ n - 1) + (k - 4 * tk)) else J1 b k
      rw [Nat.mul_comm tk 4, Nat.mul_comm (2 ^ n - 1) 4]]
    refine r_aload_n (pc := 44) 0 dX9_takeDay_44 rfl rfl ?_
    refine r_dup (pc := 45) dX9_takeDay_45 rfl ?_
    refine r_getIv (pc := 46) (x := ((tk : Nat) : Int)) dX9_takeDay_46 fl_X9_41 rfl hP.k (h9) ?_
    refine r_iconst (pc := 49) dX9_takeDay_49 ?_
    refine r_iadd (pc := 50) dX9_takeDay_50 ?_
    refine r_eqI (y := ((tk + 1 : Nat) : Int)) (Int.natCast_add _ _ |>.symm) ?_
    refine r_putI (pc := 51) dX9_takeDay_51 fl_X9_41 rfl rfl hP.k ?_
    refine r_aload_n (pc := 54) 0 dX9_takeDay_54 rfl rfl ?_
    refine r_aload_n (pc := 55) 0 dX9_takeDay_55 rfl rfl ?_
    refine r_getIv (pc := 56) (x := ((tk + 1 : Nat) : Int)) dX9_takeDay_56 fl_X9_41 rfl hP.k (stF_s _ _ _ _) ?_
    refine r_iconst (pc := 59) dX9_takeDay_59 ?_
    refine r_isub (pc := 60) dX9_takeDay_60 ?_
    refine r_eqI (y := ((tk : Nat) : Int)) (by omega) ?_
    refine r_callV (pc := 61) (As := [(.int (iI (((tk : Nat) : Int))))]) (S := []) dX9_takeDay_61 cv_X9_61 hP.k rfl (Nat.le_of_ble_eq_true rfl) (x_unite (J := (fun b k => if b = p + 2 ∧ 4 * tk ≤ k ∧ k < 4 * tk + 4 then J1 (p + 4) (4 * (2 ^ n - 1) + (k - 4 * tk)) else J1 b k)) (dy := tk) (n := n) (U := U) l z (d + 1) hP hn8 (rdi (by decide) h10) (rdi (by decide) h11) htk (fun s hs => rdn (by omega) (hu s hs))) (Nat.zero_le _) (Nat.zero_le _) (fun r_61 g_61 f_61 q_61 => ?_)
    obtain ⟨rfl, rfl, hu1, hu2⟩ := q_61
    have hfam : ∀ x, x < 256 → fmB (fun b k => if b = p + 2 ∧ 4 * tk ≤ k ∧ k < 4 * tk + 4 then J1 (p + 4) (4 * (2 ^ n - 1) + (k - 4 * tk)) else J1 b k) (p + 2) tk x = (rW (fun s i => (nxM wt n s).testBit i) (fun s i => decide (0 < gnV dz lp b0 b1 wa n a2 s i)) n (2 ^ n - 1)) x := fun x hx => by
      have := hg2 (2 ^ n - 1) (by omega) x hx
      rw [← this]
      unfold fmB
      show lB (if p + 2 = p + 2 ∧ 4 * tk ≤ 4 * tk + x / 64 ∧ 4 * tk + x / 64 < 4 * tk + 4 then J1 (p + 4) (4 * (2 ^ n - 1) + (4 * tk + x / 64 - 4 * tk)) else J1 (p + 2) (4 * tk + x / 64)) (x % 64) = _
      rw [if_pos ⟨rfl, by omega, by omega⟩, show 4 * tk + x / 64 - 4 * tk = x / 64 by omega]
    rw [unB_c (V := fmB (fun b k => if b = p + 2 ∧ 4 * tk ≤ k ∧ k < 4 * tk + 4 then J1 (p + 4) (4 * (2 ^ n - 1) + (k - 4 * tk)) else J1 b k) (p + 2) tk) (V' := (rW (fun s i => (nxM wt n s).testBit i) (fun s i => decide (0 < gnV dz lp b0 b1 wa n a2 s i)) n (2 ^ n - 1))) (fun t ht => hfam t (by omega))] at hu2
    have hfj : ∀ b k, b ≠ p + 4 → (b ≠ p + 2 ∨ k < 4 * tk ∨ 4 * tk + 4 ≤ k) → (fun b k => if b = p + 2 ∧ 4 * tk ≤ k ∧ k < 4 * tk + 4 then J1 (p + 4) (4 * (2 ^ n - 1) + (k - 4 * tk)) else J1 b k) b k = J b k := fun b k q1 q2 => by
      show (if b = p + 2 ∧ 4 * tk ≤ k ∧ k < 4 * tk + 4 then _ else J1 b k) = _
      rw [if_neg (by omega)]; exact hg1 b k q1
    refine r_aload_n (pc := 64) 0 dX9_takeDay_64 rfl rfl ?_
    refine r_getR (pc := 65) (b := (p + 5)) dX9_takeDay_65 fl_X9_25 rfl hP.k hP.r4 ?_
    refine r_aload_n (pc := 68) 0 dX9_takeDay_68 rfl rfl ?_
    refine r_getIv (pc := 69) (x := ((2 ^ n - 1 : Nat) : Int)) dX9_takeDay_69 fl_X9_35 rfl hP.k (by rw [hu1 p (by omega) (by omega)]; exact rdi (by decide) h11) ?_
    refine r_ialdv (pc := 72) (w := fI (unB n U (rW (fun s i => (nxM wt n s).testBit i) (fun s i => decide (0 < gnV dz lp b0 b1 wa n a2 s i)) n (2 ^ n - 1))) (2 ^ n - 1)) dX9_takeDay_72 hP.a4 (by omega) (by decide) (hu2 _ (by omega)) ?_
    refine r_if_eq (pc := 73) (tgt := 84) dX9_takeDay_73 (by decide) (by have := fI_01 (unB n U (rW (fun s i => (nxM wt n s).testBit i) (fun s i => decide (0 < gnV dz lp b0 b1 wa n a2 s i)) n (2 ^ n - 1))) (2 ^ n - 1); omega) (fun c_73 => ?_) (fun c_73 => ?_)
    · have hwon : ¬ unB n U (rW (fun s i => (nxM wt n s).testBit i) (fun s i => decide (0 < gnV dz lp b0 b1 wa n a2 s i)) n (2 ^ n - 1)) (2 ^ n - 1) = true := fI_z c_73
      refine r_aload_n (pc := 84) 0 dX9_takeDay_84 rfl rfl ?_
      refine r_aload_n (pc := 85) 0 dX9_takeDay_85 rfl rfl ?_
      refine r_getIv (pc := 86) (x := 0) dX9_takeDay_86 fl_X9_38 rfl hP.k (by rw [hu1 p (by omega) (by omega)]; exact rdi (by decide) h8) ?_
      refine r_if_ne (pc := 89) (tgt := 109) dX9_takeDay_89 (by decide) (by omega) (fun c_89 => ?_) (fun c_89 => ?_)
      · exact absurd c_89 (by decide)
      · refine r_aload_n (pc := 92) 0 dX9_takeDay_92 rfl rfl ?_
        refine r_aload_n (pc := 93) 0 dX9_takeDay_93 rfl rfl ?_
        refine r_getIv (pc := 94) (x := ((tk + 1 : Nat) : Int)) dX9_takeDay_94 fl_X9_41 rfl hP.k (by rw [hu1 p (by omega) (by omega)]; exact stF_s _ _ _ _) ?_
        refine r_iconst (pc := 97) dX9_takeDay_97 ?_
        refine r_isub (pc := 98) dX9_takeDay_98 ?_
        refine r_eqI (y := ((tk : Nat) : Int)) (by omega) ?_
        refine r_callV (pc := 99) (As := [(.int (iI (((tk : Nat) : Int))))]) (S := [(.ref p)]) dX9_takeDay_99 cv_X9_65 hP.k rfl (Nat.le_of_ble_eq_true rfl) (x_isEmpty (n := 0) (J := (fun b k => if b = p + 2 ∧ 4 * tk ≤ k ∧ k < 4 * tk + 4 then J1 (p + 4) (4 * (2 ^ n - 1) + (k - 4 * tk)) else J1 b k)) (dy := tk) l z (d + 2) hP htk) (Nat.zero_le _) (Nat.zero_le _) (fun r_99 g_99 f_99 q_99 => ?_)
        obtain ⟨rfl, rfl, be, rfl, hbe⟩ := q_99
        refine r_if_ne (pc := 102) (tgt := 109) dX9_takeDay_102 (by decide) (b01_r) (fun c_102 => ?_) (fun c_102 => ?_)
        · replace c_102 := b01_nz c_102
          refine r_iconst (pc := 109) dX9_takeDay_109 ?_
          refine r_putB (pc := 110) dX9_takeDay_110 fl_X9_44 rfl rfl (by decide) hP.k ?_
          exact r_vret (pc := 113) dX9_takeDay_113 rfl ⟨rfl, _, rfl, hfj, hfam, fun b q1 q2 q3 => by rw [stF_n _ _ _ q1, hu1 b q2 q3, stF_n _ _ _ q1], rdi (by decide) (by rw [hu1 p (by omega) (by omega)]; exact stF_s _ _ _ _), fun k q7 q8 q9 => by rw [stF_i _ _ _ q7, hu1 p (by omega) (by omega), stF_i _ _ _ q9], fun s hs => by rw [stF_n _ _ _ (by omega)]; exact hu2 s hs, (rdi (v := (0 : Int)) (by decide) (by rw [hu1 p (by omega) (by omega)]; exact rdi (by decide) h8)).trans (by rw [if_neg hwon]), false, by rw [b01_f (by decide)]; exact stF_s _ _ _ _, ⟨fun h => absurd h (by decide), fun h => by obtain ⟨x, hx, h2⟩ := h.2; have := hbe.mp c_102 x hx; rw [hfam x hx, h2] at this; exact absurd this (by decide)⟩⟩
        · replace c_102 := b01_z c_102
          refine r_iconst (pc := 105) dX9_takeDay_105 ?_
          refine r_goto (pc := 106) (tgt := 110) dX9_takeDay_106 (by decide) ?_
          refine r_putB (pc := 110) dX9_takeDay_110 fl_X9_44 rfl rfl (by decide) hP.k ?_
          exact r_vret (pc := 113) dX9_takeDay_113 rfl ⟨rfl, _, rfl, hfj, hfam, fun b q1 q2 q3 => by rw [stF_n _ _ _ q1, hu1 b q2 q3, stF_n _ _ _ q1], rdi (by decide) (by rw [hu1 p (by omega) (by omega)]; exact stF_s _ _ _ _), fun k q7 q8 q9 => by rw [stF_i _ _ _ q7, hu1 p (by omega) (by omega), stF_i _ _ _ q9], fun s hs => by rw [stF_n _ _ _ (by omega)]; exact hu2 s hs, (rdi (v := (0 : Int)) (by decide) (by rw [hu1 p (by omega) (by omega)]; exact rdi (by decide) h8)).trans (by rw [if_neg hwon]), true, by rw [b01_t rfl]; exact stF_s _ _ _ _, ⟨fun _ => ⟨hwon, Decidable.byContradiction fun q => c_102 (hbe.mpr (fun x hx => by rw [hfam x hx]; exact Bool.eq_false_iff.mpr (fun w => q ⟨x, hx, w⟩)))⟩, fun _ => rfl⟩⟩
    · have hwon : unB n U (rW (fun s i => (nxM wt n s).testBit i) (fun s i => decide (0 < gnV dz lp b0 b1 wa n a2 s i)) n (2 ^ n - 1)) (2 ^ n - 1) = true := fI_nz c_73
      refine r_aload_n (pc := 76) 0 dX9_takeDay_76 rfl rfl ?_
      refine r_aload_n (pc := 77) 0 dX9_takeDay_77 rfl rfl ?_
      refine r_getIv (pc := 78) (x := ((tk + 1 : Nat) : Int)) dX9_takeDay_78 fl_X9_41 rfl hP.k (by rw [hu1 p (by omega) (by omega)]; exact stF_s _ _ _ _) ?_
      refine r_putI (pc := 81) dX9_takeDay_81 fl_X9_38 rfl rfl hP.k ?_
      refine r_aload_n (pc := 84) 0 dX9_takeDay_84 rfl rfl ?_
      refine r_aload_n (pc := 85) 0 dX9_takeDay_85 rfl rfl ?_
      refine r_getIv (pc := 86) (x := ((tk + 1 : Nat) : Int)) dX9_takeDay_86 fl_X9_38 rfl hP.k (stF_s _ _ _ _) ?_
      refine r_if_ne (pc := 89) (tgt := 109) dX9_takeDay_89 (by decide) (by omega) (fun c_89 => ?_) (fun c_89 => ?_)
      · refine r_iconst (pc := 109) dX9_takeDay_109 ?_
        refine r_putB (pc := 110) dX9_takeDay_110 fl_X9_44 rfl rfl (by decide) hP.k ?_
        exact r_vret (pc := 113) dX9_takeDay_113 rfl ⟨rfl, _, rfl, hfj, hfam, fun b q1 q2 q3 => by rw [stF_n _ _ _ q1, stF_n _ _ _ q1, hu1 b q2 q3, stF_n _ _ _ q1], rdi (by decide) (rdi (by decide) (by rw [hu1 p (by omega) (by omega)]; exact stF_s _ _ _ _)), fun k q7 q8 q9 => by rw [stF_i _ _ _ q7, stF_i _ _ _ q8, hu1 p (by omega) (by omega), stF_i _ _ _ q9], fun s hs => by rw [stF_n _ _ _ (by omega), stF_n _ _ _ (by omega)]; exact hu2 s hs, (rdi (by decide) (stF_s _ _ _ _)).trans (by rw [if_pos hwon]), false, by rw [b01_f (by decide)]; exact stF_s _ _ _ _, ⟨fun h => absurd h (by decide), fun h => absurd hwon h.1⟩⟩
      · exfalso; omega
  · exfalso; omega

def welT (f : Fm) (j : Nat) : Fm := wel f 65 (f 108 (3 * j)) (f 108 (3 * j + 1)) (f 108 (3 * j + 2)) (f 65 5)
/-- the class's memory and how many came behind j threes of the tape -/
def xrw (f : Fm) (t : Nat) : Nat → Fm × Int
  | 0 => (stF f 64 15 0, 0)
  | j + 1 => if 3 * j + 3 ≤ t ∧ (xrw f t j).1 65 5 < 8 ∧ (0 ≤ (xrw f t j).1 108 (3 * j) ∧ (xrw f t j).1 108 (3 * j) ≤ 40) ∧ (0 ≤ (xrw f t j).1 108 (3 * j + 1) ∧ (xrw f t j).1 108 (3 * j + 1) ≤ 9) ∧ (0 ≤ (xrw f t j).1 108 (3 * j + 2) ∧ (xrw f t j).1 108 (3 * j + 2) ≤ 1) then (welT (xrw f t j).1 j, (xrw f t j).2 + 1) else (stF (xrw f t j).1 64 15 ((xrw f t j).1 64 15 + 1), (xrw f t j).2)
theorem wel_o (f : Fm) (b : Nat) (x y v c : Int) {a : Nat} (h : a ≠ b) (h2 : a ≠ b + 1) : wel f b x y v c a = f a := by
  funext i; simp [wel, stF, h, h2]
theorem wel_5 (f : Fm) (b : Nat) (x y v c : Int) : wel f b x y v c b 5 = c + 1 := by rw [wel, stF_s]
theorem xrw_i (f : Fm) (t : Nat) (h : 0 ≤ f 65 5 ∧ f 65 5 ≤ 8) : ∀ j, (0 ≤ (xrw f t j).1 65 5 ∧ (xrw f t j).1 65 5 ≤ 8) ∧ (xrw f t j).1 107 = f 107 ∧ (xrw f t j).1 108 = f 108
  | 0 => by
    refine ⟨?_, ?_, ?_⟩
    · show 0 ≤ stF f 64 15 0 65 5 ∧ stF f 64 15 0 65 5 ≤ 8
      rw [stF_n _ _ _ (by decide)]; exact h
    · exact stF_n f (a := 64) (b := 107) 15 0 (by decide)
    · exact stF_n f (a := 64) (b := 108) 15 0 (by decide)
  | j + 1 => by
    obtain ⟨h1, h2, h3⟩ := xrw_i f t h j
    rw [xrw]
    split
    · rename_i hk
      refine ⟨?_, ?_, ?_⟩
      · show 0 ≤ welT _ j 65 5 ∧ welT _ j 65 5 ≤ 8
        rw [welT, wel_5]; omega
      · show welT _ j 107 = _
        rw [welT, wel_o _ _ _ _ _ _ (by decide) (by decide)]; exact h2
      · show welT _ j 108 = _
        rw [welT, wel_o _ _ _ _ _ _ (by decide) (by decide)]; exact h3
    · refine ⟨?_, ?_, ?_⟩
      · show 0 ≤ stF (xrw f t j).1 64 15 ((xrw f t j).1 64 15 + 1) 65 5 ∧ stF (xrw f t j).1 64 15 ((xrw f t j).1 64 15 + 1) 65 5 ≤ 8
        rw [stF_n _ _ _ (by decide)]; exact h1
      · exact (stF_n (xrw f t j).1 (a := 64) (b := 107) 15 ((xrw f t j).1 64 15 + 1) (by decide)).trans h2
      · exact (stF_n (xrw f t j).1 (a := 64) (b := 108) 15 ((xrw f t j).1 64 15 + 1) (by decide)).trans h3
def xaRow (f : Fm) : Int := if f 107 4 = 0 then -6 else (xrw f (f 107 4).toNat ((f 107 4 + 2) / 3).toNat).2
def xnRow (f : Fm) : Fm := if f 107 4 = 0 then xrf f (-6) else stF (drp (stF (xrw f (f 107 4).toNat ((f 107 4 + 2) / 3).toNat).1 107 4 0)) 64 16 0

set_option maxRecDepth 100000 in
set_option maxHeartbeats 4000000 in
theorem x_wft (l : Launch) (z : Zv) (d : Nat) {g : Gm} {f : Fm} {t j : Nat} (hX : XL g) (ht : f 107 4 = ((t : Nat) : Int)) (h4 : t ≤ 400) (hj : 3 * j < t) (h5 : 0 ≤ f 65 5 ∧ f 65 5 ≤ 8) (hby : ∀ i, 0 ≤ f 108 i ∧ f 108 i ≤ 255) : PM l z (d + 2) mX10_welcomeFromTape [(.ref 64), (.int (iI (((3 * j : Nat) : Int))))] g f 0 0 (rdQ (.int (iI (b01 (3 * j + 3 ≤ t ∧ f 65 5 < 8 ∧ (0 ≤ f 108 (3 * j) ∧ f 108 (3 * j) ≤ 40) ∧ (0 ≤ f 108 (3 * j + 1) ∧ f 108 (3 * j + 1) ≤ 9) ∧ (0 ≤ f 108 (3 * j + 2) ∧ f 108 (3 * j + 2) ≤ 1))))) g (if 3 * j + 3 ≤ t ∧ f 65 5 < 8 ∧ (0 ≤ f 108 (3 * j) ∧ f 108 (3 * j) ≤ 40) ∧ (0 ≤ f 108 (3 * j + 1) ∧ f 108 (3 * j + 1) ≤ 9) ∧ (0 ≤ f 108 (3 * j + 2) ∧ f 108 (3 * j + 2) ≤ 1) then welT f j else f)) := by
  refine PM.of (by decide +kernel) (Nat.le_of_ble_eq_true rfl) ?_
  refine r_iload_n (pc := 0) 1 dX10_welcomeFromTape_0 rfl rfl ?_
  refine r_if_lt (pc := 1) (tgt := 29) dX10_welcomeFromTape_1 (by decide) (by omega) (fun c_1 => ?_) (fun c_1 => ?_)
  · refine r_iconst (pc := 29) dX10_welcomeFromTape_29 ?_
    exact r_iret (pc := 30) dX10_welcomeFromTape_30 rfl rfl ⟨by first | (rw [b01_t (by omega)]; done) | (rw [b01_f (by omega)]), rfl, by first | (rw [if_pos (by omega)]; rfl) | (rw [if_neg (by omega)])⟩
  · refine r_iload_n (pc := 4) 1 dX10_welcomeFromTape_4 rfl rfl ?_
    refine r_iconst (pc := 5) dX10_welcomeFromTape_5 ?_
    refine r_iadd (pc := 6) dX10_welcomeFromTape_6 ?_
    refine r_aload_n (pc := 7) 0 dX10_welcomeFromTape_7 rfl rfl ?_
    refine r_getR (pc := 8) (b := 107) dX10_welcomeFromTape_8 fl_X10_30 rfl hX.k hX.r4 ?_
    refine r_getIv (pc := 11) (x := ((t : Nat) : Int)) dX10_welcomeFromTape_11 fl_X10_132 rfl hX.o4.k (ht) ?_
    refine r_icmp_gt (pc := 14) (tgt := 29) dX10_welcomeFromTape_14 (by decide) (by omega) (by omega) (fun c_14 => ?_) (fun c_14 => ?_)
    · refine r_iconst (pc := 29) dX10_welcomeFromTape_29 ?_
      exact r_iret (pc := 30) dX10_welcomeFromTape_30 rfl rfl ⟨by first | (rw [b01_t (by omega)]; done) | (rw [b01_f (by omega)]), rfl, by first | (rw [if_pos (by omega)]; rfl) | (rw [if_neg (by omega)])⟩
    · refine r_aload_n (pc := 17) 0 dX10_welcomeFromTape_17 rfl rfl ?_
      refine r_getR (pc := 18) (b := 65) dX10_welcomeFromTape_18 fl_X10_10 rfl hX.k hX.r0 ?_
      refine r_getI (pc := 21) dX10_welcomeFromTape_21 fl_X10_89 rfl hX.o0.k ?_
      refine r_bipush (pc := 24) dX10_welcomeFromTape_24 (by decide) ?_
      refine r_icmp_lt (pc := 26) (tgt := 31) dX10_welcomeFromTape_26 (by decide) (by omega) (by omega) (fun c_26 => ?_) (fun c_26 => ?_)
      · refine r_aload_n (pc := 31) 0 dX10_welcomeFromTape_31 rfl rfl ?_
        refine r_getR (pc := 32) (b := 107) dX10_welcomeFromTape_32 fl_X10_30 rfl hX.k hX.r4 ?_
        refine r_getR (pc := 35) (b := 108) dX10_welcomeFromTape_35 fl_X10_310 rfl hX.o4.k hX.o4.r0 ?_
        refine r_iload_n (pc := 38) 1 dX10_welcomeFromTape_38 rfl rfl ?_
        refine r_ialdv (pc := 39) (w := f 108 (3 * j)) dX10_welcomeFromTape_39 hX.o4.a0 (by omega) (by decide) (rfl) ?_
        refine r_istore_n (pc := 40) (L2 := [(2, (.int (iI (f 108 (3 * j))))), (0, (.ref 64)), (1, (.int (iI (((3 * j : Nat) : Int)))))]) dX10_welcomeFromTape_40 rfl (by decide) rfl ?_
        refine r_aload_n (pc := 41) 1 dX10_welcomeFromTape_41 rfl rfl ?_
        refine r_getR (pc := 42) (b := 107) dX10_welcomeFromTape_42 fl_X10_30 rfl hX.k hX.r4 ?_
        refine r_getR (pc := 45) (b := 108) dX10_welcomeFromTape_45 fl_X10_310 rfl hX.o4.k hX.o4.r0 ?_
        refine r_iload_n (pc := 48) 2 dX10_welcomeFromTape_48 rfl rfl ?_
        refine r_iconst (pc := 49) dX10_welcomeFromTape_49 ?_
        refine r_iadd (pc := 50) dX10_welcomeFromTape_50 ?_
        refine r_ialdv (pc := 51) (w := f 108 (3 * j + 1)) dX10_welcomeFromTape_51 hX.o4.a0 (by omega) (by decide) (rfl) ?_
        refine r_istore_n (pc := 52) (L2 := [(3, (.int (iI (f 108 (3 * j + 1))))), (2, (.int (iI (f 108 (3 * j))))), (0, (.ref 64)), (1, (.int (iI (((3 * j : Nat) : Int)))))]) dX10_welcomeFromTape_52 rfl (by decide) rfl ?_
        refine r_aload_n (pc := 53) 2 dX10_welcomeFromTape_53 rfl rfl ?_
        refine r_getR (pc := 54) (b := 107) dX10_welcomeFromTape_54 fl_X10_30 rfl hX.k hX.r4 ?_
        refine r_getR (pc := 57) (b := 108) dX10_welcomeFromTape_57 fl_X10_310 rfl hX.o4.k hX.o4.r0 ?_
        refine r_iload_n (pc := 60) 3 dX10_welcomeFromTape_60 rfl rfl ?_
        refine r_iconst (pc := 61) dX10_welcomeFromTape_61 ?_
        refine r_iadd (pc := 62) dX10_welcomeFromTape_62 ?_
        refine r_ialdv (pc := 63) (w := f 108 (3 * j + 2)) dX10_welcomeFromTape_63 hX.o4.a0 (by omega) (by decide) (rfl) ?_
        refine r_istore (pc := 64) (L2 := [(4, (.int (iI (f 108 (3 * j + 2))))), (3, (.int (iI (f 108 (3 * j + 1))))), (2, (.int (iI (f 108 (3 * j))))), (0, (.ref 64)), (1, (.int (iI (((3 * j : Nat) : Int)))))]) dX10_welcomeFromTape_64 (by decide) rfl ?_
        refine r_iconst (pc := 66) dX10_welcomeFromTape_66 ?_
        refine r_iload_n (pc := 67) 2 dX10_welcomeFromTape_67 rfl rfl ?_
        refine r_callS (pc := 68) (As := [(.int (iI (0))), (.int (iI (f 108 (3 * j))))]) (S := []) dX10_welcomeFromTape_68 cs_X10_81 rfl (Nat.le_of_ble_eq_true rfl) (x_can l z _ (by omega) (by have := hby (3 * j); have := hby (3 * j + 1); have := hby (3 * j + 2); omega)) (Nat.zero_le _) (Nat.zero_le _) (fun r_68 g_68 f_68 q_68 => ?_)
        obtain ⟨rfl, rfl, rfl⟩ := q_68
        refine r_if_eq (pc := 71) (tgt := 91) dX10_welcomeFromTape_71 (by decide) (b01_r) (fun c_71 => ?_) (fun c_71 => ?_)
        · replace c_71 := b01_z c_71
          refine r_iconst (pc := 91) dX10_welcomeFromTape_91 ?_
          exact r_iret (pc := 92) dX10_welcomeFromTape_92 rfl rfl ⟨by first | (rw [b01_t (by omega)]; done) | (rw [b01_f (by omega)]), rfl, by first | (rw [if_pos (by omega)]; rfl) | (rw [if_neg (by omega)])⟩
        · replace c_71 := b01_nz c_71
          refine r_iconst (pc := 74) dX10_welcomeFromTape_74 ?_
          refine r_iload_n (pc := 75) 1 dX10_welcomeFromTape_75 rfl rfl ?_
          refine r_callS (pc := 76) (As := [(.int (iI (1))), (.int (iI (f 108 (3 * j + 1))))]) (S := []) dX10_welcomeFromTape_76 cs_X10_81 rfl (Nat.le_of_ble_eq_true rfl) (x_can l z _ (by omega) (by have := hby (3 * j); have := hby (3 * j + 1); have := hby (3 * j + 2); omega)) (Nat.zero_le _) (Nat.zero_le _) (fun r_76 g_76 f_76 q_76 => ?_)
          obtain ⟨rfl, rfl, rfl⟩ := q_76
          refine r_if_eq (pc := 79) (tgt := 91) dX10_welcomeFromTape_79 (by decide) (b01_r) (fun c_79 => ?_) (fun c_79 => ?_)
          · replace c_79 := b01_z c_79
            refine r_iconst (pc := 91) dX10_welcomeFromTape_91 ?_
            exact r_iret (pc := 92) dX10_welcomeFromTape_92 rfl rfl ⟨by first | (rw [b01_t (by omega)]; done) | (rw [b01_f (by omega)]), rfl, by first | (rw [if_pos (by omega)]; rfl) | (rw [if_neg (by omega)])⟩
          · replace c_79 := b01_nz c_79
            refine r_iconst (pc := 82) dX10_welcomeFromTape_82 ?_
            refine r_iload (pc := 83) 0 dX10_welcomeFromTape_83 rfl ?_
            refine r_callS (pc := 85) (As := [(.int (iI (2))), (.int (iI (f 108 (3 * j + 2))))]) (S := []) dX10_welcomeFromTape_85 cs_X10_81 rfl (Nat.le_of_ble_eq_true rfl) (x_can l z _ (by omega) (by have := hby (3 * j); have := hby (3 * j + 1); have := hby (3 * j + 2); omega)) (Nat.zero_le _) (Nat.zero_le _) (fun r_85 g_85 f_85 q_85 => ?_)
            obtain ⟨rfl, rfl, rfl⟩ := q_85
            refine r_if_ne (pc := 88) (tgt := 93) dX10_welcomeFromTape_88 (by decide) (b01_r) (fun c_88 => ?_) (fun c_88 => ?_)
            · replace c_88 := b01_nz c_88
              refine r_aload_n (pc := 93) 3 dX10_welcomeFromTape_93 rfl rfl ?_
              refine r_getR (pc := 94) (b := 65) dX10_welcomeFromTape_94 fl_X10_10 rfl hX.k hX.r0 ?_
              refine r_iload_n (pc := 97) 2 dX10_welcomeFromTape_97 rfl rfl ?_
              refine r_iload_n (pc := 98) 1 dX10_welcomeFromTape_98 rfl rfl ?_
              refine r_iload (pc := 99) 0 dX10_welcomeFromTape_99 rfl ?_
              refine r_callV (pc := 101) (As := [(.int (iI (f 108 (3 * j)))), (.int (iI (f 108 (3 * j + 1)))), (.int (iI (f 108 (3 * j + 2))))]) (S := []) dX10_welcomeFromTape_101 cv_X10_96 hX.o0.k rfl (Nat.le_of_ble_eq_true rfl) (x_welcome l z _ hX.o0 rfl (by omega)) (Nat.zero_le _) (Nat.zero_le _) (fun r_101 g_101 f_101 q_101 => ?_)
              obtain ⟨rfl, rfl, rfl⟩ := q_101
              refine r_pop (pc := 104) dX10_welcomeFromTape_104 rfl ?_
              refine r_iconst (pc := 105) dX10_welcomeFromTape_105 ?_
              exact r_iret (pc := 106) dX10_welcomeFromTape_106 rfl rfl ⟨by first | (rw [b01_t (by omega)]; done) | (rw [b01_f (by omega)]), rfl, by first | (rw [if_pos (by omega)]; rfl) | (rw [if_neg (by omega)])⟩
            · replace c_88 := b01_z c_88
              refine r_iconst (pc := 91) dX10_welcomeFromTape_91 ?_
              exact r_iret (pc := 92) dX10_welcomeFromTape_92 rfl rfl ⟨by first | (rw [b01_t (by omega)]; done) | (rw [b01_f (by omega)]), rfl, by first | (rw [if_pos (by omega)]; rfl) | (rw [if_neg (by omega)])⟩
      · refine r_iconst (pc := 29) dX10_welcomeFromTape_29 ?_
        exact r_iret (pc := 30) dX10_welcomeFromTape_30 rfl rfl ⟨by first | (rw [b01_t (by omega)]; done) | (rw [b01_f (by omega)]), rfl, by first | (rw [if_pos (by omega)]; rfl) | (rw [if_neg (by omega)])⟩

set_option maxRecDepth 100000 in
set_option maxHeartbeats 4000000 in
theorem x_row (l : Launch) (z : Zv) (d : Nat) {g : Gm} {f : Fm} {t : Nat} (hX : XL g) (ht : f 107 4 = ((t : Nat) : Int)) (h4 : t ≤ 400) (h5 : 0 ≤ f 65 5 ∧ f 65 5 ≤ 8) (hby : ∀ i, 0 ≤ f 108 i ∧ f 108 i ≤ 255) : PM l z (d + 3) mX10_row [(.ref 64)] g f 0 0 (rdQ (.int (iI (xaRow f))) g (xnRow f)) := by
  refine PM.of (by decide +kernel) (Nat.le_of_ble_eq_true rfl) ?_
  have loop : 0 < t → ∀ m j : Nat, m = (t + 2) / 3 + 1 - j → j ≤ (t + 2) / 3 → PW l z (d + 3) mX10_row 0 0 (rdQ (.int (iI (xaRow f))) g (xnRow f)) 26 [(1, (.int (iI ((xrw f t j).2)))), (2, (.int (iI (((3 * j : Nat) : Int))))), (0, (.ref 64))] [] g (xrw f t j).1 0 0 := by
    intro ht0 m
    induction m using Nat.strongRecOn with
    | _ m ih =>
      intro j hm hj
      refine r_iload_n (pc := 26) 1 dX10_row_26 rfl rfl ?_
      refine r_aload_n (pc := 27) 2 dX10_row_27 rfl rfl ?_
      refine r_getR (pc := 28) (b := 107) dX10_row_28 fl_X10_30 rfl hX.k hX.r4 ?_
      refine r_getIv (pc := 31) (x := ((t : Nat) : Int)) dX10_row_31 fl_X10_132 rfl hX.o4.k (by rw [(xrw_i f t h5 j).2.1]; exact ht) ?_
      refine r_icmp_ge (pc := 34) (tgt := 67) dX10_row_34 (by decide) (by omega) (by omega) (fun c_34 => ?_) (fun c_34 => ?_)
      · refine r_aload_n (pc := 67) 2 dX10_row_67 rfl rfl ?_
        refine r_getR (pc := 68) (b := 107) dX10_row_68 fl_X10_30 rfl hX.k hX.r4 ?_
        refine r_iconst (pc := 71) dX10_row_71 ?_
        refine r_putI (pc := 72) dX10_row_72 fl_X10_132 rfl rfl hX.o4.k ?_
        refine r_aload_n (pc := 75) 2 dX10_row_75 rfl rfl ?_
        refine r_callV (pc := 76) (As := []) (S := []) dX10_row_76 cv_X10_93 hX.k rfl (Nat.le_of_ble_eq_true rfl) (x_drop l z _ hX) (Nat.zero_le _) (Nat.zero_le _) (fun r_76 g_76 f_76 q_76 => ?_)
        obtain ⟨rfl, rfl, rfl⟩ := q_76
        refine r_aload_n (pc := 79) 2 dX10_row_79 rfl rfl ?_
        refine r_iload_n (pc := 80) 0 dX10_row_80 rfl rfl ?_
        refine r_callV (pc := 81) (As := [(.int (iI ((xrw f t j).2)))]) (S := []) dX10_row_81 cv_X10_100 hX.k rfl (Nat.le_of_ble_eq_true rfl) (x_accept l z _ _ hX) (Nat.zero_le _) (Nat.zero_le _) (fun r_81 g_81 f_81 q_81 => ?_)
        obtain ⟨rfl, rfl, rfl⟩ := q_81
        exact r_iret (pc := 84) dX10_row_84 rfl rfl ⟨by rw [xaRow, if_neg (by omega), ht, show (((t : Nat) : Int)).toNat = t from rfl, show ((((t : Nat) : Int) + 2) / 3).toNat = j by omega], rfl, by rw [xnRow, if_neg (by omega), ht, show (((t : Nat) : Int)).toNat = t from rfl, show ((((t : Nat) : Int) + 2) / 3).toNat = j by omega]⟩
      · have hi := xrw_i f t h5 j
        refine r_aload_n (pc := 37) 2 dX10_row_37 rfl rfl ?_
        refine r_iload_n (pc := 38) 1 dX10_row_38 rfl rfl ?_
        refine r_callV (pc := 39) (As := [(.int (iI (((3 * j : Nat) : Int))))]) (S := []) dX10_row_39 cv_X10_142 hX.k rfl (Nat.le_of_ble_eq_true rfl) (x_wft (t := t) (j := j) l z _ hX (by rw [hi.2.1]; exact ht) h4 (by omega) hi.1 (fun i => by rw [hi.2.2]; exact hby i)) (Nat.zero_le _) (Nat.zero_le _) (fun r_39 g_39 f_39 q_39 => ?_)
        obtain ⟨rfl, rfl, rfl⟩ := q_39
        refine r_if_eq (pc := 42) (tgt := 51) dX10_row_42 (by decide) (b01_r) (fun c_42 => ?_) (fun c_42 => ?_)
        · replace c_42 := b01_z c_42
          rw [if_neg c_42]
          refine r_aload_n (pc := 51) 2 dX10_row_51 rfl rfl ?_
          refine r_dup (pc := 52) dX10_row_52 rfl ?_
          refine r_getIv (pc := 53) (x := (xrw f t j).1 64 15) dX10_row_53 fl_X10_139 rfl hX.k (rfl) ?_
          refine r_iconst (pc := 56) dX10_row_56 ?_
          refine r_iadd (pc := 57) dX10_row_57 ?_
          refine r_putI (pc := 58) dX10_row_58 fl_X10_139 rfl rfl hX.k ?_
          refine r_iincv (pc := 61) (y := ((3 * (j + 1) : Nat) : Int)) (L2 := [(2, (.int (iI (((3 * (j + 1) : Nat) : Int))))), (1, (.int (iI ((xrw f t j).2)))), (0, (.ref 64))]) 1 dX10_row_61 rfl (by omega) (by decide) rfl ?_
          refine r_goto (pc := 64) (tgt := 26) dX10_row_64 (by decide) ?_
          refine r_sub (L2 := [(1, (.int (iI ((xrw f t j).2)))), (2, (.int (iI (((3 * (j + 1) : Nat) : Int))))), (0, (.ref 64))]) [1, 0, 2] rfl ?_
          rw [show stF (xrw f t j).1 64 15 ((xrw f t j).1 64 15 + 1) = (xrw f t (j + 1)).1 from by rw [xrw, if_neg c_42], show (xrw f t j).2 = (xrw f t (j + 1)).2 from by rw [xrw, if_neg c_42]]
          exact ih ((t + 2) / 3 + 1 - (j + 1)) (by omega) (j + 1) rfl (by omega)
        · replace c_42 := b01_nz c_42
          rw [if_pos c_42]
          refine r_iincv (pc := 45) (y := (xrw f t (j + 1)).2) (L2 := [(1, (.int (iI ((xrw f t (j + 1)).2)))), (2, (.int (iI (((3 * j : Nat) : Int))))), (0, (.ref 64))]) 0 dX10_row_45 rfl (by rw [xrw, if_pos c_42]) (by decide) rfl ?_
          refine r_goto (pc := 48) (tgt := 61) dX10_row_48 (by decide) ?_
          refine r_iincv (pc := 61) (y := ((3 * (j + 1) : Nat) : Int)) (L2 := [(2, (.int (iI (((3 * (j + 1) : Nat) : Int))))), (1, (.int (iI ((xrw f t (j + 1)).2)))), (0, (.ref 64))]) 1 dX10_row_61 rfl (by omega) (by decide) rfl ?_
          refine r_goto (pc := 64) (tgt := 26) dX10_row_64 (by decide) ?_
          refine r_sub (L2 := [(1, (.int (iI ((xrw f t (j + 1)).2)))), (2, (.int (iI (((3 * (j + 1) : Nat) : Int))))), (0, (.ref 64))]) [1, 0, 2] rfl ?_
          rw [show welT (xrw f t j).1 j = (xrw f t (j + 1)).1 from by rw [xrw, if_pos c_42]]
          exact ih ((t + 2) / 3 + 1 - (j + 1)) (by omega) (j + 1) rfl (by omega)
  refine r_aload_n (pc := 0) 0 dX10_row_0 rfl rfl ?_
  refine r_getR (pc := 1) (b := 107) dX10_row_1 fl_X10_30 rfl hX.k hX.r4 ?_
  refine r_getIv (pc := 4) (x := ((t : Nat) : Int)) dX10_row_4 fl_X10_132 rfl hX.o4.k (ht) ?_
  refine r_if_ne (pc := 7) (tgt := 17) dX10_row_7 (by decide) (by omega) (fun c_7 => ?_) (fun c_7 => ?_)
  · refine r_iconst (pc := 17) dX10_row_17 ?_
    refine r_istore_n (pc := 18) (L2 := [(1, (.int (iI (0)))), (0, (.ref 64))]) dX10_row_18 rfl (by decide) rfl ?_
    refine r_aload_n (pc := 19) 1 dX10_row_19 rfl rfl ?_
    refine r_iconst (pc := 20) dX10_row_20 ?_
    refine r_putI (pc := 21) dX10_row_21 fl_X10_139 rfl rfl hX.k ?_
    refine r_iconst (pc := 24) dX10_row_24 ?_
    refine r_istore_n (pc := 25) (L2 := [(2, (.int (iI (0)))), (1, (.int (iI (0)))), (0, (.ref 64))]) dX10_row_25 rfl (by decide) rfl ?_
    refine r_sub (L2 := [(1, (.int (iI (0)))), (2, (.int (iI (0)))), (0, (.ref 64))]) [1, 0, 2] rfl ?_
    exact loop (by omega) ((t + 2) / 3 + 1) 0 rfl (by omega)
  · refine r_aload_n (pc := 10) 0 dX10_row_10 rfl rfl ?_
    refine r_bipush (pc := 11) dX10_row_11 (by decide) ?_
    refine r_callV (pc := 13) (As := [(.int (iI (-6)))]) (S := []) dX10_row_13 cv_X10_85 hX.k rfl (Nat.le_of_ble_eq_true rfl) (x_refuse l z _ hX (by omega)) (Nat.zero_le _) (Nat.zero_le _) (fun r_13 g_13 f_13 q_13 => ?_)
    obtain ⟨rfl, rfl, rfl⟩ := q_13
    exact r_iret (pc := 16) dX10_row_16 rfl rfl ⟨by rw [xaRow, if_pos (by omega)], rfl, by rw [xnRow, if_pos (by omega)]⟩

set_option maxRecDepth 100000 in
set_option maxHeartbeats 4000000 in
theorem s_bitCount (l : Launch) (z : Zv) (d : Nat) {g : Gm} {f : Fm} {s : Nat} (hs : s < 256) : PM l z d mJ6_bitCount_0f7a4 [(.int (iI (((s : Nat) : Int))))] g f 0 0 (rdQ (.int (iI ((bc s 8 : Nat) : Int))) g f) := by
  refine PM.ofF (by decide +kernel) (Nat.le_of_ble_eq_true rfl) ?_
  have hb := bB_all s hs
  refine r_iload_n (pc := 0) 0 dJ6_bitCount_0f7a4_0 rfl rfl ?_
  refine r_iload_n (pc := 1) 0 dJ6_bitCount_0f7a4_1 rfl rfl ?_
  refine r_iconst (pc := 2) dJ6_bitCount_0f7a4_2 ?_
  refine r_iushr (pc := 3) (w := ((s / 2 ^ 1 : Nat) : Int)) dJ6_bitCount_0f7a4_3  (ush_1 s hs) ?_
  refine r_ldcw (pc := 4) (x := 1431655765) dJ6_bitCount_0f7a4_4 kc_J6_265 (by decide) ?_
  refine r_iand (pc := 7) (w := (((s / 2 ^ 1) &&& 1431655765 : Nat) : Int)) dJ6_bitCount_0f7a4_7  (iI_and _ _) ?_
  refine r_isub (pc := 8) dJ6_bitCount_0f7a4_8 ?_
  refine r_eqI (y := ((bB1 s : Nat) : Int)) (by have h1 : s / 2 ^ 1 &&& 1431655765 ≤ s / 2 ^ 1 := Nat.and_le_left; have h2 : s / 2 ^ 1 ≤ s := Nat.div_le_self _ _; unfold bB1; omega) ?_
  refine r_istore_n (pc := 9) (L2 := [(0, (.int (iI (((bB1 s : Nat) : Int)))))]) dJ6_bitCount_0f7a4_9 rfl (by decide) rfl ?_
  refine r_iload_n (pc := 10) 0 dJ6_bitCount_0f7a4_10 rfl rfl ?_
  refine r_ldcw (pc := 11) (x := 858993459) dJ6_bitCount_0f7a4_11 kc_J6_266 (by decide) ?_
  refine r_iand (pc := 14) (w := (((bB1 s) &&& 858993459 : Nat) : Int)) dJ6_bitCount_0f7a4_14  (iI_and _ _) ?_
  refine r_iload_n (pc := 15) 0 dJ6_bitCount_0f7a4_15 rfl rfl ?_
  refine r_iconst (pc := 16) dJ6_bitCount_0f7a4_16 ?_
  refine r_iushr (pc := 17) (w := ((bB1 s / 2 ^ 2 : Nat) : Int)) dJ6_bitCount_0f7a4_17  (ush_2 _ hb.1) ?_
  refine r_ldcw (pc := 18) (x := 858993459) dJ6_bitCount_0f7a4_18 kc_J6_266 (by decide) ?_
  refine r_iand (pc := 21) (w := (((bB1 s / 2 ^ 2) &&& 858993459 : Nat) : Int)) dJ6_bitCount_0f7a4_21  (iI_and _ _) ?_
  refine r_iadd (pc := 22) dJ6_bitCount_0f7a4_22 ?_
  refine r_eqI (y := ((bB2 s : Nat) : Int)) (by unfold bB2; omega) ?_
  refine r_istore_n (pc := 23) (L2 := [(0, (.int (iI (((bB2 s : Nat) : Int)))))]) dJ6_bitCount_0f7a4_23 rfl (by decide) rfl ?_
  refine r_iload_n (pc := 24) 0 dJ6_bitCount_0f7a4_24 rfl rfl ?_
  refine r_iload_n (pc := 25) 0 dJ6_bitCount_0f7a4_25 rfl rfl ?_
  refine r_iconst (pc := 26) dJ6_bitCount_0f7a4_26 ?_
  refine r_iushr (pc := 27) (w := ((bB2 s / 2 ^ 4 : Nat) : Int)) dJ6_bitCount_0f7a4_27  (ush_4 _ hb.2.1) ?_
  refine r_iadd (pc := 28) dJ6_bitCount_0f7a4_28 ?_
  refine r_eqI (y := (((bB2 s) + (bB2 s / 2 ^ 4) : Nat) : Int)) (Int.natCast_add _ _ |>.symm) ?_
  refine r_ldcw (pc := 29) (x := 252645135) dJ6_bitCount_0f7a4_29 kc_J6_267 (by decide) ?_
  refine r_iand (pc := 32) (w := ((((bB2 s) + (bB2 s / 2 ^ 4)) &&& 252645135 : Nat) : Int)) dJ6_bitCount_0f7a4_32  (iI_and _ _) ?_
  refine r_eqI (y := ((bB3 s : Nat) : Int)) (rfl) ?_
  refine r_istore_n (pc := 33) (L2 := [(0, (.int (iI (((bB3 s : Nat) : Int)))))]) dJ6_bitCount_0f7a4_33 rfl (by decide) rfl ?_
  refine r_iload_n (pc := 34) 0 dJ6_bitCount_0f7a4_34 rfl rfl ?_
  refine r_iload_n (pc := 35) 0 dJ6_bitCount_0f7a4_35 rfl rfl ?_
  refine r_bipush (pc := 36) dJ6_bitCount_0f7a4_36 (by decide) ?_
  refine r_iushr (pc := 38) (w := ((bB3 s / 2 ^ 8 : Nat) : Int)) dJ6_bitCount_0f7a4_38  (ush_8 _ hb.2.2.1) ?_
  refine r_iadd (pc := 39) dJ6_bitCount_0f7a4_39 ?_
  refine r_eqI (y := ((bB4 s : Nat) : Int)) (by unfold bB4; omega) ?_
  refine r_istore_n (pc := 40) (L2 := [(0, (.int (iI (((bB4 s : Nat) : Int)))))]) dJ6_bitCount_0f7a4_40 rfl (by decide) rfl ?_
  refine r_iload_n (pc := 41) 0 dJ6_bitCount_0f7a4_41 rfl rfl ?_
  refine r_iload_n (pc := 42) 0 dJ6_bitCount_0f7a4_42 rfl rfl ?_
  refine r_bipush (pc := 43) dJ6_bitCount_0f7a4_43 (by decide) ?_
  refine r_iushr (pc := 45) (w := ((bB4 s / 2 ^ 16 : Nat) : Int)) dJ6_bitCount_0f7a4_45  (ush_16 _ hb.2.2.2.1) ?_
  refine r_iadd (pc := 46) dJ6_bitCount_0f7a4_46 ?_
  refine r_eqI (y := ((bB5 s : Nat) : Int)) (by unfold bB5; omega) ?_
  refine r_istore_n (pc := 47) (L2 := [(0, (.int (iI (((bB5 s : Nat) : Int)))))]) dJ6_bitCount_0f7a4_47 rfl (by decide) rfl ?_
  refine r_iload_n (pc := 48) 0 dJ6_bitCount_0f7a4_48 rfl rfl ?_
  refine r_bipush (pc := 49) dJ6_bitCount_0f7a4_49 (by decide) ?_
  refine r_iand (pc := 51) (w := (((bB5 s) &&& 63 : Nat) : Int)) dJ6_bitCount_0f7a4_51  (iI_and _ _) ?_
  refine r_eqI (y := ((bc s 8 : Nat) : Int)) (by rw [← hb.2.2.2.2.2]) ?_
  exact r_iret (pc := 52) dJ6_bitCount_0f7a4_52 rfl rfl ⟨rfl, rfl, rfl⟩

set_option maxRecDepth 100000 in
set_option maxHeartbeats 4000000 in
theorem x_drawOne (l : Launch) (z : Zv) (d : Nat) {g : Gm} {f : Fm} {a s sd : Nat} (hA : OL g a) (hs : s < 256) (hpos : 0 < bc s 8) (hsd : f a 4 = ((sd : Nat) : Int)) (hsr : sd ≤ 1000002) : PM l z (d + 1) mX4_drawOne [.ref a, .int (iI ((s : Nat) : Int))] g f 0 0 (fun r g' f' => r = some (.int (iI ((drw s (lcg sd % bc s 8) : Nat) : Int))) ∧ g = g' ∧ stF f a 4 ((lcg sd : Nat) : Int) = f') := by
  have hb8' := bc_le s 8
  refine PM.of (by decide +kernel) (Nat.le_of_ble_eq_true rfl) ?_
  have loop : ∀ m c : Nat, m = 8 - c → c ≤ 8 → bc s c ≤ lcg sd % bc s 8 → PW l z (d + 1) mX4_drawOne 0 0 (fun r g' f' => r = some (.int (iI ((drw s (lcg sd % bc s 8) : Nat) : Int))) ∧ g = g' ∧ stF f a 4 ((lcg sd : Nat) : Int) = f') 36 [(4, (.int (iI (((c : Nat) : Int))))), (3, (.int (iI (((bc s c : Nat) : Int))))), (2, (.int (iI (((bc s 8 : Nat) : Int))))), (0, (.ref a)), (1, (.int (iI (((s : Nat) : Int)))))] [] g (stF f a 4 (((lcg sd : Nat) : Int))) 0 0 := by
    intro m
    induction m using Nat.strongRecOn with
    | _ m ih =>
      intro c hm hc hle
      have hlr := lcg_r sd
      have hb8 := bc_le s 8
      have hbc := bc_le s c
      have hmd := Nat.mod_lt (lcg sd) hpos
      refine r_iload (pc := 36) 0 dX4_drawOne_36 rfl ?_
      refine r_bipush (pc := 38) dX4_drawOne_38 (by decide) ?_
      refine r_icmp_ge (pc := 40) (tgt := 74) dX4_drawOne_40 (by decide) (by omega) (by omega) (fun c_40 => ?_) (fun c_40 => ?_)
      · refine r_iconst (pc := 74) dX4_drawOne_74 ?_
        exfalso
        have h8 : c = 8 := by omega
        rw [h8] at hle
        have := Nat.mod_lt (lcg sd) hpos
        omega
      · refine r_iload_n (pc := 43) 4 dX4_drawOne_43 rfl rfl ?_
        refine r_iload (pc := 44) 0 dX4_drawOne_44 rfl ?_
        refine r_ishr (pc := 46) (w := ((s / 2 ^ c : Nat) : Int)) dX4_drawOne_46  (iI_shr (by omega) (by omega)) ?_
        refine r_iconst (pc := 47) dX4_drawOne_47 ?_
        refine r_iand (pc := 48) (w := (((s / 2 ^ c) &&& 1 : Nat) : Int)) dX4_drawOne_48  (iI_and _ _) ?_
        refine r_eqI (y := b01 (s.testBit c = true)) (bitI _ _) ?_
        refine r_if_eq (pc := 49) (tgt := 68) dX4_drawOne_49 (by decide) (b01_r) (fun c_49 => ?_) (fun c_49 => ?_)
        · replace c_49 := b01_z c_49
          refine r_iincv (pc := 68) (y := ((c + 1 : Nat) : Int)) (L2 := [(4, (.int (iI (((c + 1 : Nat) : Int))))), (3, (.int (iI (((bc s c : Nat) : Int))))), (2, (.int (iI (((bc s 8 : Nat) : Int))))), (0, (.ref a)), (1, (.int (iI (((s : Nat) : Int)))))]) 0 dX4_drawOne_68 rfl (by omega) (by decide) rfl ?_
          refine r_goto (pc := 71) (tgt := 36) dX4_drawOne_71 (by decide) ?_
          have hbs : bc s (c + 1) = bc s c := by rw [bc_s, if_neg c_49, Nat.add_zero]
          refine r_sub (L2 := [(4, (.int (iI (((c + 1 : Nat) : Int))))), (3, (.int (iI (((bc s (c + 1) : Nat) : Int))))), (2, (.int (iI (((bc s 8 : Nat) : Int))))), (0, (.ref a)), (1, (.int (iI (((s : Nat) : Int)))))]) [0, 1, 2, 3, 4] (by rw [hbs]; rfl) ?_
          exact ih (8 - (c + 1)) (by omega) (c + 1) (by omega) (by omega) (by omega)
        · replace c_49 := b01_nz c_49
          refine r_iload_n (pc := 52) 1 dX4_drawOne_52 rfl rfl ?_
          refine r_aload_n (pc := 53) 3 dX4_drawOne_53 rfl rfl ?_
          refine r_getIv (pc := 54) (x := ((lcg sd : Nat) : Int)) dX4_drawOne_54 fl_X4_21 rfl hA.k (stF_s _ _ _ _) ?_
          refine r_iload_n (pc := 57) 2 dX4_drawOne_57 rfl rfl ?_
          refine r_irem (pc := 58) (w := ((lcg sd % bc s 8 : Nat) : Int)) dX4_drawOne_58 (iI_ne0 (by omega)) (by have h := iI_rem (x := ((lcg sd : Nat) : Int)) (y := ((bc s 8 : Nat) : Int)) (by omega) (by omega); exact h) ?_
          refine r_icmp_ne (pc := 59) (tgt := 65) dX4_drawOne_59 (by decide) (by omega) (by omega) (fun c_59 => ?_) (fun c_59 => ?_)
          · refine r_iincv (pc := 65) (y := ((bc s c + 1 : Nat) : Int)) (L2 := [(3, (.int (iI (((bc s c + 1 : Nat) : Int))))), (4, (.int (iI (((c : Nat) : Int))))), (2, (.int (iI (((bc s 8 : Nat) : Int))))), (0, (.ref a)), (1, (.int (iI (((s : Nat) : Int)))))]) 1 dX4_drawOne_65 rfl (by omega) (by decide) rfl ?_
            refine r_iincv (pc := 68) (y := ((c + 1 : Nat) : Int)) (L2 := [(4, (.int (iI (((c + 1 : Nat) : Int))))), (3, (.int (iI (((bc s c + 1 : Nat) : Int))))), (2, (.int (iI (((bc s 8 : Nat) : Int))))), (0, (.ref a)), (1, (.int (iI (((s : Nat) : Int)))))]) 1 dX4_drawOne_68 rfl (by omega) (by decide) rfl ?_
            refine r_goto (pc := 71) (tgt := 36) dX4_drawOne_71 (by decide) ?_
            have hbs : bc s (c + 1) = bc s c + 1 := by rw [bc_s, if_pos c_49]
            refine r_sub (L2 := [(4, (.int (iI (((c + 1 : Nat) : Int))))), (3, (.int (iI (((bc s (c + 1) : Nat) : Int))))), (2, (.int (iI (((bc s 8 : Nat) : Int))))), (0, (.ref a)), (1, (.int (iI (((s : Nat) : Int)))))]) [0, 1, 2, 3, 4] (by rw [hbs]; rfl) ?_
            exact ih (8 - (c + 1)) (by omega) (c + 1) (by omega) (by omega) (by omega)
          · refine r_iload (pc := 62) 0 dX4_drawOne_62 rfl ?_
            exact r_iret (pc := 64) dX4_drawOne_64 rfl rfl ⟨by rw [drw_at (by omega) c_49 (by omega)], rfl, rfl⟩
  refine r_iload_n (pc := 0) 1 dX4_drawOne_0 rfl rfl ?_
  refine r_callS (pc := 1) (As := [(.int (iI (((s : Nat) : Int))))]) (S := []) dX4_drawOne_1 cs_X4_47 rfl (Nat.le_of_ble_eq_true rfl) (s_bitCount l z _ (by omega)) (Nat.zero_le _) (Nat.zero_le _) (fun r_1 g_1 f_1 q_1 => ?_)
  obtain ⟨rfl, rfl, rfl⟩ := q_1
  refine r_istore_n (pc := 4) (L2 := [(2, (.int (iI (((bc s 8 : Nat) : Int))))), (0, (.ref a)), (1, (.int (iI (((s : Nat) : Int)))))]) dX4_drawOne_4 rfl (by decide) rfl ?_
  refine r_iload_n (pc := 5) 0 dX4_drawOne_5 rfl rfl ?_
  refine r_iconst (pc := 6) dX4_drawOne_6 ?_
  refine r_icmp_ge (pc := 7) (tgt := 12) dX4_drawOne_7 (by decide) (by omega) (by omega) (fun c_7 => ?_) (fun c_7 => ?_)
  · have hlr := lcg_r sd
    have hb8 := bc_le s 8
    refine r_aload_n (pc := 12) 1 dX4_drawOne_12 rfl rfl ?_
    refine r_aload_n (pc := 13) 1 dX4_drawOne_13 rfl rfl ?_
    refine r_getIv (pc := 14) (x := ((sd : Nat) : Int)) dX4_drawOne_14 fl_X4_21 rfl hA.k (hsd) ?_
    refine r_sipush (pc := 17) dX4_drawOne_17 (by decide) ?_
    refine r_imul (pc := 20) dX4_drawOne_20 ?_
    refine r_eqI (y := ((sd * 1103 : Nat) : Int)) (Int.natCast_mul _ _ |>.symm) ?_
    refine r_sipush (pc := 21) dX4_drawOne_21 (by decide) ?_
    refine r_iadd (pc := 24) dX4_drawOne_24 ?_
    refine r_eqI (y := (((sd * 1103) + 12345 : Nat) : Int)) (Int.natCast_add _ _ |>.symm) ?_
    refine r_ldc (pc := 25) (x := 1000003) dX4_drawOne_25 kc_X4_52 (by decide) ?_
    refine r_irem (pc := 27) (w := ((lcg sd : Nat) : Int)) dX4_drawOne_27 (iI_ne0 (by omega)) (by unfold lcg; have h := iI_rem (x := ((sd * 1103 + 12345 : Nat) : Int)) (y := 1000003) (by omega) (by omega); exact h) ?_
    refine r_putI (pc := 28) dX4_drawOne_28 fl_X4_21 rfl rfl hA.k ?_
    refine r_iconst (pc := 31) dX4_drawOne_31 ?_
    refine r_istore_n (pc := 32) (L2 := [(3, (.int (iI (0)))), (2, (.int (iI (((bc s 8 : Nat) : Int))))), (0, (.ref a)), (1, (.int (iI (((s : Nat) : Int)))))]) dX4_drawOne_32 rfl (by decide) rfl ?_
    refine r_iconst (pc := 33) dX4_drawOne_33 ?_
    refine r_istore (pc := 34) (L2 := [(4, (.int (iI (0)))), (3, (.int (iI (0)))), (2, (.int (iI (((bc s 8 : Nat) : Int))))), (0, (.ref a)), (1, (.int (iI (((s : Nat) : Int)))))]) dX4_drawOne_34 (by decide) rfl ?_
    refine r_sub (L2 := [(4, (.int (iI (((0 : Nat) : Int))))), (3, (.int (iI (((bc s 0 : Nat) : Int))))), (2, (.int (iI (((bc s 8 : Nat) : Int))))), (0, (.ref a)), (1, (.int (iI (((s : Nat) : Int)))))]) [0, 1, 2, 3, 4] rfl ?_
    exact loop 8 0 (by omega) (by omega) (by have h := Nat.mod_lt (lcg sd) hpos; show 0 ≤ _; omega)
  · exfalso; omega

theorem and_left {w n s : Nat} (hw : w < 2 ^ n) : w &&& ndf (2 ^ n - 1) s = ndf w s := by
  apply Nat.eq_of_testBit_eq
  intro i
  rw [Nat.testBit_and, ndf_bit, ndf_bit, Nat.testBit_two_pow_sub_one]
  by_cases hi : i < n
  · rw [decide_eq_true hi]; simp
  · rw [Nat.testBit_lt_two_pow (Nat.lt_of_lt_of_le hw (Nat.pow_le_pow_right (by decide) (by omega)))]; simp
theorem left_or {n s c : Nat} : ndf (ndf (2 ^ n - 1) s) (2 ^ c) = ndf (2 ^ n - 1) (s ||| 2 ^ c) := by
  apply Nat.eq_of_testBit_eq
  intro i
  rw [ndf_bit, ndf_bit, ndf_bit, Nat.testBit_or]
  cases (2 ^ n - 1).testBit i <;> cases s.testBit i <;> cases (2 ^ c).testBit i <;> rfl
theorem left_bit {n s c : Nat} (hc : c < n) : (ndf (2 ^ n - 1) s).testBit c = true ↔ ¬ s.testBit c = true := by
  rw [ndf_bit, Nat.testBit_two_pow_sub_one, decide_eq_true hc]
  cases s.testBit c <;> simp

set_option maxRecDepth 100000 in
set_option maxHeartbeats 4000000 in
theorem x_drawRow (l : Launch) (z : Zv) (d : Nat) {g : Gm} {f : Fm} {a y q n s0 : Nat} {wt : Nat → Nat} (hA : OL g a) (hY : DL g y) (hQ : isA g q 11 8) (hya : y + 12 ≤ a) (haq : a + 4 ≤ q) (hn8 : n ≤ 8) (hDw : f y 11 = ((n : Nat) : Int) ∧ ∀ c, c < n → f (y + 6) c = ((wt c : Nat) : Int) ∧ wt c < 2 ^ n) (hs0 : s0 ≤ 1000002) (hsd0 : f a 4 = ((s0 : Nat) : Int)) : PM l z (d + 2) mX4_drawRow [.ref a, .ref y, .ref q] g f 0 0 (fun r g' f' => r = none ∧ g = g' ∧ (∀ b, b ≠ a → b ≠ q → f' b = f b) ∧ (∀ k, k ≠ 4 → f' a k = f a k) ∧ f' a 4 = (((qR wt n s0 n).2 : Nat) : Int) ∧ ∀ i, i < n → f' q i = ((qO wt n s0 i : Nat) : Int)) := by
  have hp8 := pow8 hn8
  refine PM.of (by decide +kernel) (Nat.le_of_ble_eq_true rfl) ?_
  have outer : ∀ m i : Nat, m = n - i → i ≤ n → ∀ f1 : Fm, (∀ b, b ≠ a → b ≠ q → f1 b = f b) → (∀ k, k ≠ 4 → f1 a k = f a k) → f1 a 4 = (((qR wt n s0 i).2 : Nat) : Int) → (∀ j, j < i → f1 q j = ((qO wt n s0 j : Nat) : Int)) → PW l z (d + 2) mX4_drawRow 0 0 (fun r g' f' => r = none ∧ g = g' ∧ (∀ b, b ≠ a → b ≠ q → f' b = f b) ∧ (∀ k, k ≠ 4 → f' a k = f a k) ∧ f' a 4 = (((qR wt n s0 n).2 : Nat) : Int) ∧ ∀ i, i < n → f' q i = ((qO wt n s0 i : Nat) : Int)) 8 [(4, (.int (iI (((i : Nat) : Int))))), (3, (.int (iI (((ndf (2 ^ n - 1) (qR wt n s0 i).1 : Nat) : Int))))), (0, (.ref a)), (1, (.ref y)), (2, (.ref q))] [] g f1 0 0 := by
    intro m
    induction m using Nat.strongRecOn with
    | _ m ih =>
      intro i hm hi f1 hF1 hF2 hsd hR1
      have hqi := q_inv (wt := wt) (s0 := s0) hn8 i hi
      refine r_iload (pc := 8) 0 dX4_drawRow_8 rfl ?_
      refine r_aload_n (pc := 10) 3 dX4_drawRow_10 rfl rfl ?_
      refine r_getIv (pc := 11) (x := ((n : Nat) : Int)) dX4_drawRow_11 fl_X4_37 rfl hY.k ((congrFun (hF1 y (by omega) (by omega)) _).trans hDw.1) ?_
      refine r_icmp_ge (pc := 14) (tgt := 104) dX4_drawRow_14 (by decide) (by omega) (by omega) (fun c_14 => ?_) (fun c_14 => ?_)
      · have hin : i = n := by omega
        rw [hin] at hsd hR1
        exact r_vret (pc := 104) dX4_drawRow_104 rfl ⟨rfl, rfl, hF1, hF2, hsd, hR1⟩
      · refine r_iconst (pc := 17) dX4_drawRow_17 ?_
        refine r_istore (pc := 18) (L2 := [(5, (.int (iI (0)))), (4, (.int (iI (((i : Nat) : Int))))), (3, (.int (iI (((ndf (2 ^ n - 1) (qR wt n s0 i).1 : Nat) : Int))))), (0, (.ref a)), (1, (.ref y)), (2, (.ref q))]) dX4_drawRow_18 (by decide) rfl ?_
        refine r_iconst (pc := 20) dX4_drawRow_20 ?_
        refine r_istore (pc := 21) (L2 := [(6, (.int (iI (0)))), (5, (.int (iI (0)))), (4, (.int (iI (((i : Nat) : Int))))), (3, (.int (iI (((ndf (2 ^ n - 1) (qR wt n s0 i).1 : Nat) : Int))))), (0, (.ref a)), (1, (.ref y)), (2, (.ref q))]) dX4_drawRow_21 (by decide) rfl ?_
        have hpp := pkS_pos (wt := wt) hn8 hqi.1 (show bc (qR wt n s0 i).1 n < n by omega)
        have hnl : ndf (2 ^ n - 1) (qR wt n s0 i).1 < 2 ^ n := by have := ndf_le (2 ^ n - 1) (qR wt n s0 i).1; omega
        have inner : ∀ m c : Nat, m = n - c → c ≤ n → PW l z (d + 2) mX4_drawRow 0 0 (fun r g' f' => r = none ∧ g = g' ∧ (∀ b, b ≠ a → b ≠ q → f' b = f b) ∧ (∀ k, k ≠ 4 → f' a k = f a k) ∧ f' a 4 = (((qR wt n s0 n).2 : Nat) : Int) ∧ ∀ i, i < n → f' q i = ((qO wt n s0 i : Nat) : Int)) 23 [(6, (.int (iI (((c : Nat) : Int))))), (5, (.int (iI (((wmk (nxP wt (qR wt n s0 i).1) c : Nat) : Int))))), (4, (.int (iI (((i : Nat) : Int))))), (3, (.int (iI (((ndf (2 ^ n - 1) (qR wt n s0 i).1 : Nat) : Int))))), (0, (.ref a)), (1, (.ref y)), (2, (.ref q))] [] g f1 0 0 := by
          intro m
          induction m using Nat.strongRecOn with
          | _ m ih2 =>
            intro c hm hc
            refine r_iload (pc := 23) 0 dX4_drawRow_23 rfl ?_
            refine r_aload_n (pc := 25) 5 dX4_drawRow_25 rfl rfl ?_
            refine r_getIv (pc := 26) (x := ((n : Nat) : Int)) dX4_drawRow_26 fl_X4_37 rfl hY.k ((congrFun (hF1 y (by omega) (by omega)) _).trans hDw.1) ?_
            refine r_icmp_ge (pc := 29) (tgt := 68) dX4_drawRow_29 (by decide) (by omega) (by omega) (fun c_29 => ?_) (fun c_29 => ?_)
            · have hcn : c = n := by omega
              have hfree : wmk (nxP wt (qR wt n s0 i).1) c = nxM wt n (qR wt n s0 i).1 := by rw [hcn]; rfl
              have hqo := q_step (wt := wt) (s0 := s0) hn8 hqi.1 (by omega)
              have hmw := wmk_8 (nxP wt (qR wt n s0 i).1) (n := c) (by omega)
              refine r_aload_n (pc := 68) 6 dX4_drawRow_68 rfl rfl ?_
              refine r_iload (pc := 69) 2 dX4_drawRow_69 rfl ?_
              refine r_aload_n (pc := 71) 4 dX4_drawRow_71 rfl rfl ?_
              refine r_iload (pc := 72) 1 dX4_drawRow_72 rfl ?_
              refine r_if_ne (pc := 74) (tgt := 81) dX4_drawRow_74 (by decide) (by omega) (fun c_74 => ?_) (fun c_74 => ?_)
              · refine r_iload (pc := 81) 1 dX4_drawRow_81 rfl ?_
                refine r_eqI (y := ((pkS wt n (qR wt n s0 i).1 : Nat) : Int)) (by unfold pkS; rw [if_neg (by rw [← hfree]; omega), hfree]) ?_
                refine r_callV (pc := 83) (As := [(.int (iI (((pkS wt n (qR wt n s0 i).1 : Nat) : Int))))]) (S := [(.int (iI (((i : Nat) : Int)))), (.ref q)]) dX4_drawRow_83 cv_X4_43 hA.k rfl (Nat.le_of_ble_eq_true rfl) (x_drawOne (s := pkS wt n (qR wt n s0 i).1) (sd := (qR wt n s0 i).2) l z _ hA (by have := pkS_lt (wt := wt) (n := n) (s := (qR wt n s0 i).1); omega) hpp.1 hsd (qR_sd wt n hs0 i)) (Nat.zero_le _) (Nat.zero_le _) (fun r_83 g_83 f_83 q_83 => ?_)
                obtain ⟨rfl, rfl, rfl⟩ := q_83
                refine r_iastv (pc := 86) (i := i) dX4_drawRow_86 hQ (by omega) (by decide) rfl ?_
                refine r_iload_n (pc := 87) 3 dX4_drawRow_87 rfl rfl ?_
                refine r_iconst (pc := 88) dX4_drawRow_88 ?_
                refine r_aload_n (pc := 89) 6 dX4_drawRow_89 rfl rfl ?_
                refine r_iload (pc := 90) 2 dX4_drawRow_90 rfl ?_
                refine r_ialdv (pc := 92) (w := ((qO wt n s0 i : Nat) : Int)) dX4_drawRow_92 hQ (by omega) (by decide) (stF_s _ _ _ _) ?_
                refine r_ishl (pc := 93) (w := ((2 ^ (qO wt n s0 i) : Nat) : Int)) dX4_drawRow_93  (iI_shl1 (by omega)) ?_
                refine r_iconst (pc := 94) dX4_drawRow_94 ?_
                refine r_ixor (pc := 95) (w := -(((2 ^ (qO wt n s0 i) : Nat) : Int)) - 1) dX4_drawRow_95  (iI_not _) ?_
                refine r_iand (pc := 96) (w := ((ndf (ndf (2 ^ n - 1) (qR wt n s0 i).1) (2 ^ (qO wt n s0 i)) : Nat) : Int)) dX4_drawRow_96  (iI_andn _ _) ?_
                refine r_istore_n (pc := 97) (L2 := [(3, (.int (iI (((ndf (ndf (2 ^ n - 1) (qR wt n s0 i).1) (2 ^ (qO wt n s0 i)) : Nat) : Int))))), (6, (.int (iI (((c : Nat) : Int))))), (5, (.int (iI (((wmk (nxP wt (qR wt n s0 i).1) c : Nat) : Int))))), (4, (.int (iI (((i : Nat) : Int))))), (0, (.ref a)), (1, (.ref y)), (2, (.ref q))]) dX4_drawRow_97 rfl (by decide) rfl ?_
                refine r_iincv (pc := 98) (y := ((i + 1 : Nat) : Int)) (L2 := [(4, (.int (iI (((i + 1 : Nat) : Int))))), (3, (.int (iI (((ndf (ndf (2 ^ n - 1) (qR wt n s0 i).1) (2 ^ (qO wt n s0 i)) : Nat) : Int))))), (6, (.int (iI (((c : Nat) : Int))))), (5, (.int (iI (((wmk (nxP wt (qR wt n s0 i).1) c : Nat) : Int))))), (0, (.ref a)), (1, (.ref y)), (2, (.ref q))]) 3 dX4_drawRow_98 rfl (by omega) (by decide) rfl ?_
                refine r_goto (pc := 101) (tgt := 8) dX4_drawRow_101 (by decide) ?_
                refine r_sub (L2 := [(4, (.int (iI (((i + 1 : Nat) : Int))))), (3, (.int (iI (((ndf (2 ^ n - 1) (qR wt n s0 (i + 1)).1 : Nat) : Int))))), (0, (.ref a)), (1, (.ref y)), (2, (.ref q))]) [0, 1, 4, 5, 6] (by rw [qR_s, ← left_or]; rfl) ?_
                exact ih (n - (i + 1)) (by omega) (i + 1) (by omega) (by omega) _ (fun b h1 h2 => by rw [stF_n _ _ _ h2, stF_n _ _ _ h1]; exact hF1 b h1 h2) (fun k hk => rdn (by omega) (rdi hk (hF2 k hk))) (rdn (by omega) (stF_s _ _ _ _)) (fun j hj => by
                  rcases Nat.lt_succ_iff_lt_or_eq.mp hj with h | h
                  · exact rdi (by omega) (rdn (by omega) (hR1 j h))
                  · subst h; exact stF_s _ _ _ _)
              · refine r_iload_n (pc := 77) 3 dX4_drawRow_77 rfl rfl ?_
                refine r_goto (pc := 78) (tgt := 83) dX4_drawRow_78 (by decide) ?_
                refine r_eqI (y := ((pkS wt n (qR wt n s0 i).1 : Nat) : Int)) (by unfold pkS; rw [if_pos (by rw [← hfree]; omega)]) ?_
                refine r_callV (pc := 83) (As := [(.int (iI (((pkS wt n (qR wt n s0 i).1 : Nat) : Int))))]) (S := [(.int (iI (((i : Nat) : Int)))), (.ref q)]) dX4_drawRow_83 cv_X4_43 hA.k rfl (Nat.le_of_ble_eq_true rfl) (x_drawOne (s := pkS wt n (qR wt n s0 i).1) (sd := (qR wt n s0 i).2) l z _ hA (by have := pkS_lt (wt := wt) (n := n) (s := (qR wt n s0 i).1); omega) hpp.1 hsd (qR_sd wt n hs0 i)) (Nat.zero_le _) (Nat.zero_le _) (fun r_83 g_83 f_83 q_83 => ?_)
                obtain ⟨rfl, rfl, rfl⟩ := q_83
                refine r_iastv (pc := 86) (i := i) dX4_drawRow_86 hQ (by omega) (by decide) rfl ?_
                refine r_iload_n (pc := 87) 3 dX4_drawRow_87 rfl rfl ?_
                refine r_iconst (pc := 88) dX4_drawRow_88 ?_
                refine r_aload_n (pc := 89) 6 dX4_drawRow_89 rfl rfl ?_
                refine r_iload (pc := 90) 2 dX4_drawRow_90 rfl ?_
                refine r_ialdv (pc := 92) (w := ((qO wt n s0 i : Nat) : Int)) dX4_drawRow_92 hQ (by omega) (by decide) (stF_s _ _ _ _) ?_
                refine r_ishl (pc := 93) (w := ((2 ^ (qO wt n s0 i) : Nat) : Int)) dX4_drawRow_93  (iI_shl1 (by omega)) ?_
                refine r_iconst (pc := 94) dX4_drawRow_94 ?_
                refine r_ixor (pc := 95) (w := -(((2 ^ (qO wt n s0 i) : Nat) : Int)) - 1) dX4_drawRow_95  (iI_not _) ?_
                refine r_iand (pc := 96) (w := ((ndf (ndf (2 ^ n - 1) (qR wt n s0 i).1) (2 ^ (qO wt n s0 i)) : Nat) : Int)) dX4_drawRow_96  (iI_andn _ _) ?_
                refine r_istore_n (pc := 97) (L2 := [(3, (.int (iI (((ndf (ndf (2 ^ n - 1) (qR wt n s0 i).1) (2 ^ (qO wt n s0 i)) : Nat) : Int))))), (6, (.int (iI (((c : Nat) : Int))))), (5, (.int (iI (((wmk (nxP wt (qR wt n s0 i).1) c : Nat) : Int))))), (4, (.int (iI (((i : Nat) : Int))))), (0, (.ref a)), (1, (.ref y)), (2, (.ref q))]) dX4_drawRow_97 rfl (by decide) rfl ?_
                refine r_iincv (pc := 98) (y := ((i + 1 : Nat) : Int)) (L2 := [(4, (.int (iI (((i + 1 : Nat) : Int))))), (3, (.int (iI (((ndf (ndf (2 ^ n - 1) (qR wt n s0 i).1) (2 ^ (qO wt n s0 i)) : Nat) : Int))))), (6, (.int (iI (((c : Nat) : Int))))), (5, (.int (iI (((wmk (nxP wt (qR wt n s0 i).1) c : Nat) : Int))))), (0, (.ref a)), (1, (.ref y)), (2, (.ref q))]) 3 dX4_drawRow_98 rfl (by omega) (by decide) rfl ?_
                refine r_goto (pc := 101) (tgt := 8) dX4_drawRow_101 (by decide) ?_
                refine r_sub (L2 := [(4, (.int (iI (((i + 1 : Nat) : Int))))), (3, (.int (iI (((ndf (2 ^ n - 1) (qR wt n s0 (i + 1)).1 : Nat) : Int))))), (0, (.ref a)), (1, (.ref y)), (2, (.ref q))]) [0, 1, 4, 5, 6] (by rw [qR_s, ← left_or]; rfl) ?_
                exact ih (n - (i + 1)) (by omega) (i + 1) (by omega) (by omega) _ (fun b h1 h2 => by rw [stF_n _ _ _ h2, stF_n _ _ _ h1]; exact hF1 b h1 h2) (fun k hk => rdn (by omega) (rdi hk (hF2 k hk))) (rdn (by omega) (stF_s _ _ _ _)) (fun j hj => by
                  rcases Nat.lt_succ_iff_lt_or_eq.mp hj with h | h
                  · exact rdi (by omega) (rdn (by omega) (hR1 j h))
                  · subst h; exact stF_s _ _ _ _)
            · refine r_iload_n (pc := 32) 3 dX4_drawRow_32 rfl rfl ?_
              refine r_iload (pc := 33) 0 dX4_drawRow_33 rfl ?_
              refine r_ishr (pc := 35) (w := ((ndf (2 ^ n - 1) (qR wt n s0 i).1 / 2 ^ c : Nat) : Int)) dX4_drawRow_35  (iI_shr (by omega) (by omega)) ?_
              refine r_iconst (pc := 36) dX4_drawRow_36 ?_
              refine r_iand (pc := 37) (w := (((ndf (2 ^ n - 1) (qR wt n s0 i).1 / 2 ^ c) &&& 1 : Nat) : Int)) dX4_drawRow_37  (iI_and _ _) ?_
              refine r_eqI (y := b01 ((ndf (2 ^ n - 1) (qR wt n s0 i).1).testBit c = true)) (bitI _ _) ?_
              refine r_if_eq (pc := 38) (tgt := 62) dX4_drawRow_38 (by decide) (b01_r) (fun c_38 => ?_) (fun c_38 => ?_)
              · replace c_38 := b01_z c_38
                refine r_iincv (pc := 62) (y := ((c + 1 : Nat) : Int)) (L2 := [(6, (.int (iI (((c + 1 : Nat) : Int))))), (5, (.int (iI (((wmk (nxP wt (qR wt n s0 i).1) c : Nat) : Int))))), (4, (.int (iI (((i : Nat) : Int))))), (3, (.int (iI (((ndf (2 ^ n - 1) (qR wt n s0 i).1 : Nat) : Int))))), (0, (.ref a)), (1, (.ref y)), (2, (.ref q))]) 0 dX4_drawRow_62 rfl (by omega) (by decide) rfl ?_
                refine r_goto (pc := 65) (tgt := 23) dX4_drawRow_65 (by decide) ?_
                refine r_sub (L2 := [(6, (.int (iI (((c + 1 : Nat) : Int))))), (5, (.int (iI (((wmk (nxP wt (qR wt n s0 i).1) (c + 1) : Nat) : Int))))), (4, (.int (iI (((i : Nat) : Int))))), (3, (.int (iI (((ndf (2 ^ n - 1) (qR wt n s0 i).1 : Nat) : Int))))), (0, (.ref a)), (1, (.ref y)), (2, (.ref q))]) [0, 1, 2, 3, 4, 5, 6] (by rw [show wmk (nxP wt (qR wt n s0 i).1) (c + 1) = wmk (nxP wt (qR wt n s0 i).1) c from if_neg (by unfold nxP; intro e; simp at e; exact c_38 ((left_bit (by omega)).mpr (by simp [e.1])))]; rfl) ?_
                exact ih2 (n - (c + 1)) (by omega) (c + 1) (by omega) (by omega)
              · replace c_38 := b01_nz c_38
                refine r_aload_n (pc := 41) 5 dX4_drawRow_41 rfl rfl ?_
                refine r_getR (pc := 42) (b := (y + 6)) dX4_drawRow_42 fl_X4_40 rfl hY.k hY.r3 ?_
                refine r_iload (pc := 45) 0 dX4_drawRow_45 rfl ?_
                refine r_ialdv (pc := 47) (w := ((wt c : Nat) : Int)) dX4_drawRow_47 hY.a3 (by omega) (by decide) ((congrFun (hF1 (y + 6) (by omega) (by omega)) _).trans (hDw.2 c (by omega)).1) ?_
                refine r_iload_n (pc := 48) 3 dX4_drawRow_48 rfl rfl ?_
                refine r_iand (pc := 49) (w := (((wt c) &&& (ndf (2 ^ n - 1) (qR wt n s0 i).1) : Nat) : Int)) dX4_drawRow_49  (iI_and _ _) ?_
                refine r_if_ne (pc := 50) (tgt := 62) dX4_drawRow_50 (by decide) (by have h := Nat.and_le_left (n := wt c) (m := ndf (2 ^ n - 1) (qR wt n s0 i).1); have h2 := (hDw.2 c (by omega)).2; omega) (fun c_50 => ?_) (fun c_50 => ?_)
                · refine r_iincv (pc := 62) (y := ((c + 1 : Nat) : Int)) (L2 := [(6, (.int (iI (((c + 1 : Nat) : Int))))), (5, (.int (iI (((wmk (nxP wt (qR wt n s0 i).1) c : Nat) : Int))))), (4, (.int (iI (((i : Nat) : Int))))), (3, (.int (iI (((ndf (2 ^ n - 1) (qR wt n s0 i).1 : Nat) : Int))))), (0, (.ref a)), (1, (.ref y)), (2, (.ref q))]) 0 dX4_drawRow_62 rfl (by omega) (by decide) rfl ?_
                  refine r_goto (pc := 65) (tgt := 23) dX4_drawRow_65 (by decide) ?_
                  refine r_sub (L2 := [(6, (.int (iI (((c + 1 : Nat) : Int))))), (5, (.int (iI (((wmk (nxP wt (qR wt n s0 i).1) (c + 1) : Nat) : Int))))), (4, (.int (iI (((i : Nat) : Int))))), (3, (.int (iI (((ndf (2 ^ n - 1) (qR wt n s0 i).1 : Nat) : Int))))), (0, (.ref a)), (1, (.ref y)), (2, (.ref q))]) [0, 1, 2, 3, 4, 5, 6] (by rw [show wmk (nxP wt (qR wt n s0 i).1) (c + 1) = wmk (nxP wt (qR wt n s0 i).1) c from if_neg (by unfold nxP; intro e; simp at e; apply c_50; rw [and_left (hDw.2 c (by omega)).2, e.2]; rfl)]; rfl) ?_
                  exact ih2 (n - (c + 1)) (by omega) (c + 1) (by omega) (by omega)
                · refine r_iload (pc := 53) 1 dX4_drawRow_53 rfl ?_
                  refine r_iconst (pc := 55) dX4_drawRow_55 ?_
                  refine r_iload (pc := 56) 0 dX4_drawRow_56 rfl ?_
                  refine r_ishl (pc := 58) (w := ((2 ^ c : Nat) : Int)) dX4_drawRow_58  (iI_shl1 (by omega)) ?_
                  refine r_ior (pc := 59) (w := (((wmk (nxP wt (qR wt n s0 i).1) c) ||| (2 ^ c) : Nat) : Int)) dX4_drawRow_59  (iI_or _ _) ?_
                  refine r_istore (pc := 60) (L2 := [(5, (.int (iI ((((wmk (nxP wt (qR wt n s0 i).1) c) ||| (2 ^ c) : Nat) : Int))))), (6, (.int (iI (((c : Nat) : Int))))), (4, (.int (iI (((i : Nat) : Int))))), (3, (.int (iI (((ndf (2 ^ n - 1) (qR wt n s0 i).1 : Nat) : Int))))), (0, (.ref a)), (1, (.ref y)), (2, (.ref q))]) dX4_drawRow_60 (by decide) rfl ?_
                  refine r_iincv (pc := 62) (y := ((c + 1 : Nat) : Int)) (L2 := [(6, (.int (iI (((c + 1 : Nat) : Int))))), (5, (.int (iI ((((wmk (nxP wt (qR wt n s0 i).1) c) ||| (2 ^ c) : Nat) : Int))))), (4, (.int (iI (((i : Nat) : Int))))), (3, (.int (iI (((ndf (2 ^ n - 1) (qR wt n s0 i).1 : Nat) : Int))))), (0, (.ref a)), (1, (.ref y)), (2, (.ref q))]) 1 dX4_drawRow_62 rfl (by omega) (by decide) rfl ?_
                  refine r_goto (pc := 65) (tgt := 23) dX4_drawRow_65 (by decide) ?_
                  refine r_sub (L2 := [(6, (.int (iI (((c + 1 : Nat) : Int))))), (5, (.int (iI (((wmk (nxP wt (qR wt n s0 i).1) (c + 1) : Nat) : Int))))), (4, (.int (iI (((i : Nat) : Int))))), (3, (.int (iI (((ndf (2 ^ n - 1) (qR wt n s0 i).1 : Nat) : Int))))), (0, (.ref a)), (1, (.ref y)), (2, (.ref q))]) [0, 1, 2, 3, 4, 5, 6] (by rw [show wmk (nxP wt (qR wt n s0 i).1) (c + 1) = wmk (nxP wt (qR wt n s0 i).1) c ||| 2 ^ c from if_pos (by unfold nxP; rw [Bool.eq_false_iff.mpr ((left_bit (by omega)).mp c_38), decide_eq_true (show ndf (wt c) (qR wt n s0 i).1 = 0 by rw [← and_left (hDw.2 c (by omega)).2]; omega)]; rfl)]; rfl) ?_
                  exact ih2 (n - (c + 1)) (by omega) (c + 1) (by omega) (by omega)
        refine r_sub (L2 := [(6, (.int (iI (((0 : Nat) : Int))))), (5, (.int (iI (((wmk (nxP wt (qR wt n s0 i).1) 0 : Nat) : Int))))), (4, (.int (iI (((i : Nat) : Int))))), (3, (.int (iI (((ndf (2 ^ n - 1) (qR wt n s0 i).1 : Nat) : Int))))), (0, (.ref a)), (1, (.ref y)), (2, (.ref q))]) [0, 1, 2, 3, 4, 5, 6] rfl ?_
        exact inner n 0 (by omega) (by omega)
  refine r_aload_n (pc := 0) 1 dX4_drawRow_0 rfl rfl ?_
  refine r_callV (pc := 1) (As := []) (S := []) dX4_drawRow_1 cv_X4_31 hY.k rfl (Nat.le_of_ble_eq_true rfl) (x_every (n := n) l z _ hY hDw.1 hn8) (Nat.zero_le _) (Nat.zero_le _) (fun r_1 g_1 f_1 q_1 => ?_)
  obtain ⟨rfl, rfl, rfl⟩ := q_1
  refine r_istore_n (pc := 4) (L2 := [(3, (.int (iI (((2 ^ n - 1 : Nat) : Int))))), (0, (.ref a)), (1, (.ref y)), (2, (.ref q))]) dX4_drawRow_4 rfl (by decide) rfl ?_
  refine r_iconst (pc := 5) dX4_drawRow_5 ?_
  refine r_istore (pc := 6) (L2 := [(4, (.int (iI (0)))), (3, (.int (iI (((2 ^ n - 1 : Nat) : Int))))), (0, (.ref a)), (1, (.ref y)), (2, (.ref q))]) dX4_drawRow_6 (by decide) rfl ?_
  refine r_sub (L2 := [(4, (.int (iI (((0 : Nat) : Int))))), (3, (.int (iI (((ndf (2 ^ n - 1) (qR wt n s0 0).1 : Nat) : Int))))), (0, (.ref a)), (1, (.ref y)), (2, (.ref q))]) [0, 1, 2, 3, 4] (by rw [show ndf (2 ^ n - 1) (qR wt n s0 0).1 = 2 ^ n - 1 by show ndf (2 ^ n - 1) 0 = _; unfold ndf; simp]; rfl) ?_
  exact outer n 0 (by omega) (by omega) f (fun _ _ _ => rfl) (fun _ _ => rfl) hsd0 (fun j hj => absurd hj (by omega))

theorem XL.to {g g' : Gm} (h : XL g) (e : gsh g g') (hr : ∀ a, gkd g a ≠ 15 → grm g' a = grm g a) : XL g' := ⟨h.k.to e, by rw [hr 64 (by rw [h.k.1]; decide)]; exact h.r0, BL.to h.o0 e (hr 65 (by rw [h.o0.k.1]; decide)) (hr 69 (by rw [h.o0.o3.k.1]; decide)) (hr 72 (by rw [h.o0.o4.k.1]; decide)), by rw [hr 64 (by rw [h.k.1]; decide)]; exact h.r1, BL.to h.o1 e (hr 75 (by rw [h.o1.k.1]; decide)) (hr 79 (by rw [h.o1.o3.k.1]; decide)) (hr 82 (by rw [h.o1.o4.k.1]; decide)), by rw [hr 64 (by rw [h.k.1]; decide)]; exact h.r2, h.a2.to e, by rw [hr 64 (by rw [h.k.1]; decide)]; exact h.r3, h.a3.to e, by rw [hr 64 (by rw [h.k.1]; decide)]; exact h.r4, TL.to h.o4 e (hr 107 (by rw [h.o4.k.1]; decide)), by rw [hr 64 (by rw [h.k.1]; decide)]; exact h.r5, DL.to h.o5 e (hr 111 (by rw [h.o5.k.1]; decide)) (hr 112 (by rw [h.o5.o0.k.1]; decide)), by rw [hr 64 (by rw [h.k.1]; decide)]; exact h.r6, DL.to h.o6 e (hr 123 (by rw [h.o6.k.1]; decide)) (hr 124 (by rw [h.o6.o0.k.1]; decide)), by rw [hr 64 (by rw [h.k.1]; decide)]; exact h.r7, EL.to h.o7 e (hr 135 (by rw [h.o7.k.1]; decide)), by rw [hr 64 (by rw [h.k.1]; decide)]; exact h.r8, EL.to h.o8 e (hr 140 (by rw [h.o8.k.1]; decide)), by rw [hr 64 (by rw [h.k.1]; decide)]; exact h.r9, EL.to h.o9 e (hr 145 (by rw [h.o9.k.1]; decide)), by rw [hr 64 (by rw [h.k.1]; decide)]; exact h.r10, YL.to h.o10 e (hr 150 (by rw [h.o10.k.1]; decide)), by rw [hr 64 (by rw [h.k.1]; decide)]; exact h.r11, OL.to h.o11 e (hr 157 (by rw [h.o11.k.1]; decide)), by rw [hr 64 (by rw [h.k.1]; decide)]; exact h.r12, h.a12.to e, by rw [hr 64 (by rw [h.k.1]; decide)]; exact h.r13, h.a13.to e, by rw [hr 64 (by rw [h.k.1]; decide)]; exact h.r14, h.a14.to e, by rw [hr 85 (by rw [h.a2.1]; decide)]; exact h.e0, by rw [hr 85 (by rw [h.a2.1]; decide)]; exact h.e1, BL.to h.i0 e (hr 86 (by rw [h.i0.k.1]; decide)) (hr 90 (by rw [h.i0.o3.k.1]; decide)) (hr 93 (by rw [h.i0.o4.k.1]; decide)), BL.to h.i1 e (hr 96 (by rw [h.i1.k.1]; decide)) (hr 100 (by rw [h.i1.o3.k.1]; decide)) (hr 103 (by rw [h.i1.o4.k.1]; decide))⟩
theorem ML.to {g g' : Gm} (h : ML g) (e : gsh g g') (hr : ∀ a, gkd g a ≠ 15 → grm g' a = grm g a) : ML g' := ⟨h.k.to e, by rw [hr 164 (by rw [h.k.1]; decide)]; exact h.r1, h.a1.to e, by rw [hr 164 (by rw [h.k.1]; decide)]; exact h.r2, h.a2.to e, by rw [hr 164 (by rw [h.k.1]; decide)]; exact h.r3, h.a3.to e, by rw [hr 164 (by rw [h.k.1]; decide)]; exact h.r4, h.a4.to e, by rw [hr 164 (by rw [h.k.1]; decide)]; exact h.r6, h.a6.to e, by rw [hr 164 (by rw [h.k.1]; decide)]; exact h.r7, h.a7.to e, by rw [hr 164 (by rw [h.k.1]; decide)]; exact h.r8, h.a8.to e, by rw [hr 164 (by rw [h.k.1]; decide)]; exact h.r11, h.a11.to e, by rw [hr 164 (by rw [h.k.1]; decide)]; exact h.r12, h.a12.to e, by rw [hr 164 (by rw [h.k.1]; decide)]; exact h.r13, h.a13.to e, by rw [hr 164 (by rw [h.k.1]; decide)]; exact h.r21, h.a21.to e, by rw [hr 164 (by rw [h.k.1]; decide)]; exact h.r24, h.a24.to e, by rw [hr 164 (by rw [h.k.1]; decide)]; exact h.r25, h.a25.to e, by rw [hr 164 (by rw [h.k.1]; decide)]; exact h.r26, h.a26.to e, by rw [hr 164 (by rw [h.k.1]; decide)]; exact h.r27, h.a27.to e, by rw [hr 164 (by rw [h.k.1]; decide)]; exact h.r28, h.a28.to e, by rw [hr 164 (by rw [h.k.1]; decide)]; exact h.r29, h.a29.to e, by rw [hr 164 (by rw [h.k.1]; decide)]; exact h.r30, h.a30.to e, by rw [hr 164 (by rw [h.k.1]; decide)]; exact h.r31, h.a31.to e, by rw [hr 164 (by rw [h.k.1]; decide)]; exact h.r32, h.a32.to e, by rw [hr 164 (by rw [h.k.1]; decide)]; exact h.r33, h.a33.to e, by rw [hr 164 (by rw [h.k.1]; decide)]; exact h.r34, h.a34.to e, by rw [hr 164 (by rw [h.k.1]; decide)]; exact h.r35, h.a35.to e, by rw [hr 164 (by rw [h.k.1]; decide)]; exact h.r36, h.a36.to e, by rw [hr 164 (by rw [h.k.1]; decide)]; exact h.r37, h.a37.to e, by rw [hr 164 (by rw [h.k.1]; decide)]; exact h.r38, h.a38.to e, by rw [hr 164 (by rw [h.k.1]; decide)]; exact h.r39, h.a39.to e, by rw [hr 164 (by rw [h.k.1]; decide)]; exact h.r40, h.a40.to e, by rw [hr 164 (by rw [h.k.1]; decide)]; exact h.r41, h.a41.to e, by rw [hr 164 (by rw [h.k.1]; decide)]; exact h.r42, h.a42.to e⟩
theorem cpR_hr {g : Gm} {a c n : Nat} (h : gkd g c = 15) : ∀ q, gkd g q ≠ 15 → grm (cpR g a c n) q = grm g q := fun q hq => cpR_rm g (fun e => hq (by rw [e]; exact h))
/-- the texts at a are laws -/
def TX (g : Gm) (a : Nat) : Prop := ∀ i p : Nat, grm g a i = some p → isK g p 3
def xgImage (g : Gm) (k : Int) : Gm := if ¬ (0 ≤ k ∧ k ≤ 1) then g else cpR g 68 (if k = 0 then 89 else 99) 6
def xnImage (f : Fm) (k : Int) : Fm := if ¬ (0 ≤ k ∧ k ≤ 1) then xrf f (-1) else stF (stF (cpB f (if k = 0 then 86 else 96) 65) 106 k.toNat 1) 64 16 0
def xgBack (g : Gm) (f : Fm) (k : Int) : Gm := if ¬ (0 ≤ k ∧ k ≤ 1) then g else if f 106 k.toNat = 0 then g else cpR g (if k = 0 then 89 else 99) 68 6
def xnBack (f : Fm) (k : Int) : Fm := if ¬ (0 ≤ k ∧ k ≤ 1) then xrf f (-1) else if f 106 k.toNat = 0 then xrf f (-2) else stF (drp (cpB f 65 (if k = 0 then 86 else 96))) 64 16 0
def xaBack (f : Fm) (k : Int) : Int := if ¬ (0 ≤ k ∧ k ≤ 1) then -1 else if f 106 k.toNat = 0 then -2 else 0

set_option maxRecDepth 100000 in
set_option maxHeartbeats 4000000 in
theorem x_image (l : Launch) (z : Zv) (d : Nat) {g : Gm} {f : Fm} {k : Int} (hX : XL g) (hT65 : TX g 68) (hk : -2147483648 ≤ k ∧ k ≤ 2147483647) : PM l z (d + 2) mX10_image [(.ref 64), (.int (iI (k)))] g f 0 0 (fun r g' f' => r = some (.int (iI (if ¬ (0 ≤ k ∧ k ≤ 1) then -1 else 0))) ∧ xgImage g k = g' ∧ xnImage f k = f') := by
  refine PM.of (by decide +kernel) (Nat.le_of_ble_eq_true rfl) ?_
  refine r_iload_n (pc := 0) 1 dX10_image_0 rfl rfl ?_
  refine r_if_lt (pc := 1) (tgt := 9) dX10_image_1 (by decide) (by omega) (fun c_1 => ?_) (fun c_1 => ?_)
  · refine r_aload_n (pc := 9) 0 dX10_image_9 rfl rfl ?_
    refine r_iconst (pc := 10) dX10_image_10 ?_
    refine r_callV (pc := 11) (As := [(.int (iI (-1)))]) (S := []) dX10_image_11 cv_X10_85 hX.k rfl (Nat.le_of_ble_eq_true rfl) (x_refuse l z _ hX (by omega)) (Nat.zero_le _) (Nat.zero_le _) (fun r_11 g_11 f_11 q_11 => ?_)
    obtain ⟨rfl, rfl, rfl⟩ := q_11
    exact r_iret (pc := 14) dX10_image_14 rfl rfl ⟨by first | (rw [if_pos (by omega)]) | (rw [if_neg (by omega)]), by simp only [xgImage]; first | (rw [if_pos (by omega)]) | (rw [if_neg (by omega)]; rfl), by simp only [xnImage]; first | (rw [if_pos (by omega)]) | (rw [if_neg (by omega)]; rfl)⟩
  · refine r_iload_n (pc := 4) 1 dX10_image_4 rfl rfl ?_
    refine r_iconst (pc := 5) dX10_image_5 ?_
    refine r_icmp_lt (pc := 6) (tgt := 15) dX10_image_6 (by decide) (by omega) (by omega) (fun c_6 => ?_) (fun c_6 => ?_)
    · refine r_aload_n (pc := 15) 0 dX10_image_15 rfl rfl ?_
      refine r_getR (pc := 16) (b := 85) dX10_image_16 fl_X10_19 rfl hX.k hX.r2 ?_
      refine r_iload_n (pc := 19) 1 dX10_image_19 rfl rfl ?_
      rcases (show k = 0 ∨ k = 1 by omega) with rfl | rfl
      · refine r_aald (pc := 20) dX10_image_20 hX.a2 (by decide) (by decide) (by decide) (fun p_ hp_ => ?_) (fun hp_ => absurd (hp_.symm.trans hX.e0) (by simp))
        obtain rfl : p_ = 86 := Option.some.inj (hp_.symm.trans hX.e0)
        refine r_aload_n (pc := 21) 0 dX10_image_21 rfl rfl ?_
        refine r_getR (pc := 22) (b := 65) dX10_image_22 fl_X10_10 rfl hX.k hX.r0 ?_
        refine r_callV (pc := 25) (As := [(.ref 65)]) (S := []) dX10_image_25 cv_X10_214 hX.i0.k rfl (Nat.le_of_ble_eq_true rfl) (x_copyFrom l z _ hX.i0 hX.o0 (by decide) (hT65)) (Nat.zero_le _) (Nat.zero_le _) (fun r_25 g_25 f_25 q_25 => ?_)
        obtain ⟨rfl, rfl, rfl⟩ := q_25
        have hX := hX.to (cpR_sh g 68 89 6) (cpR_hr hX.i0.a2.1)
        refine r_aload_n (pc := 28) 0 dX10_image_28 rfl rfl ?_
        refine r_getR (pc := 29) (b := 106) dX10_image_29 fl_X10_23 rfl hX.k hX.r3 ?_
        refine r_iload_n (pc := 32) 1 dX10_image_32 rfl rfl ?_
        refine r_iconst (pc := 33) dX10_image_33 ?_
        refine r_zast (pc := 34) dX10_image_34 hX.a3 (by omega) (by decide) (rfl) ?_
        refine r_aload_n (pc := 35) 0 dX10_image_35 rfl rfl ?_
        refine r_iconst (pc := 36) dX10_image_36 ?_
        refine r_callV (pc := 37) (As := [(.int (iI (0)))]) (S := []) dX10_image_37 cv_X10_100 hX.k rfl (Nat.le_of_ble_eq_true rfl) (x_accept l z _ _ hX) (Nat.zero_le _) (Nat.zero_le _) (fun r_37 g_37 f_37 q_37 => ?_)
        obtain ⟨rfl, rfl, rfl⟩ := q_37
        exact r_iret (pc := 40) dX10_image_40 rfl rfl ⟨by first | (rw [if_pos (by omega)]) | (rw [if_neg (by omega)]), by simp only [xgImage]; first | (rw [if_pos (by omega)]) | (rw [if_neg (by omega)]; rfl), by simp only [xnImage]; first | (rw [if_pos (by omega)]) | (rw [if_neg (by omega)]; rfl)⟩
      · refine r_aald (pc := 20) dX10_image_20 hX.a2 (by decide) (by decide) (by decide) (fun p_ hp_ => ?_) (fun hp_ => absurd (hp_.symm.trans hX.e1) (by simp))
        obtain rfl : p_ = 96 := Option.some.inj (hp_.symm.trans hX.e1)
        refine r_aload_n (pc := 21) 0 dX10_image_21 rfl rfl ?_
        refine r_getR (pc := 22) (b := 65) dX10_image_22 fl_X10_10 rfl hX.k hX.r0 ?_
        refine r_callV (pc := 25) (As := [(.ref 65)]) (S := []) dX10_image_25 cv_X10_214 hX.i1.k rfl (Nat.le_of_ble_eq_true rfl) (x_copyFrom l z _ hX.i1 hX.o0 (by decide) (hT65)) (Nat.zero_le _) (Nat.zero_le _) (fun r_25 g_25 f_25 q_25 => ?_)
        obtain ⟨rfl, rfl, rfl⟩ := q_25
        have hX := hX.to (cpR_sh g 68 99 6) (cpR_hr hX.i1.a2.1)
        refine r_aload_n (pc := 28) 0 dX10_image_28 rfl rfl ?_
        refine r_getR (pc := 29) (b := 106) dX10_image_29 fl_X10_23 rfl hX.k hX.r3 ?_
        refine r_iload_n (pc := 32) 1 dX10_image_32 rfl rfl ?_
        refine r_iconst (pc := 33) dX10_image_33 ?_
        refine r_zast (pc := 34) dX10_image_34 hX.a3 (by omega) (by decide) (rfl) ?_
        refine r_aload_n (pc := 35) 0 dX10_image_35 rfl rfl ?_
        refine r_iconst (pc := 36) dX10_image_36 ?_
        refine r_callV (pc := 37) (As := [(.int (iI (0)))]) (S := []) dX10_image_37 cv_X10_100 hX.k rfl (Nat.le_of_ble_eq_true rfl) (x_accept l z _ _ hX) (Nat.zero_le _) (Nat.zero_le _) (fun r_37 g_37 f_37 q_37 => ?_)
        obtain ⟨rfl, rfl, rfl⟩ := q_37
        exact r_iret (pc := 40) dX10_image_40 rfl rfl ⟨by first | (rw [if_pos (by omega)]) | (rw [if_neg (by omega)]), by simp only [xgImage]; first | (rw [if_pos (by omega)]) | (rw [if_neg (by omega)]; rfl), by simp only [xnImage]; first | (rw [if_pos (by omega)]) | (rw [if_neg (by omega)]; rfl)⟩
    · refine r_aload_n (pc := 9) 0 dX10_image_9 rfl rfl ?_
      refine r_iconst (pc := 10) dX10_image_10 ?_
      refine r_callV (pc := 11) (As := [(.int (iI (-1)))]) (S := []) dX10_image_11 cv_X10_85 hX.k rfl (Nat.le_of_ble_eq_true rfl) (x_refuse l z _ hX (by omega)) (Nat.zero_le _) (Nat.zero_le _) (fun r_11 g_11 f_11 q_11 => ?_)
      obtain ⟨rfl, rfl, rfl⟩ := q_11
      exact r_iret (pc := 14) dX10_image_14 rfl rfl ⟨by first | (rw [if_pos (by omega)]) | (rw [if_neg (by omega)]), by simp only [xgImage]; first | (rw [if_pos (by omega)]) | (rw [if_neg (by omega)]; rfl), by simp only [xnImage]; first | (rw [if_pos (by omega)]) | (rw [if_neg (by omega)]; rfl)⟩

set_option maxRecDepth 100000 in
set_option maxHeartbeats 4000000 in
theorem x_back (l : Launch) (z : Zv) (d : Nat) {g : Gm} {f : Fm} {k : Int} (hX : XL g) (hT86 : TX g 89) (hT96 : TX g 99) (h106 : ∀ i, i < 2 → 0 ≤ f 106 i ∧ f 106 i ≤ 1) (hk : -2147483648 ≤ k ∧ k ≤ 2147483647) : PM l z (d + 2) mX10_back [(.ref 64), (.int (iI (k)))] g f 0 0 (fun r g' f' => r = some (.int (iI (xaBack f k))) ∧ xgBack g f k = g' ∧ xnBack f k = f') := by
  refine PM.of (by decide +kernel) (Nat.le_of_ble_eq_true rfl) ?_
  refine r_iload_n (pc := 0) 1 dX10_back_0 rfl rfl ?_
  refine r_if_lt (pc := 1) (tgt := 9) dX10_back_1 (by decide) (by omega) (fun c_1 => ?_) (fun c_1 => ?_)
  · refine r_aload_n (pc := 9) 0 dX10_back_9 rfl rfl ?_
    refine r_iconst (pc := 10) dX10_back_10 ?_
    refine r_callV (pc := 11) (As := [(.int (iI (-1)))]) (S := []) dX10_back_11 cv_X10_85 hX.k rfl (Nat.le_of_ble_eq_true rfl) (x_refuse l z _ hX (by omega)) (Nat.zero_le _) (Nat.zero_le _) (fun r_11 g_11 f_11 q_11 => ?_)
    obtain ⟨rfl, rfl, rfl⟩ := q_11
    exact r_iret (pc := 14) dX10_back_14 rfl rfl ⟨by simp only [xaBack]; first | (rw [if_pos (by omega)]) | (rw [if_neg (by omega), if_pos (by assumption)]) | (rw [if_neg (by omega), if_neg (by assumption)]), by simp only [xgBack]; first | (rw [if_pos (by omega)]) | (rw [if_neg (by omega), if_pos (by assumption)]) | (rw [if_neg (by omega), if_neg (by assumption)]; rfl), by simp only [xnBack]; first | (rw [if_pos (by omega)]) | (rw [if_neg (by omega), if_pos (by assumption)]) | (rw [if_neg (by omega), if_neg (by assumption)]; rfl)⟩
  · refine r_iload_n (pc := 4) 1 dX10_back_4 rfl rfl ?_
    refine r_iconst (pc := 5) dX10_back_5 ?_
    refine r_icmp_lt (pc := 6) (tgt := 15) dX10_back_6 (by decide) (by omega) (by omega) (fun c_6 => ?_) (fun c_6 => ?_)
    · refine r_aload_n (pc := 15) 0 dX10_back_15 rfl rfl ?_
      refine r_getR (pc := 16) (b := 106) dX10_back_16 fl_X10_23 rfl hX.k hX.r3 ?_
      refine r_iload_n (pc := 19) 1 dX10_back_19 rfl rfl ?_
      refine r_zald (pc := 20) dX10_back_20 hX.a3 (by omega) (by decide) ?_
      refine r_if_ne (pc := 21) (tgt := 31) dX10_back_21 (by decide) (by have := h106 k.toNat (by omega); omega) (fun c_21 => ?_) (fun c_21 => ?_)
      · refine r_aload_n (pc := 31) 0 dX10_back_31 rfl rfl ?_
        refine r_getR (pc := 32) (b := 65) dX10_back_32 fl_X10_10 rfl hX.k hX.r0 ?_
        refine r_aload_n (pc := 35) 0 dX10_back_35 rfl rfl ?_
        refine r_getR (pc := 36) (b := 85) dX10_back_36 fl_X10_19 rfl hX.k hX.r2 ?_
        refine r_iload_n (pc := 39) 1 dX10_back_39 rfl rfl ?_
        rcases (show k = 0 ∨ k = 1 by omega) with rfl | rfl
        · refine r_aald (pc := 40) dX10_back_40 hX.a2 (by decide) (by decide) (by decide) (fun p_ hp_ => ?_) (fun hp_ => absurd (hp_.symm.trans hX.e0) (by simp))
          obtain rfl : p_ = 86 := Option.some.inj (hp_.symm.trans hX.e0)
          refine r_callV (pc := 41) (As := [(.ref 86)]) (S := []) dX10_back_41 cv_X10_214 hX.o0.k rfl (Nat.le_of_ble_eq_true rfl) (x_copyFrom l z _ hX.o0 hX.i0 (by decide) (hT86)) (Nat.zero_le _) (Nat.zero_le _) (fun r_41 g_41 f_41 q_41 => ?_)
          obtain ⟨rfl, rfl, rfl⟩ := q_41
          have hX := hX.to (cpR_sh g 89 68 6) (cpR_hr hX.o0.a2.1)
          refine r_aload_n (pc := 44) 0 dX10_back_44 rfl rfl ?_
          refine r_callV (pc := 45) (As := []) (S := []) dX10_back_45 cv_X10_93 hX.k rfl (Nat.le_of_ble_eq_true rfl) (x_drop l z _ hX) (Nat.zero_le _) (Nat.zero_le _) (fun r_45 g_45 f_45 q_45 => ?_)
          obtain ⟨rfl, rfl, rfl⟩ := q_45
          refine r_aload_n (pc := 48) 0 dX10_back_48 rfl rfl ?_
          refine r_iconst (pc := 49) dX10_back_49 ?_
          refine r_callV (pc := 50) (As := [(.int (iI (0)))]) (S := []) dX10_back_50 cv_X10_100 hX.k rfl (Nat.le_of_ble_eq_true rfl) (x_accept l z _ _ hX) (Nat.zero_le _) (Nat.zero_le _) (fun r_50 g_50 f_50 q_50 => ?_)
          obtain ⟨rfl, rfl, rfl⟩ := q_50
          exact r_iret (pc := 53) dX10_back_53 rfl rfl ⟨by simp only [xaBack]; first | (rw [if_pos (by omega)]) | (rw [if_neg (by omega), if_pos (by assumption)]) | (rw [if_neg (by omega), if_neg (by assumption)]), by simp only [xgBack]; first | (rw [if_pos (by omega)]) | (rw [if_neg (by omega), if_pos (by assumption)]) | (rw [if_neg (by omega), if_neg (by assumption)]; rfl), by simp only [xnBack]; first | (rw [if_pos (by omega)]) | (rw [if_neg (by omega), if_pos (by assumption)]) | (rw [if_neg (by omega), if_neg (by assumption)]; rfl)⟩
        · refine r_aald (pc := 40) dX10_back_40 hX.a2 (by decide) (by decide) (by decide) (fun p_ hp_ => ?_) (fun hp_ => absurd (hp_.symm.trans hX.e1) (by simp))
          obtain rfl : p_ = 96 := Option.some.inj (hp_.symm.trans hX.e1)
          refine r_callV (pc := 41) (As := [(.ref 96)]) (S := []) dX10_back_41 cv_X10_214 hX.o0.k rfl (Nat.le_of_ble_eq_true rfl) (x_copyFrom l z _ hX.o0 hX.i1 (by decide) (hT96)) (Nat.zero_le _) (Nat.zero_le _) (fun r_41 g_41 f_41 q_41 => ?_)
          obtain ⟨rfl, rfl, rfl⟩ := q_41
          have hX := hX.to (cpR_sh g 99 68 6) (cpR_hr hX.o0.a2.1)
          refine r_aload_n (pc := 44) 0 dX10_back_44 rfl rfl ?_
          refine r_callV (pc := 45) (As := []) (S := []) dX10_back_45 cv_X10_93 hX.k rfl (Nat.le_of_ble_eq_true rfl) (x_drop l z _ hX) (Nat.zero_le _) (Nat.zero_le _) (fun r_45 g_45 f_45 q_45 => ?_)
          obtain ⟨rfl, rfl, rfl⟩ := q_45
          refine r_aload_n (pc := 48) 0 dX10_back_48 rfl rfl ?_
          refine r_iconst (pc := 49) dX10_back_49 ?_
          refine r_callV (pc := 50) (As := [(.int (iI (0)))]) (S := []) dX10_back_50 cv_X10_100 hX.k rfl (Nat.le_of_ble_eq_true rfl) (x_accept l z _ _ hX) (Nat.zero_le _) (Nat.zero_le _) (fun r_50 g_50 f_50 q_50 => ?_)
          obtain ⟨rfl, rfl, rfl⟩ := q_50
          exact r_iret (pc := 53) dX10_back_53 rfl rfl ⟨by simp only [xaBack]; first | (rw [if_pos (by omega)]) | (rw [if_neg (by omega), if_pos (by assumption)]) | (rw [if_neg (by omega), if_neg (by assumption)]), by simp only [xgBack]; first | (rw [if_pos (by omega)]) | (rw [if_neg (by omega), if_pos (by assumption)]) | (rw [if_neg (by omega), if_neg (by assumption)]; rfl), by simp only [xnBack]; first | (rw [if_pos (by omega)]) | (rw [if_neg (by omega), if_pos (by assumption)]) | (rw [if_neg (by omega), if_neg (by assumption)]; rfl)⟩
      · refine r_aload_n (pc := 24) 0 dX10_back_24 rfl rfl ?_
        refine r_bipush (pc := 25) dX10_back_25 (by decide) ?_
        refine r_callV (pc := 27) (As := [(.int (iI (-2)))]) (S := []) dX10_back_27 cv_X10_85 hX.k rfl (Nat.le_of_ble_eq_true rfl) (x_refuse l z _ hX (by omega)) (Nat.zero_le _) (Nat.zero_le _) (fun r_27 g_27 f_27 q_27 => ?_)
        obtain ⟨rfl, rfl, rfl⟩ := q_27
        exact r_iret (pc := 30) dX10_back_30 rfl rfl ⟨by simp only [xaBack]; first | (rw [if_pos (by omega)]) | (rw [if_neg (by omega), if_pos (by assumption)]) | (rw [if_neg (by omega), if_neg (by assumption)]), by simp only [xgBack]; first | (rw [if_pos (by omega)]) | (rw [if_neg (by omega), if_pos (by assumption)]) | (rw [if_neg (by omega), if_neg (by assumption)]; rfl), by simp only [xnBack]; first | (rw [if_pos (by omega)]) | (rw [if_neg (by omega), if_pos (by assumption)]) | (rw [if_neg (by omega), if_neg (by assumption)]; rfl)⟩
    · refine r_aload_n (pc := 9) 0 dX10_back_9 rfl rfl ?_
      refine r_iconst (pc := 10) dX10_back_10 ?_
      refine r_callV (pc := 11) (As := [(.int (iI (-1)))]) (S := []) dX10_back_11 cv_X10_85 hX.k rfl (Nat.le_of_ble_eq_true rfl) (x_refuse l z _ hX (by omega)) (Nat.zero_le _) (Nat.zero_le _) (fun r_11 g_11 f_11 q_11 => ?_)
      obtain ⟨rfl, rfl, rfl⟩ := q_11
      exact r_iret (pc := 14) dX10_back_14 rfl rfl ⟨by simp only [xaBack]; first | (rw [if_pos (by omega)]) | (rw [if_neg (by omega), if_pos (by assumption)]) | (rw [if_neg (by omega), if_neg (by assumption)]), by simp only [xgBack]; first | (rw [if_pos (by omega)]) | (rw [if_neg (by omega), if_pos (by assumption)]) | (rw [if_neg (by omega), if_neg (by assumption)]; rfl), by simp only [xnBack]; first | (rw [if_pos (by omega)]) | (rw [if_neg (by omega), if_pos (by assumption)]) | (rw [if_neg (by omega), if_neg (by assumption)]; rfl)⟩

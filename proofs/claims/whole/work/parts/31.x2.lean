def wel (f : Fm) (b : Nat) (x y v c : Int) : Fm := stF (stF (stF (stF (stF (stF f (b + 1) (0 * 8 + c).toNat x) (b + 1) (1 * 8 + c).toNat y) (b + 1) (2 * 8 + c).toNat v) (b + 1) (3 * 8 + c).toNat 0) (b + 1) (4 * 8 + c).toNat 0) b 5 (c + 1)
def xaCustomer (f : Fm) (b r v : Int) : Int := if ¬ ((0 ≤ b ∧ b ≤ 40) ∧ (0 ≤ r ∧ r ≤ 9) ∧ (0 ≤ v ∧ v ≤ 1)) then -1 else if f 65 5 = 8 then -5 else f 65 5
def xnCustomer (f : Fm) (b r v : Int) : Fm := if ¬ ((0 ≤ b ∧ b ≤ 40) ∧ (0 ≤ r ∧ r ≤ 9) ∧ (0 ≤ v ∧ v ≤ 1)) then xrf f (-1) else if f 65 5 = 8 then xrf f (-5) else stF (wel (drp f) 65 b r v (f 65 5)) 64 16 0
def xaPut (f : Fm) (c w v : Int) : Int := if ¬ (0 ≤ v ∧ (w = 0 ∧ v ≤ 40 ∨ w = 1 ∧ v ≤ 9 ∨ w = 2 ∧ v ≤ 1 ∨ w = 3 ∧ v ≤ 9999 ∨ w = 4 ∧ v ≤ 999999)) then -1 else if ¬ (0 ≤ c ∧ c < f 65 5) then -2 else f 66 (w * 8 + c).toNat
def xnPut (f : Fm) (c w v : Int) : Fm := if ¬ (0 ≤ v ∧ (w = 0 ∧ v ≤ 40 ∨ w = 1 ∧ v ≤ 9 ∨ w = 2 ∧ v ≤ 1 ∨ w = 3 ∧ v ≤ 9999 ∨ w = 4 ∧ v ≤ 999999)) then xrf f (-1) else if ¬ (0 ≤ c ∧ c < f 65 5) then xrf f (-2) else stF (drp (stF f 66 (w * 8 + c).toNat v)) 64 16 0
def xaOwed (f : Fm) (c : Int) : Int := if 0 ≤ c ∧ c < f 65 5 then f 66 (4 * 8 + c).toNat - f 67 0 * f 66 (3 * 8 + c).toNat else -1000000000
def xaTerms (f : Fm) (w v : Int) : Int := if ¬ (w = 0 ∧ 2 ≤ v ∧ v ≤ 20 ∨ w = 1 ∧ 0 ≤ v ∧ v ≤ 9 ∨ w = 2 ∧ 0 ≤ v ∧ v ≤ 9999 ∨ w = 3 ∧ 0 ≤ v ∧ v ≤ 999999 ∨ w = 4 ∧ 0 ≤ v ∧ v ≤ 999999) then -1 else f 67 w.toNat
def xnTerms (f : Fm) (w v : Int) : Fm := if ¬ (w = 0 ∧ 2 ≤ v ∧ v ≤ 20 ∨ w = 1 ∧ 0 ≤ v ∧ v ≤ 9 ∨ w = 2 ∧ 0 ≤ v ∧ v ≤ 9999 ∨ w = 3 ∧ 0 ≤ v ∧ v ≤ 999999 ∨ w = 4 ∧ 0 ≤ v ∧ v ≤ 999999) then xrf f (-1) else stF (drp (stF f 67 w.toNat v)) 64 16 0
def xaEnd (f : Fm) (n : Int) : Int := if 0 ≤ n ∧ n ≤ f 107 4 then n else -1
def xnEnd (f : Fm) (n : Int) : Fm := if 0 ≤ n ∧ n ≤ f 107 4 then stF f 107 4 n else f
def xaForce (f : Fm) (n : Int) : Int := if ¬ (-1 ≤ n ∧ n ≤ f 65 6 - 1) then -2 else f 65 7
def xnForce (f : Fm) (n : Int) : Fm := if ¬ (-1 ≤ n ∧ n ≤ f 65 6 - 1) then xrf f (-2) else stF (drp (stF f 65 7 n)) 64 16 0
def xaSay (f : Fm) (b : Nat) (c v : Int) : Int := if ¬ (0 ≤ v ∧ v ≤ 20) then -1 else if ¬ (0 ≤ c ∧ c < f 65 5) then -2 else if f b 2 = 8 then -5 else f b 2 + 1
def xnSay (f : Fm) (b : Nat) (c v : Int) : Fm := if ¬ (0 ≤ v ∧ v ≤ 20) then xrf f (-1) else if ¬ (0 ≤ c ∧ c < f 65 5) then xrf f (-2) else if f b 2 = 8 then xrf f (-5) else stF (stF (stF (stF f (b + 1) (f b 2).toNat c) (b + 2) (f b 2).toNat v) b 2 (f b 2 + 1)) 64 16 0
def xnForget (f : Fm) : Fm := stF (stF (stF f 69 2 0) 72 2 0) 145 4 0
def xaDrawn (f : Fm) (c w : Int) : Int := if ¬ (0 ≤ c ∧ c < f 157 3) ∨ ¬ (0 ≤ w ∧ w ≤ 1) then -1 else if w = 0 then f 158 c.toNat else f 159 c.toNat
def xaCount (f : Fm) (w : Int) : Int := if 5 ≤ w ∧ w ≤ 9 then f 161 (w - 5).toNat else if 11 ≤ w ∧ w ≤ 15 then f 67 (w - 11).toNat else if w = 0 then f 65 5 else if w = 1 then f 65 6 else if w = 2 then f 69 2 else if w = 3 then f 72 2 else if w = 4 then f 107 4 else if w = 10 then f 65 7 else -1
def xaBlessed (f : Fm) (n w : Int) : Int := if ¬ (1 ≤ n ∧ n ≤ 1000000) ∨ ¬ (0 ≤ w ∧ w ≤ 1) then -1 else if w = 1 then blA (f 67 0) (f 67 1) n else blA (f 67 0) (f 67 1) n - blA (f 67 0) (f 67 1) (n - 1)

set_option maxRecDepth 100000 in
set_option maxHeartbeats 4000000 in
theorem x_welcome (l : Launch) (z : Zv) (d : Nat) {g : Gm} {f : Fm} {b : Nat} {x y v c : Int} (hB : BL g b) (hc : f b 5 = c) (h7 : 0 ≤ c ∧ c ≤ 7) : PM l z (d + 1) mX1_welcome [(.ref b), (.int (iI (x))), (.int (iI (y))), (.int (iI (v)))] g f 0 0 (rdQ (.int (iI c)) g (wel f b x y v c)) := by
  refine PM.of (by decide +kernel) (Nat.le_of_ble_eq_true rfl) ?_
  refine r_aload_n (pc := 0) 0 dX1_welcome_0 rfl rfl ?_
  refine r_getIv (pc := 1) (x := c) dX1_welcome_1 fl_X1_38 rfl hB.k (hc) ?_
  refine r_istore (pc := 4) (L2 := [(4, (.int (iI (c)))), (0, (.ref b)), (1, (.int (iI (x)))), (2, (.int (iI (y)))), (3, (.int (iI (v))))]) dX1_welcome_4 (by decide) rfl ?_
  refine r_aload_n (pc := 6) 1 dX1_welcome_6 rfl rfl ?_
  refine r_iconst (pc := 7) dX1_welcome_7 ?_
  refine r_iload (pc := 8) 0 dX1_welcome_8 rfl ?_
  refine r_iload_n (pc := 10) 2 dX1_welcome_10 rfl rfl ?_
  refine r_callV (pc := 11) (As := [(.int (iI (0))), (.int (iI (c))), (.int (iI (x)))]) (S := []) dX1_welcome_11 cv_X1_45 hB.k rfl (Nat.le_of_ble_eq_true rfl) (c_setTrait l z _ f (x) hB (by omega) (by omega)) (Nat.zero_le _) (Nat.zero_le _) (fun r_11 g_11 f_11 q_11 => ?_)
  obtain ⟨rfl, rfl, rfl⟩ := q_11
  refine r_aload_n (pc := 14) 1 dX1_welcome_14 rfl rfl ?_
  refine r_iconst (pc := 15) dX1_welcome_15 ?_
  refine r_iload (pc := 16) 0 dX1_welcome_16 rfl ?_
  refine r_iload_n (pc := 18) 3 dX1_welcome_18 rfl rfl ?_
  refine r_callV (pc := 19) (As := [(.int (iI (1))), (.int (iI (c))), (.int (iI (y)))]) (S := []) dX1_welcome_19 cv_X1_45 hB.k rfl (Nat.le_of_ble_eq_true rfl) (c_setTrait l z _ (stF f (b + 1) ((0) * 8 + (c)).toNat (x)) (y) hB (by omega) (by omega)) (Nat.zero_le _) (Nat.zero_le _) (fun r_19 g_19 f_19 q_19 => ?_)
  obtain ⟨rfl, rfl, rfl⟩ := q_19
  refine r_aload_n (pc := 22) 1 dX1_welcome_22 rfl rfl ?_
  refine r_iconst (pc := 23) dX1_welcome_23 ?_
  refine r_iload (pc := 24) 0 dX1_welcome_24 rfl ?_
  refine r_iload_n (pc := 26) 4 dX1_welcome_26 rfl rfl ?_
  refine r_callV (pc := 27) (As := [(.int (iI (2))), (.int (iI (c))), (.int (iI (v)))]) (S := []) dX1_welcome_27 cv_X1_45 hB.k rfl (Nat.le_of_ble_eq_true rfl) (c_setTrait l z _ (stF (stF f (b + 1) ((0) * 8 + (c)).toNat (x)) (b + 1) ((1) * 8 + (c)).toNat (y)) (v) hB (by omega) (by omega)) (Nat.zero_le _) (Nat.zero_le _) (fun r_27 g_27 f_27 q_27 => ?_)
  obtain ⟨rfl, rfl, rfl⟩ := q_27
  refine r_aload_n (pc := 30) 1 dX1_welcome_30 rfl rfl ?_
  refine r_iconst (pc := 31) dX1_welcome_31 ?_
  refine r_iload (pc := 32) 0 dX1_welcome_32 rfl ?_
  refine r_iconst (pc := 34) dX1_welcome_34 ?_
  refine r_callV (pc := 35) (As := [(.int (iI (3))), (.int (iI (c))), (.int (iI (0)))]) (S := []) dX1_welcome_35 cv_X1_45 hB.k rfl (Nat.le_of_ble_eq_true rfl) (c_setTrait l z _ (stF (stF (stF f (b + 1) ((0) * 8 + (c)).toNat (x)) (b + 1) ((1) * 8 + (c)).toNat (y)) (b + 1) ((2) * 8 + (c)).toNat (v)) (0) hB (by omega) (by omega)) (Nat.zero_le _) (Nat.zero_le _) (fun r_35 g_35 f_35 q_35 => ?_)
  obtain ⟨rfl, rfl, rfl⟩ := q_35
  refine r_aload_n (pc := 38) 1 dX1_welcome_38 rfl rfl ?_
  refine r_iconst (pc := 39) dX1_welcome_39 ?_
  refine r_iload (pc := 40) 0 dX1_welcome_40 rfl ?_
  refine r_iconst (pc := 42) dX1_welcome_42 ?_
  refine r_callV (pc := 43) (As := [(.int (iI (4))), (.int (iI (c))), (.int (iI (0)))]) (S := []) dX1_welcome_43 cv_X1_45 hB.k rfl (Nat.le_of_ble_eq_true rfl) (c_setTrait l z _ (stF (stF (stF (stF f (b + 1) ((0) * 8 + (c)).toNat (x)) (b + 1) ((1) * 8 + (c)).toNat (y)) (b + 1) ((2) * 8 + (c)).toNat (v)) (b + 1) ((3) * 8 + (c)).toNat (0)) (0) hB (by omega) (by omega)) (Nat.zero_le _) (Nat.zero_le _) (fun r_43 g_43 f_43 q_43 => ?_)
  obtain ⟨rfl, rfl, rfl⟩ := q_43
  refine r_aload_n (pc := 46) 1 dX1_welcome_46 rfl rfl ?_
  refine r_dup (pc := 47) dX1_welcome_47 rfl ?_
  refine r_getIv (pc := 48) (x := c) dX1_welcome_48 fl_X1_38 rfl hB.k (by simp only [stF]; rw [if_neg (by omega), if_neg (by omega), if_neg (by omega), if_neg (by omega), if_neg (by omega)]; exact hc) ?_
  refine r_iconst (pc := 51) dX1_welcome_51 ?_
  refine r_iadd (pc := 52) dX1_welcome_52 ?_
  refine r_putI (pc := 53) dX1_welcome_53 fl_X1_38 rfl rfl hB.k ?_
  refine r_iload (pc := 56) 0 dX1_welcome_56 rfl ?_
  exact r_iret (pc := 58) dX1_welcome_58 rfl rfl ⟨rfl, rfl, rfl⟩

set_option maxRecDepth 100000 in
set_option maxHeartbeats 4000000 in
theorem x_customer (l : Launch) (z : Zv) (d : Nat) {g : Gm} {f : Fm} {b r v : Int} (hX : XL g) (h5 : 0 ≤ f 65 5 ∧ f 65 5 ≤ 8) (hb : -2147483648 ≤ b ∧ b ≤ 2147483647) (hr : -2147483648 ≤ r ∧ r ≤ 2147483647) (hv : -2147483648 ≤ v ∧ v ≤ 2147483647) : PM l z (d + 2) mX10_customer [(.ref 64), (.int (iI (b))), (.int (iI (r))), (.int (iI (v)))] g f 0 0 (rdQ (.int (iI (xaCustomer f b r v))) g (xnCustomer f b r v)) := by
  refine PM.of (by decide +kernel) (Nat.le_of_ble_eq_true rfl) ?_
  refine r_iconst (pc := 0) dX10_customer_0 ?_
  refine r_iload_n (pc := 1) 1 dX10_customer_1 rfl rfl ?_
  refine r_callS (pc := 2) (As := [(.int (iI (0))), (.int (iI (b)))]) (S := []) dX10_customer_2 cs_X10_81 rfl (Nat.le_of_ble_eq_true rfl) (x_can l z _ (by omega) (by omega)) (Nat.zero_le _) (Nat.zero_le _) (fun r_2 g_2 f_2 q_2 => ?_)
  obtain ⟨rfl, rfl, rfl⟩ := q_2
  refine r_if_eq (pc := 5) (tgt := 24) dX10_customer_5 (by decide) (b01_r) (fun c_5 => ?_) (fun c_5 => ?_)
  · replace c_5 := b01_z c_5
    refine r_aload_n (pc := 24) 0 dX10_customer_24 rfl rfl ?_
    refine r_iconst (pc := 25) dX10_customer_25 ?_
    refine r_callV (pc := 26) (As := [(.int (iI (-1)))]) (S := []) dX10_customer_26 cv_X10_85 hX.k rfl (Nat.le_of_ble_eq_true rfl) (x_refuse l z _ hX (by omega)) (Nat.zero_le _) (Nat.zero_le _) (fun r_26 g_26 f_26 q_26 => ?_)
    obtain ⟨rfl, rfl, rfl⟩ := q_26
    exact r_iret (pc := 29) dX10_customer_29 rfl rfl ⟨by simp only [xaCustomer]; (repeat' split) <;> first | rfl | (exfalso; omega), rfl, by simp only [xnCustomer]; (repeat' split) <;> first | rfl | (exfalso; omega)⟩
  · replace c_5 := b01_nz c_5
    refine r_iconst (pc := 8) dX10_customer_8 ?_
    refine r_iload_n (pc := 9) 2 dX10_customer_9 rfl rfl ?_
    refine r_callS (pc := 10) (As := [(.int (iI (1))), (.int (iI (r)))]) (S := []) dX10_customer_10 cs_X10_81 rfl (Nat.le_of_ble_eq_true rfl) (x_can l z _ (by omega) (by omega)) (Nat.zero_le _) (Nat.zero_le _) (fun r_10 g_10 f_10 q_10 => ?_)
    obtain ⟨rfl, rfl, rfl⟩ := q_10
    refine r_if_eq (pc := 13) (tgt := 24) dX10_customer_13 (by decide) (b01_r) (fun c_13 => ?_) (fun c_13 => ?_)
    · replace c_13 := b01_z c_13
      refine r_aload_n (pc := 24) 0 dX10_customer_24 rfl rfl ?_
      refine r_iconst (pc := 25) dX10_customer_25 ?_
      refine r_callV (pc := 26) (As := [(.int (iI (-1)))]) (S := []) dX10_customer_26 cv_X10_85 hX.k rfl (Nat.le_of_ble_eq_true rfl) (x_refuse l z _ hX (by omega)) (Nat.zero_le _) (Nat.zero_le _) (fun r_26 g_26 f_26 q_26 => ?_)
      obtain ⟨rfl, rfl, rfl⟩ := q_26
      exact r_iret (pc := 29) dX10_customer_29 rfl rfl ⟨by simp only [xaCustomer]; (repeat' split) <;> first | rfl | (exfalso; omega), rfl, by simp only [xnCustomer]; (repeat' split) <;> first | rfl | (exfalso; omega)⟩
    · replace c_13 := b01_nz c_13
      refine r_iconst (pc := 16) dX10_customer_16 ?_
      refine r_iload_n (pc := 17) 3 dX10_customer_17 rfl rfl ?_
      refine r_callS (pc := 18) (As := [(.int (iI (2))), (.int (iI (v)))]) (S := []) dX10_customer_18 cs_X10_81 rfl (Nat.le_of_ble_eq_true rfl) (x_can l z _ (by omega) (by omega)) (Nat.zero_le _) (Nat.zero_le _) (fun r_18 g_18 f_18 q_18 => ?_)
      obtain ⟨rfl, rfl, rfl⟩ := q_18
      refine r_if_ne (pc := 21) (tgt := 30) dX10_customer_21 (by decide) (b01_r) (fun c_21 => ?_) (fun c_21 => ?_)
      · replace c_21 := b01_nz c_21
        refine r_aload_n (pc := 30) 0 dX10_customer_30 rfl rfl ?_
        refine r_getR (pc := 31) (b := 65) dX10_customer_31 fl_X10_10 rfl hX.k hX.r0 ?_
        refine r_getI (pc := 34) dX10_customer_34 fl_X10_89 rfl hX.o0.k ?_
        refine r_bipush (pc := 37) dX10_customer_37 (by decide) ?_
        refine r_icmp_lt (pc := 39) (tgt := 49) dX10_customer_39 (by decide) (by omega) (by omega) (fun c_39 => ?_) (fun c_39 => ?_)
        · refine r_aload_n (pc := 49) 0 dX10_customer_49 rfl rfl ?_
          refine r_callV (pc := 50) (As := []) (S := []) dX10_customer_50 cv_X10_93 hX.k rfl (Nat.le_of_ble_eq_true rfl) (x_drop l z _ hX) (Nat.zero_le _) (Nat.zero_le _) (fun r_50 g_50 f_50 q_50 => ?_)
          obtain ⟨rfl, rfl, rfl⟩ := q_50
          refine r_aload_n (pc := 53) 0 dX10_customer_53 rfl rfl ?_
          refine r_aload_n (pc := 54) 0 dX10_customer_54 rfl rfl ?_
          refine r_getR (pc := 55) (b := 65) dX10_customer_55 fl_X10_10 rfl hX.k hX.r0 ?_
          refine r_iload_n (pc := 58) 1 dX10_customer_58 rfl rfl ?_
          refine r_iload_n (pc := 59) 2 dX10_customer_59 rfl rfl ?_
          refine r_iload_n (pc := 60) 3 dX10_customer_60 rfl rfl ?_
          refine r_callV (pc := 61) (As := [(.int (iI (b))), (.int (iI (r))), (.int (iI (v)))]) (S := [(.ref 64)]) dX10_customer_61 cv_X10_96 hX.o0.k rfl (Nat.le_of_ble_eq_true rfl) (x_welcome l z _ hX.o0 (by simp [drp, stF]; rfl) (by omega)) (Nat.zero_le _) (Nat.zero_le _) (fun r_61 g_61 f_61 q_61 => ?_)
          obtain ⟨rfl, rfl, rfl⟩ := q_61
          refine r_callV (pc := 64) (As := [(.int (iI (f 65 5)))]) (S := []) dX10_customer_64 cv_X10_100 hX.k rfl (Nat.le_of_ble_eq_true rfl) (x_accept l z _ _ hX) (Nat.zero_le _) (Nat.zero_le _) (fun r_64 g_64 f_64 q_64 => ?_)
          obtain ⟨rfl, rfl, rfl⟩ := q_64
          exact r_iret (pc := 67) dX10_customer_67 rfl rfl ⟨by simp only [xaCustomer]; (repeat' split) <;> first | rfl | (exfalso; omega), rfl, by simp only [xnCustomer]; (repeat' split) <;> first | rfl | (exfalso; omega)⟩
        · refine r_aload_n (pc := 42) 0 dX10_customer_42 rfl rfl ?_
          refine r_bipush (pc := 43) dX10_customer_43 (by decide) ?_
          refine r_callV (pc := 45) (As := [(.int (iI (-5)))]) (S := []) dX10_customer_45 cv_X10_85 hX.k rfl (Nat.le_of_ble_eq_true rfl) (x_refuse l z _ hX (by omega)) (Nat.zero_le _) (Nat.zero_le _) (fun r_45 g_45 f_45 q_45 => ?_)
          obtain ⟨rfl, rfl, rfl⟩ := q_45
          exact r_iret (pc := 48) dX10_customer_48 rfl rfl ⟨by simp only [xaCustomer]; (repeat' split) <;> first | rfl | (exfalso; omega), rfl, by simp only [xnCustomer]; (repeat' split) <;> first | rfl | (exfalso; omega)⟩
      · replace c_21 := b01_z c_21
        refine r_aload_n (pc := 24) 0 dX10_customer_24 rfl rfl ?_
        refine r_iconst (pc := 25) dX10_customer_25 ?_
        refine r_callV (pc := 26) (As := [(.int (iI (-1)))]) (S := []) dX10_customer_26 cv_X10_85 hX.k rfl (Nat.le_of_ble_eq_true rfl) (x_refuse l z _ hX (by omega)) (Nat.zero_le _) (Nat.zero_le _) (fun r_26 g_26 f_26 q_26 => ?_)
        obtain ⟨rfl, rfl, rfl⟩ := q_26
        exact r_iret (pc := 29) dX10_customer_29 rfl rfl ⟨by simp only [xaCustomer]; (repeat' split) <;> first | rfl | (exfalso; omega), rfl, by simp only [xnCustomer]; (repeat' split) <;> first | rfl | (exfalso; omega)⟩

set_option maxRecDepth 100000 in
set_option maxHeartbeats 4000000 in
theorem x_put (l : Launch) (z : Zv) (d : Nat) {g : Gm} {f : Fm} {c w v : Int} (hX : XL g) (h5 : 0 ≤ f 65 5 ∧ f 65 5 ≤ 8) (hc : -2147483648 ≤ c ∧ c ≤ 2147483647) (hw : -2147483648 ≤ w ∧ w ≤ 2147483647) (hv : -2147483648 ≤ v ∧ v ≤ 2147483647) : PM l z (d + 2) mX10_put [(.ref 64), (.int (iI (c))), (.int (iI (w))), (.int (iI (v)))] g f 0 0 (rdQ (.int (iI (xaPut f c w v))) g (xnPut f c w v)) := by
  refine PM.of (by decide +kernel) (Nat.le_of_ble_eq_true rfl) ?_
  refine r_iload_n (pc := 0) 2 dX10_put_0 rfl rfl ?_
  refine r_iload_n (pc := 1) 3 dX10_put_1 rfl rfl ?_
  refine r_callS (pc := 2) (As := [(.int (iI (w))), (.int (iI (v)))]) (S := []) dX10_put_2 cs_X10_81 rfl (Nat.le_of_ble_eq_true rfl) (x_can l z _ (by omega) (by omega)) (Nat.zero_le _) (Nat.zero_le _) (fun r_2 g_2 f_2 q_2 => ?_)
  obtain ⟨rfl, rfl, rfl⟩ := q_2
  refine r_if_ne (pc := 5) (tgt := 14) dX10_put_5 (by decide) (b01_r) (fun c_5 => ?_) (fun c_5 => ?_)
  · replace c_5 := b01_nz c_5
    refine r_aload_n (pc := 14) 0 dX10_put_14 rfl rfl ?_
    refine r_getR (pc := 15) (b := 65) dX10_put_15 fl_X10_10 rfl hX.k hX.r0 ?_
    refine r_iload_n (pc := 18) 1 dX10_put_18 rfl rfl ?_
    refine r_callV (pc := 19) (As := [(.int (iI (c)))]) (S := []) dX10_put_19 cv_X10_103 hX.o0.k rfl (Nat.le_of_ble_eq_true rfl) (c_knows l z _ hX.o0 (by omega) (by omega)) (Nat.zero_le _) (Nat.zero_le _) (fun r_19 g_19 f_19 q_19 => ?_)
    obtain ⟨rfl, rfl, rfl⟩ := q_19
    refine r_if_ne (pc := 22) (tgt := 32) dX10_put_22 (by decide) (b01_r) (fun c_22 => ?_) (fun c_22 => ?_)
    · replace c_22 := b01_nz c_22
      refine r_aload_n (pc := 32) 0 dX10_put_32 rfl rfl ?_
      refine r_getR (pc := 33) (b := 65) dX10_put_33 fl_X10_10 rfl hX.k hX.r0 ?_
      refine r_iload_n (pc := 36) 2 dX10_put_36 rfl rfl ?_
      refine r_iload_n (pc := 37) 1 dX10_put_37 rfl rfl ?_
      refine r_callV (pc := 38) (As := [(.int (iI (w))), (.int (iI (c)))]) (S := []) dX10_put_38 cv_X10_107 hX.o0.k rfl (Nat.le_of_ble_eq_true rfl) (c_trait l z _ f hX.o0 (by omega) (by omega)) (Nat.zero_le _) (Nat.zero_le _) (fun r_38 g_38 f_38 q_38 => ?_)
      obtain ⟨rfl, rfl, rfl⟩ := q_38
      refine r_istore (pc := 41) (L2 := [(4, (.int (iI (f 66 ((w) * 8 + (c)).toNat)))), (0, (.ref 64)), (1, (.int (iI (c)))), (2, (.int (iI (w)))), (3, (.int (iI (v))))]) dX10_put_41 (by decide) rfl ?_
      refine r_aload_n (pc := 43) 1 dX10_put_43 rfl rfl ?_
      refine r_getR (pc := 44) (b := 65) dX10_put_44 fl_X10_10 rfl hX.k hX.r0 ?_
      refine r_iload_n (pc := 47) 3 dX10_put_47 rfl rfl ?_
      refine r_iload_n (pc := 48) 2 dX10_put_48 rfl rfl ?_
      refine r_iload_n (pc := 49) 4 dX10_put_49 rfl rfl ?_
      refine r_callV (pc := 50) (As := [(.int (iI (w))), (.int (iI (c))), (.int (iI (v)))]) (S := []) dX10_put_50 cv_X10_111 hX.o0.k rfl (Nat.le_of_ble_eq_true rfl) (c_setTrait l z _ f (v) hX.o0 (by omega) (by omega)) (Nat.zero_le _) (Nat.zero_le _) (fun r_50 g_50 f_50 q_50 => ?_)
      obtain ⟨rfl, rfl, rfl⟩ := q_50
      refine r_aload_n (pc := 53) 1 dX10_put_53 rfl rfl ?_
      refine r_callV (pc := 54) (As := []) (S := []) dX10_put_54 cv_X10_93 hX.k rfl (Nat.le_of_ble_eq_true rfl) (x_drop l z _ hX) (Nat.zero_le _) (Nat.zero_le _) (fun r_54 g_54 f_54 q_54 => ?_)
      obtain ⟨rfl, rfl, rfl⟩ := q_54
      refine r_aload_n (pc := 57) 1 dX10_put_57 rfl rfl ?_
      refine r_iload (pc := 58) 0 dX10_put_58 rfl ?_
      refine r_callV (pc := 60) (As := [(.int (iI (f 66 ((w) * 8 + (c)).toNat)))]) (S := []) dX10_put_60 cv_X10_100 hX.k rfl (Nat.le_of_ble_eq_true rfl) (x_accept l z _ _ hX) (Nat.zero_le _) (Nat.zero_le _) (fun r_60 g_60 f_60 q_60 => ?_)
      obtain ⟨rfl, rfl, rfl⟩ := q_60
      exact r_iret (pc := 63) dX10_put_63 rfl rfl ⟨by simp only [xaPut]; (repeat' split) <;> first | rfl | (exfalso; omega), rfl, by simp only [xnPut]; (repeat' split) <;> first | rfl | (exfalso; omega)⟩
    · replace c_22 := b01_z c_22
      refine r_aload_n (pc := 25) 0 dX10_put_25 rfl rfl ?_
      refine r_bipush (pc := 26) dX10_put_26 (by decide) ?_
      refine r_callV (pc := 28) (As := [(.int (iI (-2)))]) (S := []) dX10_put_28 cv_X10_85 hX.k rfl (Nat.le_of_ble_eq_true rfl) (x_refuse l z _ hX (by omega)) (Nat.zero_le _) (Nat.zero_le _) (fun r_28 g_28 f_28 q_28 => ?_)
      obtain ⟨rfl, rfl, rfl⟩ := q_28
      exact r_iret (pc := 31) dX10_put_31 rfl rfl ⟨by simp only [xaPut]; (repeat' split) <;> first | rfl | (exfalso; omega), rfl, by simp only [xnPut]; (repeat' split) <;> first | rfl | (exfalso; omega)⟩
  · replace c_5 := b01_z c_5
    refine r_aload_n (pc := 8) 0 dX10_put_8 rfl rfl ?_
    refine r_iconst (pc := 9) dX10_put_9 ?_
    refine r_callV (pc := 10) (As := [(.int (iI (-1)))]) (S := []) dX10_put_10 cv_X10_85 hX.k rfl (Nat.le_of_ble_eq_true rfl) (x_refuse l z _ hX (by omega)) (Nat.zero_le _) (Nat.zero_le _) (fun r_10 g_10 f_10 q_10 => ?_)
    obtain ⟨rfl, rfl, rfl⟩ := q_10
    exact r_iret (pc := 13) dX10_put_13 rfl rfl ⟨by simp only [xaPut]; (repeat' split) <;> first | rfl | (exfalso; omega), rfl, by simp only [xnPut]; (repeat' split) <;> first | rfl | (exfalso; omega)⟩

set_option maxRecDepth 100000 in
set_option maxHeartbeats 4000000 in
theorem x_owed (l : Launch) (z : Zv) (d : Nat) {g : Gm} {f : Fm} {c : Int} (hX : XL g) (h5 : 0 ≤ f 65 5 ∧ f 65 5 ≤ 8) (hc : -2147483648 ≤ c ∧ c ≤ 2147483647) : PM l z (d + 1) mX10_owed [(.ref 64), (.int (iI (c)))] g f 0 0 (rdQ (.int (iI (xaOwed f c))) g f) := by
  refine PM.of (by decide +kernel) (Nat.le_of_ble_eq_true rfl) ?_
  refine r_aload_n (pc := 0) 0 dX10_owed_0 rfl rfl ?_
  refine r_getR (pc := 1) (b := 65) dX10_owed_1 fl_X10_10 rfl hX.k hX.r0 ?_
  refine r_iload_n (pc := 4) 1 dX10_owed_4 rfl rfl ?_
  refine r_callV (pc := 5) (As := [(.int (iI (c)))]) (S := []) dX10_owed_5 cv_X10_103 hX.o0.k rfl (Nat.le_of_ble_eq_true rfl) (c_knows l z _ hX.o0 (by omega) (by omega)) (Nat.zero_le _) (Nat.zero_le _) (fun r_5 g_5 f_5 q_5 => ?_)
  obtain ⟨rfl, rfl, rfl⟩ := q_5
  refine r_if_ne (pc := 8) (tgt := 14) dX10_owed_8 (by decide) (b01_r) (fun c_8 => ?_) (fun c_8 => ?_)
  · replace c_8 := b01_nz c_8
    refine r_aload_n (pc := 14) 0 dX10_owed_14 rfl rfl ?_
    refine r_getR (pc := 15) (b := 65) dX10_owed_15 fl_X10_10 rfl hX.k hX.r0 ?_
    refine r_iconst (pc := 18) dX10_owed_18 ?_
    refine r_iload_n (pc := 19) 1 dX10_owed_19 rfl rfl ?_
    refine r_callV (pc := 20) (As := [(.int (iI (4))), (.int (iI (c)))]) (S := []) dX10_owed_20 cv_X10_107 hX.o0.k rfl (Nat.le_of_ble_eq_true rfl) (c_trait l z _ f hX.o0 (by omega) (by omega)) (Nat.zero_le _) (Nat.zero_le _) (fun r_20 g_20 f_20 q_20 => ?_)
    obtain ⟨rfl, rfl, rfl⟩ := q_20
    refine r_aload_n (pc := 23) 0 dX10_owed_23 rfl rfl ?_
    refine r_getR (pc := 24) (b := 65) dX10_owed_24 fl_X10_10 rfl hX.k hX.r0 ?_
    refine r_getR (pc := 27) (b := 67) dX10_owed_27 fl_X10_123 rfl hX.o0.k hX.o0.r1 ?_
    refine r_iconst (pc := 30) dX10_owed_30 ?_
    refine r_ialdv (pc := 31) (w := f 67 0) dX10_owed_31 hX.o0.a1 (by decide) (by decide) rfl ?_
    refine r_aload_n (pc := 32) 0 dX10_owed_32 rfl rfl ?_
    refine r_getR (pc := 33) (b := 65) dX10_owed_33 fl_X10_10 rfl hX.k hX.r0 ?_
    refine r_iconst (pc := 36) dX10_owed_36 ?_
    refine r_iload_n (pc := 37) 1 dX10_owed_37 rfl rfl ?_
    refine r_callV (pc := 38) (As := [(.int (iI (3))), (.int (iI (c)))]) (S := [(.int (iI (f 67 0))), (.int (iI (f 66 ((4) * 8 + (c)).toNat)))]) dX10_owed_38 cv_X10_107 hX.o0.k rfl (Nat.le_of_ble_eq_true rfl) (c_trait l z _ f hX.o0 (by omega) (by omega)) (Nat.zero_le _) (Nat.zero_le _) (fun r_38 g_38 f_38 q_38 => ?_)
    obtain ⟨rfl, rfl, rfl⟩ := q_38
    refine r_imul (pc := 41) dX10_owed_41 ?_
    refine r_isub (pc := 42) dX10_owed_42 ?_
    exact r_iret (pc := 43) dX10_owed_43 rfl rfl ⟨by simp only [xaOwed]; (repeat' split) <;> first | rfl | (exfalso; omega), rfl, rfl⟩
  · replace c_8 := b01_z c_8
    refine r_ldc (pc := 11) (x := -1000000000) dX10_owed_11 kc_X10_122 (by decide) ?_
    exact r_iret (pc := 13) dX10_owed_13 rfl rfl ⟨by simp only [xaOwed]; (repeat' split) <;> first | rfl | (exfalso; omega), rfl, rfl⟩

set_option maxRecDepth 100000 in
set_option maxHeartbeats 4000000 in
theorem x_terms (l : Launch) (z : Zv) (d : Nat) {g : Gm} {f : Fm} {w v : Int} (hX : XL g) (hw : -2147483648 ≤ w ∧ w ≤ 2147483647) (hv : -2147483648 ≤ v ∧ v ≤ 2147483647) : PM l z (d + 2) mX10_terms [(.ref 64), (.int (iI (w))), (.int (iI (v)))] g f 0 0 (rdQ (.int (iI (xaTerms f w v))) g (xnTerms f w v)) := by
  refine PM.of (by decide +kernel) (Nat.le_of_ble_eq_true rfl) ?_
  refine r_iload_n (pc := 0) 1 dX10_terms_0 rfl rfl ?_
  refine r_if_lt (pc := 1) (tgt := 27) dX10_terms_1 (by decide) (by omega) (fun c_1 => ?_) (fun c_1 => ?_)
  · refine r_aload_n (pc := 27) 0 dX10_terms_27 rfl rfl ?_
    refine r_iconst (pc := 28) dX10_terms_28 ?_
    refine r_callV (pc := 29) (As := [(.int (iI (-1)))]) (S := []) dX10_terms_29 cv_X10_85 hX.k rfl (Nat.le_of_ble_eq_true rfl) (x_refuse l z _ hX (by omega)) (Nat.zero_le _) (Nat.zero_le _) (fun r_29 g_29 f_29 q_29 => ?_)
    obtain ⟨rfl, rfl, rfl⟩ := q_29
    exact r_iret (pc := 32) dX10_terms_32 rfl rfl ⟨by simp only [xaTerms]; (repeat' split) <;> first | rfl | (exfalso; omega), rfl, by simp only [xnTerms]; (repeat' split) <;> first | rfl | (exfalso; omega)⟩
  · refine r_iload_n (pc := 4) 1 dX10_terms_4 rfl rfl ?_
    refine r_iconst (pc := 5) dX10_terms_5 ?_
    refine r_icmp_ge (pc := 6) (tgt := 27) dX10_terms_6 (by decide) (by omega) (by omega) (fun c_6 => ?_) (fun c_6 => ?_)
    · refine r_aload_n (pc := 27) 0 dX10_terms_27 rfl rfl ?_
      refine r_iconst (pc := 28) dX10_terms_28 ?_
      refine r_callV (pc := 29) (As := [(.int (iI (-1)))]) (S := []) dX10_terms_29 cv_X10_85 hX.k rfl (Nat.le_of_ble_eq_true rfl) (x_refuse l z _ hX (by omega)) (Nat.zero_le _) (Nat.zero_le _) (fun r_29 g_29 f_29 q_29 => ?_)
      obtain ⟨rfl, rfl, rfl⟩ := q_29
      exact r_iret (pc := 32) dX10_terms_32 rfl rfl ⟨by simp only [xaTerms]; (repeat' split) <;> first | rfl | (exfalso; omega), rfl, by simp only [xnTerms]; (repeat' split) <;> first | rfl | (exfalso; omega)⟩
    · refine r_iload_n (pc := 9) 2 dX10_terms_9 rfl rfl ?_
      refine r_gets (pc := 10) (j := 1) dX10_terms_10 (by decide) sl_X10_126 ?_
      refine r_iload_n (pc := 13) 1 dX10_terms_13 rfl rfl ?_
      refine r_ialdS (pc := 14) dX10_terms_14 (by decide) (by have h5 : ((sct 1).length : Int) = 5 := rfl; omega) ?_
      have hs1 : (sct 1).getD w.toNat 0 = if w = 0 then 2 else if w = 1 then 0 else if w = 2 then 0 else if w = 3 then 0 else 0 := by
        rcases (show w = 0 ∨ w = 1 ∨ w = 2 ∨ w = 3 ∨ w = 4 by omega) with rfl | rfl | rfl | rfl | rfl <;> rfl
      rw [hs1]
      refine r_icmp_lt (pc := 15) (tgt := 27) dX10_terms_15 (by decide) (by omega) (by omega) (fun c_15 => ?_) (fun c_15 => ?_)
      · refine r_aload_n (pc := 27) 0 dX10_terms_27 rfl rfl ?_
        refine r_iconst (pc := 28) dX10_terms_28 ?_
        refine r_callV (pc := 29) (As := [(.int (iI (-1)))]) (S := []) dX10_terms_29 cv_X10_85 hX.k rfl (Nat.le_of_ble_eq_true rfl) (x_refuse l z _ hX (by omega)) (Nat.zero_le _) (Nat.zero_le _) (fun r_29 g_29 f_29 q_29 => ?_)
        obtain ⟨rfl, rfl, rfl⟩ := q_29
        exact r_iret (pc := 32) dX10_terms_32 rfl rfl ⟨by simp only [xaTerms]; (repeat' split) <;> first | rfl | (exfalso; omega), rfl, by simp only [xnTerms]; (repeat' split) <;> first | rfl | (exfalso; omega)⟩
      · refine r_iload_n (pc := 18) 2 dX10_terms_18 rfl rfl ?_
        refine r_gets (pc := 19) (j := 2) dX10_terms_19 (by decide) sl_X10_129 ?_
        refine r_iload_n (pc := 22) 1 dX10_terms_22 rfl rfl ?_
        refine r_ialdS (pc := 23) dX10_terms_23 (by decide) (by have h5 : ((sct 2).length : Int) = 5 := rfl; omega) ?_
        have hs2 : (sct 2).getD w.toNat 0 = if w = 0 then 20 else if w = 1 then 9 else if w = 2 then 9999 else if w = 3 then 999999 else 999999 := by
          rcases (show w = 0 ∨ w = 1 ∨ w = 2 ∨ w = 3 ∨ w = 4 by omega) with rfl | rfl | rfl | rfl | rfl <;> rfl
        rw [hs2]
        refine r_icmp_le (pc := 24) (tgt := 33) dX10_terms_24 (by decide) (by omega) (by omega) (fun c_24 => ?_) (fun c_24 => ?_)
        · refine r_aload_n (pc := 33) 0 dX10_terms_33 rfl rfl ?_
          refine r_getR (pc := 34) (b := 65) dX10_terms_34 fl_X10_10 rfl hX.k hX.r0 ?_
          refine r_getR (pc := 37) (b := 67) dX10_terms_37 fl_X10_123 rfl hX.o0.k hX.o0.r1 ?_
          refine r_iload_n (pc := 40) 1 dX10_terms_40 rfl rfl ?_
          refine r_iald (pc := 41) dX10_terms_41 hX.o0.a1 (by omega) (by decide) ?_
          refine r_istore_n (pc := 42) (L2 := [(3, (.int (iI (f 67 (w).toNat)))), (0, (.ref 64)), (1, (.int (iI (w)))), (2, (.int (iI (v))))]) dX10_terms_42 rfl (by decide) rfl ?_
          refine r_aload_n (pc := 43) 1 dX10_terms_43 rfl rfl ?_
          refine r_getR (pc := 44) (b := 65) dX10_terms_44 fl_X10_10 rfl hX.k hX.r0 ?_
          refine r_getR (pc := 47) (b := 67) dX10_terms_47 fl_X10_123 rfl hX.o0.k hX.o0.r1 ?_
          refine r_iload_n (pc := 50) 2 dX10_terms_50 rfl rfl ?_
          refine r_iload_n (pc := 51) 3 dX10_terms_51 rfl rfl ?_
          refine r_iast (pc := 52) dX10_terms_52 hX.o0.a1 (by omega) (by decide) ?_
          refine r_aload_n (pc := 53) 1 dX10_terms_53 rfl rfl ?_
          refine r_callV (pc := 54) (As := []) (S := []) dX10_terms_54 cv_X10_93 hX.k rfl (Nat.le_of_ble_eq_true rfl) (x_drop l z _ hX) (Nat.zero_le _) (Nat.zero_le _) (fun r_54 g_54 f_54 q_54 => ?_)
          obtain ⟨rfl, rfl, rfl⟩ := q_54
          refine r_aload_n (pc := 57) 1 dX10_terms_57 rfl rfl ?_
          refine r_iload_n (pc := 58) 0 dX10_terms_58 rfl rfl ?_
          refine r_callV (pc := 59) (As := [(.int (iI (f 67 (w).toNat)))]) (S := []) dX10_terms_59 cv_X10_100 hX.k rfl (Nat.le_of_ble_eq_true rfl) (x_accept l z _ _ hX) (Nat.zero_le _) (Nat.zero_le _) (fun r_59 g_59 f_59 q_59 => ?_)
          obtain ⟨rfl, rfl, rfl⟩ := q_59
          exact r_iret (pc := 62) dX10_terms_62 rfl rfl ⟨by simp only [xaTerms]; (repeat' split) <;> first | rfl | (exfalso; omega), rfl, by simp only [xnTerms]; (repeat' split) <;> first | rfl | (exfalso; omega)⟩
        · refine r_aload_n (pc := 27) 0 dX10_terms_27 rfl rfl ?_
          refine r_iconst (pc := 28) dX10_terms_28 ?_
          refine r_callV (pc := 29) (As := [(.int (iI (-1)))]) (S := []) dX10_terms_29 cv_X10_85 hX.k rfl (Nat.le_of_ble_eq_true rfl) (x_refuse l z _ hX (by omega)) (Nat.zero_le _) (Nat.zero_le _) (fun r_29 g_29 f_29 q_29 => ?_)
          obtain ⟨rfl, rfl, rfl⟩ := q_29
          exact r_iret (pc := 32) dX10_terms_32 rfl rfl ⟨by simp only [xaTerms]; (repeat' split) <;> first | rfl | (exfalso; omega), rfl, by simp only [xnTerms]; (repeat' split) <;> first | rfl | (exfalso; omega)⟩

set_option maxRecDepth 100000 in
set_option maxHeartbeats 4000000 in
theorem x_end (l : Launch) (z : Zv) (d : Nat) {g : Gm} {f : Fm} {n : Int} (hX : XL g) (h4 : 0 ≤ f 107 4 ∧ f 107 4 ≤ 400) (hn : -2147483648 ≤ n ∧ n ≤ 2147483647) : PM l z d mX10_end [(.ref 64), (.int (iI (n)))] g f 0 0 (rdQ (.int (iI (xaEnd f n))) g (xnEnd f n)) := by
  refine PM.of (by decide +kernel) (Nat.le_of_ble_eq_true rfl) ?_
  refine r_iload_n (pc := 0) 1 dX10_end_0 rfl rfl ?_
  refine r_if_lt (pc := 1) (tgt := 15) dX10_end_1 (by decide) (by omega) (fun c_1 => ?_) (fun c_1 => ?_)
  · refine r_iconst (pc := 15) dX10_end_15 ?_
    exact r_iret (pc := 16) dX10_end_16 rfl rfl ⟨by simp only [xaEnd]; (repeat' split) <;> first | rfl | (exfalso; omega), rfl, by simp only [xnEnd]; (repeat' split) <;> first | rfl | (exfalso; omega)⟩
  · refine r_iload_n (pc := 4) 1 dX10_end_4 rfl rfl ?_
    refine r_aload_n (pc := 5) 0 dX10_end_5 rfl rfl ?_
    refine r_getR (pc := 6) (b := 107) dX10_end_6 fl_X10_30 rfl hX.k hX.r4 ?_
    refine r_getI (pc := 9) dX10_end_9 fl_X10_132 rfl hX.o4.k ?_
    refine r_icmp_le (pc := 12) (tgt := 17) dX10_end_12 (by decide) (by omega) (by omega) (fun c_12 => ?_) (fun c_12 => ?_)
    · refine r_aload_n (pc := 17) 0 dX10_end_17 rfl rfl ?_
      refine r_getR (pc := 18) (b := 107) dX10_end_18 fl_X10_30 rfl hX.k hX.r4 ?_
      refine r_iload_n (pc := 21) 1 dX10_end_21 rfl rfl ?_
      refine r_putI (pc := 22) dX10_end_22 fl_X10_132 rfl rfl hX.o4.k ?_
      refine r_iload_n (pc := 25) 1 dX10_end_25 rfl rfl ?_
      exact r_iret (pc := 26) dX10_end_26 rfl rfl ⟨by simp only [xaEnd]; (repeat' split) <;> first | rfl | (exfalso; omega), rfl, by simp only [xnEnd]; (repeat' split) <;> first | rfl | (exfalso; omega)⟩
    · refine r_iconst (pc := 15) dX10_end_15 ?_
      exact r_iret (pc := 16) dX10_end_16 rfl rfl ⟨by simp only [xaEnd]; (repeat' split) <;> first | rfl | (exfalso; omega), rfl, by simp only [xnEnd]; (repeat' split) <;> first | rfl | (exfalso; omega)⟩

set_option maxRecDepth 100000 in
set_option maxHeartbeats 4000000 in
theorem x_force (l : Launch) (z : Zv) (d : Nat) {g : Gm} {f : Fm} {n : Int} (hX : XL g) (h6 : 0 ≤ f 65 6 ∧ f 65 6 ≤ 6) (hn : -2147483648 ≤ n ∧ n ≤ 2147483647) : PM l z (d + 2) mX10_force [(.ref 64), (.int (iI (n)))] g f 0 0 (rdQ (.int (iI (xaForce f n))) g (xnForce f n)) := by
  refine PM.of (by decide +kernel) (Nat.le_of_ble_eq_true rfl) ?_
  refine r_iload_n (pc := 0) 1 dX10_force_0 rfl rfl ?_
  refine r_iconst (pc := 1) dX10_force_1 ?_
  refine r_icmp_lt (pc := 2) (tgt := 16) dX10_force_2 (by decide) (by omega) (by omega) (fun c_2 => ?_) (fun c_2 => ?_)
  · refine r_aload_n (pc := 16) 0 dX10_force_16 rfl rfl ?_
    refine r_bipush (pc := 17) dX10_force_17 (by decide) ?_
    refine r_callV (pc := 19) (As := [(.int (iI (-2)))]) (S := []) dX10_force_19 cv_X10_85 hX.k rfl (Nat.le_of_ble_eq_true rfl) (x_refuse l z _ hX (by omega)) (Nat.zero_le _) (Nat.zero_le _) (fun r_19 g_19 f_19 q_19 => ?_)
    obtain ⟨rfl, rfl, rfl⟩ := q_19
    exact r_iret (pc := 22) dX10_force_22 rfl rfl ⟨by simp only [xaForce]; (repeat' split) <;> first | rfl | (exfalso; omega), rfl, by simp only [xnForce]; (repeat' split) <;> first | rfl | (exfalso; omega)⟩
  · refine r_iload_n (pc := 5) 1 dX10_force_5 rfl rfl ?_
    refine r_aload_n (pc := 6) 0 dX10_force_6 rfl rfl ?_
    refine r_getR (pc := 7) (b := 65) dX10_force_7 fl_X10_10 rfl hX.k hX.r0 ?_
    refine r_getI (pc := 10) dX10_force_10 fl_X10_145 rfl hX.o0.k ?_
    refine r_icmp_lt (pc := 13) (tgt := 23) dX10_force_13 (by decide) (by omega) (by omega) (fun c_13 => ?_) (fun c_13 => ?_)
    · refine r_aload_n (pc := 23) 0 dX10_force_23 rfl rfl ?_
      refine r_getR (pc := 24) (b := 65) dX10_force_24 fl_X10_10 rfl hX.k hX.r0 ?_
      refine r_getI (pc := 27) dX10_force_27 fl_X10_159 rfl hX.o0.k ?_
      refine r_istore_n (pc := 30) (L2 := [(2, (.int (iI (f 65 7)))), (0, (.ref 64)), (1, (.int (iI (n))))]) dX10_force_30 rfl (by decide) rfl ?_
      refine r_aload_n (pc := 31) 1 dX10_force_31 rfl rfl ?_
      refine r_getR (pc := 32) (b := 65) dX10_force_32 fl_X10_10 rfl hX.k hX.r0 ?_
      refine r_iload_n (pc := 35) 2 dX10_force_35 rfl rfl ?_
      refine r_putI (pc := 36) dX10_force_36 fl_X10_159 rfl rfl hX.o0.k ?_
      refine r_aload_n (pc := 39) 1 dX10_force_39 rfl rfl ?_
      refine r_callV (pc := 40) (As := []) (S := []) dX10_force_40 cv_X10_93 hX.k rfl (Nat.le_of_ble_eq_true rfl) (x_drop l z _ hX) (Nat.zero_le _) (Nat.zero_le _) (fun r_40 g_40 f_40 q_40 => ?_)
      obtain ⟨rfl, rfl, rfl⟩ := q_40
      refine r_aload_n (pc := 43) 1 dX10_force_43 rfl rfl ?_
      refine r_iload_n (pc := 44) 0 dX10_force_44 rfl rfl ?_
      refine r_callV (pc := 45) (As := [(.int (iI (f 65 7)))]) (S := []) dX10_force_45 cv_X10_100 hX.k rfl (Nat.le_of_ble_eq_true rfl) (x_accept l z _ _ hX) (Nat.zero_le _) (Nat.zero_le _) (fun r_45 g_45 f_45 q_45 => ?_)
      obtain ⟨rfl, rfl, rfl⟩ := q_45
      exact r_iret (pc := 48) dX10_force_48 rfl rfl ⟨by simp only [xaForce]; (repeat' split) <;> first | rfl | (exfalso; omega), rfl, by simp only [xnForce]; (repeat' split) <;> first | rfl | (exfalso; omega)⟩
    · refine r_aload_n (pc := 16) 0 dX10_force_16 rfl rfl ?_
      refine r_bipush (pc := 17) dX10_force_17 (by decide) ?_
      refine r_callV (pc := 19) (As := [(.int (iI (-2)))]) (S := []) dX10_force_19 cv_X10_85 hX.k rfl (Nat.le_of_ble_eq_true rfl) (x_refuse l z _ hX (by omega)) (Nat.zero_le _) (Nat.zero_le _) (fun r_19 g_19 f_19 q_19 => ?_)
      obtain ⟨rfl, rfl, rfl⟩ := q_19
      exact r_iret (pc := 22) dX10_force_22 rfl rfl ⟨by simp only [xaForce]; (repeat' split) <;> first | rfl | (exfalso; omega), rfl, by simp only [xnForce]; (repeat' split) <;> first | rfl | (exfalso; omega)⟩

set_option maxRecDepth 100000 in
set_option maxHeartbeats 4000000 in
theorem x_say (l : Launch) (z : Zv) (d : Nat) {g : Gm} {f : Fm} {b : Nat} {c v : Int} (hX : XL g) (hS : SL g b) (h5 : 0 ≤ f 65 5 ∧ f 65 5 ≤ 8) (h2 : 0 ≤ f b 2 ∧ f b 2 ≤ 8) (hc : -2147483648 ≤ c ∧ c ≤ 2147483647) (hv : -2147483648 ≤ v ∧ v ≤ 2147483647) : PM l z (d + 1) mX10_say [(.ref 64), (.ref b), (.int (iI (c))), (.int (iI (v)))] g f 0 0 (rdQ (.int (iI (xaSay f b c v))) g (xnSay f b c v)) := by
  refine PM.of (by decide +kernel) (Nat.le_of_ble_eq_true rfl) ?_
  refine r_iload_n (pc := 0) 3 dX10_say_0 rfl rfl ?_
  refine r_if_lt (pc := 1) (tgt := 10) dX10_say_1 (by decide) (by omega) (fun c_1 => ?_) (fun c_1 => ?_)
  · refine r_aload_n (pc := 10) 0 dX10_say_10 rfl rfl ?_
    refine r_iconst (pc := 11) dX10_say_11 ?_
    refine r_callV (pc := 12) (As := [(.int (iI (-1)))]) (S := []) dX10_say_12 cv_X10_85 hX.k rfl (Nat.le_of_ble_eq_true rfl) (x_refuse l z _ hX (by omega)) (Nat.zero_le _) (Nat.zero_le _) (fun r_12 g_12 f_12 q_12 => ?_)
    obtain ⟨rfl, rfl, rfl⟩ := q_12
    exact r_iret (pc := 15) dX10_say_15 rfl rfl ⟨by simp only [xaSay]; (repeat' split) <;> first | rfl | (exfalso; omega), rfl, by simp only [xnSay]; (repeat' split) <;> first | rfl | (exfalso; omega)⟩
  · refine r_iload_n (pc := 4) 3 dX10_say_4 rfl rfl ?_
    refine r_bipush (pc := 5) dX10_say_5 (by decide) ?_
    refine r_icmp_le (pc := 7) (tgt := 16) dX10_say_7 (by decide) (by omega) (by omega) (fun c_7 => ?_) (fun c_7 => ?_)
    · refine r_aload_n (pc := 16) 0 dX10_say_16 rfl rfl ?_
      refine r_getR (pc := 17) (b := 65) dX10_say_17 fl_X10_10 rfl hX.k hX.r0 ?_
      refine r_iload_n (pc := 20) 2 dX10_say_20 rfl rfl ?_
      refine r_callV (pc := 21) (As := [(.int (iI (c)))]) (S := []) dX10_say_21 cv_X10_103 hX.o0.k rfl (Nat.le_of_ble_eq_true rfl) (c_knows l z _ hX.o0 (by omega) (by omega)) (Nat.zero_le _) (Nat.zero_le _) (fun r_21 g_21 f_21 q_21 => ?_)
      obtain ⟨rfl, rfl, rfl⟩ := q_21
      refine r_if_ne (pc := 24) (tgt := 34) dX10_say_24 (by decide) (b01_r) (fun c_24 => ?_) (fun c_24 => ?_)
      · replace c_24 := b01_nz c_24
        refine r_aload_n (pc := 34) 1 dX10_say_34 rfl rfl ?_
        refine r_getI (pc := 35) dX10_say_35 fl_X10_263 rfl hS.k ?_
        refine r_bipush (pc := 38) dX10_say_38 (by decide) ?_
        refine r_icmp_lt (pc := 40) (tgt := 50) dX10_say_40 (by decide) (by omega) (by omega) (fun c_40 => ?_) (fun c_40 => ?_)
        · refine r_aload_n (pc := 50) 0 dX10_say_50 rfl rfl ?_
          refine r_aload_n (pc := 51) 1 dX10_say_51 rfl rfl ?_
          refine r_iload_n (pc := 52) 2 dX10_say_52 rfl rfl ?_
          refine r_iload_n (pc := 53) 3 dX10_say_53 rfl rfl ?_
          refine r_callV (pc := 54) (As := [(.int (iI (c))), (.int (iI (v)))]) (S := [(.ref 64)]) dX10_say_54 cv_X10_313 hS.k rfl (Nat.le_of_ble_eq_true rfl) (c_say_add l z _ hS (by omega)) (Nat.zero_le _) (Nat.zero_le _) (fun r_54 g_54 f_54 q_54 => ?_)
          obtain ⟨rfl, rfl, rfl⟩ := q_54
          refine r_callV (pc := 57) (As := [(.int (iI (f b 2 + 1)))]) (S := []) dX10_say_57 cv_X10_100 hX.k rfl (Nat.le_of_ble_eq_true rfl) (x_accept l z _ _ hX) (Nat.zero_le _) (Nat.zero_le _) (fun r_57 g_57 f_57 q_57 => ?_)
          obtain ⟨rfl, rfl, rfl⟩ := q_57
          exact r_iret (pc := 60) dX10_say_60 rfl rfl ⟨by simp only [xaSay]; (repeat' split) <;> first | rfl | (exfalso; omega), rfl, by simp only [xnSay]; (repeat' split) <;> first | rfl | (exfalso; omega)⟩
        · refine r_aload_n (pc := 43) 0 dX10_say_43 rfl rfl ?_
          refine r_bipush (pc := 44) dX10_say_44 (by decide) ?_
          refine r_callV (pc := 46) (As := [(.int (iI (-5)))]) (S := []) dX10_say_46 cv_X10_85 hX.k rfl (Nat.le_of_ble_eq_true rfl) (x_refuse l z _ hX (by omega)) (Nat.zero_le _) (Nat.zero_le _) (fun r_46 g_46 f_46 q_46 => ?_)
          obtain ⟨rfl, rfl, rfl⟩ := q_46
          exact r_iret (pc := 49) dX10_say_49 rfl rfl ⟨by simp only [xaSay]; (repeat' split) <;> first | rfl | (exfalso; omega), rfl, by simp only [xnSay]; (repeat' split) <;> first | rfl | (exfalso; omega)⟩
      · replace c_24 := b01_z c_24
        refine r_aload_n (pc := 27) 0 dX10_say_27 rfl rfl ?_
        refine r_bipush (pc := 28) dX10_say_28 (by decide) ?_
        refine r_callV (pc := 30) (As := [(.int (iI (-2)))]) (S := []) dX10_say_30 cv_X10_85 hX.k rfl (Nat.le_of_ble_eq_true rfl) (x_refuse l z _ hX (by omega)) (Nat.zero_le _) (Nat.zero_le _) (fun r_30 g_30 f_30 q_30 => ?_)
        obtain ⟨rfl, rfl, rfl⟩ := q_30
        exact r_iret (pc := 33) dX10_say_33 rfl rfl ⟨by simp only [xaSay]; (repeat' split) <;> first | rfl | (exfalso; omega), rfl, by simp only [xnSay]; (repeat' split) <;> first | rfl | (exfalso; omega)⟩
    · refine r_aload_n (pc := 10) 0 dX10_say_10 rfl rfl ?_
      refine r_iconst (pc := 11) dX10_say_11 ?_
      refine r_callV (pc := 12) (As := [(.int (iI (-1)))]) (S := []) dX10_say_12 cv_X10_85 hX.k rfl (Nat.le_of_ble_eq_true rfl) (x_refuse l z _ hX (by omega)) (Nat.zero_le _) (Nat.zero_le _) (fun r_12 g_12 f_12 q_12 => ?_)
      obtain ⟨rfl, rfl, rfl⟩ := q_12
      exact r_iret (pc := 15) dX10_say_15 rfl rfl ⟨by simp only [xaSay]; (repeat' split) <;> first | rfl | (exfalso; omega), rfl, by simp only [xnSay]; (repeat' split) <;> first | rfl | (exfalso; omega)⟩

set_option maxRecDepth 100000 in
set_option maxHeartbeats 4000000 in
theorem x_sight (l : Launch) (z : Zv) (d : Nat) {g : Gm} {f : Fm} {c v : Int} (hX : XL g) (h5 : 0 ≤ f 65 5 ∧ f 65 5 ≤ 8) (h2 : 0 ≤ f 69 2 ∧ f 69 2 ≤ 8) (hc : -2147483648 ≤ c ∧ c ≤ 2147483647) (hv : -2147483648 ≤ v ∧ v ≤ 2147483647) : PM l z (d + 2) mX10_sight [(.ref 64), (.int (iI (c))), (.int (iI (v)))] g f 0 0 (rdQ (.int (iI (xaSay f 69 c v))) g (xnSay f 69 c v)) := by
  refine PM.of (by decide +kernel) (Nat.le_of_ble_eq_true rfl) ?_
  refine r_aload_n (pc := 0) 0 dX10_sight_0 rfl rfl ?_
  refine r_aload_n (pc := 1) 0 dX10_sight_1 rfl rfl ?_
  refine r_getR (pc := 2) (b := 65) dX10_sight_2 fl_X10_10 rfl hX.k hX.r0 ?_
  refine r_getR (pc := 5) (b := 69) dX10_sight_5 fl_X10_241 rfl hX.o0.k hX.o0.r3 ?_
  refine r_iload_n (pc := 8) 1 dX10_sight_8 rfl rfl ?_
  refine r_iload_n (pc := 9) 2 dX10_sight_9 rfl rfl ?_
  refine r_callV (pc := 10) (As := [(.ref 69), (.int (iI (c))), (.int (iI (v)))]) (S := []) dX10_sight_10 cv_X10_245 hX.k rfl (Nat.le_of_ble_eq_true rfl) (x_say l z _ hX hX.o0.o3 h5 h2 hc hv) (Nat.zero_le _) (Nat.zero_le _) (fun r_10 g_10 f_10 q_10 => ?_)
  obtain ⟨rfl, rfl, rfl⟩ := q_10
  exact r_iret (pc := 13) dX10_sight_13 rfl rfl ⟨rfl, rfl, rfl⟩

set_option maxRecDepth 100000 in
set_option maxHeartbeats 4000000 in
theorem x_claim (l : Launch) (z : Zv) (d : Nat) {g : Gm} {f : Fm} {c v : Int} (hX : XL g) (h5 : 0 ≤ f 65 5 ∧ f 65 5 ≤ 8) (h2 : 0 ≤ f 72 2 ∧ f 72 2 ≤ 8) (hc : -2147483648 ≤ c ∧ c ≤ 2147483647) (hv : -2147483648 ≤ v ∧ v ≤ 2147483647) : PM l z (d + 2) mX10_claim [(.ref 64), (.int (iI (c))), (.int (iI (v)))] g f 0 0 (rdQ (.int (iI (xaSay (stF f 145 4 0) 72 c v))) g (xnSay (stF f 145 4 0) 72 c v)) := by
  refine PM.of (by decide +kernel) (Nat.le_of_ble_eq_true rfl) ?_
  refine r_aload_n (pc := 0) 0 dX10_claim_0 rfl rfl ?_
  refine r_getR (pc := 1) (b := 145) dX10_claim_1 fl_X10_54 rfl hX.k hX.r9 ?_
  refine r_iconst (pc := 4) dX10_claim_4 ?_
  refine r_putB (pc := 5) dX10_claim_5 fl_X10_256 rfl rfl (by decide) hX.o9.k ?_
  refine r_aload_n (pc := 8) 0 dX10_claim_8 rfl rfl ?_
  refine r_aload_n (pc := 9) 0 dX10_claim_9 rfl rfl ?_
  refine r_getR (pc := 10) (b := 65) dX10_claim_10 fl_X10_10 rfl hX.k hX.r0 ?_
  refine r_getR (pc := 13) (b := 72) dX10_claim_13 fl_X10_257 rfl hX.o0.k hX.o0.r4 ?_
  refine r_iload_n (pc := 16) 1 dX10_claim_16 rfl rfl ?_
  refine r_iload_n (pc := 17) 2 dX10_claim_17 rfl rfl ?_
  refine r_callV (pc := 18) (As := [(.ref 72), (.int (iI (c))), (.int (iI (v)))]) (S := []) dX10_claim_18 cv_X10_245 hX.k rfl (Nat.le_of_ble_eq_true rfl) (x_say l z _ hX hX.o0.o4 (by simp [stF]; omega) (by simp [stF]; omega) hc hv) (Nat.zero_le _) (Nat.zero_le _) (fun r_18 g_18 f_18 q_18 => ?_)
  obtain ⟨rfl, rfl, rfl⟩ := q_18
  exact r_iret (pc := 21) dX10_claim_21 rfl rfl ⟨rfl, rfl, rfl⟩

set_option maxRecDepth 100000 in
set_option maxHeartbeats 4000000 in
theorem x_forget (l : Launch) (z : Zv) (d : Nat) {g : Gm} {f : Fm} (hX : XL g) : PM l z d mX10_forget [(.ref 64)] g f 0 0 (rdQ (.int (iI (f 69 2 + f 72 2))) g (xnForget f)) := by
  refine PM.of (by decide +kernel) (Nat.le_of_ble_eq_true rfl) ?_
  refine r_aload_n (pc := 0) 0 dX10_forget_0 rfl rfl ?_
  refine r_getR (pc := 1) (b := 65) dX10_forget_1 fl_X10_10 rfl hX.k hX.r0 ?_
  refine r_getR (pc := 4) (b := 69) dX10_forget_4 fl_X10_241 rfl hX.o0.k hX.o0.r3 ?_
  refine r_getI (pc := 7) dX10_forget_7 fl_X10_263 rfl hX.o0.o3.k ?_
  refine r_aload_n (pc := 10) 0 dX10_forget_10 rfl rfl ?_
  refine r_getR (pc := 11) (b := 65) dX10_forget_11 fl_X10_10 rfl hX.k hX.r0 ?_
  refine r_getR (pc := 14) (b := 72) dX10_forget_14 fl_X10_257 rfl hX.o0.k hX.o0.r4 ?_
  refine r_getI (pc := 17) dX10_forget_17 fl_X10_263 rfl hX.o0.o4.k ?_
  refine r_iadd (pc := 20) dX10_forget_20 ?_
  refine r_istore_n (pc := 21) (L2 := [(1, (.int (iI ((f 69 2) + (f 72 2))))), (0, (.ref 64))]) dX10_forget_21 rfl (by decide) rfl ?_
  refine r_aload_n (pc := 22) 1 dX10_forget_22 rfl rfl ?_
  refine r_getR (pc := 23) (b := 65) dX10_forget_23 fl_X10_10 rfl hX.k hX.r0 ?_
  refine r_getR (pc := 26) (b := 69) dX10_forget_26 fl_X10_241 rfl hX.o0.k hX.o0.r3 ?_
  refine r_iconst (pc := 29) dX10_forget_29 ?_
  refine r_putI (pc := 30) dX10_forget_30 fl_X10_263 rfl rfl hX.o0.o3.k ?_
  refine r_aload_n (pc := 33) 1 dX10_forget_33 rfl rfl ?_
  refine r_getR (pc := 34) (b := 65) dX10_forget_34 fl_X10_10 rfl hX.k hX.r0 ?_
  refine r_getR (pc := 37) (b := 72) dX10_forget_37 fl_X10_257 rfl hX.o0.k hX.o0.r4 ?_
  refine r_iconst (pc := 40) dX10_forget_40 ?_
  refine r_putI (pc := 41) dX10_forget_41 fl_X10_263 rfl rfl hX.o0.o4.k ?_
  refine r_aload_n (pc := 44) 1 dX10_forget_44 rfl rfl ?_
  refine r_getR (pc := 45) (b := 145) dX10_forget_45 fl_X10_54 rfl hX.k hX.r9 ?_
  refine r_iconst (pc := 48) dX10_forget_48 ?_
  refine r_putB (pc := 49) dX10_forget_49 fl_X10_256 rfl rfl (by decide) hX.o9.k ?_
  refine r_iload_n (pc := 52) 0 dX10_forget_52 rfl rfl ?_
  exact r_iret (pc := 53) dX10_forget_53 rfl rfl ⟨rfl, rfl, rfl⟩

set_option maxRecDepth 100000 in
set_option maxHeartbeats 4000000 in
theorem x_drawn (l : Launch) (z : Zv) (d : Nat) {g : Gm} {f : Fm} {c w : Int} (hX : XL g) (h3 : 0 ≤ f 157 3 ∧ f 157 3 ≤ 8) (hc : -2147483648 ≤ c ∧ c ≤ 2147483647) (hw : -2147483648 ≤ w ∧ w ≤ 2147483647) : PM l z d mX10_drawn [(.ref 64), (.int (iI (c))), (.int (iI (w)))] g f 0 0 (rdQ (.int (iI (xaDrawn f c w))) g f) := by
  refine PM.of (by decide +kernel) (Nat.le_of_ble_eq_true rfl) ?_
  refine r_iload_n (pc := 0) 1 dX10_drawn_0 rfl rfl ?_
  refine r_if_lt (pc := 1) (tgt := 24) dX10_drawn_1 (by decide) (by omega) (fun c_1 => ?_) (fun c_1 => ?_)
  · refine r_iconst (pc := 24) dX10_drawn_24 ?_
    exact r_iret (pc := 25) dX10_drawn_25 rfl rfl ⟨by simp only [xaDrawn]; (repeat' split) <;> first | rfl | (exfalso; omega), rfl, rfl⟩
  · refine r_iload_n (pc := 4) 1 dX10_drawn_4 rfl rfl ?_
    refine r_aload_n (pc := 5) 0 dX10_drawn_5 rfl rfl ?_
    refine r_getR (pc := 6) (b := 157) dX10_drawn_6 fl_X10_67 rfl hX.k hX.r11 ?_
    refine r_getI (pc := 9) dX10_drawn_9 fl_X10_297 rfl hX.o11.k ?_
    refine r_icmp_ge (pc := 12) (tgt := 24) dX10_drawn_12 (by decide) (by omega) (by omega) (fun c_12 => ?_) (fun c_12 => ?_)
    · refine r_iconst (pc := 24) dX10_drawn_24 ?_
      exact r_iret (pc := 25) dX10_drawn_25 rfl rfl ⟨by simp only [xaDrawn]; (repeat' split) <;> first | rfl | (exfalso; omega), rfl, rfl⟩
    · refine r_iload_n (pc := 15) 2 dX10_drawn_15 rfl rfl ?_
      refine r_if_lt (pc := 16) (tgt := 24) dX10_drawn_16 (by decide) (by omega) (fun c_16 => ?_) (fun c_16 => ?_)
      · refine r_iconst (pc := 24) dX10_drawn_24 ?_
        exact r_iret (pc := 25) dX10_drawn_25 rfl rfl ⟨by simp only [xaDrawn]; (repeat' split) <;> first | rfl | (exfalso; omega), rfl, rfl⟩
      · refine r_iload_n (pc := 19) 2 dX10_drawn_19 rfl rfl ?_
        refine r_iconst (pc := 20) dX10_drawn_20 ?_
        refine r_icmp_le (pc := 21) (tgt := 26) dX10_drawn_21 (by decide) (by omega) (by omega) (fun c_21 => ?_) (fun c_21 => ?_)
        · refine r_iload_n (pc := 26) 2 dX10_drawn_26 rfl rfl ?_
          refine r_if_ne (pc := 27) (tgt := 42) dX10_drawn_27 (by decide) (by omega) (fun c_27 => ?_) (fun c_27 => ?_)
          · refine r_aload_n (pc := 42) 0 dX10_drawn_42 rfl rfl ?_
            refine r_getR (pc := 43) (b := 157) dX10_drawn_43 fl_X10_67 rfl hX.k hX.r11 ?_
            refine r_getR (pc := 46) (b := 159) dX10_drawn_46 fl_X10_301 rfl hX.o11.k hX.o11.r1 ?_
            refine r_iload_n (pc := 49) 1 dX10_drawn_49 rfl rfl ?_
            refine r_iald (pc := 50) dX10_drawn_50 hX.o11.a1 (by omega) (by decide) ?_
            exact r_iret (pc := 51) dX10_drawn_51 rfl rfl ⟨by simp only [xaDrawn]; (repeat' split) <;> first | rfl | (exfalso; omega), rfl, rfl⟩
          · refine r_aload_n (pc := 30) 0 dX10_drawn_30 rfl rfl ?_
            refine r_getR (pc := 31) (b := 157) dX10_drawn_31 fl_X10_67 rfl hX.k hX.r11 ?_
            refine r_getR (pc := 34) (b := 158) dX10_drawn_34 fl_X10_298 rfl hX.o11.k hX.o11.r0 ?_
            refine r_iload_n (pc := 37) 1 dX10_drawn_37 rfl rfl ?_
            refine r_iald (pc := 38) dX10_drawn_38 hX.o11.a0 (by omega) (by decide) ?_
            refine r_goto (pc := 39) (tgt := 51) dX10_drawn_39 (by decide) ?_
            exact r_iret (pc := 51) dX10_drawn_51 rfl rfl ⟨by simp only [xaDrawn]; (repeat' split) <;> first | rfl | (exfalso; omega), rfl, rfl⟩
        · refine r_iconst (pc := 24) dX10_drawn_24 ?_
          exact r_iret (pc := 25) dX10_drawn_25 rfl rfl ⟨by simp only [xaDrawn]; (repeat' split) <;> first | rfl | (exfalso; omega), rfl, rfl⟩

set_option maxRecDepth 100000 in
set_option maxHeartbeats 4000000 in
theorem x_blessed (l : Launch) (z : Zv) (d : Nat) {g : Gm} {f : Fm} {n w dz lp : Int} (hX : XL g) (hdz : f 67 0 = dz) (hlp : f 67 1 = lp) (h0 : 2 ≤ dz ∧ dz ≤ 20) (h1 : 0 ≤ lp ∧ lp ≤ 9) (hn : -2147483648 ≤ n ∧ n ≤ 2147483647) (hw : -2147483648 ≤ w ∧ w ≤ 2147483647) : PM l z (d + 2) mX10_blessed [(.ref 64), (.int (iI (n))), (.int (iI (w)))] g f 0 0 (rdQ (.int (iI (xaBlessed f n w))) g f) := by
  refine PM.of (by decide +kernel) (Nat.le_of_ble_eq_true rfl) ?_
  refine r_iload_n (pc := 0) 1 dX10_blessed_0 rfl rfl ?_
  refine r_iconst (pc := 1) dX10_blessed_1 ?_
  refine r_icmp_lt (pc := 2) (tgt := 20) dX10_blessed_2 (by decide) (by omega) (by omega) (fun c_2 => ?_) (fun c_2 => ?_)
  · refine r_iconst (pc := 20) dX10_blessed_20 ?_
    exact r_iret (pc := 21) dX10_blessed_21 rfl rfl ⟨by simp only [xaBlessed, hdz, hlp]; (repeat' split) <;> first | rfl | (exfalso; omega), rfl, rfl⟩
  · refine r_iload_n (pc := 5) 1 dX10_blessed_5 rfl rfl ?_
    refine r_ldc (pc := 6) (x := 1000000) dX10_blessed_6 kc_X10_172 (by decide) ?_
    refine r_icmp_gt (pc := 8) (tgt := 20) dX10_blessed_8 (by decide) (by omega) (by omega) (fun c_8 => ?_) (fun c_8 => ?_)
    · refine r_iconst (pc := 20) dX10_blessed_20 ?_
      exact r_iret (pc := 21) dX10_blessed_21 rfl rfl ⟨by simp only [xaBlessed, hdz, hlp]; (repeat' split) <;> first | rfl | (exfalso; omega), rfl, rfl⟩
    · refine r_iload_n (pc := 11) 2 dX10_blessed_11 rfl rfl ?_
      refine r_if_lt (pc := 12) (tgt := 20) dX10_blessed_12 (by decide) (by omega) (fun c_12 => ?_) (fun c_12 => ?_)
      · refine r_iconst (pc := 20) dX10_blessed_20 ?_
        exact r_iret (pc := 21) dX10_blessed_21 rfl rfl ⟨by simp only [xaBlessed, hdz, hlp]; (repeat' split) <;> first | rfl | (exfalso; omega), rfl, rfl⟩
      · refine r_iload_n (pc := 15) 2 dX10_blessed_15 rfl rfl ?_
        refine r_iconst (pc := 16) dX10_blessed_16 ?_
        refine r_icmp_le (pc := 17) (tgt := 22) dX10_blessed_17 (by decide) (by omega) (by omega) (fun c_17 => ?_) (fun c_17 => ?_)
        · refine r_iload_n (pc := 22) 2 dX10_blessed_22 rfl rfl ?_
          refine r_iconst (pc := 23) dX10_blessed_23 ?_
          refine r_icmp_ne (pc := 24) (tgt := 38) dX10_blessed_24 (by decide) (by omega) (by omega) (fun c_24 => ?_) (fun c_24 => ?_)
          · refine r_aload_n (pc := 38) 0 dX10_blessed_38 rfl rfl ?_
            refine r_getR (pc := 39) (b := 65) dX10_blessed_39 fl_X10_10 rfl hX.k hX.r0 ?_
            refine r_iload_n (pc := 42) 1 dX10_blessed_42 rfl rfl ?_
            refine r_callV (pc := 43) (As := [(.int (iI (n)))]) (S := []) dX10_blessed_43 cv_X10_173 hX.o0.k rfl (Nat.le_of_ble_eq_true rfl) (c_blessedAmong l z _ hX.o0 hdz hlp h0 h1 (by omega)) (Nat.zero_le _) (Nat.zero_le _) (fun r_43 g_43 f_43 q_43 => ?_)
            obtain ⟨rfl, rfl, rfl⟩ := q_43
            refine r_aload_n (pc := 46) 0 dX10_blessed_46 rfl rfl ?_
            refine r_getR (pc := 47) (b := 65) dX10_blessed_47 fl_X10_10 rfl hX.k hX.r0 ?_
            refine r_iload_n (pc := 50) 1 dX10_blessed_50 rfl rfl ?_
            refine r_iconst (pc := 51) dX10_blessed_51 ?_
            refine r_isub (pc := 52) dX10_blessed_52 ?_
            refine r_callV (pc := 53) (As := [(.int (iI ((n) - (1))))]) (S := [(.int (iI (blA dz lp (n))))]) dX10_blessed_53 cv_X10_173 hX.o0.k rfl (Nat.le_of_ble_eq_true rfl) (c_blessedAmong l z _ hX.o0 hdz hlp h0 h1 (by omega)) (Nat.zero_le _) (Nat.zero_le _) (fun r_53 g_53 f_53 q_53 => ?_)
            obtain ⟨rfl, rfl, rfl⟩ := q_53
            refine r_isub (pc := 56) dX10_blessed_56 ?_
            exact r_iret (pc := 57) dX10_blessed_57 rfl rfl ⟨by simp only [xaBlessed, hdz, hlp]; (repeat' split) <;> first | rfl | (exfalso; omega), rfl, rfl⟩
          · refine r_aload_n (pc := 27) 0 dX10_blessed_27 rfl rfl ?_
            refine r_getR (pc := 28) (b := 65) dX10_blessed_28 fl_X10_10 rfl hX.k hX.r0 ?_
            refine r_iload_n (pc := 31) 1 dX10_blessed_31 rfl rfl ?_
            refine r_callV (pc := 32) (As := [(.int (iI (n)))]) (S := []) dX10_blessed_32 cv_X10_173 hX.o0.k rfl (Nat.le_of_ble_eq_true rfl) (c_blessedAmong l z _ hX.o0 hdz hlp h0 h1 (by omega)) (Nat.zero_le _) (Nat.zero_le _) (fun r_32 g_32 f_32 q_32 => ?_)
            obtain ⟨rfl, rfl, rfl⟩ := q_32
            refine r_goto (pc := 35) (tgt := 57) dX10_blessed_35 (by decide) ?_
            exact r_iret (pc := 57) dX10_blessed_57 rfl rfl ⟨by simp only [xaBlessed, hdz, hlp]; (repeat' split) <;> first | rfl | (exfalso; omega), rfl, rfl⟩
        · refine r_iconst (pc := 20) dX10_blessed_20 ?_
          exact r_iret (pc := 21) dX10_blessed_21 rfl rfl ⟨by simp only [xaBlessed, hdz, hlp]; (repeat' split) <;> first | rfl | (exfalso; omega), rfl, rfl⟩

set_option maxRecDepth 100000 in
set_option maxHeartbeats 4000000 in
theorem x_count (l : Launch) (z : Zv) (d : Nat) {g : Gm} {f : Fm} {w : Int} (hX : XL g) (hw : -2147483648 ≤ w ∧ w ≤ 2147483647) : PM l z d mX10_count [(.ref 64), (.int (iI (w)))] g f 0 0 (rdQ (.int (iI (xaCount f w))) g f) := by
  refine PM.of (by decide +kernel) (Nat.le_of_ble_eq_true rfl) ?_
  refine r_iload_n (pc := 0) 1 dX10_count_0 rfl rfl ?_
  refine r_iconst (pc := 1) dX10_count_1 ?_
  refine r_icmp_lt (pc := 2) (tgt := 20) dX10_count_2 (by decide) (by omega) (by omega) (fun c_2 => ?_) (fun c_2 => ?_)
  · refine r_iload_n (pc := 20) 1 dX10_count_20 rfl rfl ?_
    refine r_bipush (pc := 21) dX10_count_21 (by decide) ?_
    refine r_icmp_lt (pc := 23) (tgt := 45) dX10_count_23 (by decide) (by omega) (by omega) (fun c_23 => ?_) (fun c_23 => ?_)
    · refine r_iload_n (pc := 45) 1 dX10_count_45 rfl rfl ?_
      rcases (show w < 0 ∨ 10 < w ∨ w = 0 ∨ w = 1 ∨ w = 2 ∨ w = 3 ∨ w = 4 ∨ w = 5 ∨ w = 6 ∨ w = 7 ∨ w = 8 ∨ w = 9 ∨ w = 10 by omega) with c_46 | c_46 | c_46 | c_46 | c_46 | c_46 | c_46 | c_46 | c_46 | c_46 | c_46 | c_46 | c_46
      · refine r_tswD (pc := 46) (tgt := 158) dX10_count_46 (by omega) (by omega) (by decide) ?_
        refine r_iconst (pc := 158) dX10_count_158 ?_
        exact r_iret (pc := 159) dX10_count_159 rfl rfl ⟨by simp only [xaCount]; (repeat' split) <;> first | rfl | (exfalso; omega), rfl, rfl⟩
      · refine r_tswD (pc := 46) (tgt := 158) dX10_count_46 (by omega) (by omega) (by decide) ?_
        refine r_iconst (pc := 158) dX10_count_158 ?_
        exact r_iret (pc := 159) dX10_count_159 rfl rfl ⟨by simp only [xaCount]; (repeat' split) <;> first | rfl | (exfalso; omega), rfl, rfl⟩
      · refine r_tsw (pc := 46) (off := 58) (tgt := 104) dX10_count_46 (by omega) (by omega) (by omega) (by rw [c_46]; rfl) (by decide) ?_
        refine r_aload_n (pc := 104) 0 dX10_count_104 rfl rfl ?_
        refine r_getR (pc := 105) (b := 65) dX10_count_105 fl_X10_10 rfl hX.k hX.r0 ?_
        refine r_getI (pc := 108) dX10_count_108 fl_X10_89 rfl hX.o0.k ?_
        exact r_iret (pc := 111) dX10_count_111 rfl rfl ⟨by simp only [xaCount]; (repeat' split) <;> first | rfl | (exfalso; omega), rfl, rfl⟩
      · refine r_tsw (pc := 46) (off := 66) (tgt := 112) dX10_count_46 (by omega) (by omega) (by omega) (by rw [c_46]; rfl) (by decide) ?_
        refine r_aload_n (pc := 112) 0 dX10_count_112 rfl rfl ?_
        refine r_getR (pc := 113) (b := 65) dX10_count_113 fl_X10_10 rfl hX.k hX.r0 ?_
        refine r_getI (pc := 116) dX10_count_116 fl_X10_145 rfl hX.o0.k ?_
        exact r_iret (pc := 119) dX10_count_119 rfl rfl ⟨by simp only [xaCount]; (repeat' split) <;> first | rfl | (exfalso; omega), rfl, rfl⟩
      · refine r_tsw (pc := 46) (off := 74) (tgt := 120) dX10_count_46 (by omega) (by omega) (by omega) (by rw [c_46]; rfl) (by decide) ?_
        refine r_aload_n (pc := 120) 0 dX10_count_120 rfl rfl ?_
        refine r_getR (pc := 121) (b := 65) dX10_count_121 fl_X10_10 rfl hX.k hX.r0 ?_
        refine r_getR (pc := 124) (b := 69) dX10_count_124 fl_X10_241 rfl hX.o0.k hX.o0.r3 ?_
        refine r_getI (pc := 127) dX10_count_127 fl_X10_263 rfl hX.o0.o3.k ?_
        exact r_iret (pc := 130) dX10_count_130 rfl rfl ⟨by simp only [xaCount]; (repeat' split) <;> first | rfl | (exfalso; omega), rfl, rfl⟩
      · refine r_tsw (pc := 46) (off := 85) (tgt := 131) dX10_count_46 (by omega) (by omega) (by omega) (by rw [c_46]; rfl) (by decide) ?_
        refine r_aload_n (pc := 131) 0 dX10_count_131 rfl rfl ?_
        refine r_getR (pc := 132) (b := 65) dX10_count_132 fl_X10_10 rfl hX.k hX.r0 ?_
        refine r_getR (pc := 135) (b := 72) dX10_count_135 fl_X10_257 rfl hX.o0.k hX.o0.r4 ?_
        refine r_getI (pc := 138) dX10_count_138 fl_X10_263 rfl hX.o0.o4.k ?_
        exact r_iret (pc := 141) dX10_count_141 rfl rfl ⟨by simp only [xaCount]; (repeat' split) <;> first | rfl | (exfalso; omega), rfl, rfl⟩
      · refine r_tsw (pc := 46) (off := 96) (tgt := 142) dX10_count_46 (by omega) (by omega) (by omega) (by rw [c_46]; rfl) (by decide) ?_
        refine r_aload_n (pc := 142) 0 dX10_count_142 rfl rfl ?_
        refine r_getR (pc := 143) (b := 107) dX10_count_143 fl_X10_30 rfl hX.k hX.r4 ?_
        refine r_getI (pc := 146) dX10_count_146 fl_X10_132 rfl hX.o4.k ?_
        exact r_iret (pc := 149) dX10_count_149 rfl rfl ⟨by simp only [xaCount]; (repeat' split) <;> first | rfl | (exfalso; omega), rfl, rfl⟩
      · refine r_tsw (pc := 46) (off := 112) (tgt := 158) dX10_count_46 (by omega) (by omega) (by omega) (by rw [c_46]; rfl) (by decide) ?_
        refine r_iconst (pc := 158) dX10_count_158 ?_
        exact r_iret (pc := 159) dX10_count_159 rfl rfl ⟨by simp only [xaCount]; (repeat' split) <;> first | rfl | (exfalso; omega), rfl, rfl⟩
      · refine r_tsw (pc := 46) (off := 112) (tgt := 158) dX10_count_46 (by omega) (by omega) (by omega) (by rw [c_46]; rfl) (by decide) ?_
        refine r_iconst (pc := 158) dX10_count_158 ?_
        exact r_iret (pc := 159) dX10_count_159 rfl rfl ⟨by simp only [xaCount]; (repeat' split) <;> first | rfl | (exfalso; omega), rfl, rfl⟩
      · refine r_tsw (pc := 46) (off := 112) (tgt := 158) dX10_count_46 (by omega) (by omega) (by omega) (by rw [c_46]; rfl) (by decide) ?_
        refine r_iconst (pc := 158) dX10_count_158 ?_
        exact r_iret (pc := 159) dX10_count_159 rfl rfl ⟨by simp only [xaCount]; (repeat' split) <;> first | rfl | (exfalso; omega), rfl, rfl⟩
      · refine r_tsw (pc := 46) (off := 112) (tgt := 158) dX10_count_46 (by omega) (by omega) (by omega) (by rw [c_46]; rfl) (by decide) ?_
        refine r_iconst (pc := 158) dX10_count_158 ?_
        exact r_iret (pc := 159) dX10_count_159 rfl rfl ⟨by simp only [xaCount]; (repeat' split) <;> first | rfl | (exfalso; omega), rfl, rfl⟩
      · refine r_tsw (pc := 46) (off := 112) (tgt := 158) dX10_count_46 (by omega) (by omega) (by omega) (by rw [c_46]; rfl) (by decide) ?_
        refine r_iconst (pc := 158) dX10_count_158 ?_
        exact r_iret (pc := 159) dX10_count_159 rfl rfl ⟨by simp only [xaCount]; (repeat' split) <;> first | rfl | (exfalso; omega), rfl, rfl⟩
      · refine r_tsw (pc := 46) (off := 104) (tgt := 150) dX10_count_46 (by omega) (by omega) (by omega) (by rw [c_46]; rfl) (by decide) ?_
        refine r_aload_n (pc := 150) 0 dX10_count_150 rfl rfl ?_
        refine r_getR (pc := 151) (b := 65) dX10_count_151 fl_X10_10 rfl hX.k hX.r0 ?_
        refine r_getI (pc := 154) dX10_count_154 fl_X10_159 rfl hX.o0.k ?_
        exact r_iret (pc := 157) dX10_count_157 rfl rfl ⟨by simp only [xaCount]; (repeat' split) <;> first | rfl | (exfalso; omega), rfl, rfl⟩
    · refine r_iload_n (pc := 26) 1 dX10_count_26 rfl rfl ?_
      refine r_bipush (pc := 27) dX10_count_27 (by decide) ?_
      refine r_icmp_gt (pc := 29) (tgt := 45) dX10_count_29 (by decide) (by omega) (by omega) (fun c_29 => ?_) (fun c_29 => ?_)
      · refine r_iload_n (pc := 45) 1 dX10_count_45 rfl rfl ?_
        rcases (show w < 0 ∨ 10 < w ∨ w = 0 ∨ w = 1 ∨ w = 2 ∨ w = 3 ∨ w = 4 ∨ w = 5 ∨ w = 6 ∨ w = 7 ∨ w = 8 ∨ w = 9 ∨ w = 10 by omega) with c_46 | c_46 | c_46 | c_46 | c_46 | c_46 | c_46 | c_46 | c_46 | c_46 | c_46 | c_46 | c_46
        · refine r_tswD (pc := 46) (tgt := 158) dX10_count_46 (by omega) (by omega) (by decide) ?_
          refine r_iconst (pc := 158) dX10_count_158 ?_
          exact r_iret (pc := 159) dX10_count_159 rfl rfl ⟨by simp only [xaCount]; (repeat' split) <;> first | rfl | (exfalso; omega), rfl, rfl⟩
        · refine r_tswD (pc := 46) (tgt := 158) dX10_count_46 (by omega) (by omega) (by decide) ?_
          refine r_iconst (pc := 158) dX10_count_158 ?_
          exact r_iret (pc := 159) dX10_count_159 rfl rfl ⟨by simp only [xaCount]; (repeat' split) <;> first | rfl | (exfalso; omega), rfl, rfl⟩
        · refine r_tsw (pc := 46) (off := 58) (tgt := 104) dX10_count_46 (by omega) (by omega) (by omega) (by rw [c_46]; rfl) (by decide) ?_
          refine r_aload_n (pc := 104) 0 dX10_count_104 rfl rfl ?_
          refine r_getR (pc := 105) (b := 65) dX10_count_105 fl_X10_10 rfl hX.k hX.r0 ?_
          refine r_getI (pc := 108) dX10_count_108 fl_X10_89 rfl hX.o0.k ?_
          exact r_iret (pc := 111) dX10_count_111 rfl rfl ⟨by simp only [xaCount]; (repeat' split) <;> first | rfl | (exfalso; omega), rfl, rfl⟩
        · refine r_tsw (pc := 46) (off := 66) (tgt := 112) dX10_count_46 (by omega) (by omega) (by omega) (by rw [c_46]; rfl) (by decide) ?_
          refine r_aload_n (pc := 112) 0 dX10_count_112 rfl rfl ?_
          refine r_getR (pc := 113) (b := 65) dX10_count_113 fl_X10_10 rfl hX.k hX.r0 ?_
          refine r_getI (pc := 116) dX10_count_116 fl_X10_145 rfl hX.o0.k ?_
          exact r_iret (pc := 119) dX10_count_119 rfl rfl ⟨by simp only [xaCount]; (repeat' split) <;> first | rfl | (exfalso; omega), rfl, rfl⟩
        · refine r_tsw (pc := 46) (off := 74) (tgt := 120) dX10_count_46 (by omega) (by omega) (by omega) (by rw [c_46]; rfl) (by decide) ?_
          refine r_aload_n (pc := 120) 0 dX10_count_120 rfl rfl ?_
          refine r_getR (pc := 121) (b := 65) dX10_count_121 fl_X10_10 rfl hX.k hX.r0 ?_
          refine r_getR (pc := 124) (b := 69) dX10_count_124 fl_X10_241 rfl hX.o0.k hX.o0.r3 ?_
          refine r_getI (pc := 127) dX10_count_127 fl_X10_263 rfl hX.o0.o3.k ?_
          exact r_iret (pc := 130) dX10_count_130 rfl rfl ⟨by simp only [xaCount]; (repeat' split) <;> first | rfl | (exfalso; omega), rfl, rfl⟩
        · refine r_tsw (pc := 46) (off := 85) (tgt := 131) dX10_count_46 (by omega) (by omega) (by omega) (by rw [c_46]; rfl) (by decide) ?_
          refine r_aload_n (pc := 131) 0 dX10_count_131 rfl rfl ?_
          refine r_getR (pc := 132) (b := 65) dX10_count_132 fl_X10_10 rfl hX.k hX.r0 ?_
          refine r_getR (pc := 135) (b := 72) dX10_count_135 fl_X10_257 rfl hX.o0.k hX.o0.r4 ?_
          refine r_getI (pc := 138) dX10_count_138 fl_X10_263 rfl hX.o0.o4.k ?_
          exact r_iret (pc := 141) dX10_count_141 rfl rfl ⟨by simp only [xaCount]; (repeat' split) <;> first | rfl | (exfalso; omega), rfl, rfl⟩
        · refine r_tsw (pc := 46) (off := 96) (tgt := 142) dX10_count_46 (by omega) (by omega) (by omega) (by rw [c_46]; rfl) (by decide) ?_
          refine r_aload_n (pc := 142) 0 dX10_count_142 rfl rfl ?_
          refine r_getR (pc := 143) (b := 107) dX10_count_143 fl_X10_30 rfl hX.k hX.r4 ?_
          refine r_getI (pc := 146) dX10_count_146 fl_X10_132 rfl hX.o4.k ?_
          exact r_iret (pc := 149) dX10_count_149 rfl rfl ⟨by simp only [xaCount]; (repeat' split) <;> first | rfl | (exfalso; omega), rfl, rfl⟩
        · refine r_tsw (pc := 46) (off := 112) (tgt := 158) dX10_count_46 (by omega) (by omega) (by omega) (by rw [c_46]; rfl) (by decide) ?_
          refine r_iconst (pc := 158) dX10_count_158 ?_
          exact r_iret (pc := 159) dX10_count_159 rfl rfl ⟨by simp only [xaCount]; (repeat' split) <;> first | rfl | (exfalso; omega), rfl, rfl⟩
        · refine r_tsw (pc := 46) (off := 112) (tgt := 158) dX10_count_46 (by omega) (by omega) (by omega) (by rw [c_46]; rfl) (by decide) ?_
          refine r_iconst (pc := 158) dX10_count_158 ?_
          exact r_iret (pc := 159) dX10_count_159 rfl rfl ⟨by simp only [xaCount]; (repeat' split) <;> first | rfl | (exfalso; omega), rfl, rfl⟩
        · refine r_tsw (pc := 46) (off := 112) (tgt := 158) dX10_count_46 (by omega) (by omega) (by omega) (by rw [c_46]; rfl) (by decide) ?_
          refine r_iconst (pc := 158) dX10_count_158 ?_
          exact r_iret (pc := 159) dX10_count_159 rfl rfl ⟨by simp only [xaCount]; (repeat' split) <;> first | rfl | (exfalso; omega), rfl, rfl⟩
        · refine r_tsw (pc := 46) (off := 112) (tgt := 158) dX10_count_46 (by omega) (by omega) (by omega) (by rw [c_46]; rfl) (by decide) ?_
          refine r_iconst (pc := 158) dX10_count_158 ?_
          exact r_iret (pc := 159) dX10_count_159 rfl rfl ⟨by simp only [xaCount]; (repeat' split) <;> first | rfl | (exfalso; omega), rfl, rfl⟩
        · refine r_tsw (pc := 46) (off := 112) (tgt := 158) dX10_count_46 (by omega) (by omega) (by omega) (by rw [c_46]; rfl) (by decide) ?_
          refine r_iconst (pc := 158) dX10_count_158 ?_
          exact r_iret (pc := 159) dX10_count_159 rfl rfl ⟨by simp only [xaCount]; (repeat' split) <;> first | rfl | (exfalso; omega), rfl, rfl⟩
        · refine r_tsw (pc := 46) (off := 104) (tgt := 150) dX10_count_46 (by omega) (by omega) (by omega) (by rw [c_46]; rfl) (by decide) ?_
          refine r_aload_n (pc := 150) 0 dX10_count_150 rfl rfl ?_
          refine r_getR (pc := 151) (b := 65) dX10_count_151 fl_X10_10 rfl hX.k hX.r0 ?_
          refine r_getI (pc := 154) dX10_count_154 fl_X10_159 rfl hX.o0.k ?_
          exact r_iret (pc := 157) dX10_count_157 rfl rfl ⟨by simp only [xaCount]; (repeat' split) <;> first | rfl | (exfalso; omega), rfl, rfl⟩
      · refine r_aload_n (pc := 32) 0 dX10_count_32 rfl rfl ?_
        refine r_getR (pc := 33) (b := 65) dX10_count_33 fl_X10_10 rfl hX.k hX.r0 ?_
        refine r_getR (pc := 36) (b := 67) dX10_count_36 fl_X10_123 rfl hX.o0.k hX.o0.r1 ?_
        refine r_iload_n (pc := 39) 1 dX10_count_39 rfl rfl ?_
        refine r_bipush (pc := 40) dX10_count_40 (by decide) ?_
        refine r_isub (pc := 42) dX10_count_42 ?_
        refine r_iald (pc := 43) dX10_count_43 hX.o0.a1 (by omega) (by decide) ?_
        exact r_iret (pc := 44) dX10_count_44 rfl rfl ⟨by simp only [xaCount]; (repeat' split) <;> first | rfl | (exfalso; omega), rfl, rfl⟩
  · refine r_iload_n (pc := 5) 1 dX10_count_5 rfl rfl ?_
    refine r_bipush (pc := 6) dX10_count_6 (by decide) ?_
    refine r_icmp_gt (pc := 8) (tgt := 20) dX10_count_8 (by decide) (by omega) (by omega) (fun c_8 => ?_) (fun c_8 => ?_)
    · refine r_iload_n (pc := 20) 1 dX10_count_20 rfl rfl ?_
      refine r_bipush (pc := 21) dX10_count_21 (by decide) ?_
      refine r_icmp_lt (pc := 23) (tgt := 45) dX10_count_23 (by decide) (by omega) (by omega) (fun c_23 => ?_) (fun c_23 => ?_)
      · refine r_iload_n (pc := 45) 1 dX10_count_45 rfl rfl ?_
        rcases (show w < 0 ∨ 10 < w ∨ w = 0 ∨ w = 1 ∨ w = 2 ∨ w = 3 ∨ w = 4 ∨ w = 5 ∨ w = 6 ∨ w = 7 ∨ w = 8 ∨ w = 9 ∨ w = 10 by omega) with c_46 | c_46 | c_46 | c_46 | c_46 | c_46 | c_46 | c_46 | c_46 | c_46 | c_46 | c_46 | c_46
        · refine r_tswD (pc := 46) (tgt := 158) dX10_count_46 (by omega) (by omega) (by decide) ?_
          refine r_iconst (pc := 158) dX10_count_158 ?_
          exact r_iret (pc := 159) dX10_count_159 rfl rfl ⟨by simp only [xaCount]; (repeat' split) <;> first | rfl | (exfalso; omega), rfl, rfl⟩
        · refine r_tswD (pc := 46) (tgt := 158) dX10_count_46 (by omega) (by omega) (by decide) ?_
          refine r_iconst (pc := 158) dX10_count_158 ?_
          exact r_iret (pc := 159) dX10_count_159 rfl rfl ⟨by simp only [xaCount]; (repeat' split) <;> first | rfl | (exfalso; omega), rfl, rfl⟩
        · refine r_tsw (pc := 46) (off := 58) (tgt := 104) dX10_count_46 (by omega) (by omega) (by omega) (by rw [c_46]; rfl) (by decide) ?_
          refine r_aload_n (pc := 104) 0 dX10_count_104 rfl rfl ?_
          refine r_getR (pc := 105) (b := 65) dX10_count_105 fl_X10_10 rfl hX.k hX.r0 ?_
          refine r_getI (pc := 108) dX10_count_108 fl_X10_89 rfl hX.o0.k ?_
          exact r_iret (pc := 111) dX10_count_111 rfl rfl ⟨by simp only [xaCount]; (repeat' split) <;> first | rfl | (exfalso; omega), rfl, rfl⟩
        · refine r_tsw (pc := 46) (off := 66) (tgt := 112) dX10_count_46 (by omega) (by omega) (by omega) (by rw [c_46]; rfl) (by decide) ?_
          refine r_aload_n (pc := 112) 0 dX10_count_112 rfl rfl ?_
          refine r_getR (pc := 113) (b := 65) dX10_count_113 fl_X10_10 rfl hX.k hX.r0 ?_
          refine r_getI (pc := 116) dX10_count_116 fl_X10_145 rfl hX.o0.k ?_
          exact r_iret (pc := 119) dX10_count_119 rfl rfl ⟨by simp only [xaCount]; (repeat' split) <;> first | rfl | (exfalso; omega), rfl, rfl⟩
        · refine r_tsw (pc := 46) (off := 74) (tgt := 120) dX10_count_46 (by omega) (by omega) (by omega) (by rw [c_46]; rfl) (by decide) ?_
          refine r_aload_n (pc := 120) 0 dX10_count_120 rfl rfl ?_
          refine r_getR (pc := 121) (b := 65) dX10_count_121 fl_X10_10 rfl hX.k hX.r0 ?_
          refine r_getR (pc := 124) (b := 69) dX10_count_124 fl_X10_241 rfl hX.o0.k hX.o0.r3 ?_
          refine r_getI (pc := 127) dX10_count_127 fl_X10_263 rfl hX.o0.o3.k ?_
          exact r_iret (pc := 130) dX10_count_130 rfl rfl ⟨by simp only [xaCount]; (repeat' split) <;> first | rfl | (exfalso; omega), rfl, rfl⟩
        · refine r_tsw (pc := 46) (off := 85) (tgt := 131) dX10_count_46 (by omega) (by omega) (by omega) (by rw [c_46]; rfl) (by decide) ?_
          refine r_aload_n (pc := 131) 0 dX10_count_131 rfl rfl ?_
          refine r_getR (pc := 132) (b := 65) dX10_count_132 fl_X10_10 rfl hX.k hX.r0 ?_
          refine r_getR (pc := 135) (b := 72) dX10_count_135 fl_X10_257 rfl hX.o0.k hX.o0.r4 ?_
          refine r_getI (pc := 138) dX10_count_138 fl_X10_263 rfl hX.o0.o4.k ?_
          exact r_iret (pc := 141) dX10_count_141 rfl rfl ⟨by simp only [xaCount]; (repeat' split) <;> first | rfl | (exfalso; omega), rfl, rfl⟩
        · refine r_tsw (pc := 46) (off := 96) (tgt := 142) dX10_count_46 (by omega) (by omega) (by omega) (by rw [c_46]; rfl) (by decide) ?_
          refine r_aload_n (pc := 142) 0 dX10_count_142 rfl rfl ?_
          refine r_getR (pc := 143) (b := 107) dX10_count_143 fl_X10_30 rfl hX.k hX.r4 ?_
          refine r_getI (pc := 146) dX10_count_146 fl_X10_132 rfl hX.o4.k ?_
          exact r_iret (pc := 149) dX10_count_149 rfl rfl ⟨by simp only [xaCount]; (repeat' split) <;> first | rfl | (exfalso; omega), rfl, rfl⟩
        · refine r_tsw (pc := 46) (off := 112) (tgt := 158) dX10_count_46 (by omega) (by omega) (by omega) (by rw [c_46]; rfl) (by decide) ?_
          refine r_iconst (pc := 158) dX10_count_158 ?_
          exact r_iret (pc := 159) dX10_count_159 rfl rfl ⟨by simp only [xaCount]; (repeat' split) <;> first | rfl | (exfalso; omega), rfl, rfl⟩
        · refine r_tsw (pc := 46) (off := 112) (tgt := 158) dX10_count_46 (by omega) (by omega) (by omega) (by rw [c_46]; rfl) (by decide) ?_
          refine r_iconst (pc := 158) dX10_count_158 ?_
          exact r_iret (pc := 159) dX10_count_159 rfl rfl ⟨by simp only [xaCount]; (repeat' split) <;> first | rfl | (exfalso; omega), rfl, rfl⟩
        · refine r_tsw (pc := 46) (off := 112) (tgt := 158) dX10_count_46 (by omega) (by omega) (by omega) (by rw [c_46]; rfl) (by decide) ?_
          refine r_iconst (pc := 158) dX10_count_158 ?_
          exact r_iret (pc := 159) dX10_count_159 rfl rfl ⟨by simp only [xaCount]; (repeat' split) <;> first | rfl | (exfalso; omega), rfl, rfl⟩
        · refine r_tsw (pc := 46) (off := 112) (tgt := 158) dX10_count_46 (by omega) (by omega) (by omega) (by rw [c_46]; rfl) (by decide) ?_
          refine r_iconst (pc := 158) dX10_count_158 ?_
          exact r_iret (pc := 159) dX10_count_159 rfl rfl ⟨by simp only [xaCount]; (repeat' split) <;> first | rfl | (exfalso; omega), rfl, rfl⟩
        · refine r_tsw (pc := 46) (off := 112) (tgt := 158) dX10_count_46 (by omega) (by omega) (by omega) (by rw [c_46]; rfl) (by decide) ?_
          refine r_iconst (pc := 158) dX10_count_158 ?_
          exact r_iret (pc := 159) dX10_count_159 rfl rfl ⟨by simp only [xaCount]; (repeat' split) <;> first | rfl | (exfalso; omega), rfl, rfl⟩
        · refine r_tsw (pc := 46) (off := 104) (tgt := 150) dX10_count_46 (by omega) (by omega) (by omega) (by rw [c_46]; rfl) (by decide) ?_
          refine r_aload_n (pc := 150) 0 dX10_count_150 rfl rfl ?_
          refine r_getR (pc := 151) (b := 65) dX10_count_151 fl_X10_10 rfl hX.k hX.r0 ?_
          refine r_getI (pc := 154) dX10_count_154 fl_X10_159 rfl hX.o0.k ?_
          exact r_iret (pc := 157) dX10_count_157 rfl rfl ⟨by simp only [xaCount]; (repeat' split) <;> first | rfl | (exfalso; omega), rfl, rfl⟩
      · refine r_iload_n (pc := 26) 1 dX10_count_26 rfl rfl ?_
        refine r_bipush (pc := 27) dX10_count_27 (by decide) ?_
        refine r_icmp_gt (pc := 29) (tgt := 45) dX10_count_29 (by decide) (by omega) (by omega) (fun c_29 => ?_) (fun c_29 => ?_)
        · refine r_iload_n (pc := 45) 1 dX10_count_45 rfl rfl ?_
          rcases (show w < 0 ∨ 10 < w ∨ w = 0 ∨ w = 1 ∨ w = 2 ∨ w = 3 ∨ w = 4 ∨ w = 5 ∨ w = 6 ∨ w = 7 ∨ w = 8 ∨ w = 9 ∨ w = 10 by omega) with c_46 | c_46 | c_46 | c_46 | c_46 | c_46 | c_46 | c_46 | c_46 | c_46 | c_46 | c_46 | c_46
          · refine r_tswD (pc := 46) (tgt := 158) dX10_count_46 (by omega) (by omega) (by decide) ?_
            refine r_iconst (pc := 158) dX10_count_158 ?_
            exact r_iret (pc := 159) dX10_count_159 rfl rfl ⟨by simp only [xaCount]; (repeat' split) <;> first | rfl | (exfalso; omega), rfl, rfl⟩
          · refine r_tswD (pc := 46) (tgt := 158) dX10_count_46 (by omega) (by omega) (by decide) ?_
            refine r_iconst (pc := 158) dX10_count_158 ?_
            exact r_iret (pc := 159) dX10_count_159 rfl rfl ⟨by simp only [xaCount]; (repeat' split) <;> first | rfl | (exfalso; omega), rfl, rfl⟩
          · refine r_tsw (pc := 46) (off := 58) (tgt := 104) dX10_count_46 (by omega) (by omega) (by omega) (by rw [c_46]; rfl) (by decide) ?_
            refine r_aload_n (pc := 104) 0 dX10_count_104 rfl rfl ?_
            refine r_getR (pc := 105) (b := 65) dX10_count_105 fl_X10_10 rfl hX.k hX.r0 ?_
            refine r_getI (pc := 108) dX10_count_108 fl_X10_89 rfl hX.o0.k ?_
            exact r_iret (pc := 111) dX10_count_111 rfl rfl ⟨by simp only [xaCount]; (repeat' split) <;> first | rfl | (exfalso; omega), rfl, rfl⟩
          · refine r_tsw (pc := 46) (off := 66) (tgt := 112) dX10_count_46 (by omega) (by omega) (by omega) (by rw [c_46]; rfl) (by decide) ?_
            refine r_aload_n (pc := 112) 0 dX10_count_112 rfl rfl ?_
            refine r_getR (pc := 113) (b := 65) dX10_count_113 fl_X10_10 rfl hX.k hX.r0 ?_
            refine r_getI (pc := 116) dX10_count_116 fl_X10_145 rfl hX.o0.k ?_
            exact r_iret (pc := 119) dX10_count_119 rfl rfl ⟨by simp only [xaCount]; (repeat' split) <;> first | rfl | (exfalso; omega), rfl, rfl⟩
          · refine r_tsw (pc := 46) (off := 74) (tgt := 120) dX10_count_46 (by omega) (by omega) (by omega) (by rw [c_46]; rfl) (by decide) ?_
            refine r_aload_n (pc := 120) 0 dX10_count_120 rfl rfl ?_
            refine r_getR (pc := 121) (b := 65) dX10_count_121 fl_X10_10 rfl hX.k hX.r0 ?_
            refine r_getR (pc := 124) (b := 69) dX10_count_124 fl_X10_241 rfl hX.o0.k hX.o0.r3 ?_
            refine r_getI (pc := 127) dX10_count_127 fl_X10_263 rfl hX.o0.o3.k ?_
            exact r_iret (pc := 130) dX10_count_130 rfl rfl ⟨by simp only [xaCount]; (repeat' split) <;> first | rfl | (exfalso; omega), rfl, rfl⟩
          · refine r_tsw (pc := 46) (off := 85) (tgt := 131) dX10_count_46 (by omega) (by omega) (by omega) (by rw [c_46]; rfl) (by decide) ?_
            refine r_aload_n (pc := 131) 0 dX10_count_131 rfl rfl ?_
            refine r_getR (pc := 132) (b := 65) dX10_count_132 fl_X10_10 rfl hX.k hX.r0 ?_
            refine r_getR (pc := 135) (b := 72) dX10_count_135 fl_X10_257 rfl hX.o0.k hX.o0.r4 ?_
            refine r_getI (pc := 138) dX10_count_138 fl_X10_263 rfl hX.o0.o4.k ?_
            exact r_iret (pc := 141) dX10_count_141 rfl rfl ⟨by simp only [xaCount]; (repeat' split) <;> first | rfl | (exfalso; omega), rfl, rfl⟩
          · refine r_tsw (pc := 46) (off := 96) (tgt := 142) dX10_count_46 (by omega) (by omega) (by omega) (by rw [c_46]; rfl) (by decide) ?_
            refine r_aload_n (pc := 142) 0 dX10_count_142 rfl rfl ?_
            refine r_getR (pc := 143) (b := 107) dX10_count_143 fl_X10_30 rfl hX.k hX.r4 ?_
            refine r_getI (pc := 146) dX10_count_146 fl_X10_132 rfl hX.o4.k ?_
            exact r_iret (pc := 149) dX10_count_149 rfl rfl ⟨by simp only [xaCount]; (repeat' split) <;> first | rfl | (exfalso; omega), rfl, rfl⟩
          · refine r_tsw (pc := 46) (off := 112) (tgt := 158) dX10_count_46 (by omega) (by omega) (by omega) (by rw [c_46]; rfl) (by decide) ?_
            refine r_iconst (pc := 158) dX10_count_158 ?_
            exact r_iret (pc := 159) dX10_count_159 rfl rfl ⟨by simp only [xaCount]; (repeat' split) <;> first | rfl | (exfalso; omega), rfl, rfl⟩
          · refine r_tsw (pc := 46) (off := 112) (tgt := 158) dX10_count_46 (by omega) (by omega) (by omega) (by rw [c_46]; rfl) (by decide) ?_
            refine r_iconst (pc := 158) dX10_count_158 ?_
            exact r_iret (pc := 159) dX10_count_159 rfl rfl ⟨by simp only [xaCount]; (repeat' split) <;> first | rfl | (exfalso; omega), rfl, rfl⟩
          · refine r_tsw (pc := 46) (off := 112) (tgt := 158) dX10_count_46 (by omega) (by omega) (by omega) (by rw [c_46]; rfl) (by decide) ?_
            refine r_iconst (pc := 158) dX10_count_158 ?_
            exact r_iret (pc := 159) dX10_count_159 rfl rfl ⟨by simp only [xaCount]; (repeat' split) <;> first | rfl | (exfalso; omega), rfl, rfl⟩
          · refine r_tsw (pc := 46) (off := 112) (tgt := 158) dX10_count_46 (by omega) (by omega) (by omega) (by rw [c_46]; rfl) (by decide) ?_
            refine r_iconst (pc := 158) dX10_count_158 ?_
            exact r_iret (pc := 159) dX10_count_159 rfl rfl ⟨by simp only [xaCount]; (repeat' split) <;> first | rfl | (exfalso; omega), rfl, rfl⟩
          · refine r_tsw (pc := 46) (off := 112) (tgt := 158) dX10_count_46 (by omega) (by omega) (by omega) (by rw [c_46]; rfl) (by decide) ?_
            refine r_iconst (pc := 158) dX10_count_158 ?_
            exact r_iret (pc := 159) dX10_count_159 rfl rfl ⟨by simp only [xaCount]; (repeat' split) <;> first | rfl | (exfalso; omega), rfl, rfl⟩
          · refine r_tsw (pc := 46) (off := 104) (tgt := 150) dX10_count_46 (by omega) (by omega) (by omega) (by rw [c_46]; rfl) (by decide) ?_
            refine r_aload_n (pc := 150) 0 dX10_count_150 rfl rfl ?_
            refine r_getR (pc := 151) (b := 65) dX10_count_151 fl_X10_10 rfl hX.k hX.r0 ?_
            refine r_getI (pc := 154) dX10_count_154 fl_X10_159 rfl hX.o0.k ?_
            exact r_iret (pc := 157) dX10_count_157 rfl rfl ⟨by simp only [xaCount]; (repeat' split) <;> first | rfl | (exfalso; omega), rfl, rfl⟩
        · refine r_aload_n (pc := 32) 0 dX10_count_32 rfl rfl ?_
          refine r_getR (pc := 33) (b := 65) dX10_count_33 fl_X10_10 rfl hX.k hX.r0 ?_
          refine r_getR (pc := 36) (b := 67) dX10_count_36 fl_X10_123 rfl hX.o0.k hX.o0.r1 ?_
          refine r_iload_n (pc := 39) 1 dX10_count_39 rfl rfl ?_
          refine r_bipush (pc := 40) dX10_count_40 (by decide) ?_
          refine r_isub (pc := 42) dX10_count_42 ?_
          refine r_iald (pc := 43) dX10_count_43 hX.o0.a1 (by omega) (by decide) ?_
          exact r_iret (pc := 44) dX10_count_44 rfl rfl ⟨by simp only [xaCount]; (repeat' split) <;> first | rfl | (exfalso; omega), rfl, rfl⟩
    · refine r_aload_n (pc := 11) 0 dX10_count_11 rfl rfl ?_
      refine r_getR (pc := 12) (b := 161) dX10_count_12 fl_X10_71 rfl hX.k hX.r12 ?_
      refine r_iload_n (pc := 15) 1 dX10_count_15 rfl rfl ?_
      refine r_iconst (pc := 16) dX10_count_16 ?_
      refine r_isub (pc := 17) dX10_count_17 ?_
      refine r_iald (pc := 18) dX10_count_18 hX.a12 (by omega) (by decide) ?_
      exact r_iret (pc := 19) dX10_count_19 rfl rfl ⟨by simp only [xaCount]; (repeat' split) <;> first | rfl | (exfalso; omega), rfl, rfl⟩

def aCustomer (f : Fm) (b r v : Int) : Int := if ¬ ((0 ≤ b ∧ b ≤ 40) ∧ (0 ≤ r ∧ r ≤ 9) ∧ (0 ≤ v ∧ v ≤ 1)) then -1 else if f 166 77 = 8 then -5 else f 166 77
def nCustomer (f : Fm) (b r v : Int) : Fm := if ¬ ((0 ≤ b ∧ b ≤ 40) ∧ (0 ≤ r ∧ r ≤ 9) ∧ (0 ≤ v ∧ v ≤ 1)) then rfs f (-1) else if f 166 77 = 8 then rfs f (-5) else gd (updA f 166 (addK (f 166) b r v))
def aPut (f : Fm) (c w v : Int) : Int := if ¬ (0 ≤ v ∧ (w = 0 ∧ v ≤ 40 ∨ w = 1 ∧ v ≤ 9 ∨ w = 2 ∧ v ≤ 1 ∨ w = 3 ∧ v ≤ 9999 ∨ w = 4 ∧ v ≤ 999999)) then -1 else if ¬ (0 ≤ c ∧ c < f 166 77) then -2 else f 166 (5 * c + w).toNat
def nPut (f : Fm) (c w v : Int) : Fm := if ¬ (0 ≤ v ∧ (w = 0 ∧ v ≤ 40 ∨ w = 1 ∧ v ≤ 9 ∨ w = 2 ∧ v ≤ 1 ∨ w = 3 ∧ v ≤ 9999 ∨ w = 4 ∧ v ≤ 999999)) then rfs f (-1) else if ¬ (0 ≤ c ∧ c < f 166 77) then rfs f (-2) else gd (stF f 166 (5 * c + w).toNat v)
def aTerms (f : Fm) (w v : Int) : Int := if ¬ (w = 0 ∧ 2 ≤ v ∧ v ≤ 20 ∨ w = 1 ∧ 0 ≤ v ∧ v ≤ 9 ∨ w = 2 ∧ 0 ≤ v ∧ v ≤ 9999 ∨ w = 3 ∧ 0 ≤ v ∧ v ≤ 999999 ∨ w = 4 ∧ 0 ≤ v ∧ v ≤ 999999) then -1 else f 166 (40 + w).toNat
def nTerms (f : Fm) (w v : Int) : Fm := if ¬ (w = 0 ∧ 2 ≤ v ∧ v ≤ 20 ∨ w = 1 ∧ 0 ≤ v ∧ v ≤ 9 ∨ w = 2 ∧ 0 ≤ v ∧ v ≤ 9999 ∨ w = 3 ∧ 0 ≤ v ∧ v ≤ 999999 ∨ w = 4 ∧ 0 ≤ v ∧ v ≤ 999999) then rfs f (-1) else gd (stF f 166 (40 + w).toNat v)
def aOwed (f : Fm) (c : Int) : Int := if 0 ≤ c ∧ c < f 166 77 then f 166 (5 * c + 4).toNat - f 166 40 * f 166 (5 * c + 3).toNat else -1000000000
def aEnd (f : Fm) (n : Int) : Int := if 0 ≤ n ∧ n ≤ f 164 9 then n else -1
def nEnd (f : Fm) (n : Int) : Fm := if 0 ≤ n ∧ n ≤ f 164 9 then stF f 164 9 n else f
def aForce (f : Fm) (n : Int) : Int := if ¬ (-1 ≤ n ∧ n ≤ f 166 80 - 1) then -2 else f 166 81
def nForce (f : Fm) (n : Int) : Fm := if ¬ (-1 ≤ n ∧ n ≤ f 166 80 - 1) then rfs f (-2) else gd (stF f 166 81 n)
def aTells (f : Fm) (m c v : Int) : Int := if ¬ (0 ≤ v ∧ v ≤ 20) then -1 else if ¬ (0 ≤ c ∧ c < f 166 77) then -2 else if f 166 m.toNat = 8 then -5 else f 166 m.toNat + 1
def nTells (f : Fm) (at_ m c v : Int) : Fm := if ¬ (0 ≤ v ∧ v ≤ 20) then rfs f (-1) else if ¬ (0 ≤ c ∧ c < f 166 77) then rfs f (-2) else if f 166 m.toNat = 8 then rfs f (-5) else gd (stF (stF (stF f 166 (at_ + 2 * f 166 m.toNat).toNat c) 166 (at_ + 2 * f 166 m.toNat + 1).toNat v) 166 m.toNat (f 166 m.toNat + 1))
def nForget (f : Fm) : Fm := stF (stF f 166 78 0) 166 79 0
def aDrawn (f : Fm) (c w : Int) : Int := if ¬ (0 ≤ c ∧ c < f 164 43) ∨ ¬ (0 ≤ w ∧ w ≤ 1) then -1 else if w = 0 then f 192 c.toNat else f 193 c.toNat
def aCount (f : Fm) (w : Int) : Int := if w = 0 then f 166 77 else if w = 1 then f 166 80 else if w = 2 then f 166 78 else if w = 3 then f 166 79 else if w = 4 then f 164 9 else if 5 ≤ w ∧ w ≤ 7 then f 165 (w - 4).toNat else if w = 8 then f 165 5 else if w = 9 then f 165 6 else if w = 10 then f 166 81 else if 11 ≤ w ∧ w ≤ 15 then f 166 (40 + w - 11).toNat else -1

set_option maxRecDepth 100000 in
set_option maxHeartbeats 4000000 in
theorem m_customer (l : Launch) (z : Zv) (d : Nat) {g : Gm} {f : Fm} {b r v : Int} (hM : ML g) (h77 : 0 ≤ f 166 77 ∧ f 166 77 ≤ 8) (hb : -2147483648 ≤ b ∧ b ≤ 2147483647) (hr : -2147483648 ≤ r ∧ r ≤ 2147483647) (hv : -2147483648 ≤ v ∧ v ≤ 2147483647) : PM l z (d + 2) mX11_customer [(.ref 164), (.int (iI (b))), (.int (iI (r))), (.int (iI (v)))] g f 0 0 (rdQ (.int (iI (aCustomer f b r v))) g (nCustomer f b r v)) := by
  refine PM.of (by decide +kernel) (Nat.le_of_ble_eq_true rfl) ?_
  refine r_iconst (pc := 0) dX11_customer_0 ?_
  refine r_iload_n (pc := 1) 1 dX11_customer_1 rfl rfl ?_
  refine r_callS (pc := 2) (As := [(.int (iI (0))), (.int (iI (b)))]) (S := []) dX11_customer_2 cs_X11_126 rfl (Nat.le_of_ble_eq_true rfl) (m_isFact l z _ (by omega) (by omega)) (Nat.zero_le _) (Nat.zero_le _) (fun r_2 g_2 f_2 q_2 => ?_)
  obtain ⟨rfl, rfl, rfl⟩ := q_2
  refine r_if_eq (pc := 5) (tgt := 24) dX11_customer_5 (by decide) (b01_r) (fun c_5 => ?_) (fun c_5 => ?_)
  · replace c_5 := b01_z c_5
    refine r_aload_n (pc := 24) 0 dX11_customer_24 rfl rfl ?_
    refine r_iconst (pc := 25) dX11_customer_25 ?_
    refine r_callV (pc := 26) (As := [(.int (iI (-1)))]) (S := []) dX11_customer_26 cv_X11_114 hM.k rfl (Nat.le_of_ble_eq_true rfl) (m_refuses l z _ hM (by omega)) (Nat.zero_le _) (Nat.zero_le _) (fun r_26 g_26 f_26 q_26 => ?_)
    obtain ⟨rfl, rfl, rfl⟩ := q_26
    exact r_iret (pc := 29) dX11_customer_29 rfl rfl ⟨by simp only [aCustomer]; (repeat' split) <;> first | rfl | (exfalso; omega), rfl, by simp only [nCustomer]; (repeat' split) <;> first | rfl | (exfalso; omega)⟩
  · replace c_5 := b01_nz c_5
    refine r_iconst (pc := 8) dX11_customer_8 ?_
    refine r_iload_n (pc := 9) 2 dX11_customer_9 rfl rfl ?_
    refine r_callS (pc := 10) (As := [(.int (iI (1))), (.int (iI (r)))]) (S := []) dX11_customer_10 cs_X11_126 rfl (Nat.le_of_ble_eq_true rfl) (m_isFact l z _ (by omega) (by omega)) (Nat.zero_le _) (Nat.zero_le _) (fun r_10 g_10 f_10 q_10 => ?_)
    obtain ⟨rfl, rfl, rfl⟩ := q_10
    refine r_if_eq (pc := 13) (tgt := 24) dX11_customer_13 (by decide) (b01_r) (fun c_13 => ?_) (fun c_13 => ?_)
    · replace c_13 := b01_z c_13
      refine r_aload_n (pc := 24) 0 dX11_customer_24 rfl rfl ?_
      refine r_iconst (pc := 25) dX11_customer_25 ?_
      refine r_callV (pc := 26) (As := [(.int (iI (-1)))]) (S := []) dX11_customer_26 cv_X11_114 hM.k rfl (Nat.le_of_ble_eq_true rfl) (m_refuses l z _ hM (by omega)) (Nat.zero_le _) (Nat.zero_le _) (fun r_26 g_26 f_26 q_26 => ?_)
      obtain ⟨rfl, rfl, rfl⟩ := q_26
      exact r_iret (pc := 29) dX11_customer_29 rfl rfl ⟨by simp only [aCustomer]; (repeat' split) <;> first | rfl | (exfalso; omega), rfl, by simp only [nCustomer]; (repeat' split) <;> first | rfl | (exfalso; omega)⟩
    · replace c_13 := b01_nz c_13
      refine r_iconst (pc := 16) dX11_customer_16 ?_
      refine r_iload_n (pc := 17) 3 dX11_customer_17 rfl rfl ?_
      refine r_callS (pc := 18) (As := [(.int (iI (2))), (.int (iI (v)))]) (S := []) dX11_customer_18 cs_X11_126 rfl (Nat.le_of_ble_eq_true rfl) (m_isFact l z _ (by omega) (by omega)) (Nat.zero_le _) (Nat.zero_le _) (fun r_18 g_18 f_18 q_18 => ?_)
      obtain ⟨rfl, rfl, rfl⟩ := q_18
      refine r_if_ne (pc := 21) (tgt := 30) dX11_customer_21 (by decide) (b01_r) (fun c_21 => ?_) (fun c_21 => ?_)
      · replace c_21 := b01_nz c_21
        refine r_aload_n (pc := 30) 0 dX11_customer_30 rfl rfl ?_
        refine r_callV (pc := 31) (As := []) (S := []) dX11_customer_31 cv_X11_121 hM.k rfl (Nat.le_of_ble_eq_true rfl) (m_customers l z _ hM) (Nat.zero_le _) (Nat.zero_le _) (fun r_31 g_31 f_31 q_31 => ?_)
        obtain ⟨rfl, rfl, rfl⟩ := q_31
        refine r_bipush (pc := 34) dX11_customer_34 (by decide) ?_
        refine r_icmp_ne (pc := 36) (tgt := 46) dX11_customer_36 (by decide) (by omega) (by omega) (fun c_36 => ?_) (fun c_36 => ?_)
        · refine r_aload_n (pc := 46) 0 dX11_customer_46 rfl rfl ?_
          refine r_aload_n (pc := 47) 0 dX11_customer_47 rfl rfl ?_
          refine r_iload_n (pc := 48) 1 dX11_customer_48 rfl rfl ?_
          refine r_iload_n (pc := 49) 2 dX11_customer_49 rfl rfl ?_
          refine r_iload_n (pc := 50) 3 dX11_customer_50 rfl rfl ?_
          refine r_callV (pc := 51) (As := [(.int (iI (b))), (.int (iI (r))), (.int (iI (v)))]) (S := [(.ref 164)]) dX11_customer_51 cv_X11_130 hM.k rfl (Nat.le_of_ble_eq_true rfl) (m_adds l z _ hM rfl (by omega)) (Nat.zero_le _) (Nat.zero_le _) (fun r_51 g_51 f_51 q_51 => ?_)
          obtain ⟨rfl, rfl, rfl⟩ := q_51
          refine r_callV (pc := 54) (As := [(.int (iI (f 166 77)))]) (S := []) dX11_customer_54 cv_X11_118 hM.k rfl (Nat.le_of_ble_eq_true rfl) (m_good l z _ _ hM) (Nat.zero_le _) (Nat.zero_le _) (fun r_54 g_54 f_54 q_54 => ?_)
          obtain ⟨rfl, rfl, rfl⟩ := q_54
          exact r_iret (pc := 57) dX11_customer_57 rfl rfl ⟨by simp only [aCustomer]; (repeat' split) <;> first | rfl | (exfalso; omega), rfl, by simp only [nCustomer]; (repeat' split) <;> first | rfl | (exfalso; omega)⟩
        · refine r_aload_n (pc := 39) 0 dX11_customer_39 rfl rfl ?_
          refine r_bipush (pc := 40) dX11_customer_40 (by decide) ?_
          refine r_callV (pc := 42) (As := [(.int (iI (-5)))]) (S := []) dX11_customer_42 cv_X11_114 hM.k rfl (Nat.le_of_ble_eq_true rfl) (m_refuses l z _ hM (by omega)) (Nat.zero_le _) (Nat.zero_le _) (fun r_42 g_42 f_42 q_42 => ?_)
          obtain ⟨rfl, rfl, rfl⟩ := q_42
          exact r_iret (pc := 45) dX11_customer_45 rfl rfl ⟨by simp only [aCustomer]; (repeat' split) <;> first | rfl | (exfalso; omega), rfl, by simp only [nCustomer]; (repeat' split) <;> first | rfl | (exfalso; omega)⟩
      · replace c_21 := b01_z c_21
        refine r_aload_n (pc := 24) 0 dX11_customer_24 rfl rfl ?_
        refine r_iconst (pc := 25) dX11_customer_25 ?_
        refine r_callV (pc := 26) (As := [(.int (iI (-1)))]) (S := []) dX11_customer_26 cv_X11_114 hM.k rfl (Nat.le_of_ble_eq_true rfl) (m_refuses l z _ hM (by omega)) (Nat.zero_le _) (Nat.zero_le _) (fun r_26 g_26 f_26 q_26 => ?_)
        obtain ⟨rfl, rfl, rfl⟩ := q_26
        exact r_iret (pc := 29) dX11_customer_29 rfl rfl ⟨by simp only [aCustomer]; (repeat' split) <;> first | rfl | (exfalso; omega), rfl, by simp only [nCustomer]; (repeat' split) <;> first | rfl | (exfalso; omega)⟩

set_option maxRecDepth 100000 in
set_option maxHeartbeats 4000000 in
theorem m_put (l : Launch) (z : Zv) (d : Nat) {g : Gm} {f : Fm} {c w v : Int} (hM : ML g) (h77 : 0 ≤ f 166 77 ∧ f 166 77 ≤ 8) (hc : -2147483648 ≤ c ∧ c ≤ 2147483647) (hw : -2147483648 ≤ w ∧ w ≤ 2147483647) (hv : -2147483648 ≤ v ∧ v ≤ 2147483647) : PM l z (d + 2) mX11_put [(.ref 164), (.int (iI (c))), (.int (iI (w))), (.int (iI (v)))] g f 0 0 (rdQ (.int (iI (aPut f c w v))) g (nPut f c w v)) := by
  refine PM.of (by decide +kernel) (Nat.le_of_ble_eq_true rfl) ?_
  refine r_iload_n (pc := 0) 2 dX11_put_0 rfl rfl ?_
  refine r_iload_n (pc := 1) 3 dX11_put_1 rfl rfl ?_
  refine r_callS (pc := 2) (As := [(.int (iI (w))), (.int (iI (v)))]) (S := []) dX11_put_2 cs_X11_126 rfl (Nat.le_of_ble_eq_true rfl) (m_isFact l z _ (by omega) (by omega)) (Nat.zero_le _) (Nat.zero_le _) (fun r_2 g_2 f_2 q_2 => ?_)
  obtain ⟨rfl, rfl, rfl⟩ := q_2
  refine r_if_ne (pc := 5) (tgt := 14) dX11_put_5 (by decide) (b01_r) (fun c_5 => ?_) (fun c_5 => ?_)
  · replace c_5 := b01_nz c_5
    refine r_aload_n (pc := 14) 0 dX11_put_14 rfl rfl ?_
    refine r_iload_n (pc := 15) 1 dX11_put_15 rfl rfl ?_
    refine r_callV (pc := 16) (As := [(.int (iI (c)))]) (S := []) dX11_put_16 cv_X11_134 hM.k rfl (Nat.le_of_ble_eq_true rfl) (m_isCustomer l z _ hM (by omega) (by omega)) (Nat.zero_le _) (Nat.zero_le _) (fun r_16 g_16 f_16 q_16 => ?_)
    obtain ⟨rfl, rfl, rfl⟩ := q_16
    refine r_if_ne (pc := 19) (tgt := 29) dX11_put_19 (by decide) (b01_r) (fun c_19 => ?_) (fun c_19 => ?_)
    · replace c_19 := b01_nz c_19
      refine r_aload_n (pc := 29) 0 dX11_put_29 rfl rfl ?_
      refine r_iload_n (pc := 30) 1 dX11_put_30 rfl rfl ?_
      refine r_iload_n (pc := 31) 2 dX11_put_31 rfl rfl ?_
      refine r_callV (pc := 32) (As := [(.int (iI (c))), (.int (iI (w)))]) (S := []) dX11_put_32 cv_X11_138 hM.k rfl (Nat.le_of_ble_eq_true rfl) (m_factOf l z _ hM (by omega) (by omega)) (Nat.zero_le _) (Nat.zero_le _) (fun r_32 g_32 f_32 q_32 => ?_)
      obtain ⟨rfl, rfl, rfl⟩ := q_32
      refine r_istore (pc := 35) (L2 := [(4, (.int (iI (f 166 (5 * (c) + (w)).toNat)))), (0, (.ref 164)), (1, (.int (iI (c)))), (2, (.int (iI (w)))), (3, (.int (iI (v))))]) dX11_put_35 (by decide) rfl ?_
      refine r_aload_n (pc := 37) 1 dX11_put_37 rfl rfl ?_
      refine r_getR (pc := 38) (b := 166) dX11_put_38 fl_X11_17 rfl hM.k hM.r2 ?_
      refine r_iconst (pc := 41) dX11_put_41 ?_
      refine r_iload_n (pc := 42) 2 dX11_put_42 rfl rfl ?_
      refine r_imul (pc := 43) dX11_put_43 ?_
      refine r_iload_n (pc := 44) 3 dX11_put_44 rfl rfl ?_
      refine r_iadd (pc := 45) dX11_put_45 ?_
      refine r_iload_n (pc := 46) 4 dX11_put_46 rfl rfl ?_
      refine r_iast (pc := 47) dX11_put_47 hM.a2 (by omega) (by decide) ?_
      refine r_aload_n (pc := 48) 1 dX11_put_48 rfl rfl ?_
      refine r_iload (pc := 49) 0 dX11_put_49 rfl ?_
      refine r_callV (pc := 51) (As := [(.int (iI (f 166 (5 * (c) + (w)).toNat)))]) (S := []) dX11_put_51 cv_X11_118 hM.k rfl (Nat.le_of_ble_eq_true rfl) (m_good l z _ _ hM) (Nat.zero_le _) (Nat.zero_le _) (fun r_51 g_51 f_51 q_51 => ?_)
      obtain ⟨rfl, rfl, rfl⟩ := q_51
      exact r_iret (pc := 54) dX11_put_54 rfl rfl ⟨by simp only [aPut]; (repeat' split) <;> first | rfl | (exfalso; omega), rfl, by simp only [nPut]; (repeat' split) <;> first | rfl | (exfalso; omega)⟩
    · replace c_19 := b01_z c_19
      refine r_aload_n (pc := 22) 0 dX11_put_22 rfl rfl ?_
      refine r_bipush (pc := 23) dX11_put_23 (by decide) ?_
      refine r_callV (pc := 25) (As := [(.int (iI (-2)))]) (S := []) dX11_put_25 cv_X11_114 hM.k rfl (Nat.le_of_ble_eq_true rfl) (m_refuses l z _ hM (by omega)) (Nat.zero_le _) (Nat.zero_le _) (fun r_25 g_25 f_25 q_25 => ?_)
      obtain ⟨rfl, rfl, rfl⟩ := q_25
      exact r_iret (pc := 28) dX11_put_28 rfl rfl ⟨by simp only [aPut]; (repeat' split) <;> first | rfl | (exfalso; omega), rfl, by simp only [nPut]; (repeat' split) <;> first | rfl | (exfalso; omega)⟩
  · replace c_5 := b01_z c_5
    refine r_aload_n (pc := 8) 0 dX11_put_8 rfl rfl ?_
    refine r_iconst (pc := 9) dX11_put_9 ?_
    refine r_callV (pc := 10) (As := [(.int (iI (-1)))]) (S := []) dX11_put_10 cv_X11_114 hM.k rfl (Nat.le_of_ble_eq_true rfl) (m_refuses l z _ hM (by omega)) (Nat.zero_le _) (Nat.zero_le _) (fun r_10 g_10 f_10 q_10 => ?_)
    obtain ⟨rfl, rfl, rfl⟩ := q_10
    exact r_iret (pc := 13) dX11_put_13 rfl rfl ⟨by simp only [aPut]; (repeat' split) <;> first | rfl | (exfalso; omega), rfl, by simp only [nPut]; (repeat' split) <;> first | rfl | (exfalso; omega)⟩

set_option maxRecDepth 100000 in
set_option maxHeartbeats 4000000 in
theorem m_terms (l : Launch) (z : Zv) (d : Nat) {g : Gm} {f : Fm} {w v : Int} (hM : ML g) (hw : -2147483648 ≤ w ∧ w ≤ 2147483647) (hv : -2147483648 ≤ v ∧ v ≤ 2147483647) : PM l z (d + 2) mX11_terms [(.ref 164), (.int (iI (w))), (.int (iI (v)))] g f 0 0 (rdQ (.int (iI (aTerms f w v))) g (nTerms f w v)) := by
  refine PM.of (by decide +kernel) (Nat.le_of_ble_eq_true rfl) ?_
  refine r_iload_n (pc := 0) 1 dX11_terms_0 rfl rfl ?_
  refine r_iload_n (pc := 1) 2 dX11_terms_1 rfl rfl ?_
  refine r_callS (pc := 2) (As := [(.int (iI (w))), (.int (iI (v)))]) (S := []) dX11_terms_2 cs_X11_147 rfl (Nat.le_of_ble_eq_true rfl) (m_isTerm l z _ (by omega) (by omega)) (Nat.zero_le _) (Nat.zero_le _) (fun r_2 g_2 f_2 q_2 => ?_)
  obtain ⟨rfl, rfl, rfl⟩ := q_2
  refine r_if_ne (pc := 5) (tgt := 14) dX11_terms_5 (by decide) (b01_r) (fun c_5 => ?_) (fun c_5 => ?_)
  · replace c_5 := b01_nz c_5
    refine r_aload_n (pc := 14) 0 dX11_terms_14 rfl rfl ?_
    refine r_getR (pc := 15) (b := 166) dX11_terms_15 fl_X11_17 rfl hM.k hM.r2 ?_
    refine r_bipush (pc := 18) dX11_terms_18 (by decide) ?_
    refine r_iload_n (pc := 20) 1 dX11_terms_20 rfl rfl ?_
    refine r_iadd (pc := 21) dX11_terms_21 ?_
    refine r_iald (pc := 22) dX11_terms_22 hM.a2 (by omega) (by decide) ?_
    refine r_istore_n (pc := 23) (L2 := [(3, (.int (iI (f 166 ((40) + (w)).toNat)))), (0, (.ref 164)), (1, (.int (iI (w)))), (2, (.int (iI (v))))]) dX11_terms_23 rfl (by decide) rfl ?_
    refine r_aload_n (pc := 24) 1 dX11_terms_24 rfl rfl ?_
    refine r_getR (pc := 25) (b := 166) dX11_terms_25 fl_X11_17 rfl hM.k hM.r2 ?_
    refine r_bipush (pc := 28) dX11_terms_28 (by decide) ?_
    refine r_iload_n (pc := 30) 2 dX11_terms_30 rfl rfl ?_
    refine r_iadd (pc := 31) dX11_terms_31 ?_
    refine r_iload_n (pc := 32) 3 dX11_terms_32 rfl rfl ?_
    refine r_iast (pc := 33) dX11_terms_33 hM.a2 (by omega) (by decide) ?_
    refine r_aload_n (pc := 34) 1 dX11_terms_34 rfl rfl ?_
    refine r_iload_n (pc := 35) 0 dX11_terms_35 rfl rfl ?_
    refine r_callV (pc := 36) (As := [(.int (iI (f 166 ((40) + (w)).toNat)))]) (S := []) dX11_terms_36 cv_X11_118 hM.k rfl (Nat.le_of_ble_eq_true rfl) (m_good l z _ _ hM) (Nat.zero_le _) (Nat.zero_le _) (fun r_36 g_36 f_36 q_36 => ?_)
    obtain ⟨rfl, rfl, rfl⟩ := q_36
    exact r_iret (pc := 39) dX11_terms_39 rfl rfl ⟨by simp only [aTerms]; (repeat' split) <;> first | rfl | (exfalso; omega), rfl, by simp only [nTerms]; (repeat' split) <;> first | rfl | (exfalso; omega)⟩
  · replace c_5 := b01_z c_5
    refine r_aload_n (pc := 8) 0 dX11_terms_8 rfl rfl ?_
    refine r_iconst (pc := 9) dX11_terms_9 ?_
    refine r_callV (pc := 10) (As := [(.int (iI (-1)))]) (S := []) dX11_terms_10 cv_X11_114 hM.k rfl (Nat.le_of_ble_eq_true rfl) (m_refuses l z _ hM (by omega)) (Nat.zero_le _) (Nat.zero_le _) (fun r_10 g_10 f_10 q_10 => ?_)
    obtain ⟨rfl, rfl, rfl⟩ := q_10
    exact r_iret (pc := 13) dX11_terms_13 rfl rfl ⟨by simp only [aTerms]; (repeat' split) <;> first | rfl | (exfalso; omega), rfl, by simp only [nTerms]; (repeat' split) <;> first | rfl | (exfalso; omega)⟩

set_option maxRecDepth 100000 in
set_option maxHeartbeats 4000000 in
theorem m_owed (l : Launch) (z : Zv) (d : Nat) {g : Gm} {f : Fm} {c : Int} (hM : ML g) (h77 : 0 ≤ f 166 77 ∧ f 166 77 ≤ 8) (hc : -2147483648 ≤ c ∧ c ≤ 2147483647) : PM l z (d + 2) mX11_owed [(.ref 164), (.int (iI (c)))] g f 0 0 (rdQ (.int (iI (aOwed f c))) g f) := by
  refine PM.of (by decide +kernel) (Nat.le_of_ble_eq_true rfl) ?_
  refine r_aload_n (pc := 0) 0 dX11_owed_0 rfl rfl ?_
  refine r_iload_n (pc := 1) 1 dX11_owed_1 rfl rfl ?_
  refine r_callV (pc := 2) (As := [(.int (iI (c)))]) (S := []) dX11_owed_2 cv_X11_134 hM.k rfl (Nat.le_of_ble_eq_true rfl) (m_isCustomer l z _ hM (by omega) (by omega)) (Nat.zero_le _) (Nat.zero_le _) (fun r_2 g_2 f_2 q_2 => ?_)
  obtain ⟨rfl, rfl, rfl⟩ := q_2
  refine r_if_eq (pc := 5) (tgt := 32) dX11_owed_5 (by decide) (b01_r) (fun c_5 => ?_) (fun c_5 => ?_)
  · replace c_5 := b01_z c_5
    refine r_ldc (pc := 32) (x := -1000000000) dX11_owed_32 kc_X11_146 (by decide) ?_
    exact r_iret (pc := 34) dX11_owed_34 rfl rfl ⟨by simp only [aOwed]; (repeat' split) <;> first | rfl | (exfalso; omega), rfl, rfl⟩
  · replace c_5 := b01_nz c_5
    refine r_aload_n (pc := 8) 0 dX11_owed_8 rfl rfl ?_
    refine r_iload_n (pc := 9) 1 dX11_owed_9 rfl rfl ?_
    refine r_iconst (pc := 10) dX11_owed_10 ?_
    refine r_callV (pc := 11) (As := [(.int (iI (c))), (.int (iI (4)))]) (S := []) dX11_owed_11 cv_X11_138 hM.k rfl (Nat.le_of_ble_eq_true rfl) (m_factOf l z _ hM (by omega) (by omega)) (Nat.zero_le _) (Nat.zero_le _) (fun r_11 g_11 f_11 q_11 => ?_)
    obtain ⟨rfl, rfl, rfl⟩ := q_11
    refine r_aload_n (pc := 14) 0 dX11_owed_14 rfl rfl ?_
    refine r_getR (pc := 15) (b := 166) dX11_owed_15 fl_X11_17 rfl hM.k hM.r2 ?_
    refine r_bipush (pc := 18) dX11_owed_18 (by decide) ?_
    refine r_ialdv (pc := 20) (w := f 166 40) dX11_owed_20 hM.a2 (by decide) (by decide) rfl ?_
    refine r_aload_n (pc := 21) 0 dX11_owed_21 rfl rfl ?_
    refine r_iload_n (pc := 22) 1 dX11_owed_22 rfl rfl ?_
    refine r_iconst (pc := 23) dX11_owed_23 ?_
    refine r_callV (pc := 24) (As := [(.int (iI (c))), (.int (iI (3)))]) (S := [(.int (iI (f 166 40))), (.int (iI (f 166 (5 * (c) + (4)).toNat)))]) dX11_owed_24 cv_X11_138 hM.k rfl (Nat.le_of_ble_eq_true rfl) (m_factOf l z _ hM (by omega) (by omega)) (Nat.zero_le _) (Nat.zero_le _) (fun r_24 g_24 f_24 q_24 => ?_)
    obtain ⟨rfl, rfl, rfl⟩ := q_24
    refine r_imul (pc := 27) dX11_owed_27 ?_
    refine r_isub (pc := 28) dX11_owed_28 ?_
    refine r_goto (pc := 29) (tgt := 34) dX11_owed_29 (by decide) ?_
    exact r_iret (pc := 34) dX11_owed_34 rfl rfl ⟨by simp only [aOwed]; (repeat' split) <;> first | rfl | (exfalso; omega), rfl, rfl⟩

set_option maxRecDepth 100000 in
set_option maxHeartbeats 4000000 in
theorem m_crumbs (l : Launch) (z : Zv) (d : Nat) {g : Gm} {f : Fm} (hM : ML g) : PM l z d mX11_crumbs [(.ref 164)] g f 0 0 (rdQ (.int (iI (f 164 5))) g f) := by
  refine PM.of (by decide +kernel) (Nat.le_of_ble_eq_true rfl) ?_
  refine r_aload_n (pc := 0) 0 dX11_crumbs_0 rfl rfl ?_
  refine r_getI (pc := 1) dX11_crumbs_1 fl_X11_153 rfl hM.k ?_
  exact r_iret (pc := 4) dX11_crumbs_4 rfl rfl ⟨rfl, rfl, rfl⟩

set_option maxRecDepth 100000 in
set_option maxHeartbeats 4000000 in
theorem m_fault (l : Launch) (z : Zv) (d : Nat) {g : Gm} {f : Fm} (hM : ML g) : PM l z d mX11_fault [(.ref 164)] g f 0 0 (rdQ (.int (iI (f 164 10))) g f) := by
  refine PM.of (by decide +kernel) (Nat.le_of_ble_eq_true rfl) ?_
  refine r_aload_n (pc := 0) 0 dX11_fault_0 rfl rfl ?_
  refine r_getI (pc := 1) dX11_fault_1 fl_X11_37 rfl hM.k ?_
  exact r_iret (pc := 4) dX11_fault_4 rfl rfl ⟨rfl, rfl, rfl⟩

set_option maxRecDepth 100000 in
set_option maxHeartbeats 4000000 in
theorem m_status (l : Launch) (z : Zv) (d : Nat) {g : Gm} {f : Fm} (hM : ML g) : PM l z d mX11_status [(.ref 164)] g f 0 0 (rdQ (.int (iI (f 164 0))) g f) := by
  refine PM.of (by decide +kernel) (Nat.le_of_ble_eq_true rfl) ?_
  refine r_aload_n (pc := 0) 0 dX11_status_0 rfl rfl ?_
  refine r_getI (pc := 1) dX11_status_1 fl_X11_3 rfl hM.k ?_
  exact r_iret (pc := 4) dX11_status_4 rfl rfl ⟨rfl, rfl, rfl⟩

set_option maxRecDepth 100000 in
set_option maxHeartbeats 4000000 in
theorem m_end (l : Launch) (z : Zv) (d : Nat) {g : Gm} {f : Fm} {n : Int} (hM : ML g) (h9 : 0 ≤ f 164 9 ∧ f 164 9 ≤ 400) (hn : -2147483648 ≤ n ∧ n ≤ 2147483647) : PM l z (d + 1) mX11_end [(.ref 164), (.int (iI (n)))] g f 0 0 (rdQ (.int (iI (aEnd f n))) g (nEnd f n)) := by
  refine PM.of (by decide +kernel) (Nat.le_of_ble_eq_true rfl) ?_
  refine r_iload_n (pc := 0) 1 dX11_end_0 rfl rfl ?_
  refine r_iconst (pc := 1) dX11_end_1 ?_
  refine r_aload_n (pc := 2) 0 dX11_end_2 rfl rfl ?_
  refine r_getI (pc := 3) dX11_end_3 fl_X11_150 rfl hM.k ?_
  refine r_callS (pc := 6) (As := [(.int (iI (n))), (.int (iI (0))), (.int (iI (f 164 9)))]) (S := []) dX11_end_6 cs_X11_110 rfl (Nat.le_of_ble_eq_true rfl) (m_lies l z _ (by omega) (by omega) (by omega)) (Nat.zero_le _) (Nat.zero_le _) (fun r_6 g_6 f_6 q_6 => ?_)
  obtain ⟨rfl, rfl, rfl⟩ := q_6
  refine r_if_ne (pc := 9) (tgt := 14) dX11_end_9 (by decide) (b01_r) (fun c_9 => ?_) (fun c_9 => ?_)
  · replace c_9 := b01_nz c_9
    refine r_aload_n (pc := 14) 0 dX11_end_14 rfl rfl ?_
    refine r_iload_n (pc := 15) 1 dX11_end_15 rfl rfl ?_
    refine r_putI (pc := 16) dX11_end_16 fl_X11_150 rfl rfl hM.k ?_
    refine r_iload_n (pc := 19) 1 dX11_end_19 rfl rfl ?_
    exact r_iret (pc := 20) dX11_end_20 rfl rfl ⟨by simp only [aEnd]; (repeat' split) <;> first | rfl | (exfalso; omega), rfl, by simp only [nEnd]; (repeat' split) <;> first | rfl | (exfalso; omega)⟩
  · replace c_9 := b01_z c_9
    refine r_iconst (pc := 12) dX11_end_12 ?_
    exact r_iret (pc := 13) dX11_end_13 rfl rfl ⟨by simp only [aEnd]; (repeat' split) <;> first | rfl | (exfalso; omega), rfl, by simp only [nEnd]; (repeat' split) <;> first | rfl | (exfalso; omega)⟩

set_option maxRecDepth 100000 in
set_option maxHeartbeats 4000000 in
theorem m_force (l : Launch) (z : Zv) (d : Nat) {g : Gm} {f : Fm} {n : Int} (hM : ML g) (h80 : 0 ≤ f 166 80 ∧ f 166 80 ≤ 6) (hn : -2147483648 ≤ n ∧ n ≤ 2147483647) : PM l z (d + 1) mX11_force [(.ref 164), (.int (iI (n)))] g f 0 0 (rdQ (.int (iI (aForce f n))) g (nForce f n)) := by
  refine PM.of (by decide +kernel) (Nat.le_of_ble_eq_true rfl) ?_
  refine r_iload_n (pc := 0) 1 dX11_force_0 rfl rfl ?_
  refine r_iconst (pc := 1) dX11_force_1 ?_
  refine r_aload_n (pc := 2) 0 dX11_force_2 rfl rfl ?_
  refine r_getR (pc := 3) (b := 166) dX11_force_3 fl_X11_17 rfl hM.k hM.r2 ?_
  refine r_bipush (pc := 6) dX11_force_6 (by decide) ?_
  refine r_ialdv (pc := 8) (w := f 166 80) dX11_force_8 hM.a2 (by decide) (by decide) rfl ?_
  refine r_iconst (pc := 9) dX11_force_9 ?_
  refine r_isub (pc := 10) dX11_force_10 ?_
  refine r_callS (pc := 11) (As := [(.int (iI (n))), (.int (iI (-1))), (.int (iI ((f 166 80) - (1))))]) (S := []) dX11_force_11 cs_X11_110 rfl (Nat.le_of_ble_eq_true rfl) (m_lies l z _ (by omega) (by omega) (by omega)) (Nat.zero_le _) (Nat.zero_le _) (fun r_11 g_11 f_11 q_11 => ?_)
  obtain ⟨rfl, rfl, rfl⟩ := q_11
  refine r_if_ne (pc := 14) (tgt := 24) dX11_force_14 (by decide) (b01_r) (fun c_14 => ?_) (fun c_14 => ?_)
  · replace c_14 := b01_nz c_14
    refine r_aload_n (pc := 24) 0 dX11_force_24 rfl rfl ?_
    refine r_getR (pc := 25) (b := 166) dX11_force_25 fl_X11_17 rfl hM.k hM.r2 ?_
    refine r_bipush (pc := 28) dX11_force_28 (by decide) ?_
    refine r_ialdv (pc := 30) (w := f 166 81) dX11_force_30 hM.a2 (by decide) (by decide) rfl ?_
    refine r_istore_n (pc := 31) (L2 := [(2, (.int (iI (f 166 81)))), (0, (.ref 164)), (1, (.int (iI (n))))]) dX11_force_31 rfl (by decide) rfl ?_
    refine r_aload_n (pc := 32) 1 dX11_force_32 rfl rfl ?_
    refine r_getR (pc := 33) (b := 166) dX11_force_33 fl_X11_17 rfl hM.k hM.r2 ?_
    refine r_bipush (pc := 36) dX11_force_36 (by decide) ?_
    refine r_iload_n (pc := 38) 2 dX11_force_38 rfl rfl ?_
    refine r_iastv (pc := 39) (i := 81) dX11_force_39 hM.a2 (by decide) (by decide) rfl ?_
    refine r_aload_n (pc := 40) 1 dX11_force_40 rfl rfl ?_
    refine r_iload_n (pc := 41) 0 dX11_force_41 rfl rfl ?_
    refine r_callV (pc := 42) (As := [(.int (iI (f 166 81)))]) (S := []) dX11_force_42 cv_X11_118 hM.k rfl (Nat.le_of_ble_eq_true rfl) (m_good l z _ _ hM) (Nat.zero_le _) (Nat.zero_le _) (fun r_42 g_42 f_42 q_42 => ?_)
    obtain ⟨rfl, rfl, rfl⟩ := q_42
    exact r_iret (pc := 45) dX11_force_45 rfl rfl ⟨by simp only [aForce]; (repeat' split) <;> first | rfl | (exfalso; omega), rfl, by simp only [nForce]; (repeat' split) <;> first | rfl | (exfalso; omega)⟩
  · replace c_14 := b01_z c_14
    refine r_aload_n (pc := 17) 0 dX11_force_17 rfl rfl ?_
    refine r_bipush (pc := 18) dX11_force_18 (by decide) ?_
    refine r_callV (pc := 20) (As := [(.int (iI (-2)))]) (S := []) dX11_force_20 cv_X11_114 hM.k rfl (Nat.le_of_ble_eq_true rfl) (m_refuses l z _ hM (by omega)) (Nat.zero_le _) (Nat.zero_le _) (fun r_20 g_20 f_20 q_20 => ?_)
    obtain ⟨rfl, rfl, rfl⟩ := q_20
    exact r_iret (pc := 23) dX11_force_23 rfl rfl ⟨by simp only [aForce]; (repeat' split) <;> first | rfl | (exfalso; omega), rfl, by simp only [nForce]; (repeat' split) <;> first | rfl | (exfalso; omega)⟩

set_option maxRecDepth 100000 in
set_option maxHeartbeats 4000000 in
theorem m_tells (l : Launch) (z : Zv) (d : Nat) {g : Gm} {f : Fm} {a m c v n : Int} (hM : ML g) (h77 : 0 ≤ f 166 77 ∧ f 166 77 ≤ 8) (hat : a = 45 ∧ m = 78 ∨ a = 61 ∧ m = 79) (hmm : f 166 m.toNat = n) (hn : 0 ≤ n ∧ n ≤ 8) (hc : -2147483648 ≤ c ∧ c ≤ 2147483647) (hv : -2147483648 ≤ v ∧ v ≤ 2147483647) : PM l z (d + 2) mX11_tells [(.ref 164), (.int (iI (a))), (.int (iI (m))), (.int (iI (8))), (.int (iI (c))), (.int (iI (v)))] g f 0 0 (rdQ (.int (iI (aTells f m c v))) g (nTells f a m c v)) := by
  refine PM.of (by decide +kernel) (Nat.le_of_ble_eq_true rfl) ?_
  refine r_iload (pc := 0) 5 dX11_tells_0 rfl ?_
  refine r_iconst (pc := 2) dX11_tells_2 ?_
  refine r_bipush (pc := 3) dX11_tells_3 (by decide) ?_
  refine r_callS (pc := 5) (As := [(.int (iI (v))), (.int (iI (0))), (.int (iI (20)))]) (S := []) dX11_tells_5 cs_X11_110 rfl (Nat.le_of_ble_eq_true rfl) (m_lies l z _ (by omega) (by omega) (by omega)) (Nat.zero_le _) (Nat.zero_le _) (fun r_5 g_5 f_5 q_5 => ?_)
  obtain ⟨rfl, rfl, rfl⟩ := q_5
  refine r_if_ne (pc := 8) (tgt := 17) dX11_tells_8 (by decide) (b01_r) (fun c_8 => ?_) (fun c_8 => ?_)
  · replace c_8 := b01_nz c_8
    refine r_aload_n (pc := 17) 0 dX11_tells_17 rfl rfl ?_
    refine r_iload (pc := 18) 4 dX11_tells_18 rfl ?_
    refine r_callV (pc := 20) (As := [(.int (iI (c)))]) (S := []) dX11_tells_20 cv_X11_134 hM.k rfl (Nat.le_of_ble_eq_true rfl) (m_isCustomer l z _ hM (by omega) (by omega)) (Nat.zero_le _) (Nat.zero_le _) (fun r_20 g_20 f_20 q_20 => ?_)
    obtain ⟨rfl, rfl, rfl⟩ := q_20
    refine r_if_ne (pc := 23) (tgt := 33) dX11_tells_23 (by decide) (b01_r) (fun c_23 => ?_) (fun c_23 => ?_)
    · replace c_23 := b01_nz c_23
      refine r_aload_n (pc := 33) 0 dX11_tells_33 rfl rfl ?_
      refine r_getR (pc := 34) (b := 166) dX11_tells_34 fl_X11_17 rfl hM.k hM.r2 ?_
      refine r_iload_n (pc := 37) 2 dX11_tells_37 rfl rfl ?_
      refine r_ialdv (pc := 38) (w := n) dX11_tells_38 hM.a2 (by omega) (by decide) (hmm) ?_
      refine r_istore (pc := 39) (L2 := [(6, (.int (iI (n)))), (0, (.ref 164)), (1, (.int (iI (a)))), (2, (.int (iI (m)))), (3, (.int (iI (8)))), (4, (.int (iI (c)))), (5, (.int (iI (v))))]) dX11_tells_39 (by decide) rfl ?_
      refine r_iload (pc := 41) 0 dX11_tells_41 rfl ?_
      refine r_iload_n (pc := 43) 4 dX11_tells_43 rfl rfl ?_
      refine r_icmp_ne (pc := 44) (tgt := 54) dX11_tells_44 (by decide) (by omega) (by omega) (fun c_44 => ?_) (fun c_44 => ?_)
      · refine r_aload_n (pc := 54) 1 dX11_tells_54 rfl rfl ?_
        refine r_getR (pc := 55) (b := 166) dX11_tells_55 fl_X11_17 rfl hM.k hM.r2 ?_
        refine r_iload_n (pc := 58) 2 dX11_tells_58 rfl rfl ?_
        refine r_iconst (pc := 59) dX11_tells_59 ?_
        refine r_iload (pc := 60) 0 dX11_tells_60 rfl ?_
        refine r_imul (pc := 62) dX11_tells_62 ?_
        refine r_iadd (pc := 63) dX11_tells_63 ?_
        refine r_iload (pc := 64) 5 dX11_tells_64 rfl ?_
        refine r_iast (pc := 66) dX11_tells_66 hM.a2 (by omega) (by decide) ?_
        refine r_aload_n (pc := 67) 1 dX11_tells_67 rfl rfl ?_
        refine r_getR (pc := 68) (b := 166) dX11_tells_68 fl_X11_17 rfl hM.k hM.r2 ?_
        refine r_iload_n (pc := 71) 2 dX11_tells_71 rfl rfl ?_
        refine r_iconst (pc := 72) dX11_tells_72 ?_
        refine r_iload (pc := 73) 0 dX11_tells_73 rfl ?_
        refine r_imul (pc := 75) dX11_tells_75 ?_
        refine r_iadd (pc := 76) dX11_tells_76 ?_
        refine r_iconst (pc := 77) dX11_tells_77 ?_
        refine r_iadd (pc := 78) dX11_tells_78 ?_
        refine r_iload (pc := 79) 6 dX11_tells_79 rfl ?_
        refine r_iast (pc := 81) dX11_tells_81 hM.a2 (by omega) (by decide) ?_
        refine r_aload_n (pc := 82) 1 dX11_tells_82 rfl rfl ?_
        refine r_getR (pc := 83) (b := 166) dX11_tells_83 fl_X11_17 rfl hM.k hM.r2 ?_
        refine r_iload_n (pc := 86) 3 dX11_tells_86 rfl rfl ?_
        refine r_dup2 (pc := 87) dX11_tells_87 rfl rfl ?_
        refine r_ialdv (pc := 88) (w := n) dX11_tells_88 hM.a2 (by omega) (by decide) (by simp only [stF]; rw [if_neg (by omega), if_neg (by omega)]; exact hmm) ?_
        refine r_iconst (pc := 89) dX11_tells_89 ?_
        refine r_iadd (pc := 90) dX11_tells_90 ?_
        refine r_iast (pc := 91) dX11_tells_91 hM.a2 (by omega) (by decide) ?_
        refine r_aload_n (pc := 92) 1 dX11_tells_92 rfl rfl ?_
        refine r_iload (pc := 93) 0 dX11_tells_93 rfl ?_
        refine r_iconst (pc := 95) dX11_tells_95 ?_
        refine r_iadd (pc := 96) dX11_tells_96 ?_
        refine r_callV (pc := 97) (As := [(.int (iI ((n) + (1))))]) (S := []) dX11_tells_97 cv_X11_118 hM.k rfl (Nat.le_of_ble_eq_true rfl) (m_good l z _ _ hM) (Nat.zero_le _) (Nat.zero_le _) (fun r_97 g_97 f_97 q_97 => ?_)
        obtain ⟨rfl, rfl, rfl⟩ := q_97
        exact r_iret (pc := 100) dX11_tells_100 rfl rfl ⟨by simp only [aTells, hmm]; (repeat' split) <;> first | rfl | (exfalso; omega), rfl, by simp only [nTells, hmm]; (repeat' split) <;> first | rfl | (exfalso; omega)⟩
      · refine r_aload_n (pc := 47) 1 dX11_tells_47 rfl rfl ?_
        refine r_bipush (pc := 48) dX11_tells_48 (by decide) ?_
        refine r_callV (pc := 50) (As := [(.int (iI (-5)))]) (S := []) dX11_tells_50 cv_X11_114 hM.k rfl (Nat.le_of_ble_eq_true rfl) (m_refuses l z _ hM (by omega)) (Nat.zero_le _) (Nat.zero_le _) (fun r_50 g_50 f_50 q_50 => ?_)
        obtain ⟨rfl, rfl, rfl⟩ := q_50
        exact r_iret (pc := 53) dX11_tells_53 rfl rfl ⟨by simp only [aTells, hmm]; (repeat' split) <;> first | rfl | (exfalso; omega), rfl, by simp only [nTells, hmm]; (repeat' split) <;> first | rfl | (exfalso; omega)⟩
    · replace c_23 := b01_z c_23
      refine r_aload_n (pc := 26) 0 dX11_tells_26 rfl rfl ?_
      refine r_bipush (pc := 27) dX11_tells_27 (by decide) ?_
      refine r_callV (pc := 29) (As := [(.int (iI (-2)))]) (S := []) dX11_tells_29 cv_X11_114 hM.k rfl (Nat.le_of_ble_eq_true rfl) (m_refuses l z _ hM (by omega)) (Nat.zero_le _) (Nat.zero_le _) (fun r_29 g_29 f_29 q_29 => ?_)
      obtain ⟨rfl, rfl, rfl⟩ := q_29
      exact r_iret (pc := 32) dX11_tells_32 rfl rfl ⟨by simp only [aTells, hmm]; (repeat' split) <;> first | rfl | (exfalso; omega), rfl, by simp only [nTells, hmm]; (repeat' split) <;> first | rfl | (exfalso; omega)⟩
  · replace c_8 := b01_z c_8
    refine r_aload_n (pc := 11) 0 dX11_tells_11 rfl rfl ?_
    refine r_iconst (pc := 12) dX11_tells_12 ?_
    refine r_callV (pc := 13) (As := [(.int (iI (-1)))]) (S := []) dX11_tells_13 cv_X11_114 hM.k rfl (Nat.le_of_ble_eq_true rfl) (m_refuses l z _ hM (by omega)) (Nat.zero_le _) (Nat.zero_le _) (fun r_13 g_13 f_13 q_13 => ?_)
    obtain ⟨rfl, rfl, rfl⟩ := q_13
    exact r_iret (pc := 16) dX11_tells_16 rfl rfl ⟨by simp only [aTells, hmm]; (repeat' split) <;> first | rfl | (exfalso; omega), rfl, by simp only [nTells, hmm]; (repeat' split) <;> first | rfl | (exfalso; omega)⟩

set_option maxRecDepth 100000 in
set_option maxHeartbeats 4000000 in
theorem m_sight (l : Launch) (z : Zv) (d : Nat) {g : Gm} {f : Fm} {c v : Int} (hM : ML g) (h77 : 0 ≤ f 166 77 ∧ f 166 77 ≤ 8) (h78 : 0 ≤ f 166 78 ∧ f 166 78 ≤ 8) (hc : -2147483648 ≤ c ∧ c ≤ 2147483647) (hv : -2147483648 ≤ v ∧ v ≤ 2147483647) : PM l z (d + 3) mX11_sight [(.ref 164), (.int (iI (c))), (.int (iI (v)))] g f 0 0 (rdQ (.int (iI (aTells f 78 c v))) g (nTells f 45 78 c v)) := by
  refine PM.of (by decide +kernel) (Nat.le_of_ble_eq_true rfl) ?_
  refine r_aload_n (pc := 0) 0 dX11_sight_0 rfl rfl ?_
  refine r_bipush (pc := 1) dX11_sight_1 (by decide) ?_
  refine r_bipush (pc := 3) dX11_sight_3 (by decide) ?_
  refine r_bipush (pc := 5) dX11_sight_5 (by decide) ?_
  refine r_iload_n (pc := 7) 1 dX11_sight_7 rfl rfl ?_
  refine r_iload_n (pc := 8) 2 dX11_sight_8 rfl rfl ?_
  refine r_callV (pc := 9) (As := [(.int (iI (45))), (.int (iI (78))), (.int (iI (8))), (.int (iI (c))), (.int (iI (v)))]) (S := []) dX11_sight_9 cv_X11_350 hM.k rfl (Nat.le_of_ble_eq_true rfl) (m_tells l z _ hM h77 (by decide) rfl (by assumption) hc hv) (Nat.zero_le _) (Nat.zero_le _) (fun r_9 g_9 f_9 q_9 => ?_)
  obtain ⟨rfl, rfl, rfl⟩ := q_9
  exact r_iret (pc := 12) dX11_sight_12 rfl rfl ⟨rfl, rfl, rfl⟩

set_option maxRecDepth 100000 in
set_option maxHeartbeats 4000000 in
theorem m_claim (l : Launch) (z : Zv) (d : Nat) {g : Gm} {f : Fm} {c v : Int} (hM : ML g) (h77 : 0 ≤ f 166 77 ∧ f 166 77 ≤ 8) (h79 : 0 ≤ f 166 79 ∧ f 166 79 ≤ 8) (hc : -2147483648 ≤ c ∧ c ≤ 2147483647) (hv : -2147483648 ≤ v ∧ v ≤ 2147483647) : PM l z (d + 3) mX11_claim [(.ref 164), (.int (iI (c))), (.int (iI (v)))] g f 0 0 (rdQ (.int (iI (aTells f 79 c v))) g (nTells f 61 79 c v)) := by
  refine PM.of (by decide +kernel) (Nat.le_of_ble_eq_true rfl) ?_
  refine r_aload_n (pc := 0) 0 dX11_claim_0 rfl rfl ?_
  refine r_bipush (pc := 1) dX11_claim_1 (by decide) ?_
  refine r_bipush (pc := 3) dX11_claim_3 (by decide) ?_
  refine r_bipush (pc := 5) dX11_claim_5 (by decide) ?_
  refine r_iload_n (pc := 7) 1 dX11_claim_7 rfl rfl ?_
  refine r_iload_n (pc := 8) 2 dX11_claim_8 rfl rfl ?_
  refine r_callV (pc := 9) (As := [(.int (iI (61))), (.int (iI (79))), (.int (iI (8))), (.int (iI (c))), (.int (iI (v)))]) (S := []) dX11_claim_9 cv_X11_350 hM.k rfl (Nat.le_of_ble_eq_true rfl) (m_tells l z _ hM h77 (by decide) rfl (by assumption) hc hv) (Nat.zero_le _) (Nat.zero_le _) (fun r_9 g_9 f_9 q_9 => ?_)
  obtain ⟨rfl, rfl, rfl⟩ := q_9
  exact r_iret (pc := 12) dX11_claim_12 rfl rfl ⟨rfl, rfl, rfl⟩

set_option maxRecDepth 100000 in
set_option maxHeartbeats 4000000 in
theorem m_forget (l : Launch) (z : Zv) (d : Nat) {g : Gm} {f : Fm} (hM : ML g) : PM l z d mX11_forget [(.ref 164)] g f 0 0 (rdQ (.int (iI (f 166 78 + f 166 79))) g (nForget f)) := by
  refine PM.of (by decide +kernel) (Nat.le_of_ble_eq_true rfl) ?_
  refine r_aload_n (pc := 0) 0 dX11_forget_0 rfl rfl ?_
  refine r_getR (pc := 1) (b := 166) dX11_forget_1 fl_X11_17 rfl hM.k hM.r2 ?_
  refine r_bipush (pc := 4) dX11_forget_4 (by decide) ?_
  refine r_ialdv (pc := 6) (w := f 166 78) dX11_forget_6 hM.a2 (by decide) (by decide) rfl ?_
  refine r_aload_n (pc := 7) 0 dX11_forget_7 rfl rfl ?_
  refine r_getR (pc := 8) (b := 166) dX11_forget_8 fl_X11_17 rfl hM.k hM.r2 ?_
  refine r_bipush (pc := 11) dX11_forget_11 (by decide) ?_
  refine r_ialdv (pc := 13) (w := f 166 79) dX11_forget_13 hM.a2 (by decide) (by decide) rfl ?_
  refine r_iadd (pc := 14) dX11_forget_14 ?_
  refine r_istore_n (pc := 15) (L2 := [(1, (.int (iI ((f 166 78) + (f 166 79))))), (0, (.ref 164))]) dX11_forget_15 rfl (by decide) rfl ?_
  refine r_aload_n (pc := 16) 1 dX11_forget_16 rfl rfl ?_
  refine r_getR (pc := 17) (b := 166) dX11_forget_17 fl_X11_17 rfl hM.k hM.r2 ?_
  refine r_bipush (pc := 20) dX11_forget_20 (by decide) ?_
  refine r_iconst (pc := 22) dX11_forget_22 ?_
  refine r_iastv (pc := 23) (i := 78) dX11_forget_23 hM.a2 (by decide) (by decide) rfl ?_
  refine r_aload_n (pc := 24) 1 dX11_forget_24 rfl rfl ?_
  refine r_getR (pc := 25) (b := 166) dX11_forget_25 fl_X11_17 rfl hM.k hM.r2 ?_
  refine r_bipush (pc := 28) dX11_forget_28 (by decide) ?_
  refine r_iconst (pc := 30) dX11_forget_30 ?_
  refine r_iastv (pc := 31) (i := 79) dX11_forget_31 hM.a2 (by decide) (by decide) rfl ?_
  refine r_iload_n (pc := 32) 0 dX11_forget_32 rfl rfl ?_
  exact r_iret (pc := 33) dX11_forget_33 rfl rfl ⟨rfl, rfl, rfl⟩

set_option maxRecDepth 100000 in
set_option maxHeartbeats 4000000 in
theorem m_drawn (l : Launch) (z : Zv) (d : Nat) {g : Gm} {f : Fm} {c w : Int} (hM : ML g) (h43 : 0 ≤ f 164 43 ∧ f 164 43 ≤ 8) (hc : -2147483648 ≤ c ∧ c ≤ 2147483647) (hw : -2147483648 ≤ w ∧ w ≤ 2147483647) : PM l z (d + 1) mX11_drawn [(.ref 164), (.int (iI (c))), (.int (iI (w)))] g f 0 0 (rdQ (.int (iI (aDrawn f c w))) g f) := by
  refine PM.of (by decide +kernel) (Nat.le_of_ble_eq_true rfl) ?_
  refine r_iload_n (pc := 0) 1 dX11_drawn_0 rfl rfl ?_
  refine r_iconst (pc := 1) dX11_drawn_1 ?_
  refine r_aload_n (pc := 2) 0 dX11_drawn_2 rfl rfl ?_
  refine r_getI (pc := 3) dX11_drawn_3 fl_X11_372 rfl hM.k ?_
  refine r_iconst (pc := 6) dX11_drawn_6 ?_
  refine r_isub (pc := 7) dX11_drawn_7 ?_
  refine r_callS (pc := 8) (As := [(.int (iI (c))), (.int (iI (0))), (.int (iI ((f 164 43) - (1))))]) (S := []) dX11_drawn_8 cs_X11_110 rfl (Nat.le_of_ble_eq_true rfl) (m_lies l z _ (by omega) (by omega) (by omega)) (Nat.zero_le _) (Nat.zero_le _) (fun r_8 g_8 f_8 q_8 => ?_)
  obtain ⟨rfl, rfl, rfl⟩ := q_8
  refine r_if_eq (pc := 11) (tgt := 23) dX11_drawn_11 (by decide) (b01_r) (fun c_11 => ?_) (fun c_11 => ?_)
  · replace c_11 := b01_z c_11
    refine r_iconst (pc := 23) dX11_drawn_23 ?_
    refine r_goto (pc := 24) (tgt := 46) dX11_drawn_24 (by decide) ?_
    exact r_iret (pc := 46) dX11_drawn_46 rfl rfl ⟨by simp only [aDrawn]; (repeat' split) <;> first | rfl | (exfalso; omega), rfl, rfl⟩
  · replace c_11 := b01_nz c_11
    refine r_iload_n (pc := 14) 2 dX11_drawn_14 rfl rfl ?_
    refine r_iconst (pc := 15) dX11_drawn_15 ?_
    refine r_iconst (pc := 16) dX11_drawn_16 ?_
    refine r_callS (pc := 17) (As := [(.int (iI (w))), (.int (iI (0))), (.int (iI (1)))]) (S := []) dX11_drawn_17 cs_X11_110 rfl (Nat.le_of_ble_eq_true rfl) (m_lies l z _ (by omega) (by omega) (by omega)) (Nat.zero_le _) (Nat.zero_le _) (fun r_17 g_17 f_17 q_17 => ?_)
    obtain ⟨rfl, rfl, rfl⟩ := q_17
    refine r_if_ne (pc := 20) (tgt := 27) dX11_drawn_20 (by decide) (b01_r) (fun c_20 => ?_) (fun c_20 => ?_)
    · replace c_20 := b01_nz c_20
      refine r_iload_n (pc := 27) 2 dX11_drawn_27 rfl rfl ?_
      refine r_if_ne (pc := 28) (tgt := 40) dX11_drawn_28 (by decide) (by omega) (fun c_28 => ?_) (fun c_28 => ?_)
      · refine r_aload_n (pc := 40) 0 dX11_drawn_40 rfl rfl ?_
        refine r_getR (pc := 41) (b := 193) dX11_drawn_41 fl_X11_104 rfl hM.k hM.r41 ?_
        refine r_iload_n (pc := 44) 1 dX11_drawn_44 rfl rfl ?_
        refine r_iald (pc := 45) dX11_drawn_45 hM.a41 (by omega) (by decide) ?_
        exact r_iret (pc := 46) dX11_drawn_46 rfl rfl ⟨by simp only [aDrawn]; (repeat' split) <;> first | rfl | (exfalso; omega), rfl, rfl⟩
      · refine r_aload_n (pc := 31) 0 dX11_drawn_31 rfl rfl ?_
        refine r_getR (pc := 32) (b := 192) dX11_drawn_32 fl_X11_101 rfl hM.k hM.r40 ?_
        refine r_iload_n (pc := 35) 1 dX11_drawn_35 rfl rfl ?_
        refine r_iald (pc := 36) dX11_drawn_36 hM.a40 (by omega) (by decide) ?_
        refine r_goto (pc := 37) (tgt := 46) dX11_drawn_37 (by decide) ?_
        exact r_iret (pc := 46) dX11_drawn_46 rfl rfl ⟨by simp only [aDrawn]; (repeat' split) <;> first | rfl | (exfalso; omega), rfl, rfl⟩
    · replace c_20 := b01_z c_20
      refine r_iconst (pc := 23) dX11_drawn_23 ?_
      refine r_goto (pc := 24) (tgt := 46) dX11_drawn_24 (by decide) ?_
      exact r_iret (pc := 46) dX11_drawn_46 rfl rfl ⟨by simp only [aDrawn]; (repeat' split) <;> first | rfl | (exfalso; omega), rfl, rfl⟩

set_option maxRecDepth 100000 in
set_option maxHeartbeats 4000000 in
theorem m_count (l : Launch) (z : Zv) (d : Nat) {g : Gm} {f : Fm} {w : Int} (hM : ML g) (hw : -2147483648 ≤ w ∧ w ≤ 2147483647) : PM l z (d + 1) mX11_count [(.ref 164), (.int (iI (w)))] g f 0 0 (rdQ (.int (iI (aCount f w))) g f) := by
  refine PM.of (by decide +kernel) (Nat.le_of_ble_eq_true rfl) ?_
  refine r_iload_n (pc := 0) 1 dX11_count_0 rfl rfl ?_
  rcases (show w < 0 ∨ 15 < w ∨ w = 0 ∨ w = 1 ∨ w = 2 ∨ w = 3 ∨ w = 4 ∨ w = 5 ∨ w = 6 ∨ w = 7 ∨ w = 8 ∨ w = 9 ∨ w = 10 ∨ w = 11 ∨ w = 12 ∨ w = 13 ∨ w = 14 ∨ w = 15 by omega) with c_1 | c_1 | c_1 | c_1 | c_1 | c_1 | c_1 | c_1 | c_1 | c_1 | c_1 | c_1 | c_1 | c_1 | c_1 | c_1 | c_1 | c_1
  · refine r_tswD (pc := 1) (tgt := 159) dX11_count_1 (by omega) (by omega) (by decide) ?_
    refine r_iconst (pc := 159) dX11_count_159 ?_
    exact r_iret (pc := 160) dX11_count_160 rfl rfl ⟨by simp only [aCount]; (repeat' split) <;> first | rfl | (exfalso; omega), rfl, rfl⟩
  · refine r_tswD (pc := 1) (tgt := 159) dX11_count_1 (by omega) (by omega) (by decide) ?_
    refine r_iconst (pc := 159) dX11_count_159 ?_
    exact r_iret (pc := 160) dX11_count_160 rfl rfl ⟨by simp only [aCount]; (repeat' split) <;> first | rfl | (exfalso; omega), rfl, rfl⟩
  · refine r_tsw (pc := 1) (off := 79) (tgt := 80) dX11_count_1 (by omega) (by omega) (by omega) (by rw [c_1]; rfl) (by decide) ?_
    refine r_aload_n (pc := 80) 0 dX11_count_80 rfl rfl ?_
    refine r_callV (pc := 81) (As := []) (S := []) dX11_count_81 cv_X11_121 hM.k rfl (Nat.le_of_ble_eq_true rfl) (m_customers l z _ hM) (Nat.zero_le _) (Nat.zero_le _) (fun r_81 g_81 f_81 q_81 => ?_)
    obtain ⟨rfl, rfl, rfl⟩ := q_81
    exact r_iret (pc := 84) dX11_count_84 rfl rfl ⟨by simp only [aCount]; (repeat' split) <;> first | rfl | (exfalso; omega), rfl, rfl⟩
  · refine r_tsw (pc := 1) (off := 84) (tgt := 85) dX11_count_1 (by omega) (by omega) (by omega) (by rw [c_1]; rfl) (by decide) ?_
    refine r_aload_n (pc := 85) 0 dX11_count_85 rfl rfl ?_
    refine r_getR (pc := 86) (b := 166) dX11_count_86 fl_X11_17 rfl hM.k hM.r2 ?_
    refine r_bipush (pc := 89) dX11_count_89 (by decide) ?_
    refine r_ialdv (pc := 91) (w := f 166 80) dX11_count_91 hM.a2 (by decide) (by decide) rfl ?_
    exact r_iret (pc := 92) dX11_count_92 rfl rfl ⟨by simp only [aCount]; (repeat' split) <;> first | rfl | (exfalso; omega), rfl, rfl⟩
  · refine r_tsw (pc := 1) (off := 92) (tgt := 93) dX11_count_1 (by omega) (by omega) (by omega) (by rw [c_1]; rfl) (by decide) ?_
    refine r_aload_n (pc := 93) 0 dX11_count_93 rfl rfl ?_
    refine r_getR (pc := 94) (b := 166) dX11_count_94 fl_X11_17 rfl hM.k hM.r2 ?_
    refine r_bipush (pc := 97) dX11_count_97 (by decide) ?_
    refine r_ialdv (pc := 99) (w := f 166 78) dX11_count_99 hM.a2 (by decide) (by decide) rfl ?_
    exact r_iret (pc := 100) dX11_count_100 rfl rfl ⟨by simp only [aCount]; (repeat' split) <;> first | rfl | (exfalso; omega), rfl, rfl⟩
  · refine r_tsw (pc := 1) (off := 100) (tgt := 101) dX11_count_1 (by omega) (by omega) (by omega) (by rw [c_1]; rfl) (by decide) ?_
    refine r_aload_n (pc := 101) 0 dX11_count_101 rfl rfl ?_
    refine r_getR (pc := 102) (b := 166) dX11_count_102 fl_X11_17 rfl hM.k hM.r2 ?_
    refine r_bipush (pc := 105) dX11_count_105 (by decide) ?_
    refine r_ialdv (pc := 107) (w := f 166 79) dX11_count_107 hM.a2 (by decide) (by decide) rfl ?_
    exact r_iret (pc := 108) dX11_count_108 rfl rfl ⟨by simp only [aCount]; (repeat' split) <;> first | rfl | (exfalso; omega), rfl, rfl⟩
  · refine r_tsw (pc := 1) (off := 108) (tgt := 109) dX11_count_1 (by omega) (by omega) (by omega) (by rw [c_1]; rfl) (by decide) ?_
    refine r_aload_n (pc := 109) 0 dX11_count_109 rfl rfl ?_
    refine r_getI (pc := 110) dX11_count_110 fl_X11_150 rfl hM.k ?_
    exact r_iret (pc := 113) dX11_count_113 rfl rfl ⟨by simp only [aCount]; (repeat' split) <;> first | rfl | (exfalso; omega), rfl, rfl⟩
  · refine r_tsw (pc := 1) (off := 113) (tgt := 114) dX11_count_1 (by omega) (by omega) (by omega) (by rw [c_1]; rfl) (by decide) ?_
    refine r_aload_n (pc := 114) 0 dX11_count_114 rfl rfl ?_
    refine r_getR (pc := 115) (b := 165) dX11_count_115 fl_X11_7 rfl hM.k hM.r1 ?_
    refine r_iload_n (pc := 118) 1 dX11_count_118 rfl rfl ?_
    refine r_iconst (pc := 119) dX11_count_119 ?_
    refine r_isub (pc := 120) dX11_count_120 ?_
    refine r_iald (pc := 121) dX11_count_121 hM.a1 (by omega) (by decide) ?_
    exact r_iret (pc := 122) dX11_count_122 rfl rfl ⟨by simp only [aCount]; (repeat' split) <;> first | rfl | (exfalso; omega), rfl, rfl⟩
  · refine r_tsw (pc := 1) (off := 113) (tgt := 114) dX11_count_1 (by omega) (by omega) (by omega) (by rw [c_1]; rfl) (by decide) ?_
    refine r_aload_n (pc := 114) 0 dX11_count_114 rfl rfl ?_
    refine r_getR (pc := 115) (b := 165) dX11_count_115 fl_X11_7 rfl hM.k hM.r1 ?_
    refine r_iload_n (pc := 118) 1 dX11_count_118 rfl rfl ?_
    refine r_iconst (pc := 119) dX11_count_119 ?_
    refine r_isub (pc := 120) dX11_count_120 ?_
    refine r_iald (pc := 121) dX11_count_121 hM.a1 (by omega) (by decide) ?_
    exact r_iret (pc := 122) dX11_count_122 rfl rfl ⟨by simp only [aCount]; (repeat' split) <;> first | rfl | (exfalso; omega), rfl, rfl⟩
  · refine r_tsw (pc := 1) (off := 113) (tgt := 114) dX11_count_1 (by omega) (by omega) (by omega) (by rw [c_1]; rfl) (by decide) ?_
    refine r_aload_n (pc := 114) 0 dX11_count_114 rfl rfl ?_
    refine r_getR (pc := 115) (b := 165) dX11_count_115 fl_X11_7 rfl hM.k hM.r1 ?_
    refine r_iload_n (pc := 118) 1 dX11_count_118 rfl rfl ?_
    refine r_iconst (pc := 119) dX11_count_119 ?_
    refine r_isub (pc := 120) dX11_count_120 ?_
    refine r_iald (pc := 121) dX11_count_121 hM.a1 (by omega) (by decide) ?_
    exact r_iret (pc := 122) dX11_count_122 rfl rfl ⟨by simp only [aCount]; (repeat' split) <;> first | rfl | (exfalso; omega), rfl, rfl⟩
  · refine r_tsw (pc := 1) (off := 122) (tgt := 123) dX11_count_1 (by omega) (by omega) (by omega) (by rw [c_1]; rfl) (by decide) ?_
    refine r_aload_n (pc := 123) 0 dX11_count_123 rfl rfl ?_
    refine r_getR (pc := 124) (b := 165) dX11_count_124 fl_X11_7 rfl hM.k hM.r1 ?_
    refine r_iconst (pc := 127) dX11_count_127 ?_
    refine r_ialdv (pc := 128) (w := f 165 5) dX11_count_128 hM.a1 (by decide) (by decide) rfl ?_
    exact r_iret (pc := 129) dX11_count_129 rfl rfl ⟨by simp only [aCount]; (repeat' split) <;> first | rfl | (exfalso; omega), rfl, rfl⟩
  · refine r_tsw (pc := 1) (off := 129) (tgt := 130) dX11_count_1 (by omega) (by omega) (by omega) (by rw [c_1]; rfl) (by decide) ?_
    refine r_aload_n (pc := 130) 0 dX11_count_130 rfl rfl ?_
    refine r_getR (pc := 131) (b := 165) dX11_count_131 fl_X11_7 rfl hM.k hM.r1 ?_
    refine r_bipush (pc := 134) dX11_count_134 (by decide) ?_
    refine r_ialdv (pc := 136) (w := f 165 6) dX11_count_136 hM.a1 (by decide) (by decide) rfl ?_
    exact r_iret (pc := 137) dX11_count_137 rfl rfl ⟨by simp only [aCount]; (repeat' split) <;> first | rfl | (exfalso; omega), rfl, rfl⟩
  · refine r_tsw (pc := 1) (off := 137) (tgt := 138) dX11_count_1 (by omega) (by omega) (by omega) (by rw [c_1]; rfl) (by decide) ?_
    refine r_aload_n (pc := 138) 0 dX11_count_138 rfl rfl ?_
    refine r_getR (pc := 139) (b := 166) dX11_count_139 fl_X11_17 rfl hM.k hM.r2 ?_
    refine r_bipush (pc := 142) dX11_count_142 (by decide) ?_
    refine r_ialdv (pc := 144) (w := f 166 81) dX11_count_144 hM.a2 (by decide) (by decide) rfl ?_
    exact r_iret (pc := 145) dX11_count_145 rfl rfl ⟨by simp only [aCount]; (repeat' split) <;> first | rfl | (exfalso; omega), rfl, rfl⟩
  · refine r_tsw (pc := 1) (off := 145) (tgt := 146) dX11_count_1 (by omega) (by omega) (by omega) (by rw [c_1]; rfl) (by decide) ?_
    refine r_aload_n (pc := 146) 0 dX11_count_146 rfl rfl ?_
    refine r_getR (pc := 147) (b := 166) dX11_count_147 fl_X11_17 rfl hM.k hM.r2 ?_
    refine r_bipush (pc := 150) dX11_count_150 (by decide) ?_
    refine r_iload_n (pc := 152) 1 dX11_count_152 rfl rfl ?_
    refine r_iadd (pc := 153) dX11_count_153 ?_
    refine r_bipush (pc := 154) dX11_count_154 (by decide) ?_
    refine r_isub (pc := 156) dX11_count_156 ?_
    refine r_iald (pc := 157) dX11_count_157 hM.a2 (by omega) (by decide) ?_
    exact r_iret (pc := 158) dX11_count_158 rfl rfl ⟨by simp only [aCount]; (repeat' split) <;> first | rfl | (exfalso; omega), rfl, rfl⟩
  · refine r_tsw (pc := 1) (off := 145) (tgt := 146) dX11_count_1 (by omega) (by omega) (by omega) (by rw [c_1]; rfl) (by decide) ?_
    refine r_aload_n (pc := 146) 0 dX11_count_146 rfl rfl ?_
    refine r_getR (pc := 147) (b := 166) dX11_count_147 fl_X11_17 rfl hM.k hM.r2 ?_
    refine r_bipush (pc := 150) dX11_count_150 (by decide) ?_
    refine r_iload_n (pc := 152) 1 dX11_count_152 rfl rfl ?_
    refine r_iadd (pc := 153) dX11_count_153 ?_
    refine r_bipush (pc := 154) dX11_count_154 (by decide) ?_
    refine r_isub (pc := 156) dX11_count_156 ?_
    refine r_iald (pc := 157) dX11_count_157 hM.a2 (by omega) (by decide) ?_
    exact r_iret (pc := 158) dX11_count_158 rfl rfl ⟨by simp only [aCount]; (repeat' split) <;> first | rfl | (exfalso; omega), rfl, rfl⟩
  · refine r_tsw (pc := 1) (off := 145) (tgt := 146) dX11_count_1 (by omega) (by omega) (by omega) (by rw [c_1]; rfl) (by decide) ?_
    refine r_aload_n (pc := 146) 0 dX11_count_146 rfl rfl ?_
    refine r_getR (pc := 147) (b := 166) dX11_count_147 fl_X11_17 rfl hM.k hM.r2 ?_
    refine r_bipush (pc := 150) dX11_count_150 (by decide) ?_
    refine r_iload_n (pc := 152) 1 dX11_count_152 rfl rfl ?_
    refine r_iadd (pc := 153) dX11_count_153 ?_
    refine r_bipush (pc := 154) dX11_count_154 (by decide) ?_
    refine r_isub (pc := 156) dX11_count_156 ?_
    refine r_iald (pc := 157) dX11_count_157 hM.a2 (by omega) (by decide) ?_
    exact r_iret (pc := 158) dX11_count_158 rfl rfl ⟨by simp only [aCount]; (repeat' split) <;> first | rfl | (exfalso; omega), rfl, rfl⟩
  · refine r_tsw (pc := 1) (off := 145) (tgt := 146) dX11_count_1 (by omega) (by omega) (by omega) (by rw [c_1]; rfl) (by decide) ?_
    refine r_aload_n (pc := 146) 0 dX11_count_146 rfl rfl ?_
    refine r_getR (pc := 147) (b := 166) dX11_count_147 fl_X11_17 rfl hM.k hM.r2 ?_
    refine r_bipush (pc := 150) dX11_count_150 (by decide) ?_
    refine r_iload_n (pc := 152) 1 dX11_count_152 rfl rfl ?_
    refine r_iadd (pc := 153) dX11_count_153 ?_
    refine r_bipush (pc := 154) dX11_count_154 (by decide) ?_
    refine r_isub (pc := 156) dX11_count_156 ?_
    refine r_iald (pc := 157) dX11_count_157 hM.a2 (by omega) (by decide) ?_
    exact r_iret (pc := 158) dX11_count_158 rfl rfl ⟨by simp only [aCount]; (repeat' split) <;> first | rfl | (exfalso; omega), rfl, rfl⟩
  · refine r_tsw (pc := 1) (off := 145) (tgt := 146) dX11_count_1 (by omega) (by omega) (by omega) (by rw [c_1]; rfl) (by decide) ?_
    refine r_aload_n (pc := 146) 0 dX11_count_146 rfl rfl ?_
    refine r_getR (pc := 147) (b := 166) dX11_count_147 fl_X11_17 rfl hM.k hM.r2 ?_
    refine r_bipush (pc := 150) dX11_count_150 (by decide) ?_
    refine r_iload_n (pc := 152) 1 dX11_count_152 rfl rfl ?_
    refine r_iadd (pc := 153) dX11_count_153 ?_
    refine r_bipush (pc := 154) dX11_count_154 (by decide) ?_
    refine r_isub (pc := 156) dX11_count_156 ?_
    refine r_iald (pc := 157) dX11_count_157 hM.a2 (by omega) (by decide) ?_
    exact r_iret (pc := 158) dX11_count_158 rfl rfl ⟨by simp only [aCount]; (repeat' split) <;> first | rfl | (exfalso; omega), rfl, rfl⟩

set_option maxRecDepth 100000 in
set_option maxHeartbeats 4000000 in
theorem m_lesser (l : Launch) (z : Zv) (d : Nat) {g : Gm} {f : Fm} {x y : Int} (hx : -2147483648 ≤ x ∧ x ≤ 2147483647) (hy : -2147483648 ≤ y ∧ y ≤ 2147483647) : PM l z d mX11_lesser [(.int (iI (x))), (.int (iI (y)))] g f 0 0 (rdQ (.int (iI (min x y))) g f) := by
  refine PM.of (by decide +kernel) (Nat.le_of_ble_eq_true rfl) ?_
  refine r_iload_n (pc := 0) 0 dX11_lesser_0 rfl rfl ?_
  refine r_iload_n (pc := 1) 1 dX11_lesser_1 rfl rfl ?_
  refine r_icmp_ge (pc := 2) (tgt := 9) dX11_lesser_2 (by decide) (by omega) (by omega) (fun c_2 => ?_) (fun c_2 => ?_)
  · refine r_iload_n (pc := 9) 1 dX11_lesser_9 rfl rfl ?_
    exact r_iret (pc := 10) dX11_lesser_10 rfl rfl ⟨by first | rw [Int.min_eq_left (by omega)] | rw [Int.min_eq_right (by omega)], rfl, rfl⟩
  · refine r_iload_n (pc := 5) 0 dX11_lesser_5 rfl rfl ?_
    refine r_goto (pc := 6) (tgt := 10) dX11_lesser_6 (by decide) ?_
    exact r_iret (pc := 10) dX11_lesser_10 rfl rfl ⟨by first | rw [Int.min_eq_left (by omega)] | rw [Int.min_eq_right (by omega)], rfl, rfl⟩

set_option maxRecDepth 100000 in
set_option maxHeartbeats 4000000 in
theorem m_greater (l : Launch) (z : Zv) (d : Nat) {g : Gm} {f : Fm} {x y : Int} (hx : -2147483648 ≤ x ∧ x ≤ 2147483647) (hy : -2147483648 ≤ y ∧ y ≤ 2147483647) : PM l z d mX11_greater [(.int (iI (x))), (.int (iI (y)))] g f 0 0 (rdQ (.int (iI (max x y))) g f) := by
  refine PM.of (by decide +kernel) (Nat.le_of_ble_eq_true rfl) ?_
  refine r_iload_n (pc := 0) 0 dX11_greater_0 rfl rfl ?_
  refine r_iload_n (pc := 1) 1 dX11_greater_1 rfl rfl ?_
  refine r_icmp_le (pc := 2) (tgt := 9) dX11_greater_2 (by decide) (by omega) (by omega) (fun c_2 => ?_) (fun c_2 => ?_)
  · refine r_iload_n (pc := 9) 1 dX11_greater_9 rfl rfl ?_
    exact r_iret (pc := 10) dX11_greater_10 rfl rfl ⟨by first | rw [Int.max_eq_left (by omega)] | rw [Int.max_eq_right (by omega)], rfl, rfl⟩
  · refine r_iload_n (pc := 5) 0 dX11_greater_5 rfl rfl ?_
    refine r_goto (pc := 6) (tgt := 10) dX11_greater_6 (by decide) ?_
    exact r_iret (pc := 10) dX11_greater_10 rfl rfl ⟨by first | rw [Int.max_eq_left (by omega)] | rw [Int.max_eq_right (by omega)], rfl, rfl⟩

theorem blA_0 {dz lp n : Int} (h0 : 2 ≤ dz) (hn : 0 ≤ n) (h : lp = 0) : blA dz lp n = n / dz := by
  subst h
  by_cases hz : n = 0
  · subst hz; simp [blA]
  · rw [blA, if_neg (by omega), if_pos (by omega)]
theorem blA_1 {dz lp n : Int} (h0 : 2 ≤ dz) (hn : 0 ≤ n) (h : 1 ≤ lp) : blA dz lp n = n / (lp * dz + 1) * lp + min (n % (lp * dz + 1) / dz) (lp - 1) := by
  by_cases hz : n = 0
  · subst hz
    rw [blA, if_pos (by omega)]
    simp
    omega
  · rw [blA, if_neg (by omega), if_neg (by omega)]

set_option maxRecDepth 100000 in
set_option maxHeartbeats 4000000 in
theorem m_blessedBy (l : Launch) (z : Zv) (d : Nat) {g : Gm} {f : Fm} {n dz lp : Int} (hM : ML g) (hdz : f 166 40 = dz) (hlp : f 166 41 = lp) (h0 : 2 ≤ dz ∧ dz ≤ 20) (h1 : 0 ≤ lp ∧ lp ≤ 9) (hn : 0 ≤ n ∧ n ≤ 2000000) : PM l z (d + 1) mX11_blessedBy [(.ref 164), (.int (iI (n)))] g f 0 0 (rdQ (.int (iI (blA dz lp n))) g f) := by
  refine PM.of (by decide +kernel) (Nat.le_of_ble_eq_true rfl) ?_
  refine r_aload_n (pc := 0) 0 dX11_blessedBy_0 rfl rfl ?_
  refine r_getR (pc := 1) (b := 166) dX11_blessedBy_1 fl_X11_17 rfl hM.k hM.r2 ?_
  refine r_bipush (pc := 4) dX11_blessedBy_4 (by decide) ?_
  refine r_ialdv (pc := 6) (w := lp) dX11_blessedBy_6 hM.a2 (by omega) (by decide) (hlp) ?_
  refine r_if_ne (pc := 7) (tgt := 20) dX11_blessedBy_7 (by decide) (by omega) (fun c_7 => ?_) (fun c_7 => ?_)
  · refine r_aload_n (pc := 20) 0 dX11_blessedBy_20 rfl rfl ?_
    refine r_getR (pc := 21) (b := 166) dX11_blessedBy_21 fl_X11_17 rfl hM.k hM.r2 ?_
    refine r_bipush (pc := 24) dX11_blessedBy_24 (by decide) ?_
    refine r_ialdv (pc := 26) (w := lp) dX11_blessedBy_26 hM.a2 (by omega) (by decide) (hlp) ?_
    refine r_aload_n (pc := 27) 0 dX11_blessedBy_27 rfl rfl ?_
    refine r_getR (pc := 28) (b := 166) dX11_blessedBy_28 fl_X11_17 rfl hM.k hM.r2 ?_
    refine r_bipush (pc := 31) dX11_blessedBy_31 (by decide) ?_
    refine r_ialdv (pc := 33) (w := dz) dX11_blessedBy_33 hM.a2 (by omega) (by decide) (hdz) ?_
    refine r_imul (pc := 34) dX11_blessedBy_34 ?_
    refine r_iconst (pc := 35) dX11_blessedBy_35 ?_
    refine r_iadd (pc := 36) dX11_blessedBy_36 ?_
    refine r_istore_n (pc := 37) (L2 := [(2, (.int (iI (((lp) * (dz)) + (1))))), (0, (.ref 164)), (1, (.int (iI (n))))]) dX11_blessedBy_37 rfl (by decide) rfl ?_
    have hp : 0 ≤ lp * dz ∧ lp * dz ≤ 9 * 20 := ⟨Int.mul_nonneg (by omega) (by omega), Int.mul_le_mul (by omega) (by omega) (by omega) (by omega)⟩
    have hm : 0 ≤ n % (lp * dz + 1) ∧ n % (lp * dz + 1) < lp * dz + 1 := ⟨Int.emod_nonneg _ (by omega), Int.emod_lt_of_pos _ (by omega)⟩
    have hq : 0 ≤ n % (lp * dz + 1) / dz ∧ n % (lp * dz + 1) / dz ≤ n % (lp * dz + 1) := ⟨Int.ediv_nonneg (by omega) (by omega), Int.ediv_le_self _ (by omega)⟩
    refine r_iload_n (pc := 38) 2 dX11_blessedBy_38 rfl rfl ?_
    refine r_iload_n (pc := 39) 0 dX11_blessedBy_39 rfl rfl ?_
    refine r_idiv (pc := 40) (w := (n) / (((lp) * (dz)) + (1))) dX11_blessedBy_40 (iI_ne0 (by omega)) (iI_div (by omega) (by omega)) ?_
    refine r_aload_n (pc := 41) 1 dX11_blessedBy_41 rfl rfl ?_
    refine r_getR (pc := 42) (b := 166) dX11_blessedBy_42 fl_X11_17 rfl hM.k hM.r2 ?_
    refine r_bipush (pc := 45) dX11_blessedBy_45 (by decide) ?_
    refine r_ialdv (pc := 47) (w := lp) dX11_blessedBy_47 hM.a2 (by omega) (by decide) (hlp) ?_
    refine r_imul (pc := 48) dX11_blessedBy_48 ?_
    refine r_iload_n (pc := 49) 2 dX11_blessedBy_49 rfl rfl ?_
    refine r_iload_n (pc := 50) 0 dX11_blessedBy_50 rfl rfl ?_
    refine r_irem (pc := 51) (w := (n) % (((lp) * (dz)) + (1))) dX11_blessedBy_51 (iI_ne0 (by omega)) (iI_rem (by omega) (by omega)) ?_
    refine r_aload_n (pc := 52) 1 dX11_blessedBy_52 rfl rfl ?_
    refine r_getR (pc := 53) (b := 166) dX11_blessedBy_53 fl_X11_17 rfl hM.k hM.r2 ?_
    refine r_bipush (pc := 56) dX11_blessedBy_56 (by decide) ?_
    refine r_ialdv (pc := 58) (w := dz) dX11_blessedBy_58 hM.a2 (by omega) (by decide) (hdz) ?_
    refine r_idiv (pc := 59) (w := ((n) % (((lp) * (dz)) + (1))) / (dz)) dX11_blessedBy_59 (iI_ne0 (by omega)) (iI_div (by omega) (by omega)) ?_
    refine r_aload_n (pc := 60) 1 dX11_blessedBy_60 rfl rfl ?_
    refine r_getR (pc := 61) (b := 166) dX11_blessedBy_61 fl_X11_17 rfl hM.k hM.r2 ?_
    refine r_bipush (pc := 64) dX11_blessedBy_64 (by decide) ?_
    refine r_ialdv (pc := 66) (w := lp) dX11_blessedBy_66 hM.a2 (by omega) (by decide) (hlp) ?_
    refine r_iconst (pc := 67) dX11_blessedBy_67 ?_
    refine r_isub (pc := 68) dX11_blessedBy_68 ?_
    refine r_callS (pc := 69) (As := [(.int (iI (((n) % (((lp) * (dz)) + (1))) / (dz)))), (.int (iI ((lp) - (1))))]) (S := [(.int (iI (((n) / (((lp) * (dz)) + (1))) * (lp))))]) dX11_blessedBy_69 cs_X11_290 rfl (Nat.le_of_ble_eq_true rfl) (m_lesser l z _ (by omega) (by omega)) (Nat.zero_le _) (Nat.zero_le _) (fun r_69 g_69 f_69 q_69 => ?_)
    obtain ⟨rfl, rfl, rfl⟩ := q_69
    refine r_iadd (pc := 72) dX11_blessedBy_72 ?_
    exact r_iret (pc := 73) dX11_blessedBy_73 rfl rfl ⟨by first | rw [blA_0 (by omega) (by omega) (by omega)] | rw [blA_1 (by omega) (by omega) (by omega)], rfl, rfl⟩
  · refine r_iload_n (pc := 10) 1 dX11_blessedBy_10 rfl rfl ?_
    refine r_aload_n (pc := 11) 0 dX11_blessedBy_11 rfl rfl ?_
    refine r_getR (pc := 12) (b := 166) dX11_blessedBy_12 fl_X11_17 rfl hM.k hM.r2 ?_
    refine r_bipush (pc := 15) dX11_blessedBy_15 (by decide) ?_
    refine r_ialdv (pc := 17) (w := dz) dX11_blessedBy_17 hM.a2 (by omega) (by decide) (hdz) ?_
    refine r_idiv (pc := 18) (w := (n) / (dz)) dX11_blessedBy_18 (iI_ne0 (by omega)) (iI_div (by omega) (by omega)) ?_
    exact r_iret (pc := 19) dX11_blessedBy_19 rfl rfl ⟨by first | rw [blA_0 (by omega) (by omega) (by omega)] | rw [blA_1 (by omega) (by omega) (by omega)], rfl, rfl⟩

def aBlessed (f : Fm) (n w : Int) : Int := if ¬ (1 ≤ n ∧ n ≤ 1000000) ∨ ¬ (0 ≤ w ∧ w ≤ 1) then -1 else if w = 1 then blA (f 166 40) (f 166 41) n else blA (f 166 40) (f 166 41) n - blA (f 166 40) (f 166 41) (n - 1)
set_option maxRecDepth 100000 in
set_option maxHeartbeats 4000000 in
theorem m_blessed (l : Launch) (z : Zv) (d : Nat) {g : Gm} {f : Fm} {n w dz lp : Int} (hM : ML g) (hdz : f 166 40 = dz) (hlp : f 166 41 = lp) (h0 : 2 ≤ dz ∧ dz ≤ 20) (h1 : 0 ≤ lp ∧ lp ≤ 9) (hn : -2147483648 ≤ n ∧ n ≤ 2147483647) (hw : -2147483648 ≤ w ∧ w ≤ 2147483647) : PM l z (d + 2) mX11_blessed [(.ref 164), (.int (iI (n))), (.int (iI (w)))] g f 0 0 (rdQ (.int (iI (aBlessed f n w))) g f) := by
  refine PM.of (by decide +kernel) (Nat.le_of_ble_eq_true rfl) ?_
  refine r_iload_n (pc := 0) 1 dX11_blessed_0 rfl rfl ?_
  refine r_iconst (pc := 1) dX11_blessed_1 ?_
  refine r_ldc (pc := 2) (x := 1000000) dX11_blessed_2 kc_X11_168 (by decide) ?_
  refine r_callS (pc := 4) (As := [(.int (iI (n))), (.int (iI (1))), (.int (iI (1000000)))]) (S := []) dX11_blessed_4 cs_X11_110 rfl (Nat.le_of_ble_eq_true rfl) (m_lies l z _ (by omega) (by omega) (by omega)) (Nat.zero_le _) (Nat.zero_le _) (fun r_4 g_4 f_4 q_4 => ?_)
  obtain ⟨rfl, rfl, rfl⟩ := q_4
  refine r_if_eq (pc := 7) (tgt := 19) dX11_blessed_7 (by decide) (b01_r) (fun c_7 => ?_) (fun c_7 => ?_)
  · replace c_7 := b01_z c_7
    refine r_iconst (pc := 19) dX11_blessed_19 ?_
    exact r_iret (pc := 20) dX11_blessed_20 rfl rfl ⟨by simp only [aBlessed, hdz, hlp]; (repeat' split) <;> first | rfl | (exfalso; omega), rfl, rfl⟩
  · replace c_7 := b01_nz c_7
    refine r_iload_n (pc := 10) 2 dX11_blessed_10 rfl rfl ?_
    refine r_iconst (pc := 11) dX11_blessed_11 ?_
    refine r_iconst (pc := 12) dX11_blessed_12 ?_
    refine r_callS (pc := 13) (As := [(.int (iI (w))), (.int (iI (0))), (.int (iI (1)))]) (S := []) dX11_blessed_13 cs_X11_110 rfl (Nat.le_of_ble_eq_true rfl) (m_lies l z _ (by omega) (by omega) (by omega)) (Nat.zero_le _) (Nat.zero_le _) (fun r_13 g_13 f_13 q_13 => ?_)
    obtain ⟨rfl, rfl, rfl⟩ := q_13
    refine r_if_ne (pc := 16) (tgt := 21) dX11_blessed_16 (by decide) (b01_r) (fun c_16 => ?_) (fun c_16 => ?_)
    · replace c_16 := b01_nz c_16
      refine r_iload_n (pc := 21) 2 dX11_blessed_21 rfl rfl ?_
      refine r_iconst (pc := 22) dX11_blessed_22 ?_
      refine r_icmp_ne (pc := 23) (tgt := 34) dX11_blessed_23 (by decide) (by omega) (by omega) (fun c_23 => ?_) (fun c_23 => ?_)
      · refine r_aload_n (pc := 34) 0 dX11_blessed_34 rfl rfl ?_
        refine r_iload_n (pc := 35) 1 dX11_blessed_35 rfl rfl ?_
        refine r_callV (pc := 36) (As := [(.int (iI (n)))]) (S := []) dX11_blessed_36 cv_X11_293 hM.k rfl (Nat.le_of_ble_eq_true rfl) (m_blessedBy l z _ hM hdz hlp h0 h1 (by omega)) (Nat.zero_le _) (Nat.zero_le _) (fun r_36 g_36 f_36 q_36 => ?_)
        obtain ⟨rfl, rfl, rfl⟩ := q_36
        refine r_aload_n (pc := 39) 0 dX11_blessed_39 rfl rfl ?_
        refine r_iload_n (pc := 40) 1 dX11_blessed_40 rfl rfl ?_
        refine r_iconst (pc := 41) dX11_blessed_41 ?_
        refine r_isub (pc := 42) dX11_blessed_42 ?_
        refine r_callV (pc := 43) (As := [(.int (iI ((n) - (1))))]) (S := [(.int (iI (blA dz lp (n))))]) dX11_blessed_43 cv_X11_293 hM.k rfl (Nat.le_of_ble_eq_true rfl) (m_blessedBy l z _ hM hdz hlp h0 h1 (by omega)) (Nat.zero_le _) (Nat.zero_le _) (fun r_43 g_43 f_43 q_43 => ?_)
        obtain ⟨rfl, rfl, rfl⟩ := q_43
        refine r_isub (pc := 46) dX11_blessed_46 ?_
        exact r_iret (pc := 47) dX11_blessed_47 rfl rfl ⟨by simp only [aBlessed, hdz, hlp]; (repeat' split) <;> first | rfl | (exfalso; omega), rfl, rfl⟩
      · refine r_aload_n (pc := 26) 0 dX11_blessed_26 rfl rfl ?_
        refine r_iload_n (pc := 27) 1 dX11_blessed_27 rfl rfl ?_
        refine r_callV (pc := 28) (As := [(.int (iI (n)))]) (S := []) dX11_blessed_28 cv_X11_293 hM.k rfl (Nat.le_of_ble_eq_true rfl) (m_blessedBy l z _ hM hdz hlp h0 h1 (by omega)) (Nat.zero_le _) (Nat.zero_le _) (fun r_28 g_28 f_28 q_28 => ?_)
        obtain ⟨rfl, rfl, rfl⟩ := q_28
        refine r_goto (pc := 31) (tgt := 47) dX11_blessed_31 (by decide) ?_
        exact r_iret (pc := 47) dX11_blessed_47 rfl rfl ⟨by simp only [aBlessed, hdz, hlp]; (repeat' split) <;> first | rfl | (exfalso; omega), rfl, rfl⟩
    · replace c_16 := b01_z c_16
      refine r_iconst (pc := 19) dX11_blessed_19 ?_
      exact r_iret (pc := 20) dX11_blessed_20 rfl rfl ⟨by simp only [aBlessed, hdz, hlp]; (repeat' split) <;> first | rfl | (exfalso; omega), rfl, rfl⟩

set_option maxRecDepth 100000 in
set_option maxHeartbeats 4000000 in
theorem m_isIn (l : Launch) (z : Zv) (d : Nat) {g : Gm} {f : Fm} {s c : Nat} (hs : s < 2147483648) (hc : c < 31) : PM l z d mX11_isIn [(.int (iI ((s : Int)))), (.int (iI ((c : Int))))] g f 0 0 (rdQ (.int (iI (b01 (s.testBit c = true)))) g f) := by
  refine PM.of (by decide +kernel) (Nat.le_of_ble_eq_true rfl) ?_
  refine r_iload_n (pc := 0) 0 dX11_isIn_0 rfl rfl ?_
  refine r_iload_n (pc := 1) 1 dX11_isIn_1 rfl rfl ?_
  refine r_ishr (pc := 2) (w := ((s / 2 ^ c : Nat) : Int)) dX11_isIn_2  (iI_shr hs (by omega)) ?_
  refine r_iconst (pc := 3) dX11_isIn_3 ?_
  refine r_iand (pc := 4) (w := ((if s.testBit c = true then 1 else 0 : Nat) : Int)) dX11_isIn_4  (by rw [show (1 : Int) = ((1 : Nat) : Int) from rfl, iI_and, bit_div]) ?_
  refine r_iconst (pc := 5) dX11_isIn_5 ?_
  refine r_icmp_ne (pc := 6) (tgt := 13) dX11_isIn_6 (by decide) (by split <;> decide) (by omega) (fun c_6 => ?_) (fun c_6 => ?_)
  · refine r_iconst (pc := 13) dX11_isIn_13 ?_
    exact r_iret (pc := 14) dX11_isIn_14 rfl rfl ⟨by by_cases hb : s.testBit c = true <;> simp [hb, b01] at c_6 ⊢, rfl, rfl⟩
  · refine r_iconst (pc := 9) dX11_isIn_9 ?_
    refine r_goto (pc := 10) (tgt := 14) dX11_isIn_10 (by decide) ?_
    exact r_iret (pc := 14) dX11_isIn_14 rfl rfl ⟨by by_cases hb : s.testBit c = true <;> simp [hb, b01] at c_6 ⊢, rfl, rfl⟩

set_option maxRecDepth 100000 in
set_option maxHeartbeats 4000000 in
theorem m_everyone (l : Launch) (z : Zv) (d : Nat) {g : Gm} {f : Fm} {n : Nat} (hM : ML g) (hn : f 166 77 = (n : Int)) (h8 : n ≤ 8) : PM l z (d + 1) mX11_everyone [(.ref 164)] g f 0 0 (rdQ (.int (iI ((2 ^ n : Nat) - 1 : Int))) g f) := by
  refine PM.of (by decide +kernel) (Nat.le_of_ble_eq_true rfl) ?_
  refine r_iconst (pc := 0) dX11_everyone_0 ?_
  refine r_aload_n (pc := 1) 0 dX11_everyone_1 rfl rfl ?_
  refine r_callV (pc := 2) (As := []) (S := [(.int (iI (1)))]) dX11_everyone_2 cv_X11_121 hM.k rfl (Nat.le_of_ble_eq_true rfl) (m_customers l z _ hM) (Nat.zero_le _) (Nat.zero_le _) (fun r_2 g_2 f_2 q_2 => ?_)
  obtain ⟨rfl, rfl, rfl⟩ := q_2
  rw [hn]
  refine r_ishl (pc := 5) (w := ((2 ^ n : Nat) : Int)) dX11_everyone_5  (iI_shl1 (by omega)) ?_
  refine r_iconst (pc := 6) dX11_everyone_6 ?_
  refine r_isub (pc := 7) dX11_everyone_7 ?_
  exact r_iret (pc := 8) dX11_everyone_8 rfl rfl ⟨rfl, rfl, rfl⟩

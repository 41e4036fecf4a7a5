/-- an array of the memory anew -/
def updA (f : Fm) (a : Nat) (F : Nat → Int) : Fm := fun q i => if q = a then F i else f q i
theorem updA_s (f : Fm) (a : Nat) (F : Nat → Int) : updA f a F a = F := by funext i; simp [updA]
theorem updA_n (f : Fm) {a b : Nat} (F : Nat → Int) (h : b ≠ a) : updA f a F b = f b := by funext i; simp [updA, h]
theorem stF_s (f : Fm) (a i : Nat) (x : Int) : stF f a i x a i = x := by simp [stF]
theorem stF_n (f : Fm) {a b : Nat} (i : Nat) (x : Int) (h : b ≠ a) : stF f a i x b = f b := by funext j; simp [stF, h]
theorem stF_i (f : Fm) (a : Nat) {i j : Nat} (x : Int) (h : j ≠ i) : stF f a i x a j = f a j := by simp [stF, h]
/-- the model's memory behind a call that was refused by k, behind one that was not -/
def rfs (f : Fm) (k : Int) : Fm := stF (stF f 164 0 k) 165 (-k).toNat (f 165 (-k).toNat + 1)
def gd (f : Fm) : Fm := stF f 164 0 0
def addK (K : Nat → Int) (b r v : Int) : Nat → Int := fun i => if i = 77 then K 77 + 1 else if (i : Int) = 5 * K 77 then b else if (i : Int) = 5 * K 77 + 1 then r else if (i : Int) = 5 * K 77 + 2 then v else if (i : Int) = 5 * K 77 + 3 ∨ (i : Int) = 5 * K 77 + 4 then 0 else K i

set_option maxRecDepth 100000 in
set_option maxHeartbeats 4000000 in
theorem m_lies (l : Launch) (z : Zv) (d : Nat) {g : Gm} {f : Fm} {v lo hi : Int} (hv : -2147483648 ≤ v ∧ v ≤ 2147483647) (hlo : -2147483648 ≤ lo ∧ lo ≤ 2147483647) (hhi : -2147483648 ≤ hi ∧ hi ≤ 2147483647) : PM l z d mX11_lies [(.int (iI (v))), (.int (iI (lo))), (.int (iI (hi)))] g f 0 0 (rdQ (.int (iI (b01 (lo ≤ v ∧ v ≤ hi)))) g f) := by
  refine PM.of (by decide +kernel) (Nat.le_of_ble_eq_true rfl) ?_
  refine r_iload_n (pc := 0) 0 dX11_lies_0 rfl rfl ?_
  refine r_iload_n (pc := 1) 1 dX11_lies_1 rfl rfl ?_
  refine r_icmp_lt (pc := 2) (tgt := 14) dX11_lies_2 (by decide) (by omega) (by omega) (fun c_2 => ?_) (fun c_2 => ?_)
  · refine r_iconst (pc := 14) dX11_lies_14 ?_
    exact r_iret (pc := 15) dX11_lies_15 rfl rfl ⟨by first | rw [b01_t (by omega)] | rw [b01_f (by omega)], rfl, rfl⟩
  · refine r_iload_n (pc := 5) 0 dX11_lies_5 rfl rfl ?_
    refine r_iload_n (pc := 6) 2 dX11_lies_6 rfl rfl ?_
    refine r_icmp_gt (pc := 7) (tgt := 14) dX11_lies_7 (by decide) (by omega) (by omega) (fun c_7 => ?_) (fun c_7 => ?_)
    · refine r_iconst (pc := 14) dX11_lies_14 ?_
      exact r_iret (pc := 15) dX11_lies_15 rfl rfl ⟨by first | rw [b01_t (by omega)] | rw [b01_f (by omega)], rfl, rfl⟩
    · refine r_iconst (pc := 10) dX11_lies_10 ?_
      refine r_goto (pc := 11) (tgt := 15) dX11_lies_11 (by decide) ?_
      exact r_iret (pc := 15) dX11_lies_15 rfl rfl ⟨by first | rw [b01_t (by omega)] | rw [b01_f (by omega)], rfl, rfl⟩

set_option maxRecDepth 100000 in
set_option maxHeartbeats 4000000 in
theorem m_refuses (l : Launch) (z : Zv) (d : Nat) {g : Gm} {f : Fm} {k : Int} (hM : ML g) (hk : 1 ≤ -k ∧ -k ≤ 6) : PM l z d mX11_refuses [(.ref 164), (.int (iI (k)))] g f 0 0 (rdQ (.int (iI k)) g (rfs f k)) := by
  refine PM.of (by decide +kernel) (Nat.le_of_ble_eq_true rfl) ?_
  refine r_aload_n (pc := 0) 0 dX11_refuses_0 rfl rfl ?_
  refine r_iload_n (pc := 1) 1 dX11_refuses_1 rfl rfl ?_
  refine r_putI (pc := 2) dX11_refuses_2 fl_X11_3 rfl rfl hM.k ?_
  refine r_aload_n (pc := 5) 0 dX11_refuses_5 rfl rfl ?_
  refine r_getR (pc := 6) (b := 165) dX11_refuses_6 fl_X11_7 rfl hM.k hM.r1 ?_
  refine r_iload_n (pc := 9) 1 dX11_refuses_9 rfl rfl ?_
  refine r_ineg (pc := 10) dX11_refuses_10 ?_
  refine r_dup2 (pc := 11) dX11_refuses_11 rfl rfl ?_
  refine r_ialdv (pc := 12) (w := f 165 (-k).toNat) dX11_refuses_12 hM.a1 (by omega) (by decide) (by simp [stF]) ?_
  refine r_iconst (pc := 13) dX11_refuses_13 ?_
  refine r_iadd (pc := 14) dX11_refuses_14 ?_
  refine r_iast (pc := 15) dX11_refuses_15 hM.a1 (by omega) (by decide) ?_
  refine r_iload_n (pc := 16) 1 dX11_refuses_16 rfl rfl ?_
  exact r_iret (pc := 17) dX11_refuses_17 rfl rfl ⟨rfl, rfl, rfl⟩

set_option maxRecDepth 100000 in
set_option maxHeartbeats 4000000 in
theorem m_good (l : Launch) (z : Zv) (d : Nat) {g : Gm} {f : Fm} (v : Int) (hM : ML g) : PM l z d mX11_good [(.ref 164), (.int (iI (v)))] g f 0 0 (rdQ (.int (iI v)) g (gd f)) := by
  refine PM.of (by decide +kernel) (Nat.le_of_ble_eq_true rfl) ?_
  refine r_aload_n (pc := 0) 0 dX11_good_0 rfl rfl ?_
  refine r_iconst (pc := 1) dX11_good_1 ?_
  refine r_putI (pc := 2) dX11_good_2 fl_X11_3 rfl rfl hM.k ?_
  refine r_iload_n (pc := 5) 1 dX11_good_5 rfl rfl ?_
  exact r_iret (pc := 6) dX11_good_6 rfl rfl ⟨rfl, rfl, rfl⟩

set_option maxRecDepth 100000 in
set_option maxHeartbeats 4000000 in
theorem m_customers (l : Launch) (z : Zv) (d : Nat) {g : Gm} {f : Fm} (hM : ML g) : PM l z d mX11_customers [(.ref 164)] g f 0 0 (rdQ (.int (iI (f 166 77))) g f) := by
  refine PM.of (by decide +kernel) (Nat.le_of_ble_eq_true rfl) ?_
  refine r_aload_n (pc := 0) 0 dX11_customers_0 rfl rfl ?_
  refine r_getR (pc := 1) (b := 166) dX11_customers_1 fl_X11_17 rfl hM.k hM.r2 ?_
  refine r_bipush (pc := 4) dX11_customers_4 (by decide) ?_
  refine r_ialdv (pc := 6) (w := f 166 77) dX11_customers_6 hM.a2 (by decide) (by decide) rfl ?_
  exact r_iret (pc := 7) dX11_customers_7 rfl rfl ⟨rfl, rfl, rfl⟩

set_option maxRecDepth 100000 in
set_option maxHeartbeats 4000000 in
theorem m_isCustomer (l : Launch) (z : Zv) (d : Nat) {g : Gm} {f : Fm} {c : Int} (hM : ML g) (h77 : 0 ≤ f 166 77 ∧ f 166 77 ≤ 8) (hc : -2147483648 ≤ c ∧ c ≤ 2147483647) : PM l z (d + 1) mX11_isCustomer [(.ref 164), (.int (iI (c)))] g f 0 0 (rdQ (.int (iI (b01 (0 ≤ c ∧ c ≤ f 166 77 - 1)))) g f) := by
  refine PM.of (by decide +kernel) (Nat.le_of_ble_eq_true rfl) ?_
  refine r_iload_n (pc := 0) 1 dX11_isCustomer_0 rfl rfl ?_
  refine r_iconst (pc := 1) dX11_isCustomer_1 ?_
  refine r_aload_n (pc := 2) 0 dX11_isCustomer_2 rfl rfl ?_
  refine r_callV (pc := 3) (As := []) (S := [(.int (iI (0))), (.int (iI (c)))]) dX11_isCustomer_3 cv_X11_121 hM.k rfl (Nat.le_of_ble_eq_true rfl) (m_customers l z _ hM) (Nat.zero_le _) (Nat.zero_le _) (fun r_3 g_3 f_3 q_3 => ?_)
  obtain ⟨rfl, rfl, rfl⟩ := q_3
  refine r_iconst (pc := 6) dX11_isCustomer_6 ?_
  refine r_isub (pc := 7) dX11_isCustomer_7 ?_
  refine r_callS (pc := 8) (As := [(.int (iI (c))), (.int (iI (0))), (.int (iI ((f 166 77) - (1))))]) (S := []) dX11_isCustomer_8 cs_X11_110 rfl (Nat.le_of_ble_eq_true rfl) (m_lies l z _ (by omega) (by omega) (by omega)) (Nat.zero_le _) (Nat.zero_le _) (fun r_8 g_8 f_8 q_8 => ?_)
  obtain ⟨rfl, rfl, rfl⟩ := q_8
  exact r_iret (pc := 11) dX11_isCustomer_11 rfl (b01_nar) ⟨rfl, rfl, rfl⟩

set_option maxRecDepth 100000 in
set_option maxHeartbeats 4000000 in
theorem m_factOf (l : Launch) (z : Zv) (d : Nat) {g : Gm} {f : Fm} {c w : Int} (hM : ML g) (hc : 0 ≤ c ∧ c ≤ 7) (hw : 0 ≤ w ∧ w ≤ 4) : PM l z d mX11_factOf [(.ref 164), (.int (iI (c))), (.int (iI (w)))] g f 0 0 (rdQ (.int (iI (f 166 (5 * c + w).toNat))) g f) := by
  refine PM.of (by decide +kernel) (Nat.le_of_ble_eq_true rfl) ?_
  refine r_aload_n (pc := 0) 0 dX11_factOf_0 rfl rfl ?_
  refine r_getR (pc := 1) (b := 166) dX11_factOf_1 fl_X11_17 rfl hM.k hM.r2 ?_
  refine r_iconst (pc := 4) dX11_factOf_4 ?_
  refine r_iload_n (pc := 5) 1 dX11_factOf_5 rfl rfl ?_
  refine r_imul (pc := 6) dX11_factOf_6 ?_
  refine r_iload_n (pc := 7) 2 dX11_factOf_7 rfl rfl ?_
  refine r_iadd (pc := 8) dX11_factOf_8 ?_
  refine r_iald (pc := 9) dX11_factOf_9 hM.a2 (by omega) (by decide) ?_
  exact r_iret (pc := 10) dX11_factOf_10 rfl rfl ⟨rfl, rfl, rfl⟩

set_option maxRecDepth 100000 in
set_option maxHeartbeats 4000000 in
theorem m_isFact (l : Launch) (z : Zv) (d : Nat) {g : Gm} {f : Fm} {w v : Int} (hw : -2147483648 ≤ w ∧ w ≤ 2147483647) (hv : -2147483648 ≤ v ∧ v ≤ 2147483647) : PM l z (d + 1) mX11_isFact [(.int (iI (w))), (.int (iI (v)))] g f 0 0 (rdQ (.int (iI (b01 (0 ≤ v ∧ (w = 0 ∧ v ≤ 40 ∨ w = 1 ∧ v ≤ 9 ∨ w = 2 ∧ v ≤ 1 ∨ w = 3 ∧ v ≤ 9999 ∨ w = 4 ∧ v ≤ 999999))))) g f) := by
  refine PM.of (by decide +kernel) (Nat.le_of_ble_eq_true rfl) ?_
  refine r_iload_n (pc := 0) 0 dX11_isFact_0 rfl rfl ?_
  rcases (show w < 0 ∨ 4 < w ∨ w = 0 ∨ w = 1 ∨ w = 2 ∨ w = 3 ∨ w = 4 by omega) with c_1 | c_1 | c_1 | c_1 | c_1 | c_1 | c_1
  · refine r_tswD (pc := 1) (tgt := 76) dX11_isFact_1 (by omega) (by omega) (by decide) ?_
    refine r_iconst (pc := 76) dX11_isFact_76 ?_
    exact r_iret (pc := 77) dX11_isFact_77 rfl rfl ⟨by first | rw [b01_t (by omega)] | rw [b01_f (by omega)], rfl, rfl⟩
  · refine r_tswD (pc := 1) (tgt := 76) dX11_isFact_1 (by omega) (by omega) (by decide) ?_
    refine r_iconst (pc := 76) dX11_isFact_76 ?_
    exact r_iret (pc := 77) dX11_isFact_77 rfl rfl ⟨by first | rw [b01_t (by omega)] | rw [b01_f (by omega)], rfl, rfl⟩
  · refine r_tsw (pc := 1) (off := 35) (tgt := 36) dX11_isFact_1 (by omega) (by omega) (by omega) (by rw [c_1]; rfl) (by decide) ?_
    refine r_iload_n (pc := 36) 1 dX11_isFact_36 rfl rfl ?_
    refine r_iconst (pc := 37) dX11_isFact_37 ?_
    refine r_bipush (pc := 38) dX11_isFact_38 (by decide) ?_
    refine r_callS (pc := 40) (As := [(.int (iI (v))), (.int (iI (0))), (.int (iI (40)))]) (S := []) dX11_isFact_40 cs_X11_110 rfl (Nat.le_of_ble_eq_true rfl) (m_lies l z _ (by omega) (by omega) (by omega)) (Nat.zero_le _) (Nat.zero_le _) (fun r_40 g_40 f_40 q_40 => ?_)
    obtain ⟨rfl, rfl, rfl⟩ := q_40
    exact r_iret (pc := 43) dX11_isFact_43 rfl b01_nar ⟨by congr 3; exact b01_iff (by omega), rfl, rfl⟩
  · refine r_tsw (pc := 1) (off := 43) (tgt := 44) dX11_isFact_1 (by omega) (by omega) (by omega) (by rw [c_1]; rfl) (by decide) ?_
    refine r_iload_n (pc := 44) 1 dX11_isFact_44 rfl rfl ?_
    refine r_iconst (pc := 45) dX11_isFact_45 ?_
    refine r_bipush (pc := 46) dX11_isFact_46 (by decide) ?_
    refine r_callS (pc := 48) (As := [(.int (iI (v))), (.int (iI (0))), (.int (iI (9)))]) (S := []) dX11_isFact_48 cs_X11_110 rfl (Nat.le_of_ble_eq_true rfl) (m_lies l z _ (by omega) (by omega) (by omega)) (Nat.zero_le _) (Nat.zero_le _) (fun r_48 g_48 f_48 q_48 => ?_)
    obtain ⟨rfl, rfl, rfl⟩ := q_48
    exact r_iret (pc := 51) dX11_isFact_51 rfl b01_nar ⟨by congr 3; exact b01_iff (by omega), rfl, rfl⟩
  · refine r_tsw (pc := 1) (off := 51) (tgt := 52) dX11_isFact_1 (by omega) (by omega) (by omega) (by rw [c_1]; rfl) (by decide) ?_
    refine r_iload_n (pc := 52) 1 dX11_isFact_52 rfl rfl ?_
    refine r_iconst (pc := 53) dX11_isFact_53 ?_
    refine r_iconst (pc := 54) dX11_isFact_54 ?_
    refine r_callS (pc := 55) (As := [(.int (iI (v))), (.int (iI (0))), (.int (iI (1)))]) (S := []) dX11_isFact_55 cs_X11_110 rfl (Nat.le_of_ble_eq_true rfl) (m_lies l z _ (by omega) (by omega) (by omega)) (Nat.zero_le _) (Nat.zero_le _) (fun r_55 g_55 f_55 q_55 => ?_)
    obtain ⟨rfl, rfl, rfl⟩ := q_55
    exact r_iret (pc := 58) dX11_isFact_58 rfl b01_nar ⟨by congr 3; exact b01_iff (by omega), rfl, rfl⟩
  · refine r_tsw (pc := 1) (off := 58) (tgt := 59) dX11_isFact_1 (by omega) (by omega) (by omega) (by rw [c_1]; rfl) (by decide) ?_
    refine r_iload_n (pc := 59) 1 dX11_isFact_59 rfl rfl ?_
    refine r_iconst (pc := 60) dX11_isFact_60 ?_
    refine r_sipush (pc := 61) dX11_isFact_61 (by decide) ?_
    refine r_callS (pc := 64) (As := [(.int (iI (v))), (.int (iI (0))), (.int (iI (9999)))]) (S := []) dX11_isFact_64 cs_X11_110 rfl (Nat.le_of_ble_eq_true rfl) (m_lies l z _ (by omega) (by omega) (by omega)) (Nat.zero_le _) (Nat.zero_le _) (fun r_64 g_64 f_64 q_64 => ?_)
    obtain ⟨rfl, rfl, rfl⟩ := q_64
    exact r_iret (pc := 67) dX11_isFact_67 rfl b01_nar ⟨by congr 3; exact b01_iff (by omega), rfl, rfl⟩
  · refine r_tsw (pc := 1) (off := 67) (tgt := 68) dX11_isFact_1 (by omega) (by omega) (by omega) (by rw [c_1]; rfl) (by decide) ?_
    refine r_iload_n (pc := 68) 1 dX11_isFact_68 rfl rfl ?_
    refine r_iconst (pc := 69) dX11_isFact_69 ?_
    refine r_ldc (pc := 70) (x := 999999) dX11_isFact_70 kc_X11_125 (by decide) ?_
    refine r_callS (pc := 72) (As := [(.int (iI (v))), (.int (iI (0))), (.int (iI (999999)))]) (S := []) dX11_isFact_72 cs_X11_110 rfl (Nat.le_of_ble_eq_true rfl) (m_lies l z _ (by omega) (by omega) (by omega)) (Nat.zero_le _) (Nat.zero_le _) (fun r_72 g_72 f_72 q_72 => ?_)
    obtain ⟨rfl, rfl, rfl⟩ := q_72
    exact r_iret (pc := 75) dX11_isFact_75 rfl b01_nar ⟨by congr 3; exact b01_iff (by omega), rfl, rfl⟩

set_option maxRecDepth 100000 in
set_option maxHeartbeats 4000000 in
theorem m_isTerm (l : Launch) (z : Zv) (d : Nat) {g : Gm} {f : Fm} {w v : Int} (hw : -2147483648 ≤ w ∧ w ≤ 2147483647) (hv : -2147483648 ≤ v ∧ v ≤ 2147483647) : PM l z (d + 1) mX11_isTerm [(.int (iI (w))), (.int (iI (v)))] g f 0 0 (rdQ (.int (iI (b01 (w = 0 ∧ 2 ≤ v ∧ v ≤ 20 ∨ w = 1 ∧ 0 ≤ v ∧ v ≤ 9 ∨ w = 2 ∧ 0 ≤ v ∧ v ≤ 9999 ∨ w = 3 ∧ 0 ≤ v ∧ v ≤ 999999 ∨ w = 4 ∧ 0 ≤ v ∧ v ≤ 999999)))) g f) := by
  refine PM.of (by decide +kernel) (Nat.le_of_ble_eq_true rfl) ?_
  refine r_iload_n (pc := 0) 0 dX11_isTerm_0 rfl rfl ?_
  rcases (show w < 0 ∨ 4 < w ∨ w = 0 ∨ w = 1 ∨ w = 2 ∨ w = 3 ∨ w = 4 by omega) with c_1 | c_1 | c_1 | c_1 | c_1 | c_1 | c_1
  · refine r_tswD (pc := 1) (tgt := 69) dX11_isTerm_1 (by omega) (by omega) (by decide) ?_
    refine r_iconst (pc := 69) dX11_isTerm_69 ?_
    exact r_iret (pc := 70) dX11_isTerm_70 rfl rfl ⟨by first | rw [b01_t (by omega)] | rw [b01_f (by omega)], rfl, rfl⟩
  · refine r_tswD (pc := 1) (tgt := 69) dX11_isTerm_1 (by omega) (by omega) (by decide) ?_
    refine r_iconst (pc := 69) dX11_isTerm_69 ?_
    exact r_iret (pc := 70) dX11_isTerm_70 rfl rfl ⟨by first | rw [b01_t (by omega)] | rw [b01_f (by omega)], rfl, rfl⟩
  · refine r_tsw (pc := 1) (off := 35) (tgt := 36) dX11_isTerm_1 (by omega) (by omega) (by omega) (by rw [c_1]; rfl) (by decide) ?_
    refine r_iload_n (pc := 36) 1 dX11_isTerm_36 rfl rfl ?_
    refine r_iconst (pc := 37) dX11_isTerm_37 ?_
    refine r_bipush (pc := 38) dX11_isTerm_38 (by decide) ?_
    refine r_callS (pc := 40) (As := [(.int (iI (v))), (.int (iI (2))), (.int (iI (20)))]) (S := []) dX11_isTerm_40 cs_X11_110 rfl (Nat.le_of_ble_eq_true rfl) (m_lies l z _ (by omega) (by omega) (by omega)) (Nat.zero_le _) (Nat.zero_le _) (fun r_40 g_40 f_40 q_40 => ?_)
    obtain ⟨rfl, rfl, rfl⟩ := q_40
    exact r_iret (pc := 43) dX11_isTerm_43 rfl b01_nar ⟨by congr 3; exact b01_iff (by omega), rfl, rfl⟩
  · refine r_tsw (pc := 1) (off := 43) (tgt := 44) dX11_isTerm_1 (by omega) (by omega) (by omega) (by rw [c_1]; rfl) (by decide) ?_
    refine r_iload_n (pc := 44) 1 dX11_isTerm_44 rfl rfl ?_
    refine r_iconst (pc := 45) dX11_isTerm_45 ?_
    refine r_bipush (pc := 46) dX11_isTerm_46 (by decide) ?_
    refine r_callS (pc := 48) (As := [(.int (iI (v))), (.int (iI (0))), (.int (iI (9)))]) (S := []) dX11_isTerm_48 cs_X11_110 rfl (Nat.le_of_ble_eq_true rfl) (m_lies l z _ (by omega) (by omega) (by omega)) (Nat.zero_le _) (Nat.zero_le _) (fun r_48 g_48 f_48 q_48 => ?_)
    obtain ⟨rfl, rfl, rfl⟩ := q_48
    exact r_iret (pc := 51) dX11_isTerm_51 rfl b01_nar ⟨by congr 3; exact b01_iff (by omega), rfl, rfl⟩
  · refine r_tsw (pc := 1) (off := 51) (tgt := 52) dX11_isTerm_1 (by omega) (by omega) (by omega) (by rw [c_1]; rfl) (by decide) ?_
    refine r_iload_n (pc := 52) 1 dX11_isTerm_52 rfl rfl ?_
    refine r_iconst (pc := 53) dX11_isTerm_53 ?_
    refine r_sipush (pc := 54) dX11_isTerm_54 (by decide) ?_
    refine r_callS (pc := 57) (As := [(.int (iI (v))), (.int (iI (0))), (.int (iI (9999)))]) (S := []) dX11_isTerm_57 cs_X11_110 rfl (Nat.le_of_ble_eq_true rfl) (m_lies l z _ (by omega) (by omega) (by omega)) (Nat.zero_le _) (Nat.zero_le _) (fun r_57 g_57 f_57 q_57 => ?_)
    obtain ⟨rfl, rfl, rfl⟩ := q_57
    exact r_iret (pc := 60) dX11_isTerm_60 rfl b01_nar ⟨by congr 3; exact b01_iff (by omega), rfl, rfl⟩
  · refine r_tsw (pc := 1) (off := 60) (tgt := 61) dX11_isTerm_1 (by omega) (by omega) (by omega) (by rw [c_1]; rfl) (by decide) ?_
    refine r_iload_n (pc := 61) 1 dX11_isTerm_61 rfl rfl ?_
    refine r_iconst (pc := 62) dX11_isTerm_62 ?_
    refine r_ldc (pc := 63) (x := 999999) dX11_isTerm_63 kc_X11_125 (by decide) ?_
    refine r_callS (pc := 65) (As := [(.int (iI (v))), (.int (iI (0))), (.int (iI (999999)))]) (S := []) dX11_isTerm_65 cs_X11_110 rfl (Nat.le_of_ble_eq_true rfl) (m_lies l z _ (by omega) (by omega) (by omega)) (Nat.zero_le _) (Nat.zero_le _) (fun r_65 g_65 f_65 q_65 => ?_)
    obtain ⟨rfl, rfl, rfl⟩ := q_65
    exact r_iret (pc := 68) dX11_isTerm_68 rfl b01_nar ⟨by congr 3; exact b01_iff (by omega), rfl, rfl⟩
  · refine r_tsw (pc := 1) (off := 60) (tgt := 61) dX11_isTerm_1 (by omega) (by omega) (by omega) (by rw [c_1]; rfl) (by decide) ?_
    refine r_iload_n (pc := 61) 1 dX11_isTerm_61 rfl rfl ?_
    refine r_iconst (pc := 62) dX11_isTerm_62 ?_
    refine r_ldc (pc := 63) (x := 999999) dX11_isTerm_63 kc_X11_125 (by decide) ?_
    refine r_callS (pc := 65) (As := [(.int (iI (v))), (.int (iI (0))), (.int (iI (999999)))]) (S := []) dX11_isTerm_65 cs_X11_110 rfl (Nat.le_of_ble_eq_true rfl) (m_lies l z _ (by omega) (by omega) (by omega)) (Nat.zero_le _) (Nat.zero_le _) (fun r_65 g_65 f_65 q_65 => ?_)
    obtain ⟨rfl, rfl, rfl⟩ := q_65
    exact r_iret (pc := 68) dX11_isTerm_68 rfl b01_nar ⟨by congr 3; exact b01_iff (by omega), rfl, rfl⟩

set_option maxRecDepth 100000 in
set_option maxHeartbeats 4000000 in
theorem m_adds (l : Launch) (z : Zv) (d : Nat) {g : Gm} {f : Fm} {b r v n : Int} (hM : ML g) (h77 : f 166 77 = n) (hn : 0 ≤ n ∧ n ≤ 7) : PM l z (d + 1) mX11_adds [(.ref 164), (.int (iI (b))), (.int (iI (r))), (.int (iI (v)))] g f 0 0 (rdQ (.int (iI n)) g (updA f 166 (addK (f 166) b r v))) := by
  refine PM.of (by decide +kernel) (Nat.le_of_ble_eq_true rfl) ?_
  refine r_iconst (pc := 0) dX11_adds_0 ?_
  refine r_aload_n (pc := 1) 0 dX11_adds_1 rfl rfl ?_
  refine r_callV (pc := 2) (As := []) (S := [(.int (iI (5)))]) dX11_adds_2 cv_X11_121 hM.k rfl (Nat.le_of_ble_eq_true rfl) (m_customers l z _ hM) (Nat.zero_le _) (Nat.zero_le _) (fun r_2 g_2 f_2 q_2 => ?_)
  obtain ⟨rfl, rfl, rfl⟩ := q_2
  rw [h77]
  refine r_imul (pc := 5) dX11_adds_5 ?_
  refine r_istore (pc := 6) (L2 := [(4, (.int (iI ((5) * (n))))), (0, (.ref 164)), (1, (.int (iI (b)))), (2, (.int (iI (r)))), (3, (.int (iI (v))))]) dX11_adds_6 (by decide) rfl ?_
  refine r_aload_n (pc := 8) 1 dX11_adds_8 rfl rfl ?_
  refine r_getR (pc := 9) (b := 166) dX11_adds_9 fl_X11_17 rfl hM.k hM.r2 ?_
  refine r_iload (pc := 12) 0 dX11_adds_12 rfl ?_
  refine r_iconst (pc := 14) dX11_adds_14 ?_
  refine r_iadd (pc := 15) dX11_adds_15 ?_
  refine r_iload_n (pc := 16) 2 dX11_adds_16 rfl rfl ?_
  refine r_iast (pc := 17) dX11_adds_17 hM.a2 (by omega) (by decide) ?_
  refine r_aload_n (pc := 18) 1 dX11_adds_18 rfl rfl ?_
  refine r_getR (pc := 19) (b := 166) dX11_adds_19 fl_X11_17 rfl hM.k hM.r2 ?_
  refine r_iload (pc := 22) 0 dX11_adds_22 rfl ?_
  refine r_iconst (pc := 24) dX11_adds_24 ?_
  refine r_iadd (pc := 25) dX11_adds_25 ?_
  refine r_iload_n (pc := 26) 3 dX11_adds_26 rfl rfl ?_
  refine r_iast (pc := 27) dX11_adds_27 hM.a2 (by omega) (by decide) ?_
  refine r_aload_n (pc := 28) 1 dX11_adds_28 rfl rfl ?_
  refine r_getR (pc := 29) (b := 166) dX11_adds_29 fl_X11_17 rfl hM.k hM.r2 ?_
  refine r_iload (pc := 32) 0 dX11_adds_32 rfl ?_
  refine r_iconst (pc := 34) dX11_adds_34 ?_
  refine r_iadd (pc := 35) dX11_adds_35 ?_
  refine r_iload_n (pc := 36) 4 dX11_adds_36 rfl rfl ?_
  refine r_iast (pc := 37) dX11_adds_37 hM.a2 (by omega) (by decide) ?_
  refine r_aload_n (pc := 38) 1 dX11_adds_38 rfl rfl ?_
  refine r_getR (pc := 39) (b := 166) dX11_adds_39 fl_X11_17 rfl hM.k hM.r2 ?_
  refine r_iload (pc := 42) 0 dX11_adds_42 rfl ?_
  refine r_iconst (pc := 44) dX11_adds_44 ?_
  refine r_iadd (pc := 45) dX11_adds_45 ?_
  refine r_iconst (pc := 46) dX11_adds_46 ?_
  refine r_iast (pc := 47) dX11_adds_47 hM.a2 (by omega) (by decide) ?_
  refine r_aload_n (pc := 48) 1 dX11_adds_48 rfl rfl ?_
  refine r_getR (pc := 49) (b := 166) dX11_adds_49 fl_X11_17 rfl hM.k hM.r2 ?_
  refine r_iload (pc := 52) 0 dX11_adds_52 rfl ?_
  refine r_iconst (pc := 54) dX11_adds_54 ?_
  refine r_iadd (pc := 55) dX11_adds_55 ?_
  refine r_iconst (pc := 56) dX11_adds_56 ?_
  refine r_iast (pc := 57) dX11_adds_57 hM.a2 (by omega) (by decide) ?_
  refine r_aload_n (pc := 58) 1 dX11_adds_58 rfl rfl ?_
  refine r_getR (pc := 59) (b := 166) dX11_adds_59 fl_X11_17 rfl hM.k hM.r2 ?_
  refine r_bipush (pc := 62) dX11_adds_62 (by decide) ?_
  refine r_dup2 (pc := 64) dX11_adds_64 rfl rfl ?_
  refine r_ialdv (pc := 65) (w := n) dX11_adds_65 hM.a2 (by omega) (by decide) (by simp only [stF]; rw [if_neg (by omega), if_neg (by omega), if_neg (by omega), if_neg (by omega), if_neg (by omega)]; exact h77) ?_
  refine r_iconst (pc := 66) dX11_adds_66 ?_
  refine r_iadd (pc := 67) dX11_adds_67 ?_
  refine r_iastv (pc := 68) (i := 77) dX11_adds_68 hM.a2 (by decide) (by decide) rfl ?_
  refine r_aload_n (pc := 69) 1 dX11_adds_69 rfl rfl ?_
  refine r_callV (pc := 70) (As := []) (S := []) dX11_adds_70 cv_X11_121 hM.k rfl (Nat.le_of_ble_eq_true rfl) (m_customers l z _ hM) (Nat.zero_le _) (Nat.zero_le _) (fun r_70 g_70 f_70 q_70 => ?_)
  obtain ⟨rfl, rfl, rfl⟩ := q_70
  rw [stF_s]
  refine r_iconst (pc := 73) dX11_adds_73 ?_
  refine r_isub (pc := 74) dX11_adds_74 ?_
  exact r_iret (pc := 75) dX11_adds_75 rfl rfl ⟨by congr 3; omega, rfl, by
    funext q i
    by_cases hq : q = 166
    · subst hq
      simp only [stF, updA, addK, h77, true_and, if_true]
      repeat' split
      all_goals first | rfl | omega
    · simp [stF, updA, hq]⟩

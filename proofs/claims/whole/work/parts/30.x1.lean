def xrf (f : Fm) (k : Int) : Fm := stF (stF f 161 (if -4 < k then -k - 1 else -k - 2).toNat (f 161 (if -4 < k then -k - 1 else -k - 2).toNat + 1)) 64 16 k
/-- no answer is kept -/
def drp (f : Fm) : Fm := stF (stF (stF (stF (stF (stF f 111 9 0) 111 10 0) 135 4 0) 140 4 0) 145 4 0) 150 6 0

set_option maxRecDepth 100000 in
set_option maxHeartbeats 4000000 in
theorem x_accept (l : Launch) (z : Zv) (d : Nat) {g : Gm} {f : Fm} (v : Int) (hX : XL g) : PM l z d mX10_accept [(.ref 64), (.int (iI (v)))] g f 0 0 (rdQ (.int (iI v)) g (stF f 64 16 0)) := by
  refine PM.of (by decide +kernel) (Nat.le_of_ble_eq_true rfl) ?_
  refine r_aload_n (pc := 0) 0 dX10_accept_0 rfl rfl ?_
  refine r_iconst (pc := 1) dX10_accept_1 ?_
  refine r_putI (pc := 2) dX10_accept_2 fl_X10_304 rfl rfl hX.k ?_
  refine r_iload_n (pc := 5) 1 dX10_accept_5 rfl rfl ?_
  exact r_iret (pc := 6) dX10_accept_6 rfl rfl ⟨rfl, rfl, rfl⟩

set_option maxRecDepth 100000 in
set_option maxHeartbeats 4000000 in
theorem x_refuse (l : Launch) (z : Zv) (d : Nat) {g : Gm} {f : Fm} {k : Int} (hX : XL g) (hk : k = -1 ∨ k = -2 ∨ k = -3 ∨ k = -5 ∨ k = -6) : PM l z d mX10_refuse [(.ref 64), (.int (iI (k)))] g f 0 0 (rdQ (.int (iI k)) g (xrf f k)) := by
  refine PM.of (by decide +kernel) (Nat.le_of_ble_eq_true rfl) ?_
  obtain ⟨pl, hpl⟩ : ∃ pl : Int, (if -4 < k then -k - 1 else -k - 2) = pl := ⟨_, rfl⟩
  have hp5 : 0 ≤ pl ∧ pl < 5 := by split at hpl <;> omega
  refine r_iload_n (pc := 0) 1 dX10_refuse_0 rfl rfl ?_
  refine r_bipush (pc := 1) dX10_refuse_1 (by decide) ?_
  refine r_icmp_le (pc := 3) (tgt := 13) dX10_refuse_3 (by decide) (by omega) (by omega) (fun c_3 => ?_) (fun c_3 => ?_)
  · refine r_iload_n (pc := 13) 1 dX10_refuse_13 rfl rfl ?_
    refine r_ineg (pc := 14) dX10_refuse_14 ?_
    refine r_iconst (pc := 15) dX10_refuse_15 ?_
    refine r_isub (pc := 16) dX10_refuse_16 ?_
    refine r_eqI (y := pl) (by first | omega | (rw [← hpl]; first | rw [if_pos (by omega)] | rw [if_neg (by omega)])) ?_
    refine r_istore_n (pc := 17) (L2 := [(2, (.int (iI (pl)))), (0, (.ref 64)), (1, (.int (iI (k))))]) dX10_refuse_17 rfl (by decide) rfl ?_
    refine r_iload_n (pc := 18) 0 dX10_refuse_18 rfl rfl ?_
    refine r_if_lt (pc := 19) (tgt := 37) dX10_refuse_19 (by decide) (by omega) (fun c_19 => ?_) (fun c_19 => ?_)
    · exfalso; omega
    · refine r_iload_n (pc := 22) 0 dX10_refuse_22 rfl rfl ?_
      refine r_iconst (pc := 23) dX10_refuse_23 ?_
      refine r_icmp_ge (pc := 24) (tgt := 37) dX10_refuse_24 (by decide) (by omega) (by omega) (fun c_24 => ?_) (fun c_24 => ?_)
      · exfalso; omega
      · refine r_aload_n (pc := 27) 1 dX10_refuse_27 rfl rfl ?_
        refine r_getR (pc := 28) (b := 161) dX10_refuse_28 fl_X10_71 rfl hX.k hX.r12 ?_
        refine r_iload_n (pc := 31) 0 dX10_refuse_31 rfl rfl ?_
        refine r_dup2 (pc := 32) dX10_refuse_32 rfl rfl ?_
        refine r_iald (pc := 33) dX10_refuse_33 hX.a12 (by omega) (by decide) ?_
        refine r_iconst (pc := 34) dX10_refuse_34 ?_
        refine r_iadd (pc := 35) dX10_refuse_35 ?_
        refine r_iast (pc := 36) dX10_refuse_36 hX.a12 (by omega) (by decide) ?_
        refine r_aload_n (pc := 37) 1 dX10_refuse_37 rfl rfl ?_
        refine r_iload_n (pc := 38) 2 dX10_refuse_38 rfl rfl ?_
        refine r_putI (pc := 39) dX10_refuse_39 fl_X10_304 rfl rfl hX.k ?_
        refine r_iload_n (pc := 42) 2 dX10_refuse_42 rfl rfl ?_
        exact r_iret (pc := 43) dX10_refuse_43 rfl rfl ⟨rfl, rfl, by simp only [xrf, hpl]⟩
  · refine r_iload_n (pc := 6) 1 dX10_refuse_6 rfl rfl ?_
    refine r_ineg (pc := 7) dX10_refuse_7 ?_
    refine r_iconst (pc := 8) dX10_refuse_8 ?_
    refine r_isub (pc := 9) dX10_refuse_9 ?_
    refine r_goto (pc := 10) (tgt := 17) dX10_refuse_10 (by decide) ?_
    refine r_eqI (y := pl) (by first | omega | (rw [← hpl]; first | rw [if_pos (by omega)] | rw [if_neg (by omega)])) ?_
    refine r_istore_n (pc := 17) (L2 := [(2, (.int (iI (pl)))), (0, (.ref 64)), (1, (.int (iI (k))))]) dX10_refuse_17 rfl (by decide) rfl ?_
    refine r_iload_n (pc := 18) 0 dX10_refuse_18 rfl rfl ?_
    refine r_if_lt (pc := 19) (tgt := 37) dX10_refuse_19 (by decide) (by omega) (fun c_19 => ?_) (fun c_19 => ?_)
    · exfalso; omega
    · refine r_iload_n (pc := 22) 0 dX10_refuse_22 rfl rfl ?_
      refine r_iconst (pc := 23) dX10_refuse_23 ?_
      refine r_icmp_ge (pc := 24) (tgt := 37) dX10_refuse_24 (by decide) (by omega) (by omega) (fun c_24 => ?_) (fun c_24 => ?_)
      · exfalso; omega
      · refine r_aload_n (pc := 27) 1 dX10_refuse_27 rfl rfl ?_
        refine r_getR (pc := 28) (b := 161) dX10_refuse_28 fl_X10_71 rfl hX.k hX.r12 ?_
        refine r_iload_n (pc := 31) 0 dX10_refuse_31 rfl rfl ?_
        refine r_dup2 (pc := 32) dX10_refuse_32 rfl rfl ?_
        refine r_iald (pc := 33) dX10_refuse_33 hX.a12 (by omega) (by decide) ?_
        refine r_iconst (pc := 34) dX10_refuse_34 ?_
        refine r_iadd (pc := 35) dX10_refuse_35 ?_
        refine r_iast (pc := 36) dX10_refuse_36 hX.a12 (by omega) (by decide) ?_
        refine r_aload_n (pc := 37) 1 dX10_refuse_37 rfl rfl ?_
        refine r_iload_n (pc := 38) 2 dX10_refuse_38 rfl rfl ?_
        refine r_putI (pc := 39) dX10_refuse_39 fl_X10_304 rfl rfl hX.k ?_
        refine r_iload_n (pc := 42) 2 dX10_refuse_42 rfl rfl ?_
        exact r_iret (pc := 43) dX10_refuse_43 rfl rfl ⟨rfl, rfl, by simp only [xrf, hpl]⟩

set_option maxRecDepth 100000 in
set_option maxHeartbeats 4000000 in
theorem x_daydrop (l : Launch) (z : Zv) (d : Nat) {g : Gm} {f : Fm} {b : Nat} (hD : DL g b) : PM l z d mX2_drop [(.ref b)] g f 0 0 (wrQ g (stF (stF f b 9 0) b 10 0)) := by
  refine PM.of (by decide +kernel) (Nat.le_of_ble_eq_true rfl) ?_
  refine r_aload_n (pc := 0) 0 dX2_drop_0 rfl rfl ?_
  refine r_iconst (pc := 1) dX2_drop_1 ?_
  refine r_putB (pc := 2) dX2_drop_2 fl_X2_43 rfl rfl (by decide) hD.k ?_
  refine r_aload_n (pc := 5) 0 dX2_drop_5 rfl rfl ?_
  refine r_iconst (pc := 6) dX2_drop_6 ?_
  refine r_putB (pc := 7) dX2_drop_7 fl_X2_47 rfl rfl (by decide) hD.k ?_
  exact r_vret (pc := 10) dX2_drop_10 rfl ⟨rfl, rfl, rfl⟩

set_option maxRecDepth 100000 in
set_option maxHeartbeats 4000000 in
theorem x_drop (l : Launch) (z : Zv) (d : Nat) {g : Gm} {f : Fm} (hX : XL g) : PM l z (d + 1) mX10_dropAnswers [(.ref 64)] g f 0 0 (wrQ g (drp f)) := by
  refine PM.of (by decide +kernel) (Nat.le_of_ble_eq_true rfl) ?_
  refine r_aload_n (pc := 0) 0 dX10_dropAnswers_0 rfl rfl ?_
  refine r_getR (pc := 1) (b := 111) dX10_dropAnswers_1 fl_X10_37 rfl hX.k hX.r5 ?_
  refine r_callV (pc := 4) (As := []) (S := []) dX10_dropAnswers_4 cv_X10_279 hX.o5.k rfl (Nat.le_of_ble_eq_true rfl) (x_daydrop l z _ hX.o5) (Nat.zero_le _) (Nat.zero_le _) (fun r_4 g_4 f_4 q_4 => ?_)
  obtain ⟨rfl, rfl, rfl⟩ := q_4
  refine r_aload_n (pc := 7) 0 dX10_dropAnswers_7 rfl rfl ?_
  refine r_getR (pc := 8) (b := 135) dX10_dropAnswers_8 fl_X10_47 rfl hX.k hX.r7 ?_
  refine r_iconst (pc := 11) dX10_dropAnswers_11 ?_
  refine r_putB (pc := 12) dX10_dropAnswers_12 fl_X10_256 rfl rfl (by decide) hX.o7.k ?_
  refine r_aload_n (pc := 15) 0 dX10_dropAnswers_15 rfl rfl ?_
  refine r_getR (pc := 16) (b := 140) dX10_dropAnswers_16 fl_X10_51 rfl hX.k hX.r8 ?_
  refine r_iconst (pc := 19) dX10_dropAnswers_19 ?_
  refine r_putB (pc := 20) dX10_dropAnswers_20 fl_X10_256 rfl rfl (by decide) hX.o8.k ?_
  refine r_aload_n (pc := 23) 0 dX10_dropAnswers_23 rfl rfl ?_
  refine r_getR (pc := 24) (b := 145) dX10_dropAnswers_24 fl_X10_54 rfl hX.k hX.r9 ?_
  refine r_iconst (pc := 27) dX10_dropAnswers_27 ?_
  refine r_putB (pc := 28) dX10_dropAnswers_28 fl_X10_256 rfl rfl (by decide) hX.o9.k ?_
  refine r_aload_n (pc := 31) 0 dX10_dropAnswers_31 rfl rfl ?_
  refine r_getR (pc := 32) (b := 150) dX10_dropAnswers_32 fl_X10_60 rfl hX.k hX.r10 ?_
  refine r_iconst (pc := 35) dX10_dropAnswers_35 ?_
  refine r_putB (pc := 36) dX10_dropAnswers_36 fl_X10_207 rfl rfl (by decide) hX.o10.k ?_
  exact r_vret (pc := 39) dX10_dropAnswers_39 rfl ⟨rfl, rfl, rfl⟩

set_option maxRecDepth 100000 in
set_option maxHeartbeats 4000000 in
theorem x_can (l : Launch) (z : Zv) (d : Nat) {g : Gm} {f : Fm} {w v : Int} (hw : -2147483648 ≤ w ∧ w ≤ 2147483647) (hv : -2147483648 ≤ v ∧ v ≤ 2147483647) : PM l z d mX10_traitCanBe [(.int (iI (w))), (.int (iI (v)))] g f 0 0 (rdQ (.int (iI (b01 (0 ≤ v ∧ (w = 0 ∧ v ≤ 40 ∨ w = 1 ∧ v ≤ 9 ∨ w = 2 ∧ v ≤ 1 ∨ w = 3 ∧ v ≤ 9999 ∨ w = 4 ∧ v ≤ 999999))))) g f) := by
  refine PM.of (by decide +kernel) (Nat.le_of_ble_eq_true rfl) ?_
  refine r_iload_n (pc := 0) 0 dX10_traitCanBe_0 rfl rfl ?_
  refine r_if_lt (pc := 1) (tgt := 26) dX10_traitCanBe_1 (by decide) (by omega) (fun c_1 => ?_) (fun c_1 => ?_)
  · refine r_iconst (pc := 26) dX10_traitCanBe_26 ?_
    exact r_iret (pc := 27) dX10_traitCanBe_27 rfl rfl ⟨by first | rw [b01_t (by omega)] | rw [b01_f (by omega)], rfl, rfl⟩
  · refine r_iload_n (pc := 4) 0 dX10_traitCanBe_4 rfl rfl ?_
    refine r_iconst (pc := 5) dX10_traitCanBe_5 ?_
    refine r_icmp_ge (pc := 6) (tgt := 26) dX10_traitCanBe_6 (by decide) (by omega) (by omega) (fun c_6 => ?_) (fun c_6 => ?_)
    · refine r_iconst (pc := 26) dX10_traitCanBe_26 ?_
      exact r_iret (pc := 27) dX10_traitCanBe_27 rfl rfl ⟨by first | rw [b01_t (by omega)] | rw [b01_f (by omega)], rfl, rfl⟩
    · refine r_iload_n (pc := 9) 1 dX10_traitCanBe_9 rfl rfl ?_
      refine r_if_lt (pc := 10) (tgt := 26) dX10_traitCanBe_10 (by decide) (by omega) (fun c_10 => ?_) (fun c_10 => ?_)
      · refine r_iconst (pc := 26) dX10_traitCanBe_26 ?_
        exact r_iret (pc := 27) dX10_traitCanBe_27 rfl rfl ⟨by first | rw [b01_t (by omega)] | rw [b01_f (by omega)], rfl, rfl⟩
      · refine r_iload_n (pc := 13) 1 dX10_traitCanBe_13 rfl rfl ?_
        refine r_gets (pc := 14) (j := 0) dX10_traitCanBe_14 (by decide) sl_X10_307 ?_
        refine r_iload_n (pc := 17) 0 dX10_traitCanBe_17 rfl rfl ?_
        refine r_ialdS (pc := 18) dX10_traitCanBe_18 (by decide) (by have h5 : ((sct 0).length : Int) = 5 := rfl; omega) ?_
        have hs : (sct 0).getD w.toNat 0 = if w = 0 then 40 else if w = 1 then 9 else if w = 2 then 1 else if w = 3 then 9999 else 999999 := by
          rcases (show w = 0 ∨ w = 1 ∨ w = 2 ∨ w = 3 ∨ w = 4 by omega) with rfl | rfl | rfl | rfl | rfl <;> rfl
        rw [hs]
        refine r_icmp_gt (pc := 19) (tgt := 26) dX10_traitCanBe_19 (by decide) (by omega) (by omega) (fun c_19 => ?_) (fun c_19 => ?_)
        · refine r_iconst (pc := 26) dX10_traitCanBe_26 ?_
          exact r_iret (pc := 27) dX10_traitCanBe_27 rfl rfl ⟨by first | rw [b01_t (by omega)] | rw [b01_f (by omega)], rfl, rfl⟩
        · refine r_iconst (pc := 22) dX10_traitCanBe_22 ?_
          refine r_goto (pc := 23) (tgt := 27) dX10_traitCanBe_23 (by decide) ?_
          exact r_iret (pc := 27) dX10_traitCanBe_27 rfl rfl ⟨by first | rw [b01_t (by omega)] | rw [b01_f (by omega)], rfl, rfl⟩

set_option maxRecDepth 100000 in
set_option maxHeartbeats 4000000 in
theorem x_crumbs (l : Launch) (z : Zv) (d : Nat) {g : Gm} {f : Fm} (hX : XL g) : PM l z d mX10_crumbs [(.ref 64)] g f 0 0 (rdQ (.int (iI (f 64 15))) g f) := by
  refine PM.of (by decide +kernel) (Nat.le_of_ble_eq_true rfl) ?_
  refine r_aload_n (pc := 0) 0 dX10_crumbs_0 rfl rfl ?_
  refine r_getI (pc := 1) dX10_crumbs_1 fl_X10_139 rfl hX.k ?_
  exact r_iret (pc := 4) dX10_crumbs_4 rfl rfl ⟨rfl, rfl, rfl⟩

set_option maxRecDepth 100000 in
set_option maxHeartbeats 4000000 in
theorem x_status (l : Launch) (z : Zv) (d : Nat) {g : Gm} {f : Fm} (hX : XL g) : PM l z d mX10_status [(.ref 64)] g f 0 0 (rdQ (.int (iI (f 64 16))) g f) := by
  refine PM.of (by decide +kernel) (Nat.le_of_ble_eq_true rfl) ?_
  refine r_aload_n (pc := 0) 0 dX10_status_0 rfl rfl ?_
  refine r_getI (pc := 1) dX10_status_1 fl_X10_304 rfl hX.k ?_
  exact r_iret (pc := 4) dX10_status_4 rfl rfl ⟨rfl, rfl, rfl⟩

set_option maxRecDepth 100000 in
set_option maxHeartbeats 4000000 in
theorem x_fault (l : Launch) (z : Zv) (d : Nat) {g : Gm} {f : Fm} (hX : XL g) : PM l z d mX10_fault [(.ref 64)] g f 0 0 (rdQ (.int (iI (f 107 3))) g f) := by
  refine PM.of (by decide +kernel) (Nat.le_of_ble_eq_true rfl) ?_
  refine r_aload_n (pc := 0) 0 dX10_fault_0 rfl rfl ?_
  refine r_getR (pc := 1) (b := 107) dX10_fault_1 fl_X10_30 rfl hX.k hX.r4 ?_
  refine r_getI (pc := 4) dX10_fault_4 fl_X10_156 rfl hX.o4.k ?_
  exact r_iret (pc := 7) dX10_fault_7 rfl rfl ⟨rfl, rfl, rfl⟩

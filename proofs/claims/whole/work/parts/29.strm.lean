theorem schr_r : ∀ i, i < 14 → (schr.getD i []).length ≤ 6 ∧ ∀ k, k < (schr.getD i []).length → 97 ≤ (schr.getD i []).getD k 0 ∧ (schr.getD i []).getD k 0 ≤ 122 := by decide
set_option maxRecDepth 100000 in
set_option maxHeartbeats 4000000 in
theorem s_coder (l : Launch) (z : Zv) (d : Nat) {g : Gm} {f : Fm} {i : Nat} (hi : i < 14) : PM l z d mJ0_coder_7d493 [(.ref (4 + i))] g f 0 0 (rdQ (.int (iI 0)) g f) := by
  refine PM.ofF (by decide +kernel) (Nat.le_of_ble_eq_true rfl) ?_
  refine r_strCS (pc := 0) dJ0_coder_7d493_0 rfl ?_
  refine r_if_eq (pc := 3) (tgt := 13) dJ0_coder_7d493_3 (by decide) (by omega) (fun c_3 => ?_) (fun c_3 => ?_)
  · exact absurd c_3 (by decide)
  · refine r_aload_n (pc := 6) 0 dJ0_coder_7d493_6 rfl rfl ?_
    refine r_strCod (pc := 7) dJ0_coder_7d493_7 rfl (by assumption) ?_
    refine r_goto (pc := 10) (tgt := 14) dJ0_coder_7d493_10 (by decide) ?_
    exact r_iret (pc := 14) dJ0_coder_7d493_14 rfl rfl ⟨rfl, rfl, rfl⟩

set_option maxRecDepth 100000 in
set_option maxHeartbeats 4000000 in
theorem s_latin (l : Launch) (z : Zv) (d : Nat) {g : Gm} {f : Fm} {i : Nat} (hi : i < 14) : PM l z d mJ0_isLatin1_aae02 [(.ref (4 + i))] g f 0 0 (rdQ (.int (iI 1)) g f) := by
  refine PM.ofF (by decide +kernel) (Nat.le_of_ble_eq_true rfl) ?_
  refine r_strCS (pc := 0) dJ0_isLatin1_aae02_0 rfl ?_
  refine r_if_eq (pc := 3) (tgt := 17) dJ0_isLatin1_aae02_3 (by decide) (by omega) (fun c_3 => ?_) (fun c_3 => ?_)
  · exact absurd c_3 (by decide)
  · refine r_aload_n (pc := 6) 0 dJ0_isLatin1_aae02_6 rfl rfl ?_
    refine r_strCod (pc := 7) dJ0_isLatin1_aae02_7 rfl (by assumption) ?_
    refine r_if_ne (pc := 10) (tgt := 17) dJ0_isLatin1_aae02_10 (by decide) (by omega) (fun c_10 => ?_) (fun c_10 => ?_)
    · exact absurd c_10 (by decide)
    · refine r_iconst (pc := 13) dJ0_isLatin1_aae02_13 ?_
      refine r_goto (pc := 14) (tgt := 18) dJ0_isLatin1_aae02_14 (by decide) ?_
      exact r_iret (pc := 18) dJ0_isLatin1_aae02_18 rfl rfl ⟨rfl, rfl, rfl⟩

set_option maxRecDepth 100000 in
set_option maxHeartbeats 4000000 in
theorem s_length (l : Launch) (z : Zv) (d : Nat) {g : Gm} {f : Fm} {i : Nat} (hi : i < 14) : PM l z (d + 1) mJ0_length_8abf5 [(.ref (4 + i))] g f 0 0 (rdQ (.int (iI ((schr.getD i []).length : Int))) g f) := by
  refine PM.ofF (by decide +kernel) (Nat.le_of_ble_eq_true rfl) ?_
  refine r_aload_n (pc := 0) 0 dJ0_length_8abf5_0 rfl rfl ?_
  refine r_strVal (pc := 1) dJ0_length_8abf5_1 rfl (by assumption) ?_
  refine r_strLen (pc := 4) dJ0_length_8abf5_4 (by assumption) ?_
  refine r_aload_n (pc := 5) 0 dJ0_length_8abf5_5 rfl rfl ?_
  refine r_callT (pc := 6) (As := []) (S := [(.int (iI (((schr.getD i []).length : Int))))]) dJ0_length_8abf5_6 cb_J0_335 (by assumption) rfl (Nat.le_of_ble_eq_true rfl) (s_coder l z _ hi)  (fun r_6 g_6 f_6 q_6 => ?_)
  obtain ⟨rfl, rfl, rfl⟩ := q_6
  refine r_ishr (pc := 9) (w := ((schr.getD i []).length : Int)) dJ0_length_8abf5_9  (by have h := iI_shr (x := (schr.getD i []).length) (k := 0) (by have := schr_r i hi; omega) (by decide); rw [Nat.pow_zero, Nat.div_one] at h; exact h) ?_
  exact r_iret (pc := 10) dJ0_length_8abf5_10 rfl rfl ⟨rfl, rfl, rfl⟩

set_option maxRecDepth 100000 in
set_option maxHeartbeats 4000000 in
theorem s_pciR (l : Launch) (z : Zv) (d : Nat) {g : Gm} {f : Fm} {x y : Int} (hx : 0 ≤ x ∧ x < y) (hy : y ≤ 2147483647) : PM l z d mJ3_checkIndex_8e157 [(.int (iI (x))), (.int (iI (y))), (.ref 63)] g f 0 0 (rdQ (.int (iI x)) g f) := by
  refine PM.ofF (by decide +kernel) (Nat.le_of_ble_eq_true rfl) ?_
  refine r_iload_n (pc := 0) 0 dJ3_checkIndex_8e157_0 rfl rfl ?_
  refine r_if_lt (pc := 1) (tgt := 9) dJ3_checkIndex_8e157_1 (by decide) (by omega) (fun c_1 => ?_) (fun c_1 => ?_)
  · exfalso; omega
  · refine r_iload_n (pc := 4) 0 dJ3_checkIndex_8e157_4 rfl rfl ?_
    refine r_iload_n (pc := 5) 1 dJ3_checkIndex_8e157_5 rfl rfl ?_
    refine r_icmp_lt (pc := 6) (tgt := 16) dJ3_checkIndex_8e157_6 (by decide) (by omega) (by omega) (fun c_6 => ?_) (fun c_6 => ?_)
    · refine r_iload_n (pc := 16) 0 dJ3_checkIndex_8e157_16 rfl rfl ?_
      exact r_iret (pc := 17) dJ3_checkIndex_8e157_17 rfl rfl ⟨rfl, rfl, rfl⟩
    · exfalso; omega

set_option maxRecDepth 100000 in
set_option maxHeartbeats 4000000 in
theorem s_pciN (l : Launch) (z : Zv) (d : Nat) {g : Gm} {f : Fm} {x y : Int} (hx : 0 ≤ x ∧ x < y) (hy : y ≤ 2147483647) : PM l z d mJ3_checkIndex_8e157 [(.int (iI (x))), (.int (iI (y))), .null] g f 0 0 (rdQ (.int (iI x)) g f) := by
  refine PM.ofF (by decide +kernel) (Nat.le_of_ble_eq_true rfl) ?_
  refine r_iload_n (pc := 0) 0 dJ3_checkIndex_8e157_0 rfl rfl ?_
  refine r_if_lt (pc := 1) (tgt := 9) dJ3_checkIndex_8e157_1 (by decide) (by omega) (fun c_1 => ?_) (fun c_1 => ?_)
  · exfalso; omega
  · refine r_iload_n (pc := 4) 0 dJ3_checkIndex_8e157_4 rfl rfl ?_
    refine r_iload_n (pc := 5) 1 dJ3_checkIndex_8e157_5 rfl rfl ?_
    refine r_icmp_lt (pc := 6) (tgt := 16) dJ3_checkIndex_8e157_6 (by decide) (by omega) (by omega) (fun c_6 => ?_) (fun c_6 => ?_)
    · refine r_iload_n (pc := 16) 0 dJ3_checkIndex_8e157_16 rfl rfl ?_
      exact r_iret (pc := 17) dJ3_checkIndex_8e157_17 rfl rfl ⟨rfl, rfl, rfl⟩
    · exfalso; omega

set_option maxRecDepth 100000 in
set_option maxHeartbeats 4000000 in
theorem s_ci (l : Launch) (z : Zv) (d : Nat) {g : Gm} {f : Fm} {x y : Int} (hx : 0 ≤ x ∧ x < y) (hy : y ≤ 2147483647) : PM l z (d + 1) mJ0_checkIndex_df160 [(.int (iI (x))), (.int (iI (y)))] g f 0 0 (wrQ g f) := by
  refine PM.ofF (by decide +kernel) (Nat.le_of_ble_eq_true rfl) ?_
  refine r_iload_n (pc := 0) 0 dJ0_checkIndex_df160_0 rfl rfl ?_
  refine r_iload_n (pc := 1) 1 dJ0_checkIndex_df160_1 rfl rfl ?_
  refine r_strSio (pc := 2) dJ0_checkIndex_df160_2 rfl ?_ ?_
  · refine r_callS (pc := 5) (As := [(.int (iI (x))), (.int (iI (y))), (.ref 63)]) (S := []) dJ0_checkIndex_df160_5 cs_J0_1059 rfl (Nat.le_of_ble_eq_true rfl) (s_pciR l z _ hx hy) (Nat.zero_le _) (Nat.zero_le _) (fun r_5 g_5 f_5 q_5 => ?_)
    obtain ⟨rfl, rfl, rfl⟩ := q_5
    refine r_pop (pc := 8) dJ0_checkIndex_df160_8 rfl ?_
    exact r_vret (pc := 9) dJ0_checkIndex_df160_9 rfl ⟨rfl, rfl, rfl⟩
  · refine r_callS (pc := 5) (As := [(.int (iI (x))), (.int (iI (y))), .null]) (S := []) dJ0_checkIndex_df160_5 cs_J0_1059 rfl (Nat.le_of_ble_eq_true rfl) (s_pciN l z _ hx hy) (Nat.zero_le _) (Nat.zero_le _) (fun r_5 g_5 f_5 q_5 => ?_)
    obtain ⟨rfl, rfl, rfl⟩ := q_5
    refine r_pop (pc := 8) dJ0_checkIndex_df160_8 rfl ?_
    exact r_vret (pc := 9) dJ0_checkIndex_df160_9 rfl ⟨rfl, rfl, rfl⟩

set_option maxRecDepth 100000 in
set_option maxHeartbeats 4000000 in
theorem s_lca (l : Launch) (z : Zv) (d : Nat) {g : Gm} {f : Fm} {i : Nat} (hi : i < 14) {k : Int} (hk : 0 ≤ k ∧ k < ((schr.getD i []).length : Int)) : PM l z (d + 2) mJ1_charAt_3b067 [(.ref (18 + i)), (.int (iI (k)))] g f 0 0 (rdQ (.int (iI ((schr.getD i []).getD k.toNat 0))) g f) := by
  refine PM.ofF (by decide +kernel) (Nat.le_of_ble_eq_true rfl) ?_
  have hr := (schr_r i hi).2 k.toNat (by omega)
  have hl6 := (schr_r i hi).1
  refine r_iload_n (pc := 0) 1 dJ1_charAt_3b067_0 rfl rfl ?_
  refine r_aload_n (pc := 1) 0 dJ1_charAt_3b067_1 rfl rfl ?_
  refine r_strLen (pc := 2) dJ1_charAt_3b067_2 (by assumption) ?_
  refine r_callS (pc := 3) (As := [(.int (iI (k))), (.int (iI (((schr.getD i []).length : Int))))]) (S := []) dJ1_charAt_3b067_3 cs_J1_9 rfl (Nat.le_of_ble_eq_true rfl) (s_ci l z _ hk (by have := schr_r i hi; omega)) (Nat.zero_le _) (Nat.zero_le _) (fun r_3 g_3 f_3 q_3 => ?_)
  obtain ⟨rfl, rfl, rfl⟩ := q_3
  refine r_aload_n (pc := 6) 0 dJ1_charAt_3b067_6 rfl rfl ?_
  refine r_iload_n (pc := 7) 1 dJ1_charAt_3b067_7 rfl rfl ?_
  refine r_strBald (pc := 8) dJ1_charAt_3b067_8 (by assumption) (by omega) ?_
  refine r_sipush (pc := 9) dJ1_charAt_3b067_9 (by decide) ?_
  refine r_iand (pc := 12) (w := (schr.getD i []).getD k.toNat 0) dJ1_charAt_3b067_12  (by obtain ⟨w, hw⟩ : ∃ w : Nat, (schr.getD i []).getD k.toNat 0 = (w : Int) := ⟨_, (Int.toNat_of_nonneg (by omega)).symm⟩; rw [hw, show (255 : Int) = ((255 : Nat) : Int) from rfl, iI_and, and255]; congr 2; omega) ?_
  refine r_i2c (pc := 13) (w := (schr.getD i []).getD k.toNat 0) dJ1_charAt_3b067_13 (by obtain ⟨w, hw⟩ : ∃ w : Nat, (schr.getD i []).getD k.toNat 0 = (w : Int) := ⟨_, (Int.toNat_of_nonneg (by omega)).symm⟩; rw [hw, iI_nat, pk_char, pk_tn (by omega)]; congr 1; omega) ?_
  exact r_iret (pc := 14) dJ1_charAt_3b067_14 rfl (by obtain ⟨w, hw⟩ : ∃ w : Nat, (schr.getD i []).getD k.toNat 0 = (w : Int) := ⟨_, (Int.toNat_of_nonneg (by omega)).symm⟩; rw [hw, iI_nat]; exact (pk_charN (by omega)).1) ⟨rfl, rfl, rfl⟩

set_option maxRecDepth 100000 in
set_option maxHeartbeats 4000000 in
theorem s_charAt (l : Launch) (z : Zv) (d : Nat) {g : Gm} {f : Fm} {i : Nat} (hi : i < 14) {k : Int} (hk : 0 ≤ k ∧ k < ((schr.getD i []).length : Int)) : PM l z (d + 3) mJ0_charAt_5068e [(.ref (4 + i)), (.int (iI (k)))] g f 0 0 (rdQ (.int (iI ((schr.getD i []).getD k.toNat 0))) g f) := by
  refine PM.ofF (by decide +kernel) (Nat.le_of_ble_eq_true rfl) ?_
  have hr := (schr_r i hi).2 k.toNat (by omega)
  have hl6 := (schr_r i hi).1
  refine r_aload_n (pc := 0) 0 dJ0_charAt_5068e_0 rfl rfl ?_
  refine r_callT (pc := 1) (As := []) (S := []) dJ0_charAt_5068e_1 cb_J0_492 (by assumption) rfl (Nat.le_of_ble_eq_true rfl) (s_latin l z _ hi)  (fun r_1 g_1 f_1 q_1 => ?_)
  obtain ⟨rfl, rfl, rfl⟩ := q_1
  refine r_if_eq (pc := 4) (tgt := 16) dJ0_charAt_5068e_4 (by decide) (by omega) (fun c_4 => ?_) (fun c_4 => ?_)
  · exact absurd c_4 (by decide)
  · refine r_aload_n (pc := 7) 0 dJ0_charAt_5068e_7 rfl rfl ?_
    refine r_strVal (pc := 8) dJ0_charAt_5068e_8 rfl (by assumption) ?_
    refine r_iload_n (pc := 11) 1 dJ0_charAt_5068e_11 rfl rfl ?_
    refine r_callS (pc := 12) (As := [(.ref (18 + i)), (.int (iI (k)))]) (S := []) dJ0_charAt_5068e_12 cs_J0_495 rfl (Nat.le_of_ble_eq_true rfl) (s_lca l z _ hi hk) (Nat.zero_le _) (Nat.zero_le _) (fun r_12 g_12 f_12 q_12 => ?_)
    obtain ⟨rfl, rfl, rfl⟩ := q_12
    exact r_iret (pc := 15) dJ0_charAt_5068e_15 rfl (by obtain ⟨w, hw⟩ : ∃ w : Nat, (schr.getD i []).getD k.toNat 0 = (w : Int) := ⟨_, (Int.toNat_of_nonneg (by omega)).symm⟩; rw [hw, iI_nat]; exact (pk_charN (by omega)).1) ⟨rfl, rfl, rfl⟩

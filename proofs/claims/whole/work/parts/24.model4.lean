def imU (F G : Nat → Int) (s j : Nat) : Nat → Int := fun i => if s ≤ i ∧ i < s + j then F (i - s) else G i
theorem imU_0 (f : Fm) (F : Nat → Int) (a s : Nat) : updA f a (imU F (f a) s 0) = f := by
  funext q i
  by_cases h : q = a
  · subst h; simp [updA, imU]; intro h1 h2; omega
  · simp [updA, h]
theorem imU_s (f : Fm) (F : Nat → Int) (a s j : Nat) : stF (updA f a (imU F (f a) s j)) a (s + j) (F j) = updA f a (imU F (f a) s (j + 1)) := by
  funext q i
  by_cases h : q = a
  · subst h
    by_cases hi : i = s + j
    · subst hi; simp [stF, updA, imU]
    · by_cases h2 : s ≤ i ∧ i < s + j
      · have h3 : s ≤ i ∧ i < s + (j + 1) := by omega
        simp [stF, updA, imU, hi, h2, h3]
      · have h3 : ¬ (s ≤ i ∧ i < s + (j + 1)) := by omega
        simp [stF, updA, imU, hi, h2, h3]
  · simp [stF, updA, h]
def nImage (f : Fm) (k : Int) : Fm := if ¬ (0 ≤ k ∧ k ≤ 1) then rfs f (-1) else gd (stF (updA f 167 (imU (f 166) (f 167) (4888 * k).toNat 4888)) 168 k.toNat 1)
def aImage (k : Int) : Int := if ¬ (0 ≤ k ∧ k ≤ 1) then -1 else 0
def nBack (f : Fm) (k : Int) : Fm := if ¬ (0 ≤ k ∧ k ≤ 1) then rfs f (-1) else if f 168 k.toNat = 0 then rfs f (-2) else gd (updA f 166 (imU (fun i => f 167 ((4888 * k).toNat + i)) (f 166) 0 4888))
def aBack (f : Fm) (k : Int) : Int := if ¬ (0 ≤ k ∧ k ≤ 1) then -1 else if f 168 k.toNat = 0 then -2 else 0

set_option maxRecDepth 100000 in
set_option maxHeartbeats 4000000 in
theorem m_image (l : Launch) (z : Zv) (d : Nat) {g : Gm} {f : Fm} {k : Int} (hM : ML g) (hk : -2147483648 ≤ k ∧ k ≤ 2147483647) : PM l z (d + 1) mX11_image [(.ref 164), (.int (iI (k)))] g f 0 0 (rdQ (.int (iI (aImage k))) g (nImage f k)) := by
  refine PM.of (by decide +kernel) (Nat.le_of_ble_eq_true rfl) ?_
  refine r_iload_n (pc := 0) 1 dX11_image_0 rfl rfl ?_
  refine r_iconst (pc := 1) dX11_image_1 ?_
  refine r_iconst (pc := 2) dX11_image_2 ?_
  refine r_callS (pc := 3) (As := [(.int (iI (k))), (.int (iI (0))), (.int (iI (1)))]) (S := []) dX11_image_3 cs_X11_110 rfl (Nat.le_of_ble_eq_true rfl) (m_lies l z _ (by omega) (by omega) (by omega)) (Nat.zero_le _) (Nat.zero_le _) (fun r_3 g_3 f_3 q_3 => ?_)
  obtain ⟨rfl, rfl, rfl⟩ := q_3
  refine r_if_ne (pc := 6) (tgt := 15) dX11_image_6 (by decide) (b01_r) (fun c_6 => ?_) (fun c_6 => ?_)
  · replace c_6 := b01_nz c_6
    refine r_iconst (pc := 15) dX11_image_15 ?_
    refine r_istore_n (pc := 16) (L2 := [(2, (.int (iI (0)))), (0, (.ref 164)), (1, (.int (iI (k))))]) dX11_image_16 rfl (by decide) rfl ?_
    refine r_sub (L2 := [(2, (.int (iI (0)))), (0, (.ref 164)), (1, (.int (iI (k))))]) [0, 1, 2] rfl ?_
    have loop : ∀ m j : Nat, m = 4888 - j → j ≤ 4888 → PW l z (d + 1) mX11_image 0 0 (rdQ (.int (iI (aImage k))) g (nImage f k)) 17 [(2, (.int (iI (((j : Nat) : Int))))), (0, (.ref 164)), (1, (.int (iI (k))))] [] g (updA f 167 (imU (f 166) (f 167) (4888 * k).toNat j)) 0 0 := by
      intro m
      induction m using Nat.strongRecOn with
      | _ m ih =>
        intro j hm hj
        refine r_iload_n (pc := 17) 0 dX11_image_17 rfl rfl ?_
        refine r_sipush (pc := 18) dX11_image_18 (by decide) ?_
        refine r_icmp_ge (pc := 21) (tgt := 48) dX11_image_21 (by decide) (by omega) (by omega) (fun c_21 => ?_) (fun c_21 => ?_)
        · refine r_aload_n (pc := 48) 1 dX11_image_48 rfl rfl ?_
          refine r_getR (pc := 49) (b := 168) dX11_image_49 fl_X11_23 rfl hM.k hM.r4 ?_
          refine r_iload_n (pc := 52) 2 dX11_image_52 rfl rfl ?_
          refine r_iconst (pc := 53) dX11_image_53 ?_
          refine r_zast (pc := 54) dX11_image_54 hM.a4 (by omega) (by decide) (rfl) ?_
          refine r_aload_n (pc := 55) 1 dX11_image_55 rfl rfl ?_
          refine r_iconst (pc := 56) dX11_image_56 ?_
          refine r_callV (pc := 57) (As := [(.int (iI (0)))]) (S := []) dX11_image_57 cv_X11_118 hM.k rfl (Nat.le_of_ble_eq_true rfl) (m_good l z _ _ hM) (Nat.zero_le _) (Nat.zero_le _) (fun r_57 g_57 f_57 q_57 => ?_)
          obtain ⟨rfl, rfl, rfl⟩ := q_57
          exact r_iret (pc := 60) dX11_image_60 rfl rfl ⟨by simp only [aImage]; first | rw [if_pos (by omega)] | rw [if_neg (by omega)], rfl, by simp only [nImage]; first | rw [if_pos (by omega)] | (rw [if_neg (by omega), show (4888 : Nat) = j by omega])⟩
        · refine r_aload_n (pc := 24) 1 dX11_image_24 rfl rfl ?_
          refine r_getR (pc := 25) (b := 167) dX11_image_25 fl_X11_20 rfl hM.k hM.r3 ?_
          refine r_sipush (pc := 28) dX11_image_28 (by decide) ?_
          refine r_iload_n (pc := 31) 2 dX11_image_31 rfl rfl ?_
          refine r_imul (pc := 32) dX11_image_32 ?_
          refine r_iload_n (pc := 33) 0 dX11_image_33 rfl rfl ?_
          refine r_iadd (pc := 34) dX11_image_34 ?_
          refine r_aload_n (pc := 35) 1 dX11_image_35 rfl rfl ?_
          refine r_getR (pc := 36) (b := 166) dX11_image_36 fl_X11_17 rfl hM.k hM.r2 ?_
          refine r_iload_n (pc := 39) 0 dX11_image_39 rfl rfl ?_
          refine r_ialdv (pc := 40) (w := f 166 j) dX11_image_40 hM.a2 (by omega) (by decide) (by rw [updA_n _ _ (by decide)]; rfl) ?_
          refine r_iast (pc := 41) dX11_image_41 hM.a3 (by omega) (by decide) ?_
          refine r_iincv (pc := 42) (y := ((j + 1 : Nat) : Int)) (L2 := [(2, (.int (iI (((j + 1 : Nat) : Int))))), (0, (.ref 164)), (1, (.int (iI (k))))]) 0 dX11_image_42 rfl (by omega) (by decide) rfl ?_
          refine r_goto (pc := 45) (tgt := 17) dX11_image_45 (by decide) ?_
          refine r_sub (L2 := [(2, (.int (iI (((j + 1 : Nat) : Int))))), (0, (.ref 164)), (1, (.int (iI (k))))]) [0, 1, 2] rfl ?_
          rw [show ((4888 : Int) * k + ((j : Nat) : Int)).toNat = (4888 * k).toNat + j by omega, imU_s f (f 166) 167 (4888 * k).toNat j]
          exact ih (4888 - (j + 1)) (by omega) (j + 1) rfl (by omega)
    have h0 := loop 4888 0 rfl (by omega)
    rw [imU_0] at h0
    exact h0
  · replace c_6 := b01_z c_6
    refine r_aload_n (pc := 9) 0 dX11_image_9 rfl rfl ?_
    refine r_iconst (pc := 10) dX11_image_10 ?_
    refine r_callV (pc := 11) (As := [(.int (iI (-1)))]) (S := []) dX11_image_11 cv_X11_114 hM.k rfl (Nat.le_of_ble_eq_true rfl) (m_refuses l z _ hM (by omega)) (Nat.zero_le _) (Nat.zero_le _) (fun r_11 g_11 f_11 q_11 => ?_)
    obtain ⟨rfl, rfl, rfl⟩ := q_11
    exact r_iret (pc := 14) dX11_image_14 rfl rfl ⟨by simp only [aImage]; first | rw [if_pos (by omega)] | rw [if_neg (by omega)], rfl, by simp only [nImage]; first | rw [if_pos (by omega)] | (rw [if_neg (by omega), show (4888 : Nat) = j by omega])⟩

set_option maxRecDepth 100000 in
set_option maxHeartbeats 4000000 in
theorem m_back (l : Launch) (z : Zv) (d : Nat) {g : Gm} {f : Fm} {k : Int} (hM : ML g) (h168 : ∀ i, i < 2 → 0 ≤ f 168 i ∧ f 168 i ≤ 1) (hk : -2147483648 ≤ k ∧ k ≤ 2147483647) : PM l z (d + 1) mX11_back [(.ref 164), (.int (iI (k)))] g f 0 0 (rdQ (.int (iI (aBack f k))) g (nBack f k)) := by
  refine PM.of (by decide +kernel) (Nat.le_of_ble_eq_true rfl) ?_
  have hi0 := h168 0 (by decide)
  have hi1 := h168 1 (by decide)
  refine r_iload_n (pc := 0) 1 dX11_back_0 rfl rfl ?_
  refine r_iconst (pc := 1) dX11_back_1 ?_
  refine r_iconst (pc := 2) dX11_back_2 ?_
  refine r_callS (pc := 3) (As := [(.int (iI (k))), (.int (iI (0))), (.int (iI (1)))]) (S := []) dX11_back_3 cs_X11_110 rfl (Nat.le_of_ble_eq_true rfl) (m_lies l z _ (by omega) (by omega) (by omega)) (Nat.zero_le _) (Nat.zero_le _) (fun r_3 g_3 f_3 q_3 => ?_)
  obtain ⟨rfl, rfl, rfl⟩ := q_3
  refine r_if_ne (pc := 6) (tgt := 15) dX11_back_6 (by decide) (b01_r) (fun c_6 => ?_) (fun c_6 => ?_)
  · replace c_6 := b01_nz c_6
    refine r_aload_n (pc := 15) 0 dX11_back_15 rfl rfl ?_
    refine r_getR (pc := 16) (b := 168) dX11_back_16 fl_X11_23 rfl hM.k hM.r4 ?_
    refine r_iload_n (pc := 19) 1 dX11_back_19 rfl rfl ?_
    refine r_zald (pc := 20) dX11_back_20 hM.a4 (by omega) (by decide) ?_
    refine r_if_ne (pc := 21) (tgt := 31) dX11_back_21 (by decide) (by have := h168 k.toNat (by omega); omega) (fun c_21 => ?_) (fun c_21 => ?_)
    · refine r_iconst (pc := 31) dX11_back_31 ?_
      refine r_istore_n (pc := 32) (L2 := [(2, (.int (iI (0)))), (0, (.ref 164)), (1, (.int (iI (k))))]) dX11_back_32 rfl (by decide) rfl ?_
      refine r_sub (L2 := [(2, (.int (iI (0)))), (0, (.ref 164)), (1, (.int (iI (k))))]) [0, 1, 2] rfl ?_
      have loop : ∀ m j : Nat, m = 4888 - j → j ≤ 4888 → PW l z (d + 1) mX11_back 0 0 (rdQ (.int (iI (aBack f k))) g (nBack f k)) 33 [(2, (.int (iI (((j : Nat) : Int))))), (0, (.ref 164)), (1, (.int (iI (k))))] [] g (updA f 166 (imU (fun i => f 167 ((4888 * k).toNat + i)) (f 166) 0 j)) 0 0 := by
        intro m
        induction m using Nat.strongRecOn with
        | _ m ih =>
          intro j hm hj
          refine r_iload_n (pc := 33) 0 dX11_back_33 rfl rfl ?_
          refine r_sipush (pc := 34) dX11_back_34 (by decide) ?_
          refine r_icmp_ge (pc := 37) (tgt := 64) dX11_back_37 (by decide) (by omega) (by omega) (fun c_37 => ?_) (fun c_37 => ?_)
          · refine r_aload_n (pc := 64) 1 dX11_back_64 rfl rfl ?_
            refine r_iconst (pc := 65) dX11_back_65 ?_
            refine r_callV (pc := 66) (As := [(.int (iI (0)))]) (S := []) dX11_back_66 cv_X11_118 hM.k rfl (Nat.le_of_ble_eq_true rfl) (m_good l z _ _ hM) (Nat.zero_le _) (Nat.zero_le _) (fun r_66 g_66 f_66 q_66 => ?_)
            obtain ⟨rfl, rfl, rfl⟩ := q_66
            exact r_iret (pc := 69) dX11_back_69 rfl rfl ⟨by simp only [aBack]; first | rw [if_pos (by omega)] | rw [if_neg (by omega), if_pos (by assumption)] | rw [if_neg (by omega), if_neg (by assumption)], rfl, by simp only [nBack]; first | rw [if_pos (by omega)] | (rw [if_neg (by omega), if_pos (by assumption)]) | (rw [if_neg (by omega), if_neg (by assumption), show (4888 : Nat) = j by omega])⟩
          · refine r_aload_n (pc := 40) 1 dX11_back_40 rfl rfl ?_
            refine r_getR (pc := 41) (b := 166) dX11_back_41 fl_X11_17 rfl hM.k hM.r2 ?_
            refine r_iload_n (pc := 44) 0 dX11_back_44 rfl rfl ?_
            refine r_aload_n (pc := 45) 1 dX11_back_45 rfl rfl ?_
            refine r_getR (pc := 46) (b := 167) dX11_back_46 fl_X11_20 rfl hM.k hM.r3 ?_
            refine r_sipush (pc := 49) dX11_back_49 (by decide) ?_
            refine r_iload_n (pc := 52) 2 dX11_back_52 rfl rfl ?_
            refine r_imul (pc := 53) dX11_back_53 ?_
            refine r_iload_n (pc := 54) 0 dX11_back_54 rfl rfl ?_
            refine r_iadd (pc := 55) dX11_back_55 ?_
            refine r_ialdv (pc := 56) (w := f 167 ((4888 * k).toNat + j)) dX11_back_56 hM.a3 (by omega) (by decide) (by rw [updA_n _ _ (by decide)]; congr 1; omega) ?_
            refine r_iast (pc := 57) dX11_back_57 hM.a2 (by omega) (by decide) ?_
            refine r_iincv (pc := 58) (y := ((j + 1 : Nat) : Int)) (L2 := [(2, (.int (iI (((j + 1 : Nat) : Int))))), (0, (.ref 164)), (1, (.int (iI (k))))]) 0 dX11_back_58 rfl (by omega) (by decide) rfl ?_
            refine r_goto (pc := 61) (tgt := 33) dX11_back_61 (by decide) ?_
            refine r_sub (L2 := [(2, (.int (iI (((j + 1 : Nat) : Int))))), (0, (.ref 164)), (1, (.int (iI (k))))]) [0, 1, 2] rfl ?_
            rw [show (((j : Nat) : Int)).toNat = 0 + j by omega, imU_s f (fun i => f 167 ((4888 * k).toNat + i)) 166 0 j]
            exact ih (4888 - (j + 1)) (by omega) (j + 1) rfl (by omega)
      have h0 := loop 4888 0 rfl (by omega)
      rw [imU_0] at h0
      exact h0
    · refine r_aload_n (pc := 24) 0 dX11_back_24 rfl rfl ?_
      refine r_bipush (pc := 25) dX11_back_25 (by decide) ?_
      refine r_callV (pc := 27) (As := [(.int (iI (-2)))]) (S := []) dX11_back_27 cv_X11_114 hM.k rfl (Nat.le_of_ble_eq_true rfl) (m_refuses l z _ hM (by omega)) (Nat.zero_le _) (Nat.zero_le _) (fun r_27 g_27 f_27 q_27 => ?_)
      obtain ⟨rfl, rfl, rfl⟩ := q_27
      exact r_iret (pc := 30) dX11_back_30 rfl rfl ⟨by simp only [aBack]; first | rw [if_pos (by omega)] | rw [if_neg (by omega), if_pos (by assumption)] | rw [if_neg (by omega), if_neg (by assumption)], rfl, by simp only [nBack]; first | rw [if_pos (by omega)] | (rw [if_neg (by omega), if_pos (by assumption)]) | (rw [if_neg (by omega), if_neg (by assumption), show (4888 : Nat) = j by omega])⟩
  · replace c_6 := b01_z c_6
    refine r_aload_n (pc := 9) 0 dX11_back_9 rfl rfl ?_
    refine r_iconst (pc := 10) dX11_back_10 ?_
    refine r_callV (pc := 11) (As := [(.int (iI (-1)))]) (S := []) dX11_back_11 cv_X11_114 hM.k rfl (Nat.le_of_ble_eq_true rfl) (m_refuses l z _ hM (by omega)) (Nat.zero_le _) (Nat.zero_le _) (fun r_11 g_11 f_11 q_11 => ?_)
    obtain ⟨rfl, rfl, rfl⟩ := q_11
    exact r_iret (pc := 14) dX11_back_14 rfl rfl ⟨by simp only [aBack]; first | rw [if_pos (by omega)] | rw [if_neg (by omega), if_pos (by assumption)] | rw [if_neg (by omega), if_neg (by assumption)], rfl, by simp only [nBack]; first | rw [if_pos (by omega)] | (rw [if_neg (by omega), if_pos (by assumption)]) | (rw [if_neg (by omega), if_neg (by assumption), show (4888 : Nat) = j by omega])⟩

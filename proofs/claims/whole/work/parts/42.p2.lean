theorem adv_all {P : Nat → Bool} {t : Nat} : ∀ k p i : Nat, p ≤ i → i < adv P t k p → P i = true
  | 0, p, i, h1, h2 => by rw [adv] at h2; omega
  | k + 1, p, i, h1, h2 => by
    rw [adv] at h2
    split at h2
    · rename_i h3
      by_cases h4 : i = p
      · rw [h4]; exact h3.2
      · exact adv_all k (p + 1) i (by omega) h2
    · omega
theorem vj_r {B : Nat → Int} {t j : Nat} (hby : ∀ i, 0 ≤ B i ∧ B i ≤ 255) (h : kj B t j = 257) : 0 ≤ vj B t j ∧ vj B t j ≤ 1001 := by
  have h3 := kj_257 hby h
  rw [vj, if_pos h]
  refine nuV_r _ (fun i hi => ?_)
  have h4 : tkE B t (pl B t j) = adv (dgB B) t (t - pl B t j) (pl B t j) := by rw [tkE, if_neg h3.1, if_neg h3.2.1, if_pos h3.2.2]
  rw [h4] at hi
  have := adv_all _ _ (pl B t j + i) (by omega) (show pl B t j + i < adv (dgB B) t (t - pl B t j) (pl B t j) by omega)
  simpa [dgB] using this
/-- a reader's contract -/
def RdC (l : Launch) (z : Zv) (g : Gm) (b t : Nat) (f0 : Fm) (k : PMd) (cd : (Nat → Int) → Term → Nat → Nat → Prop) (F : Nat → Nat → PR) (H br : Nat) : Prop := ∀ D, H ≤ D → ∀ f j lv s dy, s ≤ j → CP b t f0 f j lv s dy → PM l z D k [.ref b, .int (iI (br : Int))] g f 0 0 (cpo cd b t f0 f g j lv s dy (F j lv))

set_option maxRecDepth 100000 in
set_option maxHeartbeats 4000000 in
theorem x_brS (l : Launch) (z : Zv) {g : Gm} {b t : Nat} {f0 : Fm} (hT : TL g b) (ht4 : t ≤ 400) (hby : ∀ i, 0 ≤ f0 (b + 1) i ∧ f0 (b + 1) i ≤ 255) {f : Fm} {j lv s br e H : Nat} {dy : Int} {sum : Nat → Nat → PR} (he : br + e = 8) (hk : ¬ kj (f0 (b + 1)) t j = 256) (hsub : e ≠ 0 → RdC l z g b t f0 mX8_readSum cdS sum H (br + 1)) (hsj : s ≤ j) (hC : CP b t f0 f j lv s dy) {D : Nat} (hD : H + 8 ≤ D) : PM l z D mX8_readBracket [(.ref b), (.int (iI ((br : Nat) : Int))), (.int (iI (93)))] g f 0 0 (cpo cdS b t f0 f g j lv s dy (if e = 0 then .error j else bndP (sum (j + 1) lv) (fun tr j1 l1 => if cj (f0 (b + 1)) t j1 = 193 then .ok (tr, j1 + 1, l1) else .error j1))) := by
  obtain ⟨d, rfl⟩ : ∃ d, D = d + 1 := ⟨D - 1, by omega⟩
  refine PM.of (by decide +kernel) (Nat.le_of_ble_eq_true rfl) ?_
  have hk1 := kc_j (t := t) hby j
  refine r_iload_n (pc := 0) 1 dX8_readBracket_0 rfl rfl ?_
  refine r_bipush (pc := 1) dX8_readBracket_1 (by decide) ?_
  refine r_icmp_lt (pc := 3) (tgt := 11) dX8_readBracket_3 (by decide) (by omega) (by omega) (fun c_3 => ?_) (fun c_3 => ?_)
  · refine r_aload_n (pc := 11) 0 dX8_readBracket_11 rfl rfl ?_
    refine r_callV (pc := 12) (As := []) (S := []) dX8_readBracket_12 cv_X8_43 hT.k rfl (Nat.le_of_ble_eq_true rfl) (CP.adv l z (by omega) hT ht4 hby (hC) (by omega)) (Nat.zero_le _) (Nat.zero_le _) (fun r_12 g_12 f_12 q_12 => ?_)
    obtain ⟨rfl, rfl, hC_12, hS_12, hM_12⟩ := q_12
    refine r_iload_n (pc := 15) 2 dX8_readBracket_15 rfl rfl ?_
    refine r_bipush (pc := 16) dX8_readBracket_16 (by decide) ?_
    refine r_icmp_ne (pc := 18) (tgt := 31) dX8_readBracket_18 (by decide) (by omega) (by omega) (fun c_18 => ?_) (fun c_18 => ?_)
    · refine r_aload_n (pc := 31) 0 dX8_readBracket_31 rfl rfl ?_
      refine r_iload_n (pc := 32) 1 dX8_readBracket_32 rfl rfl ?_
      refine r_iconst (pc := 33) dX8_readBracket_33 ?_
      refine r_iadd (pc := 34) dX8_readBracket_34 ?_
      refine r_eqI (y := ((br + 1 : Nat) : Int)) (Int.natCast_add _ _ |>.symm) ?_
      refine r_callV (pc := 35) (As := [(.int (iI (((br + 1 : Nat) : Int))))]) (S := []) dX8_readBracket_35 cv_X8_70 hT.k rfl (Nat.le_of_ble_eq_true rfl) ((hsub (by omega)) _ (by omega) _ _ _ _ _ (by omega) (hC_12)) (Nat.zero_le _) (Nat.zero_le _) (fun r_35 g_35 f_35 q_35 => ?_)
      obtain ⟨rfl, ⟨x_35, hR_35, rfl, hx_35, hF_35⟩ | ⟨t_35, j_35, l_35, s_35, hR_35, rfl, hC_35, hc_35, hS_35, hM_35, hv_35, hj_35⟩⟩ := cpo_or q_35
      · refine r_istore_n (pc := 38) (L2 := [(3, (.int (iI (0)))), (0, (.ref b)), (1, (.int (iI (((br : Nat) : Int))))), (2, (.int (iI (93))))]) dX8_readBracket_38 rfl (by decide) rfl ?_
        refine r_iload_n (pc := 39) 0 dX8_readBracket_39 rfl rfl ?_
        refine r_if_ne (pc := 40) (tgt := 45) dX8_readBracket_40 (by decide) (by omega) (fun c_40 => ?_) (fun c_40 => ?_)
        · exact absurd c_40 (by decide)
        · refine r_iconst (pc := 43) dX8_readBracket_43 ?_
          exact r_iret (pc := 44) dX8_readBracket_44 rfl rfl (cpo_e (by rw [if_neg (by omega)]; exact bnd_e hR_35) hx_35 hF_35)
      · refine r_istore_n (pc := 38) (L2 := [(3, (.int (iI (1)))), (0, (.ref b)), (1, (.int (iI (((br : Nat) : Int))))), (2, (.int (iI (93))))]) dX8_readBracket_38 rfl (by decide) rfl ?_
        refine r_iload_n (pc := 39) 0 dX8_readBracket_39 rfl rfl ?_
        refine r_if_ne (pc := 40) (tgt := 45) dX8_readBracket_40 (by decide) (by omega) (fun c_40 => ?_) (fun c_40 => ?_)
        · have hk2 := kc_j (t := t) hby j_35
          refine r_aload_n (pc := 45) 1 dX8_readBracket_45 rfl rfl ?_
          refine r_getIv (pc := 46) (x := kj (f0 (b + 1)) t j_35) dX8_readBracket_46 fl_X8_63 rfl hT.k (hC_35.k) ?_
          refine r_iload_n (pc := 49) 3 dX8_readBracket_49 rfl rfl ?_
          refine r_icmp_eq (pc := 50) (tgt := 58) dX8_readBracket_50 (by decide) (by have := kc_j (t := t) hby j_35; omega) (by omega) (fun c_50 => ?_) (fun c_50 => ?_)
          · refine r_aload_n (pc := 58) 1 dX8_readBracket_58 rfl rfl ?_
            refine r_callV (pc := 59) (As := []) (S := []) dX8_readBracket_59 cv_X8_43 hT.k rfl (Nat.le_of_ble_eq_true rfl) (CP.adv l z (by omega) hT ht4 hby (hC_35) (by omega)) (Nat.zero_le _) (Nat.zero_le _) (fun r_59 g_59 f_59 q_59 => ?_)
            obtain ⟨rfl, rfl, hC_59, hS_59, hM_59⟩ := q_59
            refine r_iconst (pc := 62) dX8_readBracket_62 ?_
            exact r_iret (pc := 63) dX8_readBracket_63 rfl rfl (cpo_k (by rw [if_neg (by omega), bnd_o hR_35, if_pos (by omega)]) hC_59 rfl (by rw [hS_59]; exact hc_35) (fun i hi => by rw [hS_59, hS_35 i hi, hS_12]) (by rw [hM_59, hM_35, hM_12]) hv_35 (by omega))
          · refine r_aload_n (pc := 53) 1 dX8_readBracket_53 rfl rfl ?_
            refine r_callV (pc := 54) (As := []) (S := []) dX8_readBracket_54 cv_X8_66 hT.k rfl (Nat.le_of_ble_eq_true rfl) (x_fail l z _ hT (hC_35)) (Nat.zero_le _) (Nat.zero_le _) (fun r_54 g_54 f_54 q_54 => ?_)
            obtain ⟨rfl, rfl, hx_54, hF_54⟩ := q_54
            exact r_iret (pc := 57) dX8_readBracket_57 rfl rfl (cpo_e (by rw [if_neg (by omega), bnd_o hR_35, if_neg (by omega)]) hx_54 hF_54)
        · exact absurd c_40 (by decide)
    · exact absurd c_18 (by decide)
  · refine r_aload_n (pc := 6) 0 dX8_readBracket_6 rfl rfl ?_
    refine r_callV (pc := 7) (As := []) (S := []) dX8_readBracket_7 cv_X8_66 hT.k rfl (Nat.le_of_ble_eq_true rfl) (x_fail l z _ hT (hC)) (Nat.zero_le _) (Nat.zero_le _) (fun r_7 g_7 f_7 q_7 => ?_)
    obtain ⟨rfl, rfl, hx_7, hF_7⟩ := q_7
    exact r_iret (pc := 10) dX8_readBracket_10 rfl rfl (cpo_e (by rw [if_pos (by omega)]) hx_7 hF_7)

set_option maxRecDepth 100000 in
set_option maxHeartbeats 4000000 in
theorem x_brT (l : Launch) (z : Zv) {g : Gm} {b t : Nat} {f0 : Fm} (hT : TL g b) (ht4 : t ≤ 400) (hby : ∀ i, 0 ≤ f0 (b + 1) i ∧ f0 (b + 1) i ≤ 255) {f : Fm} {j lv s br e H : Nat} {dy : Int} {test : Nat → Nat → PR} (he : br + e = 8) (hk : ¬ kj (f0 (b + 1)) t j = 256) (hsub : e ≠ 0 → RdC l z g b t f0 mX8_readTest cdT test H (br + 1)) (hsj : s ≤ j) (hC : CP b t f0 f j lv s dy) {D : Nat} (hD : H + 8 ≤ D) : PM l z D mX8_readBracket [(.ref b), (.int (iI ((br : Nat) : Int))), (.int (iI (41)))] g f 0 0 (cpo cdT b t f0 f g j lv s dy (if e = 0 then .error j else bndP (test (j + 1) lv) (fun tr j1 l1 => if cj (f0 (b + 1)) t j1 = 141 then .ok (tr, j1 + 1, l1) else .error j1))) := by
  obtain ⟨d, rfl⟩ : ∃ d, D = d + 1 := ⟨D - 1, by omega⟩
  refine PM.of (by decide +kernel) (Nat.le_of_ble_eq_true rfl) ?_
  have hk1 := kc_j (t := t) hby j
  refine r_iload_n (pc := 0) 1 dX8_readBracket_0 rfl rfl ?_
  refine r_bipush (pc := 1) dX8_readBracket_1 (by decide) ?_
  refine r_icmp_lt (pc := 3) (tgt := 11) dX8_readBracket_3 (by decide) (by omega) (by omega) (fun c_3 => ?_) (fun c_3 => ?_)
  · refine r_aload_n (pc := 11) 0 dX8_readBracket_11 rfl rfl ?_
    refine r_callV (pc := 12) (As := []) (S := []) dX8_readBracket_12 cv_X8_43 hT.k rfl (Nat.le_of_ble_eq_true rfl) (CP.adv l z (by omega) hT ht4 hby (hC) (by omega)) (Nat.zero_le _) (Nat.zero_le _) (fun r_12 g_12 f_12 q_12 => ?_)
    obtain ⟨rfl, rfl, hC_12, hS_12, hM_12⟩ := q_12
    refine r_iload_n (pc := 15) 2 dX8_readBracket_15 rfl rfl ?_
    refine r_bipush (pc := 16) dX8_readBracket_16 (by decide) ?_
    refine r_icmp_ne (pc := 18) (tgt := 31) dX8_readBracket_18 (by decide) (by omega) (by omega) (fun c_18 => ?_) (fun c_18 => ?_)
    · exact absurd c_18 (by decide)
    · refine r_aload_n (pc := 21) 0 dX8_readBracket_21 rfl rfl ?_
      refine r_iload_n (pc := 22) 1 dX8_readBracket_22 rfl rfl ?_
      refine r_iconst (pc := 23) dX8_readBracket_23 ?_
      refine r_iadd (pc := 24) dX8_readBracket_24 ?_
      refine r_eqI (y := ((br + 1 : Nat) : Int)) (Int.natCast_add _ _ |>.symm) ?_
      refine r_callV (pc := 25) (As := [(.int (iI (((br + 1 : Nat) : Int))))]) (S := []) dX8_readBracket_25 cv_X8_73 hT.k rfl (Nat.le_of_ble_eq_true rfl) ((hsub (by omega)) _ (by omega) _ _ _ _ _ (by omega) (hC_12)) (Nat.zero_le _) (Nat.zero_le _) (fun r_25 g_25 f_25 q_25 => ?_)
      obtain ⟨rfl, ⟨x_25, hR_25, rfl, hx_25, hF_25⟩ | ⟨t_25, j_25, l_25, s_25, hR_25, rfl, hC_25, hc_25, hS_25, hM_25, hv_25, hj_25⟩⟩ := cpo_or q_25
      · refine r_goto (pc := 28) (tgt := 38) dX8_readBracket_28 (by decide) ?_
        refine r_istore_n (pc := 38) (L2 := [(3, (.int (iI (0)))), (0, (.ref b)), (1, (.int (iI (((br : Nat) : Int))))), (2, (.int (iI (41))))]) dX8_readBracket_38 rfl (by decide) rfl ?_
        refine r_iload_n (pc := 39) 0 dX8_readBracket_39 rfl rfl ?_
        refine r_if_ne (pc := 40) (tgt := 45) dX8_readBracket_40 (by decide) (by omega) (fun c_40 => ?_) (fun c_40 => ?_)
        · exact absurd c_40 (by decide)
        · refine r_iconst (pc := 43) dX8_readBracket_43 ?_
          exact r_iret (pc := 44) dX8_readBracket_44 rfl rfl (cpo_e (by rw [if_neg (by omega)]; exact bnd_e hR_25) hx_25 hF_25)
      · refine r_goto (pc := 28) (tgt := 38) dX8_readBracket_28 (by decide) ?_
        refine r_istore_n (pc := 38) (L2 := [(3, (.int (iI (1)))), (0, (.ref b)), (1, (.int (iI (((br : Nat) : Int))))), (2, (.int (iI (41))))]) dX8_readBracket_38 rfl (by decide) rfl ?_
        refine r_iload_n (pc := 39) 0 dX8_readBracket_39 rfl rfl ?_
        refine r_if_ne (pc := 40) (tgt := 45) dX8_readBracket_40 (by decide) (by omega) (fun c_40 => ?_) (fun c_40 => ?_)
        · have hk2 := kc_j (t := t) hby j_25
          refine r_aload_n (pc := 45) 1 dX8_readBracket_45 rfl rfl ?_
          refine r_getIv (pc := 46) (x := kj (f0 (b + 1)) t j_25) dX8_readBracket_46 fl_X8_63 rfl hT.k (hC_25.k) ?_
          refine r_iload_n (pc := 49) 3 dX8_readBracket_49 rfl rfl ?_
          refine r_icmp_eq (pc := 50) (tgt := 58) dX8_readBracket_50 (by decide) (by have := kc_j (t := t) hby j_25; omega) (by omega) (fun c_50 => ?_) (fun c_50 => ?_)
          · refine r_aload_n (pc := 58) 1 dX8_readBracket_58 rfl rfl ?_
            refine r_callV (pc := 59) (As := []) (S := []) dX8_readBracket_59 cv_X8_43 hT.k rfl (Nat.le_of_ble_eq_true rfl) (CP.adv l z (by omega) hT ht4 hby (hC_25) (by omega)) (Nat.zero_le _) (Nat.zero_le _) (fun r_59 g_59 f_59 q_59 => ?_)
            obtain ⟨rfl, rfl, hC_59, hS_59, hM_59⟩ := q_59
            refine r_iconst (pc := 62) dX8_readBracket_62 ?_
            exact r_iret (pc := 63) dX8_readBracket_63 rfl rfl (cpo_k (by rw [if_neg (by omega), bnd_o hR_25, if_pos (by omega)]) hC_59 rfl (by rw [hS_59]; exact hc_25) (fun i hi => by rw [hS_59, hS_25 i hi, hS_12]) (by rw [hM_59, hM_25, hM_12]) hv_25 (by omega))
          · refine r_aload_n (pc := 53) 1 dX8_readBracket_53 rfl rfl ?_
            refine r_callV (pc := 54) (As := []) (S := []) dX8_readBracket_54 cv_X8_66 hT.k rfl (Nat.le_of_ble_eq_true rfl) (x_fail l z _ hT (hC_25)) (Nat.zero_le _) (Nat.zero_le _) (fun r_54 g_54 f_54 q_54 => ?_)
            obtain ⟨rfl, rfl, hx_54, hF_54⟩ := q_54
            exact r_iret (pc := 57) dX8_readBracket_57 rfl rfl (cpo_e (by rw [if_neg (by omega), bnd_o hR_25, if_neg (by omega)]) hx_54 hF_54)
        · exact absurd c_40 (by decide)
  · refine r_aload_n (pc := 6) 0 dX8_readBracket_6 rfl rfl ?_
    refine r_callV (pc := 7) (As := []) (S := []) dX8_readBracket_7 cv_X8_66 hT.k rfl (Nat.le_of_ble_eq_true rfl) (x_fail l z _ hT (hC)) (Nat.zero_le _) (Nat.zero_le _) (fun r_7 g_7 f_7 q_7 => ?_)
    obtain ⟨rfl, rfl, hx_7, hF_7⟩ := q_7
    exact r_iret (pc := 10) dX8_readBracket_10 rfl rfl (cpo_e (by rw [if_pos (by omega)]) hx_7 hF_7)

set_option maxRecDepth 100000 in
set_option maxHeartbeats 4000000 in
theorem x_part (l : Launch) (z : Zv) {g : Gm} {b t : Nat} {f0 : Fm} (hT : TL g b) (ht4 : t ≤ 400) (hby : ∀ i, 0 ≤ f0 (b + 1) i ∧ f0 (b + 1) i ≤ 255) {br e H : Nat} {sum : Nat → Nat → PR} (he : br + e = 8) (hsub : e ≠ 0 → RdC l z g b t f0 mX8_readSum cdS sum H (br + 1)) : RdC l z g b t f0 mX8_readPart cdS (sPart (cj (f0 (b + 1)) t) (vj (f0 (b + 1)) t) sum e) (H + 9) br := by
  intro D hD f j lv s dy hsj hC
  obtain ⟨d, rfl⟩ : ∃ d, D = d + 1 := ⟨D - 1, by omega⟩
  refine PM.of (by decide +kernel) (Nat.le_of_ble_eq_true rfl) ?_
  have hk1 := kc_j (t := t) hby j
  have hr := hC.r
  refine r_aload_n (pc := 0) 0 dX8_readPart_0 rfl rfl ?_
  refine r_getIv (pc := 1) (x := kj (f0 (b + 1)) t j) dX8_readPart_1 fl_X8_63 rfl hT.k (hC.k) ?_
  refine r_bipush (pc := 4) dX8_readPart_4 (by decide) ?_
  refine r_icmp_ne (pc := 6) (tgt := 17) dX8_readPart_6 (by decide) (by omega) (by omega) (fun c_6 => ?_) (fun c_6 => ?_)
  · have hk3 : ¬ kj (f0 (b + 1)) t j = 91 := by omega
    refine r_aload_n (pc := 17) 0 dX8_readPart_17 rfl rfl ?_
    refine r_getIv (pc := 18) (x := kj (f0 (b + 1)) t j) dX8_readPart_18 fl_X8_63 rfl hT.k (hC.k) ?_
    refine r_sipush (pc := 21) dX8_readPart_21 (by decide) ?_
    refine r_icmp_ne (pc := 24) (tgt := 41) dX8_readPart_24 (by decide) (by omega) (by omega) (fun c_24 => ?_) (fun c_24 => ?_)
    · refine r_iconst (pc := 41) dX8_readPart_41 ?_
      refine r_istore_n (pc := 42) (L2 := [(2, (.int (iI (0)))), (0, (.ref b)), (1, (.int (iI (((br : Nat) : Int)))))]) dX8_readPart_42 rfl (by decide) rfl ?_
      refine r_aload_n (pc := 43) 1 dX8_readPart_43 rfl rfl ?_
      refine r_getIv (pc := 44) (x := kj (f0 (b + 1)) t j) dX8_readPart_44 fl_X8_63 rfl hT.k (hC.k) ?_
      refine r_sipush (pc := 47) dX8_readPart_47 (by decide) ?_
      refine r_icmp_lt (pc := 50) (tgt := 67) dX8_readPart_50 (by decide) (by omega) (by omega) (fun c_50 => ?_) (fun c_50 => ?_)
      · refine r_iconst (pc := 67) dX8_readPart_67 ?_
        refine r_istore_n (pc := 68) (L2 := [(3, (.int (iI (0)))), (2, (.int (iI (0)))), (0, (.ref b)), (1, (.int (iI (((br : Nat) : Int)))))]) dX8_readPart_68 rfl (by decide) rfl ?_
        refine r_iload_n (pc := 69) 1 dX8_readPart_69 rfl rfl ?_
        refine r_if_ne (pc := 70) (tgt := 77) dX8_readPart_70 (by decide) (by omega) (fun c_70 => ?_) (fun c_70 => ?_)
        · exact absurd c_70 (by decide)
        · refine r_iload_n (pc := 73) 0 dX8_readPart_73 rfl rfl ?_
          refine r_if_eq (pc := 74) (tgt := 86) dX8_readPart_74 (by decide) (by omega) (fun c_74 => ?_) (fun c_74 => ?_)
          · refine r_aload_n (pc := 86) 2 dX8_readPart_86 rfl rfl ?_
            refine r_callV (pc := 87) (As := []) (S := []) dX8_readPart_87 cv_X8_66 hT.k rfl (Nat.le_of_ble_eq_true rfl) (x_fail l z _ hT (hC)) (Nat.zero_le _) (Nat.zero_le _) (fun r_87 g_87 f_87 q_87 => ?_)
            obtain ⟨rfl, rfl, hx_87, hF_87⟩ := q_87
            exact r_iret (pc := 90) dX8_readPart_90 rfl rfl (cpo_e (by rw [sPart, if_neg (by omega)]; (repeat' split) <;> first | rfl | (exfalso; omega)) hx_87 hF_87)
          · exact absurd c_74 (by decide)
      · refine r_aload_n (pc := 53) 1 dX8_readPart_53 rfl rfl ?_
        refine r_getIv (pc := 54) (x := kj (f0 (b + 1)) t j) dX8_readPart_54 fl_X8_63 rfl hT.k (hC.k) ?_
        refine r_sipush (pc := 57) dX8_readPart_57 (by decide) ?_
        refine r_icmp_ge (pc := 60) (tgt := 67) dX8_readPart_60 (by decide) (by omega) (by omega) (fun c_60 => ?_) (fun c_60 => ?_)
        · refine r_iconst (pc := 67) dX8_readPart_67 ?_
          refine r_istore_n (pc := 68) (L2 := [(3, (.int (iI (0)))), (2, (.int (iI (0)))), (0, (.ref b)), (1, (.int (iI (((br : Nat) : Int)))))]) dX8_readPart_68 rfl (by decide) rfl ?_
          refine r_iload_n (pc := 69) 1 dX8_readPart_69 rfl rfl ?_
          refine r_if_ne (pc := 70) (tgt := 77) dX8_readPart_70 (by decide) (by omega) (fun c_70 => ?_) (fun c_70 => ?_)
          · exact absurd c_70 (by decide)
          · refine r_iload_n (pc := 73) 0 dX8_readPart_73 rfl rfl ?_
            refine r_if_eq (pc := 74) (tgt := 86) dX8_readPart_74 (by decide) (by omega) (fun c_74 => ?_) (fun c_74 => ?_)
            · refine r_aload_n (pc := 86) 2 dX8_readPart_86 rfl rfl ?_
              refine r_callV (pc := 87) (As := []) (S := []) dX8_readPart_87 cv_X8_66 hT.k rfl (Nat.le_of_ble_eq_true rfl) (x_fail l z _ hT (hC)) (Nat.zero_le _) (Nat.zero_le _) (fun r_87 g_87 f_87 q_87 => ?_)
              obtain ⟨rfl, rfl, hx_87, hF_87⟩ := q_87
              exact r_iret (pc := 90) dX8_readPart_90 rfl rfl (cpo_e (by rw [sPart, if_neg (by omega)]; (repeat' split) <;> first | rfl | (exfalso; omega)) hx_87 hF_87)
            · exact absurd c_74 (by decide)
        · refine r_iconst (pc := 63) dX8_readPart_63 ?_
          refine r_goto (pc := 64) (tgt := 68) dX8_readPart_64 (by decide) ?_
          refine r_istore_n (pc := 68) (L2 := [(3, (.int (iI (1)))), (2, (.int (iI (0)))), (0, (.ref b)), (1, (.int (iI (((br : Nat) : Int)))))]) dX8_readPart_68 rfl (by decide) rfl ?_
          refine r_iload_n (pc := 69) 1 dX8_readPart_69 rfl rfl ?_
          refine r_if_ne (pc := 70) (tgt := 77) dX8_readPart_70 (by decide) (by omega) (fun c_70 => ?_) (fun c_70 => ?_)
          · exact absurd c_70 (by decide)
          · refine r_iload_n (pc := 73) 0 dX8_readPart_73 rfl rfl ?_
            refine r_if_eq (pc := 74) (tgt := 86) dX8_readPart_74 (by decide) (by omega) (fun c_74 => ?_) (fun c_74 => ?_)
            · exact absurd c_74 (by decide)
            · refine r_aload_n (pc := 77) 2 dX8_readPart_77 rfl rfl ?_
              refine r_getIv (pc := 78) (x := ((lv : Nat) : Int)) dX8_readPart_78 fl_X8_33 rfl hT.k (hC.xl) ?_
              refine r_bipush (pc := 81) dX8_readPart_81 (by decide) ?_
              refine r_icmp_lt (pc := 83) (tgt := 91) dX8_readPart_83 (by decide) (by omega) (by omega) (fun c_83 => ?_) (fun c_83 => ?_)
              · refine r_aload_n (pc := 91) 2 dX8_readPart_91 rfl rfl ?_
                refine r_dup (pc := 92) dX8_readPart_92 rfl ?_
                refine r_getIv (pc := 93) (x := ((lv : Nat) : Int)) dX8_readPart_93 fl_X8_33 rfl hT.k (hC.xl) ?_
                refine r_iconst (pc := 96) dX8_readPart_96 ?_
                refine r_iadd (pc := 97) dX8_readPart_97 ?_
                refine r_eqI (y := ((lv + 1 : Nat) : Int)) (Int.natCast_add _ _ |>.symm) ?_
                refine r_putI (pc := 98) dX8_readPart_98 fl_X8_33 rfl rfl hT.k ?_
                refine r_iload_n (pc := 101) 1 dX8_readPart_101 rfl rfl ?_
                refine r_if_eq (pc := 102) (tgt := 118) dX8_readPart_102 (by decide) (by omega) (fun c_102 => ?_) (fun c_102 => ?_)
                · refine r_aload_n (pc := 118) 2 dX8_readPart_118 rfl rfl ?_
                  refine r_iconst (pc := 119) dX8_readPart_119 ?_
                  refine r_aload_n (pc := 120) 2 dX8_readPart_120 rfl rfl ?_
                  refine r_getIv (pc := 121) (x := kj (f0 (b + 1)) t j) dX8_readPart_121 fl_X8_63 rfl hT.k (rdi (by decide) (hC.k)) ?_
                  refine r_sipush (pc := 124) dX8_readPart_124 (by decide) ?_
                  refine r_isub (pc := 127) dX8_readPart_127 ?_
                  refine r_eqI (y := (((cj (f0 (b + 1)) t j - 7).toNat : Nat) : Int)) (by omega) ?_
                  refine r_callV (pc := 128) (As := [(.int (iI (1))), (.int (iI ((((cj (f0 (b + 1)) t j - 7).toNat : Nat) : Int))))]) (S := []) dX8_readPart_128 cv_X8_81 hT.k rfl (Nat.le_of_ble_eq_true rfl) (x_write (kk := 1) (w := (cj (f0 (b + 1)) t j - 7).toNat) l z _ hT ht4 ((hC.part (by omega))) (by omega) (by omega) (by omega)) (Nat.zero_le _) (Nat.zero_le _) (fun r_128 g_128 f_128 q_128 => ?_)
                  obtain ⟨rfl, rfl, hC_128, hA_128, hS_128, hM_128⟩ := q_128
                  refine r_pop (pc := 131) dX8_readPart_131 rfl ?_
                  refine r_aload_n (pc := 132) 2 dX8_readPart_132 rfl rfl ?_
                  refine r_aload_n (pc := 133) 2 dX8_readPart_133 rfl rfl ?_
                  refine r_getIv (pc := 134) (x := dy) dX8_readPart_134 fl_X8_36 rfl hT.k (hC_128.xd) ?_
                  refine r_if_ne (pc := 137) (tgt := 150) dX8_readPart_137 (by decide) (by have := hC.r; omega) (fun c_137 => ?_) (fun c_137 => ?_)
                  · refine r_iconst (pc := 150) dX8_readPart_150 ?_
                    refine r_goto (pc := 151) (tgt := 155) dX8_readPart_151 (by decide) ?_
                    refine r_putB (pc := 155) dX8_readPart_155 fl_X8_36 rfl rfl (by omega) hT.k ?_
                    refine r_aload_n (pc := 158) 2 dX8_readPart_158 rfl rfl ?_
                    refine r_callV (pc := 159) (As := []) (S := []) dX8_readPart_159 cv_X8_43 hT.k rfl (Nat.le_of_ble_eq_true rfl) (CP.adv l z (by omega) hT ht4 hby ((hC_128.day (by omega))) (by omega)) (Nat.zero_le _) (Nat.zero_le _) (fun r_159 g_159 f_159 q_159 => ?_)
                    obtain ⟨rfl, rfl, hC_159, hS_159, hM_159⟩ := q_159
                    refine r_iconst (pc := 162) dX8_readPart_162 ?_
                    exact r_iret (pc := 163) dX8_readPart_163 rfl rfl (cpo_k (by rw [sPart, if_neg (by omega), if_neg (by omega), if_pos ⟨by omega, by omega⟩, if_neg (by omega)]) hC_159 (by unfold dyO; have := hC.r; split <;> omega) (by simp only [cdS]; rw [hS_159, stF_n _ _ _ (by omega), hA_128]; exact ⟨by omega, by omega, trivial⟩) (fun i hi => by rw [hS_159, stF_n _ _ _ (by omega), hS_128 i (by omega)]; exact rdn (by omega) rfl) (by rw [hM_159, stF_n _ _ _ (by omega), hM_128, stF_n _ _ _ (by omega)]) rfl (by omega))
                  · refine r_aload_n (pc := 140) 2 dX8_readPart_140 rfl rfl ?_
                    refine r_getIv (pc := 141) (x := kj (f0 (b + 1)) t j) dX8_readPart_141 fl_X8_63 rfl hT.k (hC_128.k) ?_
                    refine r_sipush (pc := 144) dX8_readPart_144 (by decide) ?_
                    refine r_icmp_ne (pc := 147) (tgt := 154) dX8_readPart_147 (by decide) (by omega) (by omega) (fun c_147 => ?_) (fun c_147 => ?_)
                    · refine r_iconst (pc := 154) dX8_readPart_154 ?_
                      refine r_putB (pc := 155) dX8_readPart_155 fl_X8_36 rfl rfl (by omega) hT.k ?_
                      refine r_aload_n (pc := 158) 2 dX8_readPart_158 rfl rfl ?_
                      refine r_callV (pc := 159) (As := []) (S := []) dX8_readPart_159 cv_X8_43 hT.k rfl (Nat.le_of_ble_eq_true rfl) (CP.adv l z (by omega) hT ht4 hby ((hC_128.day (by omega))) (by omega)) (Nat.zero_le _) (Nat.zero_le _) (fun r_159 g_159 f_159 q_159 => ?_)
                      obtain ⟨rfl, rfl, hC_159, hS_159, hM_159⟩ := q_159
                      refine r_iconst (pc := 162) dX8_readPart_162 ?_
                      exact r_iret (pc := 163) dX8_readPart_163 rfl rfl (cpo_k (by rw [sPart, if_neg (by omega), if_neg (by omega), if_pos ⟨by omega, by omega⟩, if_neg (by omega)]) hC_159 (by unfold dyO; rw [if_neg (by simp only [hasDay, decide_eq_true_eq]; omega)]; omega) (by simp only [cdS]; rw [hS_159, stF_n _ _ _ (by omega), hA_128]; exact ⟨by omega, by omega, trivial⟩) (fun i hi => by rw [hS_159, stF_n _ _ _ (by omega), hS_128 i (by omega)]; exact rdn (by omega) rfl) (by rw [hM_159, stF_n _ _ _ (by omega), hM_128, stF_n _ _ _ (by omega)]) rfl (by omega))
                    · refine r_iconst (pc := 150) dX8_readPart_150 ?_
                      refine r_goto (pc := 151) (tgt := 155) dX8_readPart_151 (by decide) ?_
                      refine r_putB (pc := 155) dX8_readPart_155 fl_X8_36 rfl rfl (by omega) hT.k ?_
                      refine r_aload_n (pc := 158) 2 dX8_readPart_158 rfl rfl ?_
                      refine r_callV (pc := 159) (As := []) (S := []) dX8_readPart_159 cv_X8_43 hT.k rfl (Nat.le_of_ble_eq_true rfl) (CP.adv l z (by omega) hT ht4 hby ((hC_128.day (by omega))) (by omega)) (Nat.zero_le _) (Nat.zero_le _) (fun r_159 g_159 f_159 q_159 => ?_)
                      obtain ⟨rfl, rfl, hC_159, hS_159, hM_159⟩ := q_159
                      refine r_iconst (pc := 162) dX8_readPart_162 ?_
                      exact r_iret (pc := 163) dX8_readPart_163 rfl rfl (cpo_k (by rw [sPart, if_neg (by omega), if_neg (by omega), if_pos ⟨by omega, by omega⟩, if_neg (by omega)]) hC_159 (by unfold dyO; rw [if_pos (by simp only [hasDay, decide_eq_true_eq]; omega)]) (by simp only [cdS]; rw [hS_159, stF_n _ _ _ (by omega), hA_128]; exact ⟨by omega, by omega, trivial⟩) (fun i hi => by rw [hS_159, stF_n _ _ _ (by omega), hS_128 i (by omega)]; exact rdn (by omega) rfl) (by rw [hM_159, stF_n _ _ _ (by omega), hM_128, stF_n _ _ _ (by omega)]) rfl (by omega))
                · exact absurd c_102 (by decide)
              · refine r_aload_n (pc := 86) 2 dX8_readPart_86 rfl rfl ?_
                refine r_callV (pc := 87) (As := []) (S := []) dX8_readPart_87 cv_X8_66 hT.k rfl (Nat.le_of_ble_eq_true rfl) (x_fail l z _ hT (hC)) (Nat.zero_le _) (Nat.zero_le _) (fun r_87 g_87 f_87 q_87 => ?_)
                obtain ⟨rfl, rfl, hx_87, hF_87⟩ := q_87
                exact r_iret (pc := 90) dX8_readPart_90 rfl rfl (cpo_e (by rw [sPart, if_neg (by omega)]; (repeat' split) <;> first | rfl | (exfalso; omega)) hx_87 hF_87)
    · have hv3 := vj_r hby c_24
      refine r_aload_n (pc := 27) 0 dX8_readPart_27 rfl rfl ?_
      refine r_getIv (pc := 28) (x := (((vj (f0 (b + 1)) t j).toNat : Nat) : Int)) dX8_readPart_28 fl_X8_105 rfl hT.k (by rw [hC.n (by omega)]; omega) ?_
      refine r_sipush (pc := 31) dX8_readPart_31 (by decide) ?_
      refine r_icmp_gt (pc := 34) (tgt := 41) dX8_readPart_34 (by decide) (by omega) (by omega) (fun c_34 => ?_) (fun c_34 => ?_)
      · refine r_iconst (pc := 41) dX8_readPart_41 ?_
        refine r_istore_n (pc := 42) (L2 := [(2, (.int (iI (0)))), (0, (.ref b)), (1, (.int (iI (((br : Nat) : Int)))))]) dX8_readPart_42 rfl (by decide) rfl ?_
        refine r_aload_n (pc := 43) 1 dX8_readPart_43 rfl rfl ?_
        refine r_getIv (pc := 44) (x := kj (f0 (b + 1)) t j) dX8_readPart_44 fl_X8_63 rfl hT.k (hC.k) ?_
        refine r_sipush (pc := 47) dX8_readPart_47 (by decide) ?_
        refine r_icmp_lt (pc := 50) (tgt := 67) dX8_readPart_50 (by decide) (by omega) (by omega) (fun c_50 => ?_) (fun c_50 => ?_)
        · refine r_iconst (pc := 67) dX8_readPart_67 ?_
          refine r_istore_n (pc := 68) (L2 := [(3, (.int (iI (0)))), (2, (.int (iI (0)))), (0, (.ref b)), (1, (.int (iI (((br : Nat) : Int)))))]) dX8_readPart_68 rfl (by decide) rfl ?_
          refine r_iload_n (pc := 69) 1 dX8_readPart_69 rfl rfl ?_
          refine r_if_ne (pc := 70) (tgt := 77) dX8_readPart_70 (by decide) (by omega) (fun c_70 => ?_) (fun c_70 => ?_)
          · exact absurd c_70 (by decide)
          · refine r_iload_n (pc := 73) 0 dX8_readPart_73 rfl rfl ?_
            refine r_if_eq (pc := 74) (tgt := 86) dX8_readPart_74 (by decide) (by omega) (fun c_74 => ?_) (fun c_74 => ?_)
            · refine r_aload_n (pc := 86) 2 dX8_readPart_86 rfl rfl ?_
              refine r_callV (pc := 87) (As := []) (S := []) dX8_readPart_87 cv_X8_66 hT.k rfl (Nat.le_of_ble_eq_true rfl) (x_fail l z _ hT (hC)) (Nat.zero_le _) (Nat.zero_le _) (fun r_87 g_87 f_87 q_87 => ?_)
              obtain ⟨rfl, rfl, hx_87, hF_87⟩ := q_87
              exact r_iret (pc := 90) dX8_readPart_90 rfl rfl (cpo_e (by rw [sPart, if_neg (by omega)]; (repeat' split) <;> first | rfl | (exfalso; omega)) hx_87 hF_87)
            · exact absurd c_74 (by decide)
        · exfalso; omega
      · refine r_iconst (pc := 37) dX8_readPart_37 ?_
        refine r_goto (pc := 38) (tgt := 42) dX8_readPart_38 (by decide) ?_
        refine r_istore_n (pc := 42) (L2 := [(2, (.int (iI (1)))), (0, (.ref b)), (1, (.int (iI (((br : Nat) : Int)))))]) dX8_readPart_42 rfl (by decide) rfl ?_
        refine r_aload_n (pc := 43) 1 dX8_readPart_43 rfl rfl ?_
        refine r_getIv (pc := 44) (x := kj (f0 (b + 1)) t j) dX8_readPart_44 fl_X8_63 rfl hT.k (hC.k) ?_
        refine r_sipush (pc := 47) dX8_readPart_47 (by decide) ?_
        refine r_icmp_lt (pc := 50) (tgt := 67) dX8_readPart_50 (by decide) (by omega) (by omega) (fun c_50 => ?_) (fun c_50 => ?_)
        · refine r_iconst (pc := 67) dX8_readPart_67 ?_
          refine r_istore_n (pc := 68) (L2 := [(3, (.int (iI (0)))), (2, (.int (iI (1)))), (0, (.ref b)), (1, (.int (iI (((br : Nat) : Int)))))]) dX8_readPart_68 rfl (by decide) rfl ?_
          refine r_iload_n (pc := 69) 1 dX8_readPart_69 rfl rfl ?_
          refine r_if_ne (pc := 70) (tgt := 77) dX8_readPart_70 (by decide) (by omega) (fun c_70 => ?_) (fun c_70 => ?_)
          · refine r_aload_n (pc := 77) 2 dX8_readPart_77 rfl rfl ?_
            refine r_getIv (pc := 78) (x := ((lv : Nat) : Int)) dX8_readPart_78 fl_X8_33 rfl hT.k (hC.xl) ?_
            refine r_bipush (pc := 81) dX8_readPart_81 (by decide) ?_
            refine r_icmp_lt (pc := 83) (tgt := 91) dX8_readPart_83 (by decide) (by omega) (by omega) (fun c_83 => ?_) (fun c_83 => ?_)
            · refine r_aload_n (pc := 91) 2 dX8_readPart_91 rfl rfl ?_
              refine r_dup (pc := 92) dX8_readPart_92 rfl ?_
              refine r_getIv (pc := 93) (x := ((lv : Nat) : Int)) dX8_readPart_93 fl_X8_33 rfl hT.k (hC.xl) ?_
              refine r_iconst (pc := 96) dX8_readPart_96 ?_
              refine r_iadd (pc := 97) dX8_readPart_97 ?_
              refine r_eqI (y := ((lv + 1 : Nat) : Int)) (Int.natCast_add _ _ |>.symm) ?_
              refine r_putI (pc := 98) dX8_readPart_98 fl_X8_33 rfl rfl hT.k ?_
              refine r_iload_n (pc := 101) 1 dX8_readPart_101 rfl rfl ?_
              refine r_if_eq (pc := 102) (tgt := 118) dX8_readPart_102 (by decide) (by omega) (fun c_102 => ?_) (fun c_102 => ?_)
              · exact absurd c_102 (by decide)
              · refine r_aload_n (pc := 105) 2 dX8_readPart_105 rfl rfl ?_
                refine r_iconst (pc := 106) dX8_readPart_106 ?_
                refine r_aload_n (pc := 107) 2 dX8_readPart_107 rfl rfl ?_
                refine r_getIv (pc := 108) (x := (((vj (f0 (b + 1)) t j).toNat : Nat) : Int)) dX8_readPart_108 fl_X8_105 rfl hT.k (rdi (by decide) (by rw [hC.n (by omega)]; omega)) ?_
                refine r_eqI (y := (((vj (f0 (b + 1)) t j).toNat : Nat) : Int)) (rfl) ?_
                refine r_callV (pc := 111) (As := [(.int (iI (0))), (.int (iI ((((vj (f0 (b + 1)) t j).toNat : Nat) : Int))))]) (S := []) dX8_readPart_111 cv_X8_81 hT.k rfl (Nat.le_of_ble_eq_true rfl) (x_write (kk := 0) (w := (vj (f0 (b + 1)) t j).toNat) l z _ hT ht4 ((hC.part (by omega))) (by omega) (by omega) (by omega)) (Nat.zero_le _) (Nat.zero_le _) (fun r_111 g_111 f_111 q_111 => ?_)
                obtain ⟨rfl, rfl, hC_111, hA_111, hS_111, hM_111⟩ := q_111
                refine r_pop (pc := 114) dX8_readPart_114 rfl ?_
                refine r_goto (pc := 115) (tgt := 158) dX8_readPart_115 (by decide) ?_
                refine r_aload_n (pc := 158) 2 dX8_readPart_158 rfl rfl ?_
                refine r_callV (pc := 159) (As := []) (S := []) dX8_readPart_159 cv_X8_43 hT.k rfl (Nat.le_of_ble_eq_true rfl) (CP.adv l z (by omega) hT ht4 hby (hC_111) (by omega)) (Nat.zero_le _) (Nat.zero_le _) (fun r_159 g_159 f_159 q_159 => ?_)
                obtain ⟨rfl, rfl, hC_159, hS_159, hM_159⟩ := q_159
                refine r_iconst (pc := 162) dX8_readPart_162 ?_
                exact r_iret (pc := 163) dX8_readPart_163 rfl rfl (cpo_k (by rw [sPart, if_neg (by omega), if_pos ⟨by omega, by omega⟩, if_neg (by omega)]) hC_159 rfl (by simp only [cdS]; rw [hS_159, hA_111]; exact ⟨by omega, by omega, trivial⟩) (fun i hi => by rw [hS_159, hS_111 i (by omega)]; exact rdn (by omega) rfl) (by rw [hM_159, hM_111, stF_n _ _ _ (by omega)]) rfl (by omega))
            · refine r_aload_n (pc := 86) 2 dX8_readPart_86 rfl rfl ?_
              refine r_callV (pc := 87) (As := []) (S := []) dX8_readPart_87 cv_X8_66 hT.k rfl (Nat.le_of_ble_eq_true rfl) (x_fail l z _ hT (hC)) (Nat.zero_le _) (Nat.zero_le _) (fun r_87 g_87 f_87 q_87 => ?_)
              obtain ⟨rfl, rfl, hx_87, hF_87⟩ := q_87
              exact r_iret (pc := 90) dX8_readPart_90 rfl rfl (cpo_e (by rw [sPart, if_neg (by omega)]; (repeat' split) <;> first | rfl | (exfalso; omega)) hx_87 hF_87)
          · exact absurd c_70 (by decide)
        · exfalso; omega
  · refine r_aload_n (pc := 9) 0 dX8_readPart_9 rfl rfl ?_
    refine r_iload_n (pc := 10) 1 dX8_readPart_10 rfl rfl ?_
    refine r_bipush (pc := 11) dX8_readPart_11 (by decide) ?_
    refine r_callV (pc := 13) (As := [(.int (iI (((br : Nat) : Int)))), (.int (iI (93)))]) (S := []) dX8_readPart_13 cv_X8_92 hT.k rfl (Nat.le_of_ble_eq_true rfl) (x_brS l z hT ht4 hby he (by omega) hsub hsj hC (by omega)) (Nat.zero_le _) (Nat.zero_le _) (fun r_13 g_13 f_13 q_13 => ?_)
    obtain ⟨rfl, ⟨x_13, hR_13, rfl, hx_13, hF_13⟩ | ⟨t_13, j_13, l_13, s_13, hR_13, rfl, hC_13, hc_13, hS_13, hM_13, hv_13, hj_13⟩⟩ := cpo_or q_13
    · exact r_iret (pc := 16) dX8_readPart_16 rfl rfl (cpo_e (by rw [sPart, if_pos (by omega)]; exact hR_13) hx_13 hF_13)
    · exact r_iret (pc := 16) dX8_readPart_16 rfl rfl (cpo_k (by rw [sPart, if_pos (by omega)]; exact hR_13) hC_13 rfl hc_13 hS_13 hM_13 hv_13 hj_13)

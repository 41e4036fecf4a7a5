set_option maxRecDepth 100000 in
set_option maxHeartbeats 4000000 in
theorem x_term (l : Launch) (z : Zv) {g : Gm} {b t : Nat} {f0 : Fm} (hT : TL g b) (ht4 : t ≤ 400) (hby : ∀ i, 0 ≤ f0 (b + 1) i ∧ f0 (b + 1) i ≤ 255) {br H : Nat} {part : Nat → Nat → PR} (hH : 6 ≤ H) (hsub : RdC l z g b t f0 mX8_readPart cdS part H br) : RdC l z g b t f0 mX8_readTerm cdS (sTerm (cj (f0 (b + 1)) t) part) (H + 1) br := by
  intro D hD f j lv s dy hsj hC
  obtain ⟨d, rfl⟩ : ∃ d, D = d + 1 := ⟨D - 1, by omega⟩
  refine PM.of (by decide +kernel) (Nat.le_of_ble_eq_true rfl) ?_
  have loop : ∀ m : Nat, ∀ i : Nat, m + i = 400 → ∀ (f1 : Fm) (acc : Term) (j1 l1 s1 : Nat), sTerm (cj (f0 (b + 1)) t) part j lv = sTermR (cj (f0 (b + 1)) t) part m acc j1 l1 → CP b t f0 f1 j1 l1 s1 (dyO dy acc) → cdS (f1 (b + 2)) acc s s1 → (∀ i, i < s → f1 (b + 2) i = f (b + 2) i) → f1 (b + 3) = f (b + 3) → l1 = lv + lvs acc → s1 + j ≤ s + j1 → PW l z (d + 1) mX8_readTerm 0 0 (cpo cdS b t f0 f g j lv s dy (sTerm (cj (f0 (b + 1)) t) part j lv)) 12 [(2, (.int (iI (((i : Nat) : Int))))), (0, (.ref b)), (1, (.int (iI (((br : Nat) : Int)))))] [] g f1 0 0 := by
    intro m
    induction m using Nat.strongRecOn with
    | _ m ih =>
      intro i hm f1 acc j1 l1 s1 hR hC1 hcd hlow hmk hlv hrel
      refine r_iload_n (pc := 12) 0 dX8_readTerm_12 rfl rfl ?_
      refine r_sipush (pc := 13) dX8_readTerm_13 (by decide) ?_
      refine r_icmp_ge (pc := 16) (tgt := 79) dX8_readTerm_16 (by decide) (by omega) (by omega) (fun c_16 => ?_) (fun c_16 => ?_)
      · refine r_iconst (pc := 79) dX8_readTerm_79 ?_
        exact r_iret (pc := 80) dX8_readTerm_80 rfl rfl (cpo_k (by rw [hR, show m = 0 by omega]; rfl) hC1 rfl hcd hlow hmk hlv hrel)
      · obtain ⟨m', rfl⟩ : ∃ m', m = m' + 1 := ⟨m - 1, by omega⟩
        have hk1 := kc_j (t := t) hby j1
        refine r_aload_n (pc := 19) 1 dX8_readTerm_19 rfl rfl ?_
        refine r_getIv (pc := 20) (x := kj (f0 (b + 1)) t j1) dX8_readTerm_20 fl_X8_63 rfl hT.k (hC1.k) ?_
        refine r_bipush (pc := 23) dX8_readTerm_23 (by decide) ?_
        refine r_icmp_eq (pc := 25) (tgt := 37) dX8_readTerm_25 (by decide) (by omega) (by omega) (fun c_25 => ?_) (fun c_25 => ?_)
        · refine r_aload_n (pc := 37) 1 dX8_readTerm_37 rfl rfl ?_
          refine r_getIv (pc := 38) (x := kj (f0 (b + 1)) t j1) dX8_readTerm_38 fl_X8_63 rfl hT.k (hC1.k) ?_
          refine r_bipush (pc := 41) dX8_readTerm_41 (by decide) ?_
          refine r_icmp_ne (pc := 43) (tgt := 50) dX8_readTerm_43 (by decide) (by omega) (by omega) (fun c_43 => ?_) (fun c_43 => ?_)
          · exfalso; omega
          · refine r_iconst (pc := 46) dX8_readTerm_46 ?_
            refine r_goto (pc := 47) (tgt := 51) dX8_readTerm_47 (by decide) ?_
            refine r_istore_n (pc := 51) (L2 := [(3, (.int (iI (4)))), (2, (.int (iI (((i : Nat) : Int))))), (0, (.ref b)), (1, (.int (iI (((br : Nat) : Int)))))]) dX8_readTerm_51 rfl (by decide) rfl ?_
            refine r_aload_n (pc := 52) 2 dX8_readTerm_52 rfl rfl ?_
            refine r_callV (pc := 53) (As := []) (S := []) dX8_readTerm_53 cv_X8_43 hT.k rfl (Nat.le_of_ble_eq_true rfl) (CP.adv l z (by omega) hT ht4 hby (hC1) (by omega)) (Nat.zero_le _) (Nat.zero_le _) (fun r_53 g_53 f_53 q_53 => ?_)
            obtain ⟨rfl, rfl, hC_53, hS_53, hM_53⟩ := q_53
            refine r_aload_n (pc := 56) 2 dX8_readTerm_56 rfl rfl ?_
            refine r_iload_n (pc := 57) 3 dX8_readTerm_57 rfl rfl ?_
            refine r_callV (pc := 58) (As := [(.int (iI (((br : Nat) : Int))))]) (S := []) dX8_readTerm_58 cv_X8_102 hT.k rfl (Nat.le_of_ble_eq_true rfl) (hsub _ (by omega) _ _ _ _ _ (by omega) (hC_53)) (Nat.zero_le _) (Nat.zero_le _) (fun r_58 g_58 f_58 q_58 => ?_)
            obtain ⟨rfl, ⟨x_58, hR_58, rfl, hx_58, hF_58⟩ | ⟨t_58, j_58, l_58, s_58, hR_58, rfl, hC_58, hc_58, hS_58, hM_58, hv_58, hj_58⟩⟩ := cpo_or q_58
            · refine r_if_ne (pc := 61) (tgt := 66) dX8_readTerm_61 (by decide) (by omega) (fun c_61 => ?_) (fun c_61 => ?_)
              · exact absurd c_61 (by decide)
              · refine r_iconst (pc := 64) dX8_readTerm_64 ?_
                exact r_iret (pc := 65) dX8_readTerm_65 rfl rfl (cpo_e (by rw [hR, sTermR, if_pos (by omega)]; exact bnd_e hR_58) hx_58 hF_58)
            · refine r_if_ne (pc := 61) (tgt := 66) dX8_readTerm_61 (by decide) (by omega) (fun c_61 => ?_) (fun c_61 => ?_)
              · refine r_aload_n (pc := 66) 2 dX8_readTerm_66 rfl rfl ?_
                refine r_iload_n (pc := 67) 0 dX8_readTerm_67 rfl rfl ?_
                refine r_iconst (pc := 68) dX8_readTerm_68 ?_
                refine r_callV (pc := 69) (As := [(.int (iI (4))), (.int (iI (0)))]) (S := []) dX8_readTerm_69 cv_X8_81 hT.k rfl (Nat.le_of_ble_eq_true rfl) (x_write (kk := 4) (w := 0) l z _ hT ht4 (hC_58) (by omega) (by omega) (by omega)) (Nat.zero_le _) (Nat.zero_le _) (fun r_69 g_69 f_69 q_69 => ?_)
                obtain ⟨rfl, rfl, hC_69, hA_69, hS_69, hM_69⟩ := q_69
                have hlt1 := cdS_lt hc_58
                have hlt0 := cdS_lt hcd
                refine r_pop (pc := 72) dX8_readTerm_72 rfl ?_
                refine r_iincv (pc := 73) (y := ((i + 1 : Nat) : Int)) (L2 := [(2, (.int (iI (((i + 1 : Nat) : Int))))), (3, (.int (iI (4)))), (0, (.ref b)), (1, (.int (iI (((br : Nat) : Int)))))]) 1 dX8_readTerm_73 rfl (by omega) (by decide) rfl ?_
                refine r_goto (pc := 76) (tgt := 12) dX8_readTerm_76 (by decide) ?_
                refine r_sub (L2 := [(2, (.int (iI (((i + 1 : Nat) : Int))))), (0, (.ref b)), (1, (.int (iI (((br : Nat) : Int)))))]) [0, 2, 3] rfl ?_
                exact ih m' (by omega) (i + 1) (by omega) _ (.mul acc t_58) _ _ _ (by rw [hR, sTermR, if_pos (by omega), bnd_o hR_58]) (by rw [← dyO_2 (a := acc) (b := t_58) (c := .mul acc t_58) rfl]; exact hC_69) (⟨s1, s_58, cdS_congr (fun i q1 q2 => by rw [hS_69 i (by omega), hS_58 i (by omega), hS_53]) hcd, cdS_congr (fun i q1 q2 => by rw [hS_69 i (by omega)]) hc_58, by rw [hA_69]; rfl, rfl⟩) (fun i hi => by rw [hS_69 i (by omega), hS_58 i (by omega), hS_53]; exact hlow i hi) (by rw [hM_69, hM_58, hM_53]; exact hmk) (by rw [hv_58, hlv]; simp only [lvs]; omega) (by omega)
              · exact absurd c_61 (by decide)
        · refine r_aload_n (pc := 28) 1 dX8_readTerm_28 rfl rfl ?_
          refine r_getIv (pc := 29) (x := kj (f0 (b + 1)) t j1) dX8_readTerm_29 fl_X8_63 rfl hT.k (hC1.k) ?_
          refine r_bipush (pc := 32) dX8_readTerm_32 (by decide) ?_
          refine r_icmp_ne (pc := 34) (tgt := 79) dX8_readTerm_34 (by decide) (by omega) (by omega) (fun c_34 => ?_) (fun c_34 => ?_)
          · refine r_iconst (pc := 79) dX8_readTerm_79 ?_
            exact r_iret (pc := 80) dX8_readTerm_80 rfl rfl (cpo_k (by rw [hR, sTermR, if_neg (by omega), if_neg (by omega)]) hC1 rfl hcd hlow hmk hlv hrel)
          · refine r_aload_n (pc := 37) 1 dX8_readTerm_37 rfl rfl ?_
            refine r_getIv (pc := 38) (x := kj (f0 (b + 1)) t j1) dX8_readTerm_38 fl_X8_63 rfl hT.k (hC1.k) ?_
            refine r_bipush (pc := 41) dX8_readTerm_41 (by decide) ?_
            refine r_icmp_ne (pc := 43) (tgt := 50) dX8_readTerm_43 (by decide) (by omega) (by omega) (fun c_43 => ?_) (fun c_43 => ?_)
            · refine r_iconst (pc := 50) dX8_readTerm_50 ?_
              refine r_istore_n (pc := 51) (L2 := [(3, (.int (iI (5)))), (2, (.int (iI (((i : Nat) : Int))))), (0, (.ref b)), (1, (.int (iI (((br : Nat) : Int)))))]) dX8_readTerm_51 rfl (by decide) rfl ?_
              refine r_aload_n (pc := 52) 2 dX8_readTerm_52 rfl rfl ?_
              refine r_callV (pc := 53) (As := []) (S := []) dX8_readTerm_53 cv_X8_43 hT.k rfl (Nat.le_of_ble_eq_true rfl) (CP.adv l z (by omega) hT ht4 hby (hC1) (by omega)) (Nat.zero_le _) (Nat.zero_le _) (fun r_53 g_53 f_53 q_53 => ?_)
              obtain ⟨rfl, rfl, hC_53, hS_53, hM_53⟩ := q_53
              refine r_aload_n (pc := 56) 2 dX8_readTerm_56 rfl rfl ?_
              refine r_iload_n (pc := 57) 3 dX8_readTerm_57 rfl rfl ?_
              refine r_callV (pc := 58) (As := [(.int (iI (((br : Nat) : Int))))]) (S := []) dX8_readTerm_58 cv_X8_102 hT.k rfl (Nat.le_of_ble_eq_true rfl) (hsub _ (by omega) _ _ _ _ _ (by omega) (hC_53)) (Nat.zero_le _) (Nat.zero_le _) (fun r_58 g_58 f_58 q_58 => ?_)
              obtain ⟨rfl, ⟨x_58, hR_58, rfl, hx_58, hF_58⟩ | ⟨t_58, j_58, l_58, s_58, hR_58, rfl, hC_58, hc_58, hS_58, hM_58, hv_58, hj_58⟩⟩ := cpo_or q_58
              · refine r_if_ne (pc := 61) (tgt := 66) dX8_readTerm_61 (by decide) (by omega) (fun c_61 => ?_) (fun c_61 => ?_)
                · exact absurd c_61 (by decide)
                · refine r_iconst (pc := 64) dX8_readTerm_64 ?_
                  exact r_iret (pc := 65) dX8_readTerm_65 rfl rfl (cpo_e (by rw [hR, sTermR, if_neg (by omega), if_pos (by omega)]; exact bnd_e hR_58) hx_58 hF_58)
              · refine r_if_ne (pc := 61) (tgt := 66) dX8_readTerm_61 (by decide) (by omega) (fun c_61 => ?_) (fun c_61 => ?_)
                · refine r_aload_n (pc := 66) 2 dX8_readTerm_66 rfl rfl ?_
                  refine r_iload_n (pc := 67) 0 dX8_readTerm_67 rfl rfl ?_
                  refine r_iconst (pc := 68) dX8_readTerm_68 ?_
                  refine r_callV (pc := 69) (As := [(.int (iI (5))), (.int (iI (0)))]) (S := []) dX8_readTerm_69 cv_X8_81 hT.k rfl (Nat.le_of_ble_eq_true rfl) (x_write (kk := 5) (w := 0) l z _ hT ht4 (hC_58) (by omega) (by omega) (by omega)) (Nat.zero_le _) (Nat.zero_le _) (fun r_69 g_69 f_69 q_69 => ?_)
                  obtain ⟨rfl, rfl, hC_69, hA_69, hS_69, hM_69⟩ := q_69
                  have hlt1 := cdS_lt hc_58
                  have hlt0 := cdS_lt hcd
                  refine r_pop (pc := 72) dX8_readTerm_72 rfl ?_
                  refine r_iincv (pc := 73) (y := ((i + 1 : Nat) : Int)) (L2 := [(2, (.int (iI (((i + 1 : Nat) : Int))))), (3, (.int (iI (5)))), (0, (.ref b)), (1, (.int (iI (((br : Nat) : Int)))))]) 1 dX8_readTerm_73 rfl (by omega) (by decide) rfl ?_
                  refine r_goto (pc := 76) (tgt := 12) dX8_readTerm_76 (by decide) ?_
                  refine r_sub (L2 := [(2, (.int (iI (((i + 1 : Nat) : Int))))), (0, (.ref b)), (1, (.int (iI (((br : Nat) : Int)))))]) [0, 2, 3] rfl ?_
                  exact ih m' (by omega) (i + 1) (by omega) _ (.div acc t_58) _ _ _ (by rw [hR, sTermR, if_neg (by omega), if_pos (by omega), bnd_o hR_58]) (by rw [← dyO_2 (a := acc) (b := t_58) (c := .div acc t_58) rfl]; exact hC_69) (⟨s1, s_58, cdS_congr (fun i q1 q2 => by rw [hS_69 i (by omega), hS_58 i (by omega), hS_53]) hcd, cdS_congr (fun i q1 q2 => by rw [hS_69 i (by omega)]) hc_58, by rw [hA_69]; rfl, rfl⟩) (fun i hi => by rw [hS_69 i (by omega), hS_58 i (by omega), hS_53]; exact hlow i hi) (by rw [hM_69, hM_58, hM_53]; exact hmk) (by rw [hv_58, hlv]; simp only [lvs]; omega) (by omega)
                · exact absurd c_61 (by decide)
            · exfalso; omega
  refine r_aload_n (pc := 0) 0 dX8_readTerm_0 rfl rfl ?_
  refine r_iload_n (pc := 1) 1 dX8_readTerm_1 rfl rfl ?_
  refine r_callV (pc := 2) (As := [(.int (iI (((br : Nat) : Int))))]) (S := []) dX8_readTerm_2 cv_X8_102 hT.k rfl (Nat.le_of_ble_eq_true rfl) (hsub _ (by omega) _ _ _ _ _ (by omega) (hC)) (Nat.zero_le _) (Nat.zero_le _) (fun r_2 g_2 f_2 q_2 => ?_)
  obtain ⟨rfl, ⟨x_2, hR_2, rfl, hx_2, hF_2⟩ | ⟨t_2, j_2, l_2, s_2, hR_2, rfl, hC_2, hc_2, hS_2, hM_2, hv_2, hj_2⟩⟩ := cpo_or q_2
  · refine r_if_ne (pc := 5) (tgt := 10) dX8_readTerm_5 (by decide) (by omega) (fun c_5 => ?_) (fun c_5 => ?_)
    · exact absurd c_5 (by decide)
    · refine r_iconst (pc := 8) dX8_readTerm_8 ?_
      exact r_iret (pc := 9) dX8_readTerm_9 rfl rfl (cpo_e (by show sTerm (cj (f0 (b + 1)) t) part j lv = _; exact bnd_e hR_2) hx_2 hF_2)
  · refine r_if_ne (pc := 5) (tgt := 10) dX8_readTerm_5 (by decide) (by omega) (fun c_5 => ?_) (fun c_5 => ?_)
    · refine r_iconst (pc := 10) dX8_readTerm_10 ?_
      refine r_istore_n (pc := 11) (L2 := [(2, (.int (iI (0)))), (0, (.ref b)), (1, (.int (iI (((br : Nat) : Int)))))]) dX8_readTerm_11 rfl (by decide) rfl ?_
      refine r_sub (L2 := [(2, (.int (iI (0)))), (0, (.ref b)), (1, (.int (iI (((br : Nat) : Int)))))]) [0, 1, 2] rfl ?_
      exact loop 400 0 rfl _ _ _ _ _ (by show sTerm (cj (f0 (b + 1)) t) part j lv = _; exact bnd_o hR_2) hC_2 hc_2 hS_2 hM_2 hv_2 hj_2
    · exact absurd c_5 (by decide)

set_option maxRecDepth 100000 in
set_option maxHeartbeats 4000000 in
theorem x_sum (l : Launch) (z : Zv) {g : Gm} {b t : Nat} {f0 : Fm} (hT : TL g b) (ht4 : t ≤ 400) (hby : ∀ i, 0 ≤ f0 (b + 1) i ∧ f0 (b + 1) i ≤ 255) {br H : Nat} {term : Nat → Nat → PR} (hH : 6 ≤ H) (hsub : RdC l z g b t f0 mX8_readTerm cdS term H br) : RdC l z g b t f0 mX8_readSum cdS (sSum (cj (f0 (b + 1)) t) term) (H + 1) br := by
  intro D hD f j lv s dy hsj hC
  obtain ⟨d, rfl⟩ : ∃ d, D = d + 1 := ⟨D - 1, by omega⟩
  refine PM.of (by decide +kernel) (Nat.le_of_ble_eq_true rfl) ?_
  have loop : ∀ m : Nat, ∀ i : Nat, m + i = 400 → ∀ (f1 : Fm) (acc : Term) (j1 l1 s1 : Nat), sSum (cj (f0 (b + 1)) t) term j lv = sSumR (cj (f0 (b + 1)) t) term m acc j1 l1 → CP b t f0 f1 j1 l1 s1 (dyO dy acc) → cdS (f1 (b + 2)) acc s s1 → (∀ i, i < s → f1 (b + 2) i = f (b + 2) i) → f1 (b + 3) = f (b + 3) → l1 = lv + lvs acc → s1 + j ≤ s + j1 → PW l z (d + 1) mX8_readSum 0 0 (cpo cdS b t f0 f g j lv s dy (sSum (cj (f0 (b + 1)) t) term j lv)) 12 [(2, (.int (iI (((i : Nat) : Int))))), (0, (.ref b)), (1, (.int (iI (((br : Nat) : Int)))))] [] g f1 0 0 := by
    intro m
    induction m using Nat.strongRecOn with
    | _ m ih =>
      intro i hm f1 acc j1 l1 s1 hR hC1 hcd hlow hmk hlv hrel
      refine r_iload_n (pc := 12) 0 dX8_readSum_12 rfl rfl ?_
      refine r_sipush (pc := 13) dX8_readSum_13 (by decide) ?_
      refine r_icmp_ge (pc := 16) (tgt := 79) dX8_readSum_16 (by decide) (by omega) (by omega) (fun c_16 => ?_) (fun c_16 => ?_)
      · refine r_iconst (pc := 79) dX8_readSum_79 ?_
        exact r_iret (pc := 80) dX8_readSum_80 rfl rfl (cpo_k (by rw [hR, show m = 0 by omega]; rfl) hC1 rfl hcd hlow hmk hlv hrel)
      · obtain ⟨m', rfl⟩ : ∃ m', m = m' + 1 := ⟨m - 1, by omega⟩
        have hk1 := kc_j (t := t) hby j1
        refine r_aload_n (pc := 19) 1 dX8_readSum_19 rfl rfl ?_
        refine r_getIv (pc := 20) (x := kj (f0 (b + 1)) t j1) dX8_readSum_20 fl_X8_63 rfl hT.k (hC1.k) ?_
        refine r_bipush (pc := 23) dX8_readSum_23 (by decide) ?_
        refine r_icmp_eq (pc := 25) (tgt := 37) dX8_readSum_25 (by decide) (by omega) (by omega) (fun c_25 => ?_) (fun c_25 => ?_)
        · refine r_aload_n (pc := 37) 1 dX8_readSum_37 rfl rfl ?_
          refine r_getIv (pc := 38) (x := kj (f0 (b + 1)) t j1) dX8_readSum_38 fl_X8_63 rfl hT.k (hC1.k) ?_
          refine r_bipush (pc := 41) dX8_readSum_41 (by decide) ?_
          refine r_icmp_ne (pc := 43) (tgt := 50) dX8_readSum_43 (by decide) (by omega) (by omega) (fun c_43 => ?_) (fun c_43 => ?_)
          · exfalso; omega
          · refine r_iconst (pc := 46) dX8_readSum_46 ?_
            refine r_goto (pc := 47) (tgt := 51) dX8_readSum_47 (by decide) ?_
            refine r_istore_n (pc := 51) (L2 := [(3, (.int (iI (2)))), (2, (.int (iI (((i : Nat) : Int))))), (0, (.ref b)), (1, (.int (iI (((br : Nat) : Int)))))]) dX8_readSum_51 rfl (by decide) rfl ?_
            refine r_aload_n (pc := 52) 2 dX8_readSum_52 rfl rfl ?_
            refine r_callV (pc := 53) (As := []) (S := []) dX8_readSum_53 cv_X8_43 hT.k rfl (Nat.le_of_ble_eq_true rfl) (CP.adv l z (by omega) hT ht4 hby (hC1) (by omega)) (Nat.zero_le _) (Nat.zero_le _) (fun r_53 g_53 f_53 q_53 => ?_)
            obtain ⟨rfl, rfl, hC_53, hS_53, hM_53⟩ := q_53
            refine r_aload_n (pc := 56) 2 dX8_readSum_56 rfl rfl ?_
            refine r_iload_n (pc := 57) 3 dX8_readSum_57 rfl rfl ?_
            refine r_callV (pc := 58) (As := [(.int (iI (((br : Nat) : Int))))]) (S := []) dX8_readSum_58 cv_X8_99 hT.k rfl (Nat.le_of_ble_eq_true rfl) (hsub _ (by omega) _ _ _ _ _ (by omega) (hC_53)) (Nat.zero_le _) (Nat.zero_le _) (fun r_58 g_58 f_58 q_58 => ?_)
            obtain ⟨rfl, ⟨x_58, hR_58, rfl, hx_58, hF_58⟩ | ⟨t_58, j_58, l_58, s_58, hR_58, rfl, hC_58, hc_58, hS_58, hM_58, hv_58, hj_58⟩⟩ := cpo_or q_58
            · refine r_if_ne (pc := 61) (tgt := 66) dX8_readSum_61 (by decide) (by omega) (fun c_61 => ?_) (fun c_61 => ?_)
              · exact absurd c_61 (by decide)
              · refine r_iconst (pc := 64) dX8_readSum_64 ?_
                exact r_iret (pc := 65) dX8_readSum_65 rfl rfl (cpo_e (by rw [hR, sSumR, if_pos (by omega)]; exact bnd_e hR_58) hx_58 hF_58)
            · refine r_if_ne (pc := 61) (tgt := 66) dX8_readSum_61 (by decide) (by omega) (fun c_61 => ?_) (fun c_61 => ?_)
              · refine r_aload_n (pc := 66) 2 dX8_readSum_66 rfl rfl ?_
                refine r_iload_n (pc := 67) 0 dX8_readSum_67 rfl rfl ?_
                refine r_iconst (pc := 68) dX8_readSum_68 ?_
                refine r_callV (pc := 69) (As := [(.int (iI (2))), (.int (iI (0)))]) (S := []) dX8_readSum_69 cv_X8_81 hT.k rfl (Nat.le_of_ble_eq_true rfl) (x_write (kk := 2) (w := 0) l z _ hT ht4 (hC_58) (by omega) (by omega) (by omega)) (Nat.zero_le _) (Nat.zero_le _) (fun r_69 g_69 f_69 q_69 => ?_)
                obtain ⟨rfl, rfl, hC_69, hA_69, hS_69, hM_69⟩ := q_69
                have hlt1 := cdS_lt hc_58
                have hlt0 := cdS_lt hcd
                refine r_pop (pc := 72) dX8_readSum_72 rfl ?_
                refine r_iincv (pc := 73) (y := ((i + 1 : Nat) : Int)) (L2 := [(2, (.int (iI (((i + 1 : Nat) : Int))))), (3, (.int (iI (2)))), (0, (.ref b)), (1, (.int (iI (((br : Nat) : Int)))))]) 1 dX8_readSum_73 rfl (by omega) (by decide) rfl ?_
                refine r_goto (pc := 76) (tgt := 12) dX8_readSum_76 (by decide) ?_
                refine r_sub (L2 := [(2, (.int (iI (((i + 1 : Nat) : Int))))), (0, (.ref b)), (1, (.int (iI (((br : Nat) : Int)))))]) [0, 2, 3] rfl ?_
                exact ih m' (by omega) (i + 1) (by omega) _ (.add acc t_58) _ _ _ (by rw [hR, sSumR, if_pos (by omega), bnd_o hR_58]) (by rw [← dyO_2 (a := acc) (b := t_58) (c := .add acc t_58) rfl]; exact hC_69) (⟨s1, s_58, cdS_congr (fun i q1 q2 => by rw [hS_69 i (by omega), hS_58 i (by omega), hS_53]) hcd, cdS_congr (fun i q1 q2 => by rw [hS_69 i (by omega)]) hc_58, by rw [hA_69]; rfl, rfl⟩) (fun i hi => by rw [hS_69 i (by omega), hS_58 i (by omega), hS_53]; exact hlow i hi) (by rw [hM_69, hM_58, hM_53]; exact hmk) (by rw [hv_58, hlv]; simp only [lvs]; omega) (by omega)
              · exact absurd c_61 (by decide)
        · refine r_aload_n (pc := 28) 1 dX8_readSum_28 rfl rfl ?_
          refine r_getIv (pc := 29) (x := kj (f0 (b + 1)) t j1) dX8_readSum_29 fl_X8_63 rfl hT.k (hC1.k) ?_
          refine r_bipush (pc := 32) dX8_readSum_32 (by decide) ?_
          refine r_icmp_ne (pc := 34) (tgt := 79) dX8_readSum_34 (by decide) (by omega) (by omega) (fun c_34 => ?_) (fun c_34 => ?_)
          · refine r_iconst (pc := 79) dX8_readSum_79 ?_
            exact r_iret (pc := 80) dX8_readSum_80 rfl rfl (cpo_k (by rw [hR, sSumR, if_neg (by omega), if_neg (by omega)]) hC1 rfl hcd hlow hmk hlv hrel)
          · refine r_aload_n (pc := 37) 1 dX8_readSum_37 rfl rfl ?_
            refine r_getIv (pc := 38) (x := kj (f0 (b + 1)) t j1) dX8_readSum_38 fl_X8_63 rfl hT.k (hC1.k) ?_
            refine r_bipush (pc := 41) dX8_readSum_41 (by decide) ?_
            refine r_icmp_ne (pc := 43) (tgt := 50) dX8_readSum_43 (by decide) (by omega) (by omega) (fun c_43 => ?_) (fun c_43 => ?_)
            · refine r_iconst (pc := 50) dX8_readSum_50 ?_
              refine r_istore_n (pc := 51) (L2 := [(3, (.int (iI (3)))), (2, (.int (iI (((i : Nat) : Int))))), (0, (.ref b)), (1, (.int (iI (((br : Nat) : Int)))))]) dX8_readSum_51 rfl (by decide) rfl ?_
              refine r_aload_n (pc := 52) 2 dX8_readSum_52 rfl rfl ?_
              refine r_callV (pc := 53) (As := []) (S := []) dX8_readSum_53 cv_X8_43 hT.k rfl (Nat.le_of_ble_eq_true rfl) (CP.adv l z (by omega) hT ht4 hby (hC1) (by omega)) (Nat.zero_le _) (Nat.zero_le _) (fun r_53 g_53 f_53 q_53 => ?_)
              obtain ⟨rfl, rfl, hC_53, hS_53, hM_53⟩ := q_53
              refine r_aload_n (pc := 56) 2 dX8_readSum_56 rfl rfl ?_
              refine r_iload_n (pc := 57) 3 dX8_readSum_57 rfl rfl ?_
              refine r_callV (pc := 58) (As := [(.int (iI (((br : Nat) : Int))))]) (S := []) dX8_readSum_58 cv_X8_99 hT.k rfl (Nat.le_of_ble_eq_true rfl) (hsub _ (by omega) _ _ _ _ _ (by omega) (hC_53)) (Nat.zero_le _) (Nat.zero_le _) (fun r_58 g_58 f_58 q_58 => ?_)
              obtain ⟨rfl, ⟨x_58, hR_58, rfl, hx_58, hF_58⟩ | ⟨t_58, j_58, l_58, s_58, hR_58, rfl, hC_58, hc_58, hS_58, hM_58, hv_58, hj_58⟩⟩ := cpo_or q_58
              · refine r_if_ne (pc := 61) (tgt := 66) dX8_readSum_61 (by decide) (by omega) (fun c_61 => ?_) (fun c_61 => ?_)
                · exact absurd c_61 (by decide)
                · refine r_iconst (pc := 64) dX8_readSum_64 ?_
                  exact r_iret (pc := 65) dX8_readSum_65 rfl rfl (cpo_e (by rw [hR, sSumR, if_neg (by omega), if_pos (by omega)]; exact bnd_e hR_58) hx_58 hF_58)
              · refine r_if_ne (pc := 61) (tgt := 66) dX8_readSum_61 (by decide) (by omega) (fun c_61 => ?_) (fun c_61 => ?_)
                · refine r_aload_n (pc := 66) 2 dX8_readSum_66 rfl rfl ?_
                  refine r_iload_n (pc := 67) 0 dX8_readSum_67 rfl rfl ?_
                  refine r_iconst (pc := 68) dX8_readSum_68 ?_
                  refine r_callV (pc := 69) (As := [(.int (iI (3))), (.int (iI (0)))]) (S := []) dX8_readSum_69 cv_X8_81 hT.k rfl (Nat.le_of_ble_eq_true rfl) (x_write (kk := 3) (w := 0) l z _ hT ht4 (hC_58) (by omega) (by omega) (by omega)) (Nat.zero_le _) (Nat.zero_le _) (fun r_69 g_69 f_69 q_69 => ?_)
                  obtain ⟨rfl, rfl, hC_69, hA_69, hS_69, hM_69⟩ := q_69
                  have hlt1 := cdS_lt hc_58
                  have hlt0 := cdS_lt hcd
                  refine r_pop (pc := 72) dX8_readSum_72 rfl ?_
                  refine r_iincv (pc := 73) (y := ((i + 1 : Nat) : Int)) (L2 := [(2, (.int (iI (((i + 1 : Nat) : Int))))), (3, (.int (iI (3)))), (0, (.ref b)), (1, (.int (iI (((br : Nat) : Int)))))]) 1 dX8_readSum_73 rfl (by omega) (by decide) rfl ?_
                  refine r_goto (pc := 76) (tgt := 12) dX8_readSum_76 (by decide) ?_
                  refine r_sub (L2 := [(2, (.int (iI (((i + 1 : Nat) : Int))))), (0, (.ref b)), (1, (.int (iI (((br : Nat) : Int)))))]) [0, 2, 3] rfl ?_
                  exact ih m' (by omega) (i + 1) (by omega) _ (.sub acc t_58) _ _ _ (by rw [hR, sSumR, if_neg (by omega), if_pos (by omega), bnd_o hR_58]) (by rw [← dyO_2 (a := acc) (b := t_58) (c := .sub acc t_58) rfl]; exact hC_69) (⟨s1, s_58, cdS_congr (fun i q1 q2 => by rw [hS_69 i (by omega), hS_58 i (by omega), hS_53]) hcd, cdS_congr (fun i q1 q2 => by rw [hS_69 i (by omega)]) hc_58, by rw [hA_69]; rfl, rfl⟩) (fun i hi => by rw [hS_69 i (by omega), hS_58 i (by omega), hS_53]; exact hlow i hi) (by rw [hM_69, hM_58, hM_53]; exact hmk) (by rw [hv_58, hlv]; simp only [lvs]; omega) (by omega)
                · exact absurd c_61 (by decide)
            · exfalso; omega
  refine r_aload_n (pc := 0) 0 dX8_readSum_0 rfl rfl ?_
  refine r_iload_n (pc := 1) 1 dX8_readSum_1 rfl rfl ?_
  refine r_callV (pc := 2) (As := [(.int (iI (((br : Nat) : Int))))]) (S := []) dX8_readSum_2 cv_X8_99 hT.k rfl (Nat.le_of_ble_eq_true rfl) (hsub _ (by omega) _ _ _ _ _ (by omega) (hC)) (Nat.zero_le _) (Nat.zero_le _) (fun r_2 g_2 f_2 q_2 => ?_)
  obtain ⟨rfl, ⟨x_2, hR_2, rfl, hx_2, hF_2⟩ | ⟨t_2, j_2, l_2, s_2, hR_2, rfl, hC_2, hc_2, hS_2, hM_2, hv_2, hj_2⟩⟩ := cpo_or q_2
  · refine r_if_ne (pc := 5) (tgt := 10) dX8_readSum_5 (by decide) (by omega) (fun c_5 => ?_) (fun c_5 => ?_)
    · exact absurd c_5 (by decide)
    · refine r_iconst (pc := 8) dX8_readSum_8 ?_
      exact r_iret (pc := 9) dX8_readSum_9 rfl rfl (cpo_e (by show sSum (cj (f0 (b + 1)) t) term j lv = _; exact bnd_e hR_2) hx_2 hF_2)
  · refine r_if_ne (pc := 5) (tgt := 10) dX8_readSum_5 (by decide) (by omega) (fun c_5 => ?_) (fun c_5 => ?_)
    · refine r_iconst (pc := 10) dX8_readSum_10 ?_
      refine r_istore_n (pc := 11) (L2 := [(2, (.int (iI (0)))), (0, (.ref b)), (1, (.int (iI (((br : Nat) : Int)))))]) dX8_readSum_11 rfl (by decide) rfl ?_
      refine r_sub (L2 := [(2, (.int (iI (0)))), (0, (.ref b)), (1, (.int (iI (((br : Nat) : Int)))))]) [0, 1, 2] rfl ?_
      exact loop 400 0 rfl _ _ _ _ _ (by show sSum (cj (f0 (b + 1)) t) term j lv = _; exact bnd_o hR_2) hC_2 hc_2 hS_2 hM_2 hv_2 hj_2
    · exact absurd c_5 (by decide)

set_option maxRecDepth 100000 in
set_option maxHeartbeats 4000000 in
theorem x_both (l : Launch) (z : Zv) {g : Gm} {b t : Nat} {f0 : Fm} (hT : TL g b) (ht4 : t ≤ 400) (hby : ∀ i, 0 ≤ f0 (b + 1) i ∧ f0 (b + 1) i ≤ 255) {br H : Nat} {plain : Nat → Nat → PR} (hH : 6 ≤ H) (hsub : RdC l z g b t f0 mX8_readPlain cdT plain H br) : RdC l z g b t f0 mX8_readBoth cdT (sBoth (cj (f0 (b + 1)) t) plain) (H + 1) br := by
  intro D hD f j lv s dy hsj hC
  obtain ⟨d, rfl⟩ : ∃ d, D = d + 1 := ⟨D - 1, by omega⟩
  refine PM.of (by decide +kernel) (Nat.le_of_ble_eq_true rfl) ?_
  have loop : ∀ m : Nat, ∀ i : Nat, m + i = 400 → ∀ (f1 : Fm) (acc : Term) (j1 l1 s1 : Nat), sBoth (cj (f0 (b + 1)) t) plain j lv = sBothR (cj (f0 (b + 1)) t) plain m acc j1 l1 → CP b t f0 f1 j1 l1 s1 (dyO dy acc) → cdT (f1 (b + 2)) acc s s1 → (∀ i, i < s → f1 (b + 2) i = f (b + 2) i) → f1 (b + 3) = f (b + 3) → l1 = lv + lvs acc → s1 + j ≤ s + j1 → PW l z (d + 1) mX8_readBoth 0 0 (cpo cdT b t f0 f g j lv s dy (sBoth (cj (f0 (b + 1)) t) plain j lv)) 12 [(2, (.int (iI (((i : Nat) : Int))))), (0, (.ref b)), (1, (.int (iI (((br : Nat) : Int)))))] [] g f1 0 0 := by
    intro m
    induction m using Nat.strongRecOn with
    | _ m ih =>
      intro i hm f1 acc j1 l1 s1 hR hC1 hcd hlow hmk hlv hrel
      refine r_iload_n (pc := 12) 0 dX8_readBoth_12 rfl rfl ?_
      refine r_sipush (pc := 13) dX8_readBoth_13 (by decide) ?_
      refine r_icmp_ge (pc := 16) (tgt := 62) dX8_readBoth_16 (by decide) (by omega) (by omega) (fun c_16 => ?_) (fun c_16 => ?_)
      · refine r_iconst (pc := 62) dX8_readBoth_62 ?_
        exact r_iret (pc := 63) dX8_readBoth_63 rfl rfl (cpo_k (by rw [hR, show m = 0 by omega]; rfl) hC1 rfl hcd hlow hmk hlv hrel)
      · obtain ⟨m', rfl⟩ : ∃ m', m = m' + 1 := ⟨m - 1, by omega⟩
        have hk1 := kc_j (t := t) hby j1
        refine r_aload_n (pc := 19) 1 dX8_readBoth_19 rfl rfl ?_
        refine r_getIv (pc := 20) (x := kj (f0 (b + 1)) t j1) dX8_readBoth_20 fl_X8_63 rfl hT.k (hC1.k) ?_
        refine r_sipush (pc := 23) dX8_readBoth_23 (by decide) ?_
        refine r_icmp_ne (pc := 26) (tgt := 62) dX8_readBoth_26 (by decide) (by omega) (by omega) (fun c_26 => ?_) (fun c_26 => ?_)
        · refine r_iconst (pc := 62) dX8_readBoth_62 ?_
          exact r_iret (pc := 63) dX8_readBoth_63 rfl rfl (cpo_k (by rw [hR, sBothR, if_neg (by omega)]) hC1 rfl hcd hlow hmk hlv hrel)
        · refine r_aload_n (pc := 29) 1 dX8_readBoth_29 rfl rfl ?_
          refine r_callV (pc := 30) (As := []) (S := []) dX8_readBoth_30 cv_X8_43 hT.k rfl (Nat.le_of_ble_eq_true rfl) (CP.adv l z (by omega) hT ht4 hby (hC1) (by omega)) (Nat.zero_le _) (Nat.zero_le _) (fun r_30 g_30 f_30 q_30 => ?_)
          obtain ⟨rfl, rfl, hC_30, hS_30, hM_30⟩ := q_30
          refine r_aload_n (pc := 33) 1 dX8_readBoth_33 rfl rfl ?_
          refine r_bipush (pc := 34) dX8_readBoth_34 (by decide) ?_
          refine r_iconst (pc := 36) dX8_readBoth_36 ?_
          refine r_callV (pc := 37) (As := [(.int (iI (11))), (.int (iI (0)))]) (S := []) dX8_readBoth_37 cv_X8_81 hT.k rfl (Nat.le_of_ble_eq_true rfl) (x_write (kk := 11) (w := 0) l z _ hT ht4 (hC_30) (by omega) (by omega) (by omega)) (Nat.zero_le _) (Nat.zero_le _) (fun r_37 g_37 f_37 q_37 => ?_)
          obtain ⟨rfl, rfl, hC_37, hA_37, hS_37, hM_37⟩ := q_37
          refine r_istore_n (pc := 40) (L2 := [(3, (.int (iI (((s1 : Nat) : Int))))), (2, (.int (iI (((i : Nat) : Int))))), (0, (.ref b)), (1, (.int (iI (((br : Nat) : Int)))))]) dX8_readBoth_40 rfl (by decide) rfl ?_
          refine r_aload_n (pc := 41) 2 dX8_readBoth_41 rfl rfl ?_
          refine r_iload_n (pc := 42) 3 dX8_readBoth_42 rfl rfl ?_
          refine r_callV (pc := 43) (As := [(.int (iI (((br : Nat) : Int))))]) (S := []) dX8_readBoth_43 cv_X8_89 hT.k rfl (Nat.le_of_ble_eq_true rfl) (hsub _ (by omega) _ _ _ _ _ (by omega) (hC_37)) (Nat.zero_le _) (Nat.zero_le _) (fun r_43 g_43 f_43 q_43 => ?_)
          obtain ⟨rfl, ⟨x_43, hR_43, rfl, hx_43, hF_43⟩ | ⟨t_43, j_43, l_43, s_43, hR_43, rfl, hC_43, hc_43, hS_43, hM_43, hv_43, hj_43⟩⟩ := cpo_or q_43
          · refine r_if_ne (pc := 46) (tgt := 51) dX8_readBoth_46 (by decide) (by omega) (fun c_46 => ?_) (fun c_46 => ?_)
            · exact absurd c_46 (by decide)
            · refine r_iconst (pc := 49) dX8_readBoth_49 ?_
              exact r_iret (pc := 50) dX8_readBoth_50 rfl rfl (cpo_e (by rw [hR, sBothR, if_pos (by omega)]; exact bnd_e hR_43) hx_43 hF_43)
          · have hlt1 := cdT_lt hc_43
            have hlt0 := cdT_lt hcd
            refine r_if_ne (pc := 46) (tgt := 51) dX8_readBoth_46 (by decide) (by omega) (fun c_46 => ?_) (fun c_46 => ?_)
            · refine r_aload_n (pc := 51) 2 dX8_readBoth_51 rfl rfl ?_
              refine r_iload_n (pc := 52) 0 dX8_readBoth_52 rfl rfl ?_
              refine r_callV (pc := 53) (As := [(.int (iI (((s1 : Nat) : Int))))]) (S := []) dX8_readBoth_53 cv_X8_85 hT.k rfl (Nat.le_of_ble_eq_true rfl) (x_aim (kk := 11) (q := s1) l z _ hT ht4 (hC_43) (by decide) (by rw [hS_43 s1 (by omega), hA_37]) (by omega)) (Nat.zero_le _) (Nat.zero_le _) (fun r_53 g_53 f_53 q_53 => ?_)
              obtain ⟨rfl, rfl, hC_53, hA_53, hS_53, hM_53⟩ := q_53
              refine r_iincv (pc := 56) (y := ((i + 1 : Nat) : Int)) (L2 := [(2, (.int (iI (((i + 1 : Nat) : Int))))), (3, (.int (iI (((s1 : Nat) : Int))))), (0, (.ref b)), (1, (.int (iI (((br : Nat) : Int)))))]) 1 dX8_readBoth_56 rfl (by omega) (by decide) rfl ?_
              refine r_goto (pc := 59) (tgt := 12) dX8_readBoth_59 (by decide) ?_
              refine r_sub (L2 := [(2, (.int (iI (((i + 1 : Nat) : Int))))), (0, (.ref b)), (1, (.int (iI (((br : Nat) : Int)))))]) [0, 2, 3] rfl ?_
              exact ih m' (by omega) (i + 1) (by omega) _ (.mul acc t_43) _ _ _ (by rw [hR, sBothR, if_pos (by omega), bnd_o hR_43]) (by rw [← dyO_2 (a := acc) (b := t_43) (c := .mul acc t_43) rfl]; exact hC_53) (⟨s1, cdT_congr (fun i q1 q2 => by rw [hS_53 i (by omega), hS_43 i (by omega), hS_37 i (by omega), hS_30]) hcd, by rw [hA_53]; omega, cdT_congr (fun i q1 q2 => by rw [hS_53 i (by omega)]) hc_43⟩) (fun i hi => by rw [hS_53 i (by omega), hS_43 i (by omega), hS_37 i (by omega), hS_30]; exact hlow i hi) (by rw [hM_53, hM_43, hM_37, hM_30]; exact hmk) (by rw [hv_43, hlv]; simp only [lvs]; omega) (by omega)
            · exact absurd c_46 (by decide)
  refine r_aload_n (pc := 0) 0 dX8_readBoth_0 rfl rfl ?_
  refine r_iload_n (pc := 1) 1 dX8_readBoth_1 rfl rfl ?_
  refine r_callV (pc := 2) (As := [(.int (iI (((br : Nat) : Int))))]) (S := []) dX8_readBoth_2 cv_X8_89 hT.k rfl (Nat.le_of_ble_eq_true rfl) (hsub _ (by omega) _ _ _ _ _ (by omega) (hC)) (Nat.zero_le _) (Nat.zero_le _) (fun r_2 g_2 f_2 q_2 => ?_)
  obtain ⟨rfl, ⟨x_2, hR_2, rfl, hx_2, hF_2⟩ | ⟨t_2, j_2, l_2, s_2, hR_2, rfl, hC_2, hc_2, hS_2, hM_2, hv_2, hj_2⟩⟩ := cpo_or q_2
  · refine r_if_ne (pc := 5) (tgt := 10) dX8_readBoth_5 (by decide) (by omega) (fun c_5 => ?_) (fun c_5 => ?_)
    · exact absurd c_5 (by decide)
    · refine r_iconst (pc := 8) dX8_readBoth_8 ?_
      exact r_iret (pc := 9) dX8_readBoth_9 rfl rfl (cpo_e (by show sBoth (cj (f0 (b + 1)) t) plain j lv = _; exact bnd_e hR_2) hx_2 hF_2)
  · refine r_if_ne (pc := 5) (tgt := 10) dX8_readBoth_5 (by decide) (by omega) (fun c_5 => ?_) (fun c_5 => ?_)
    · refine r_iconst (pc := 10) dX8_readBoth_10 ?_
      refine r_istore_n (pc := 11) (L2 := [(2, (.int (iI (0)))), (0, (.ref b)), (1, (.int (iI (((br : Nat) : Int)))))]) dX8_readBoth_11 rfl (by decide) rfl ?_
      refine r_sub (L2 := [(2, (.int (iI (0)))), (0, (.ref b)), (1, (.int (iI (((br : Nat) : Int)))))]) [0, 1, 2] rfl ?_
      exact loop 400 0 rfl _ _ _ _ _ (by show sBoth (cj (f0 (b + 1)) t) plain j lv = _; exact bnd_o hR_2) hC_2 hc_2 hS_2 hM_2 hv_2 hj_2
    · exact absurd c_5 (by decide)

set_option maxRecDepth 100000 in
set_option maxHeartbeats 4000000 in
theorem x_test (l : Launch) (z : Zv) {g : Gm} {b t : Nat} {f0 : Fm} (hT : TL g b) (ht4 : t ≤ 400) (hby : ∀ i, 0 ≤ f0 (b + 1) i ∧ f0 (b + 1) i ≤ 255) {br H : Nat} {both : Nat → Nat → PR} (hH : 6 ≤ H) (hsub : RdC l z g b t f0 mX8_readBoth cdT both H br) : RdC l z g b t f0 mX8_readTest cdT (sTest (cj (f0 (b + 1)) t) both) (H + 1) br := by
  intro D hD f j lv s dy hsj hC
  obtain ⟨d, rfl⟩ : ∃ d, D = d + 1 := ⟨D - 1, by omega⟩
  refine PM.of (by decide +kernel) (Nat.le_of_ble_eq_true rfl) ?_
  have loop : ∀ m : Nat, ∀ i : Nat, m + i = 400 → ∀ (f1 : Fm) (acc : Term) (j1 l1 s1 : Nat), sTest (cj (f0 (b + 1)) t) both j lv = sTestR (cj (f0 (b + 1)) t) both m acc j1 l1 → CP b t f0 f1 j1 l1 s1 (dyO dy acc) → cdT (f1 (b + 2)) acc s s1 → (∀ i, i < s → f1 (b + 2) i = f (b + 2) i) → f1 (b + 3) = f (b + 3) → l1 = lv + lvs acc → s1 + j ≤ s + j1 → PW l z (d + 1) mX8_readTest 0 0 (cpo cdT b t f0 f g j lv s dy (sTest (cj (f0 (b + 1)) t) both j lv)) 12 [(2, (.int (iI (((i : Nat) : Int))))), (0, (.ref b)), (1, (.int (iI (((br : Nat) : Int)))))] [] g f1 0 0 := by
    intro m
    induction m using Nat.strongRecOn with
    | _ m ih =>
      intro i hm f1 acc j1 l1 s1 hR hC1 hcd hlow hmk hlv hrel
      refine r_iload_n (pc := 12) 0 dX8_readTest_12 rfl rfl ?_
      refine r_sipush (pc := 13) dX8_readTest_13 (by decide) ?_
      refine r_icmp_ge (pc := 16) (tgt := 62) dX8_readTest_16 (by decide) (by omega) (by omega) (fun c_16 => ?_) (fun c_16 => ?_)
      · refine r_iconst (pc := 62) dX8_readTest_62 ?_
        exact r_iret (pc := 63) dX8_readTest_63 rfl rfl (cpo_k (by rw [hR, show m = 0 by omega]; rfl) hC1 rfl hcd hlow hmk hlv hrel)
      · obtain ⟨m', rfl⟩ : ∃ m', m = m' + 1 := ⟨m - 1, by omega⟩
        have hk1 := kc_j (t := t) hby j1
        refine r_aload_n (pc := 19) 1 dX8_readTest_19 rfl rfl ?_
        refine r_getIv (pc := 20) (x := kj (f0 (b + 1)) t j1) dX8_readTest_20 fl_X8_63 rfl hT.k (hC1.k) ?_
        refine r_sipush (pc := 23) dX8_readTest_23 (by decide) ?_
        refine r_icmp_ne (pc := 26) (tgt := 62) dX8_readTest_26 (by decide) (by omega) (by omega) (fun c_26 => ?_) (fun c_26 => ?_)
        · refine r_iconst (pc := 62) dX8_readTest_62 ?_
          exact r_iret (pc := 63) dX8_readTest_63 rfl rfl (cpo_k (by rw [hR, sTestR, if_neg (by omega)]) hC1 rfl hcd hlow hmk hlv hrel)
        · refine r_aload_n (pc := 29) 1 dX8_readTest_29 rfl rfl ?_
          refine r_callV (pc := 30) (As := []) (S := []) dX8_readTest_30 cv_X8_43 hT.k rfl (Nat.le_of_ble_eq_true rfl) (CP.adv l z (by omega) hT ht4 hby (hC1) (by omega)) (Nat.zero_le _) (Nat.zero_le _) (fun r_30 g_30 f_30 q_30 => ?_)
          obtain ⟨rfl, rfl, hC_30, hS_30, hM_30⟩ := q_30
          refine r_aload_n (pc := 33) 1 dX8_readTest_33 rfl rfl ?_
          refine r_bipush (pc := 34) dX8_readTest_34 (by decide) ?_
          refine r_iconst (pc := 36) dX8_readTest_36 ?_
          refine r_callV (pc := 37) (As := [(.int (iI (10))), (.int (iI (0)))]) (S := []) dX8_readTest_37 cv_X8_81 hT.k rfl (Nat.le_of_ble_eq_true rfl) (x_write (kk := 10) (w := 0) l z _ hT ht4 (hC_30) (by omega) (by omega) (by omega)) (Nat.zero_le _) (Nat.zero_le _) (fun r_37 g_37 f_37 q_37 => ?_)
          obtain ⟨rfl, rfl, hC_37, hA_37, hS_37, hM_37⟩ := q_37
          refine r_istore_n (pc := 40) (L2 := [(3, (.int (iI (((s1 : Nat) : Int))))), (2, (.int (iI (((i : Nat) : Int))))), (0, (.ref b)), (1, (.int (iI (((br : Nat) : Int)))))]) dX8_readTest_40 rfl (by decide) rfl ?_
          refine r_aload_n (pc := 41) 2 dX8_readTest_41 rfl rfl ?_
          refine r_iload_n (pc := 42) 3 dX8_readTest_42 rfl rfl ?_
          refine r_callV (pc := 43) (As := [(.int (iI (((br : Nat) : Int))))]) (S := []) dX8_readTest_43 cv_X8_76 hT.k rfl (Nat.le_of_ble_eq_true rfl) (hsub _ (by omega) _ _ _ _ _ (by omega) (hC_37)) (Nat.zero_le _) (Nat.zero_le _) (fun r_43 g_43 f_43 q_43 => ?_)
          obtain ⟨rfl, ⟨x_43, hR_43, rfl, hx_43, hF_43⟩ | ⟨t_43, j_43, l_43, s_43, hR_43, rfl, hC_43, hc_43, hS_43, hM_43, hv_43, hj_43⟩⟩ := cpo_or q_43
          · refine r_if_ne (pc := 46) (tgt := 51) dX8_readTest_46 (by decide) (by omega) (fun c_46 => ?_) (fun c_46 => ?_)
            · exact absurd c_46 (by decide)
            · refine r_iconst (pc := 49) dX8_readTest_49 ?_
              exact r_iret (pc := 50) dX8_readTest_50 rfl rfl (cpo_e (by rw [hR, sTestR, if_pos (by omega)]; exact bnd_e hR_43) hx_43 hF_43)
          · have hlt1 := cdT_lt hc_43
            have hlt0 := cdT_lt hcd
            refine r_if_ne (pc := 46) (tgt := 51) dX8_readTest_46 (by decide) (by omega) (fun c_46 => ?_) (fun c_46 => ?_)
            · refine r_aload_n (pc := 51) 2 dX8_readTest_51 rfl rfl ?_
              refine r_iload_n (pc := 52) 0 dX8_readTest_52 rfl rfl ?_
              refine r_callV (pc := 53) (As := [(.int (iI (((s1 : Nat) : Int))))]) (S := []) dX8_readTest_53 cv_X8_85 hT.k rfl (Nat.le_of_ble_eq_true rfl) (x_aim (kk := 10) (q := s1) l z _ hT ht4 (hC_43) (by decide) (by rw [hS_43 s1 (by omega), hA_37]) (by omega)) (Nat.zero_le _) (Nat.zero_le _) (fun r_53 g_53 f_53 q_53 => ?_)
              obtain ⟨rfl, rfl, hC_53, hA_53, hS_53, hM_53⟩ := q_53
              refine r_iincv (pc := 56) (y := ((i + 1 : Nat) : Int)) (L2 := [(2, (.int (iI (((i + 1 : Nat) : Int))))), (3, (.int (iI (((s1 : Nat) : Int))))), (0, (.ref b)), (1, (.int (iI (((br : Nat) : Int)))))]) 1 dX8_readTest_56 rfl (by omega) (by decide) rfl ?_
              refine r_goto (pc := 59) (tgt := 12) dX8_readTest_59 (by decide) ?_
              refine r_sub (L2 := [(2, (.int (iI (((i + 1 : Nat) : Int))))), (0, (.ref b)), (1, (.int (iI (((br : Nat) : Int)))))]) [0, 2, 3] rfl ?_
              exact ih m' (by omega) (i + 1) (by omega) _ (.add acc t_43) _ _ _ (by rw [hR, sTestR, if_pos (by omega), bnd_o hR_43]) (by rw [← dyO_2 (a := acc) (b := t_43) (c := .add acc t_43) rfl]; exact hC_53) (⟨s1, cdT_congr (fun i q1 q2 => by rw [hS_53 i (by omega), hS_43 i (by omega), hS_37 i (by omega), hS_30]) hcd, by rw [hA_53]; omega, cdT_congr (fun i q1 q2 => by rw [hS_53 i (by omega)]) hc_43⟩) (fun i hi => by rw [hS_53 i (by omega), hS_43 i (by omega), hS_37 i (by omega), hS_30]; exact hlow i hi) (by rw [hM_53, hM_43, hM_37, hM_30]; exact hmk) (by rw [hv_43, hlv]; simp only [lvs]; omega) (by omega)
            · exact absurd c_46 (by decide)
  refine r_aload_n (pc := 0) 0 dX8_readTest_0 rfl rfl ?_
  refine r_iload_n (pc := 1) 1 dX8_readTest_1 rfl rfl ?_
  refine r_callV (pc := 2) (As := [(.int (iI (((br : Nat) : Int))))]) (S := []) dX8_readTest_2 cv_X8_76 hT.k rfl (Nat.le_of_ble_eq_true rfl) (hsub _ (by omega) _ _ _ _ _ (by omega) (hC)) (Nat.zero_le _) (Nat.zero_le _) (fun r_2 g_2 f_2 q_2 => ?_)
  obtain ⟨rfl, ⟨x_2, hR_2, rfl, hx_2, hF_2⟩ | ⟨t_2, j_2, l_2, s_2, hR_2, rfl, hC_2, hc_2, hS_2, hM_2, hv_2, hj_2⟩⟩ := cpo_or q_2
  · refine r_if_ne (pc := 5) (tgt := 10) dX8_readTest_5 (by decide) (by omega) (fun c_5 => ?_) (fun c_5 => ?_)
    · exact absurd c_5 (by decide)
    · refine r_iconst (pc := 8) dX8_readTest_8 ?_
      exact r_iret (pc := 9) dX8_readTest_9 rfl rfl (cpo_e (by show sTest (cj (f0 (b + 1)) t) both j lv = _; exact bnd_e hR_2) hx_2 hF_2)
  · refine r_if_ne (pc := 5) (tgt := 10) dX8_readTest_5 (by decide) (by omega) (fun c_5 => ?_) (fun c_5 => ?_)
    · refine r_iconst (pc := 10) dX8_readTest_10 ?_
      refine r_istore_n (pc := 11) (L2 := [(2, (.int (iI (0)))), (0, (.ref b)), (1, (.int (iI (((br : Nat) : Int)))))]) dX8_readTest_11 rfl (by decide) rfl ?_
      refine r_sub (L2 := [(2, (.int (iI (0)))), (0, (.ref b)), (1, (.int (iI (((br : Nat) : Int)))))]) [0, 1, 2] rfl ?_
      exact loop 400 0 rfl _ _ _ _ _ (by show sTest (cj (f0 (b + 1)) t) both j lv = _; exact bnd_o hR_2) hC_2 hc_2 hS_2 hM_2 hv_2 hj_2
    · exact absurd c_5 (by decide)

set_option maxRecDepth 100000 in
set_option maxHeartbeats 4000000 in
theorem x_cmp (l : Launch) (z : Zv) {g : Gm} {b t : Nat} {f0 : Fm} (hT : TL g b) (ht4 : t ≤ 400) (hby : ∀ i, 0 ≤ f0 (b + 1) i ∧ f0 (b + 1) i ≤ 255) {br H : Nat} {sum : Nat → Nat → PR} (hH : 6 ≤ H) (hsub : RdC l z g b t f0 mX8_readSum cdS sum H br) : RdC l z g b t f0 mX8_readComparison cdT (sCmp (cj (f0 (b + 1)) t) sum) (H + 1) br := by
  intro D hD f j lv s dy hsj hC
  obtain ⟨d, rfl⟩ : ∃ d, D = d + 1 := ⟨D - 1, by omega⟩
  refine PM.of (by decide +kernel) (Nat.le_of_ble_eq_true rfl) ?_
  refine r_aload_n (pc := 0) 0 dX8_readComparison_0 rfl rfl ?_
  refine r_iload_n (pc := 1) 1 dX8_readComparison_1 rfl rfl ?_
  refine r_callV (pc := 2) (As := [(.int (iI (((br : Nat) : Int))))]) (S := []) dX8_readComparison_2 cv_X8_70 hT.k rfl (Nat.le_of_ble_eq_true rfl) (hsub _ (by omega) _ _ _ _ _ (by omega) (hC)) (Nat.zero_le _) (Nat.zero_le _) (fun r_2 g_2 f_2 q_2 => ?_)
  obtain ⟨rfl, ⟨x_2, hR_2, rfl, hx_2, hF_2⟩ | ⟨t_2, j_2, l_2, s_2, hR_2, rfl, hC_2, hc_2, hS_2, hM_2, hv_2, hj_2⟩⟩ := cpo_or q_2
  · refine r_if_ne (pc := 5) (tgt := 10) dX8_readComparison_5 (by decide) (by omega) (fun c_5 => ?_) (fun c_5 => ?_)
    · exact absurd c_5 (by decide)
    · refine r_iconst (pc := 8) dX8_readComparison_8 ?_
      exact r_iret (pc := 9) dX8_readComparison_9 rfl rfl (cpo_e (bnd_e hR_2) hx_2 hF_2)
  · refine r_if_ne (pc := 5) (tgt := 10) dX8_readComparison_5 (by decide) (by omega) (fun c_5 => ?_) (fun c_5 => ?_)
    · have hk1 := kc_j (t := t) hby j_2
      refine r_aload_n (pc := 10) 0 dX8_readComparison_10 rfl rfl ?_
      refine r_getIv (pc := 11) (x := kj (f0 (b + 1)) t j_2) dX8_readComparison_11 fl_X8_63 rfl hT.k (hC_2.k) ?_
      refine r_bipush (pc := 14) dX8_readComparison_14 (by decide) ?_
      refine r_icmp_ne (pc := 16) (tgt := 24) dX8_readComparison_16 (by decide) (by omega) (by omega) (fun c_16 => ?_) (fun c_16 => ?_)
      · refine r_aload_n (pc := 24) 0 dX8_readComparison_24 rfl rfl ?_
        refine r_getIv (pc := 25) (x := kj (f0 (b + 1)) t j_2) dX8_readComparison_25 fl_X8_63 rfl hT.k (hC_2.k) ?_
        refine r_bipush (pc := 28) dX8_readComparison_28 (by decide) ?_
        refine r_icmp_ne (pc := 30) (tgt := 38) dX8_readComparison_30 (by decide) (by omega) (by omega) (fun c_30 => ?_) (fun c_30 => ?_)
        · refine r_bipush (pc := 38) dX8_readComparison_38 (by decide) ?_
          refine r_istore_n (pc := 40) (L2 := [(2, (.int (iI (8)))), (0, (.ref b)), (1, (.int (iI (((br : Nat) : Int)))))]) dX8_readComparison_40 rfl (by decide) rfl ?_
          refine r_iload_n (pc := 41) 0 dX8_readComparison_41 rfl rfl ?_
          refine r_bipush (pc := 42) dX8_readComparison_42 (by decide) ?_
          refine r_icmp_ne (pc := 44) (tgt := 61) dX8_readComparison_44 (by decide) (by omega) (by omega) (fun c_44 => ?_) (fun c_44 => ?_)
          · exact absurd c_44 (by decide)
          · refine r_aload_n (pc := 47) 1 dX8_readComparison_47 rfl rfl ?_
            refine r_getIv (pc := 48) (x := kj (f0 (b + 1)) t j_2) dX8_readComparison_48 fl_X8_63 rfl hT.k (hC_2.k) ?_
            refine r_bipush (pc := 51) dX8_readComparison_51 (by decide) ?_
            refine r_icmp_eq (pc := 53) (tgt := 61) dX8_readComparison_53 (by decide) (by omega) (by omega) (fun c_53 => ?_) (fun c_53 => ?_)
            · refine r_aload_n (pc := 61) 1 dX8_readComparison_61 rfl rfl ?_
              refine r_callV (pc := 62) (As := []) (S := []) dX8_readComparison_62 cv_X8_43 hT.k rfl (Nat.le_of_ble_eq_true rfl) (CP.adv l z (by omega) hT ht4 hby (hC_2) (by omega)) (Nat.zero_le _) (Nat.zero_le _) (fun r_62 g_62 f_62 q_62 => ?_)
              obtain ⟨rfl, rfl, hC_62, hS_62, hM_62⟩ := q_62
              refine r_aload_n (pc := 65) 1 dX8_readComparison_65 rfl rfl ?_
              refine r_iload_n (pc := 66) 2 dX8_readComparison_66 rfl rfl ?_
              refine r_callV (pc := 67) (As := [(.int (iI (((br : Nat) : Int))))]) (S := []) dX8_readComparison_67 cv_X8_70 hT.k rfl (Nat.le_of_ble_eq_true rfl) (hsub _ (by omega) _ _ _ _ _ (by omega) (hC_62)) (Nat.zero_le _) (Nat.zero_le _) (fun r_67 g_67 f_67 q_67 => ?_)
              obtain ⟨rfl, ⟨x_67, hR_67, rfl, hx_67, hF_67⟩ | ⟨t_67, j_67, l_67, s_67, hR_67, rfl, hC_67, hc_67, hS_67, hM_67, hv_67, hj_67⟩⟩ := cpo_or q_67
              · refine r_if_ne (pc := 70) (tgt := 75) dX8_readComparison_70 (by decide) (by omega) (fun c_70 => ?_) (fun c_70 => ?_)
                · exact absurd c_70 (by decide)
                · refine r_iconst (pc := 73) dX8_readComparison_73 ?_
                  exact r_iret (pc := 74) dX8_readComparison_74 rfl rfl (cpo_e (by rw [sCmp, bnd_o hR_2, if_neg (by omega), if_neg (by omega), if_pos (by omega)]; exact bnd_e hR_67) hx_67 hF_67)
              · have hlt1 := cdS_lt hc_67
                have hlt0 := cdS_lt hc_2
                refine r_if_ne (pc := 70) (tgt := 75) dX8_readComparison_70 (by decide) (by omega) (fun c_70 => ?_) (fun c_70 => ?_)
                · refine r_aload_n (pc := 75) 1 dX8_readComparison_75 rfl rfl ?_
                  refine r_iload_n (pc := 76) 0 dX8_readComparison_76 rfl rfl ?_
                  refine r_iconst (pc := 77) dX8_readComparison_77 ?_
                  refine r_callV (pc := 78) (As := [(.int (iI (8))), (.int (iI (0)))]) (S := []) dX8_readComparison_78 cv_X8_81 hT.k rfl (Nat.le_of_ble_eq_true rfl) (x_write (kk := 8) (w := 0) l z _ hT ht4 (hC_67) (by omega) (by omega) (by omega)) (Nat.zero_le _) (Nat.zero_le _) (fun r_78 g_78 f_78 q_78 => ?_)
                  obtain ⟨rfl, rfl, hC_78, hA_78, hS_78, hM_78⟩ := q_78
                  refine r_pop (pc := 81) dX8_readComparison_81 rfl ?_
                  refine r_iconst (pc := 82) dX8_readComparison_82 ?_
                  exact r_iret (pc := 83) dX8_readComparison_83 rfl rfl (cpo_k (tr := .rem t_2 t_67) (by rw [sCmp, bnd_o hR_2, if_neg (by omega), if_neg (by omega), if_pos (by omega), bnd_o hR_67]) hC_78 (dyO_2 rfl) (⟨s_2, s_67, cdS_congr (fun i q1 q2 => by rw [hS_78 i (by omega), hS_67 i (by omega), hS_62]) hc_2, cdS_congr (fun i q1 q2 => by rw [hS_78 i (by omega)]) hc_67, by rw [hA_78]; rfl, rfl⟩) (fun i hi => by rw [hS_78 i (by omega), hS_67 i (by omega), hS_62]; exact hS_2 i hi) (by rw [hM_78, hM_67, hM_62]; exact hM_2) (by rw [hv_67, hv_2]; simp only [lvs]; omega) (by omega))
                · exact absurd c_70 (by decide)
            · refine r_aload_n (pc := 56) 1 dX8_readComparison_56 rfl rfl ?_
              refine r_callV (pc := 57) (As := []) (S := []) dX8_readComparison_57 cv_X8_66 hT.k rfl (Nat.le_of_ble_eq_true rfl) (x_fail l z _ hT (hC_2)) (Nat.zero_le _) (Nat.zero_le _) (fun r_57 g_57 f_57 q_57 => ?_)
              obtain ⟨rfl, rfl, hx_57, hF_57⟩ := q_57
              exact r_iret (pc := 60) dX8_readComparison_60 rfl rfl (cpo_e (by rw [sCmp, bnd_o hR_2, if_neg (by omega), if_neg (by omega), if_neg (by omega)]) hx_57 hF_57)
        · refine r_bipush (pc := 33) dX8_readComparison_33 (by decide) ?_
          refine r_goto (pc := 35) (tgt := 40) dX8_readComparison_35 (by decide) ?_
          refine r_istore_n (pc := 40) (L2 := [(2, (.int (iI (7)))), (0, (.ref b)), (1, (.int (iI (((br : Nat) : Int)))))]) dX8_readComparison_40 rfl (by decide) rfl ?_
          refine r_iload_n (pc := 41) 0 dX8_readComparison_41 rfl rfl ?_
          refine r_bipush (pc := 42) dX8_readComparison_42 (by decide) ?_
          refine r_icmp_ne (pc := 44) (tgt := 61) dX8_readComparison_44 (by decide) (by omega) (by omega) (fun c_44 => ?_) (fun c_44 => ?_)
          · refine r_aload_n (pc := 61) 1 dX8_readComparison_61 rfl rfl ?_
            refine r_callV (pc := 62) (As := []) (S := []) dX8_readComparison_62 cv_X8_43 hT.k rfl (Nat.le_of_ble_eq_true rfl) (CP.adv l z (by omega) hT ht4 hby (hC_2) (by omega)) (Nat.zero_le _) (Nat.zero_le _) (fun r_62 g_62 f_62 q_62 => ?_)
            obtain ⟨rfl, rfl, hC_62, hS_62, hM_62⟩ := q_62
            refine r_aload_n (pc := 65) 1 dX8_readComparison_65 rfl rfl ?_
            refine r_iload_n (pc := 66) 2 dX8_readComparison_66 rfl rfl ?_
            refine r_callV (pc := 67) (As := [(.int (iI (((br : Nat) : Int))))]) (S := []) dX8_readComparison_67 cv_X8_70 hT.k rfl (Nat.le_of_ble_eq_true rfl) (hsub _ (by omega) _ _ _ _ _ (by omega) (hC_62)) (Nat.zero_le _) (Nat.zero_le _) (fun r_67 g_67 f_67 q_67 => ?_)
            obtain ⟨rfl, ⟨x_67, hR_67, rfl, hx_67, hF_67⟩ | ⟨t_67, j_67, l_67, s_67, hR_67, rfl, hC_67, hc_67, hS_67, hM_67, hv_67, hj_67⟩⟩ := cpo_or q_67
            · refine r_if_ne (pc := 70) (tgt := 75) dX8_readComparison_70 (by decide) (by omega) (fun c_70 => ?_) (fun c_70 => ?_)
              · exact absurd c_70 (by decide)
              · refine r_iconst (pc := 73) dX8_readComparison_73 ?_
                exact r_iret (pc := 74) dX8_readComparison_74 rfl rfl (cpo_e (by rw [sCmp, bnd_o hR_2, if_neg (by omega), if_pos (by omega)]; exact bnd_e hR_67) hx_67 hF_67)
            · have hlt1 := cdS_lt hc_67
              have hlt0 := cdS_lt hc_2
              refine r_if_ne (pc := 70) (tgt := 75) dX8_readComparison_70 (by decide) (by omega) (fun c_70 => ?_) (fun c_70 => ?_)
              · refine r_aload_n (pc := 75) 1 dX8_readComparison_75 rfl rfl ?_
                refine r_iload_n (pc := 76) 0 dX8_readComparison_76 rfl rfl ?_
                refine r_iconst (pc := 77) dX8_readComparison_77 ?_
                refine r_callV (pc := 78) (As := [(.int (iI (7))), (.int (iI (0)))]) (S := []) dX8_readComparison_78 cv_X8_81 hT.k rfl (Nat.le_of_ble_eq_true rfl) (x_write (kk := 7) (w := 0) l z _ hT ht4 (hC_67) (by omega) (by omega) (by omega)) (Nat.zero_le _) (Nat.zero_le _) (fun r_78 g_78 f_78 q_78 => ?_)
                obtain ⟨rfl, rfl, hC_78, hA_78, hS_78, hM_78⟩ := q_78
                refine r_pop (pc := 81) dX8_readComparison_81 rfl ?_
                refine r_iconst (pc := 82) dX8_readComparison_82 ?_
                exact r_iret (pc := 83) dX8_readComparison_83 rfl rfl (cpo_k (tr := .div t_2 t_67) (by rw [sCmp, bnd_o hR_2, if_neg (by omega), if_pos (by omega), bnd_o hR_67]) hC_78 (dyO_2 rfl) (⟨s_2, s_67, cdS_congr (fun i q1 q2 => by rw [hS_78 i (by omega), hS_67 i (by omega), hS_62]) hc_2, cdS_congr (fun i q1 q2 => by rw [hS_78 i (by omega)]) hc_67, by rw [hA_78]; rfl, rfl⟩) (fun i hi => by rw [hS_78 i (by omega), hS_67 i (by omega), hS_62]; exact hS_2 i hi) (by rw [hM_78, hM_67, hM_62]; exact hM_2) (by rw [hv_67, hv_2]; simp only [lvs]; omega) (by omega))
              · exact absurd c_70 (by decide)
          · exact absurd c_44 (by decide)
      · refine r_bipush (pc := 19) dX8_readComparison_19 (by decide) ?_
        refine r_goto (pc := 21) (tgt := 40) dX8_readComparison_21 (by decide) ?_
        refine r_istore_n (pc := 40) (L2 := [(2, (.int (iI (6)))), (0, (.ref b)), (1, (.int (iI (((br : Nat) : Int)))))]) dX8_readComparison_40 rfl (by decide) rfl ?_
        refine r_iload_n (pc := 41) 0 dX8_readComparison_41 rfl rfl ?_
        refine r_bipush (pc := 42) dX8_readComparison_42 (by decide) ?_
        refine r_icmp_ne (pc := 44) (tgt := 61) dX8_readComparison_44 (by decide) (by omega) (by omega) (fun c_44 => ?_) (fun c_44 => ?_)
        · refine r_aload_n (pc := 61) 1 dX8_readComparison_61 rfl rfl ?_
          refine r_callV (pc := 62) (As := []) (S := []) dX8_readComparison_62 cv_X8_43 hT.k rfl (Nat.le_of_ble_eq_true rfl) (CP.adv l z (by omega) hT ht4 hby (hC_2) (by omega)) (Nat.zero_le _) (Nat.zero_le _) (fun r_62 g_62 f_62 q_62 => ?_)
          obtain ⟨rfl, rfl, hC_62, hS_62, hM_62⟩ := q_62
          refine r_aload_n (pc := 65) 1 dX8_readComparison_65 rfl rfl ?_
          refine r_iload_n (pc := 66) 2 dX8_readComparison_66 rfl rfl ?_
          refine r_callV (pc := 67) (As := [(.int (iI (((br : Nat) : Int))))]) (S := []) dX8_readComparison_67 cv_X8_70 hT.k rfl (Nat.le_of_ble_eq_true rfl) (hsub _ (by omega) _ _ _ _ _ (by omega) (hC_62)) (Nat.zero_le _) (Nat.zero_le _) (fun r_67 g_67 f_67 q_67 => ?_)
          obtain ⟨rfl, ⟨x_67, hR_67, rfl, hx_67, hF_67⟩ | ⟨t_67, j_67, l_67, s_67, hR_67, rfl, hC_67, hc_67, hS_67, hM_67, hv_67, hj_67⟩⟩ := cpo_or q_67
          · refine r_if_ne (pc := 70) (tgt := 75) dX8_readComparison_70 (by decide) (by omega) (fun c_70 => ?_) (fun c_70 => ?_)
            · exact absurd c_70 (by decide)
            · refine r_iconst (pc := 73) dX8_readComparison_73 ?_
              exact r_iret (pc := 74) dX8_readComparison_74 rfl rfl (cpo_e (by rw [sCmp, bnd_o hR_2, if_pos (by omega)]; exact bnd_e hR_67) hx_67 hF_67)
          · have hlt1 := cdS_lt hc_67
            have hlt0 := cdS_lt hc_2
            refine r_if_ne (pc := 70) (tgt := 75) dX8_readComparison_70 (by decide) (by omega) (fun c_70 => ?_) (fun c_70 => ?_)
            · refine r_aload_n (pc := 75) 1 dX8_readComparison_75 rfl rfl ?_
              refine r_iload_n (pc := 76) 0 dX8_readComparison_76 rfl rfl ?_
              refine r_iconst (pc := 77) dX8_readComparison_77 ?_
              refine r_callV (pc := 78) (As := [(.int (iI (6))), (.int (iI (0)))]) (S := []) dX8_readComparison_78 cv_X8_81 hT.k rfl (Nat.le_of_ble_eq_true rfl) (x_write (kk := 6) (w := 0) l z _ hT ht4 (hC_67) (by omega) (by omega) (by omega)) (Nat.zero_le _) (Nat.zero_le _) (fun r_78 g_78 f_78 q_78 => ?_)
              obtain ⟨rfl, rfl, hC_78, hA_78, hS_78, hM_78⟩ := q_78
              refine r_pop (pc := 81) dX8_readComparison_81 rfl ?_
              refine r_iconst (pc := 82) dX8_readComparison_82 ?_
              exact r_iret (pc := 83) dX8_readComparison_83 rfl rfl (cpo_k (tr := .sub t_2 t_67) (by rw [sCmp, bnd_o hR_2, if_pos (by omega), bnd_o hR_67]) hC_78 (dyO_2 rfl) (⟨s_2, s_67, cdS_congr (fun i q1 q2 => by rw [hS_78 i (by omega), hS_67 i (by omega), hS_62]) hc_2, cdS_congr (fun i q1 q2 => by rw [hS_78 i (by omega)]) hc_67, by rw [hA_78]; rfl, rfl⟩) (fun i hi => by rw [hS_78 i (by omega), hS_67 i (by omega), hS_62]; exact hS_2 i hi) (by rw [hM_78, hM_67, hM_62]; exact hM_2) (by rw [hv_67, hv_2]; simp only [lvs]; omega) (by omega))
            · exact absurd c_70 (by decide)
        · exact absurd c_44 (by decide)
    · exact absurd c_5 (by decide)

set_option maxRecDepth 100000 in
set_option maxHeartbeats 4000000 in
theorem x_plain (l : Launch) (z : Zv) {g : Gm} {b t : Nat} {f0 : Fm} (hT : TL g b) (ht4 : t ≤ 400) (hby : ∀ i, 0 ≤ f0 (b + 1) i ∧ f0 (b + 1) i ≤ 255) {br e H H2 : Nat} {sum test : Nat → Nat → PR} (hH : 6 ≤ H) (hH2 : H2 + 8 ≤ H) (he : br + e = 8) (hsub : RdC l z g b t f0 mX8_readComparison cdT (sCmp (cj (f0 (b + 1)) t) sum) H br) (hsubT : e ≠ 0 → RdC l z g b t f0 mX8_readTest cdT test H2 (br + 1)) : RdC l z g b t f0 mX8_readPlain cdT (sPlain (cj (f0 (b + 1)) t) sum test e) (H + 1) br := by
  intro D hD f j lv s dy hsj hC
  obtain ⟨d, rfl⟩ : ∃ d, D = d + 1 := ⟨D - 1, by omega⟩
  refine PM.of (by decide +kernel) (Nat.le_of_ble_eq_true rfl) ?_
  have loop : ∀ m : Nat, ∀ i : Nat, m + i = 400 → ∀ (f1 : Fm) (j1 : Nat) (bb : Bool), sNot (cj (f0 (b + 1)) t) 400 false j = sNot (cj (f0 (b + 1)) t) m bb j1 → CP b t f0 f1 j1 lv s dy → f1 (b + 2) = f (b + 2) → f1 (b + 3) = f (b + 3) → (bb = true → j < j1) → j ≤ j1 → PW l z (d + 1) mX8_readPlain 0 0 (cpo cdT b t f0 f g j lv s dy (sPlain (cj (f0 (b + 1)) t) sum test e j lv)) 4 [(3, (.int (iI (((i : Nat) : Int))))), (2, (.int (iI (b01 (bb = true))))), (0, (.ref b)), (1, (.int (iI (((br : Nat) : Int)))))] [] g f1 0 0 := by
    intro m
    induction m using Nat.strongRecOn with
    | _ m ih =>
      intro i hm f1 j1 bb hN hC1 hrow hmk hbb hjj1
      refine r_iload_n (pc := 4) 0 dX8_readPlain_4 rfl rfl ?_
      refine r_sipush (pc := 5) dX8_readPlain_5 (by decide) ?_
      refine r_icmp_ge (pc := 8) (tgt := 41) dX8_readPlain_8 (by decide) (by omega) (by omega) (fun c_8 => ?_) (fun c_8 => ?_)
      · have hk1 := kc_j (t := t) hby j1
        have hN2 : sNot (cj (f0 (b + 1)) t) 400 false j = (bb, j1) := by rw [hN, show m = 0 by omega]; rfl
        refine r_aload_n (pc := 41) 2 dX8_readPlain_41 rfl rfl ?_
        refine r_getIv (pc := 42) (x := kj (f0 (b + 1)) t j1) dX8_readPlain_42 fl_X8_63 rfl hT.k (hC1.k) ?_
        refine r_bipush (pc := 45) dX8_readPlain_45 (by decide) ?_
        refine r_icmp_ne (pc := 47) (tgt := 60) dX8_readPlain_47 (by decide) (by omega) (by omega) (fun c_47 => ?_) (fun c_47 => ?_)
        · refine r_aload_n (pc := 60) 2 dX8_readPlain_60 rfl rfl ?_
          refine r_iload_n (pc := 61) 3 dX8_readPlain_61 rfl rfl ?_
          refine r_callV (pc := 62) (As := [(.int (iI (((br : Nat) : Int))))]) (S := []) dX8_readPlain_62 cv_X8_96 hT.k rfl (Nat.le_of_ble_eq_true rfl) (hsub _ (by omega) _ _ _ _ _ (by omega) (hC1)) (Nat.zero_le _) (Nat.zero_le _) (fun r_62 g_62 f_62 q_62 => ?_)
          obtain ⟨rfl, ⟨x_62, hR_62, rfl, hx_62, hF_62⟩ | ⟨t_62, j_62, l_62, s_62, hR_62, rfl, hC_62, hc_62, hS_62, hM_62, hv_62, hj_62⟩⟩ := cpo_or q_62
          · refine r_istore_n (pc := 65) (L2 := [(3, (.int (iI (0)))), (2, (.int (iI (b01 (bb = true))))), (0, (.ref b)), (1, (.int (iI (((br : Nat) : Int)))))]) dX8_readPlain_65 rfl (by decide) rfl ?_
            refine r_iload_n (pc := 66) 0 dX8_readPlain_66 rfl rfl ?_
            refine r_if_eq (pc := 67) (tgt := 82) dX8_readPlain_67 (by decide) (by omega) (fun c_67 => ?_) (fun c_67 => ?_)
            · refine r_iload_n (pc := 82) 0 dX8_readPlain_82 rfl rfl ?_
              exact r_iret (pc := 83) dX8_readPlain_83 rfl rfl (cpo_e (by rw [sPlain, hN2, sPos, if_neg (show ¬ cj (f0 (b + 1)) t j1 = 140 by omega)]; exact bnd_e hR_62) hx_62 hF_62)
            · exact absurd c_67 (by decide)
          · refine r_istore_n (pc := 65) (L2 := [(3, (.int (iI (1)))), (2, (.int (iI (b01 (bb = true))))), (0, (.ref b)), (1, (.int (iI (((br : Nat) : Int)))))]) dX8_readPlain_65 rfl (by decide) rfl ?_
            refine r_iload_n (pc := 66) 0 dX8_readPlain_66 rfl rfl ?_
            refine r_if_eq (pc := 67) (tgt := 82) dX8_readPlain_67 (by decide) (by omega) (fun c_67 => ?_) (fun c_67 => ?_)
            · exact absurd c_67 (by decide)
            · refine r_iload_n (pc := 70) 1 dX8_readPlain_70 rfl rfl ?_
              refine r_if_eq (pc := 71) (tgt := 82) dX8_readPlain_71 (by decide) (b01_r) (fun c_71 => ?_) (fun c_71 => ?_)
              · replace c_71 := b01_z c_71
                refine r_iload_n (pc := 82) 0 dX8_readPlain_82 rfl rfl ?_
                exact r_iret (pc := 83) dX8_readPlain_83 rfl rfl (cpo_k (tr := t_62) (by rw [sPlain, hN2, sPos, if_neg (show ¬ cj (f0 (b + 1)) t j1 = 140 by omega), bnd_o hR_62]; dsimp only; rw [if_neg c_71]) hC_62 rfl hc_62 (fun i hi => by rw [hS_62 i hi, hrow]) (by rw [hM_62]; exact hmk) hv_62 (by omega))
              · replace c_71 := b01_nz c_71
                refine r_aload_n (pc := 74) 2 dX8_readPlain_74 rfl rfl ?_
                refine r_bipush (pc := 75) dX8_readPlain_75 (by decide) ?_
                refine r_iconst (pc := 77) dX8_readPlain_77 ?_
                refine r_callV (pc := 78) (As := [(.int (iI (9))), (.int (iI (0)))]) (S := []) dX8_readPlain_78 cv_X8_81 hT.k rfl (Nat.le_of_ble_eq_true rfl) (x_write (kk := 9) (w := 0) l z _ hT ht4 (hC_62) (by omega) (by omega) (by omega)) (Nat.zero_le _) (Nat.zero_le _) (fun r_78 g_78 f_78 q_78 => ?_)
                obtain ⟨rfl, rfl, hC_78, hA_78, hS_78, hM_78⟩ := q_78
                refine r_pop (pc := 81) dX8_readPlain_81 rfl ?_
                refine r_iload_n (pc := 82) 0 dX8_readPlain_82 rfl rfl ?_
                have hlt1 := cdT_lt hc_62
                have hjj := hbb c_71
                exact r_iret (pc := 83) dX8_readPlain_83 rfl rfl (cpo_k (tr := .sum t_62) (by rw [sPlain, hN2, sPos, if_neg (show ¬ cj (f0 (b + 1)) t j1 = 140 by omega), bnd_o hR_62]; dsimp only; rw [if_pos c_71]) hC_78 rfl (⟨s_62, cdT_congr (fun i q1 q2 => hS_78 i (by omega)) hc_62, by rw [hA_78]; rfl, rfl⟩) (fun i hi => by rw [hS_78 i (by omega), hS_62 i hi, hrow]) (by rw [hM_78, hM_62]; exact hmk) hv_62 (by omega))
        · refine r_aload_n (pc := 50) 2 dX8_readPlain_50 rfl rfl ?_
          refine r_iload_n (pc := 51) 3 dX8_readPlain_51 rfl rfl ?_
          refine r_bipush (pc := 52) dX8_readPlain_52 (by decide) ?_
          refine r_callV (pc := 54) (As := [(.int (iI (((br : Nat) : Int)))), (.int (iI (41)))]) (S := []) dX8_readPlain_54 cv_X8_92 hT.k rfl (Nat.le_of_ble_eq_true rfl) (x_brT l z hT ht4 hby he (by omega) hsubT (by omega) hC1 (by omega)) (Nat.zero_le _) (Nat.zero_le _) (fun r_54 g_54 f_54 q_54 => ?_)
          obtain ⟨rfl, ⟨x_54, hR_54, rfl, hx_54, hF_54⟩ | ⟨t_54, j_54, l_54, s_54, hR_54, rfl, hC_54, hc_54, hS_54, hM_54, hv_54, hj_54⟩⟩ := cpo_or q_54
          · refine r_goto (pc := 57) (tgt := 65) dX8_readPlain_57 (by decide) ?_
            refine r_istore_n (pc := 65) (L2 := [(3, (.int (iI (0)))), (2, (.int (iI (b01 (bb = true))))), (0, (.ref b)), (1, (.int (iI (((br : Nat) : Int)))))]) dX8_readPlain_65 rfl (by decide) rfl ?_
            refine r_iload_n (pc := 66) 0 dX8_readPlain_66 rfl rfl ?_
            refine r_if_eq (pc := 67) (tgt := 82) dX8_readPlain_67 (by decide) (by omega) (fun c_67 => ?_) (fun c_67 => ?_)
            · refine r_iload_n (pc := 82) 0 dX8_readPlain_82 rfl rfl ?_
              exact r_iret (pc := 83) dX8_readPlain_83 rfl rfl (cpo_e (by rw [sPlain, hN2, sPos, if_pos (show cj (f0 (b + 1)) t j1 = 140 by omega)]; exact bnd_e hR_54) hx_54 hF_54)
            · exact absurd c_67 (by decide)
          · refine r_goto (pc := 57) (tgt := 65) dX8_readPlain_57 (by decide) ?_
            refine r_istore_n (pc := 65) (L2 := [(3, (.int (iI (1)))), (2, (.int (iI (b01 (bb = true))))), (0, (.ref b)), (1, (.int (iI (((br : Nat) : Int)))))]) dX8_readPlain_65 rfl (by decide) rfl ?_
            refine r_iload_n (pc := 66) 0 dX8_readPlain_66 rfl rfl ?_
            refine r_if_eq (pc := 67) (tgt := 82) dX8_readPlain_67 (by decide) (by omega) (fun c_67 => ?_) (fun c_67 => ?_)
            · exact absurd c_67 (by decide)
            · refine r_iload_n (pc := 70) 1 dX8_readPlain_70 rfl rfl ?_
              refine r_if_eq (pc := 71) (tgt := 82) dX8_readPlain_71 (by decide) (b01_r) (fun c_71 => ?_) (fun c_71 => ?_)
              · replace c_71 := b01_z c_71
                refine r_iload_n (pc := 82) 0 dX8_readPlain_82 rfl rfl ?_
                exact r_iret (pc := 83) dX8_readPlain_83 rfl rfl (cpo_k (tr := t_54) (by rw [sPlain, hN2, sPos, if_pos (show cj (f0 (b + 1)) t j1 = 140 by omega), bnd_o hR_54]; dsimp only; rw [if_neg c_71]) hC_54 rfl hc_54 (fun i hi => by rw [hS_54 i hi, hrow]) (by rw [hM_54]; exact hmk) hv_54 (by omega))
              · replace c_71 := b01_nz c_71
                refine r_aload_n (pc := 74) 2 dX8_readPlain_74 rfl rfl ?_
                refine r_bipush (pc := 75) dX8_readPlain_75 (by decide) ?_
                refine r_iconst (pc := 77) dX8_readPlain_77 ?_
                refine r_callV (pc := 78) (As := [(.int (iI (9))), (.int (iI (0)))]) (S := []) dX8_readPlain_78 cv_X8_81 hT.k rfl (Nat.le_of_ble_eq_true rfl) (x_write (kk := 9) (w := 0) l z _ hT ht4 (hC_54) (by omega) (by omega) (by omega)) (Nat.zero_le _) (Nat.zero_le _) (fun r_78 g_78 f_78 q_78 => ?_)
                obtain ⟨rfl, rfl, hC_78, hA_78, hS_78, hM_78⟩ := q_78
                refine r_pop (pc := 81) dX8_readPlain_81 rfl ?_
                refine r_iload_n (pc := 82) 0 dX8_readPlain_82 rfl rfl ?_
                have hlt1 := cdT_lt hc_54
                have hjj := hbb c_71
                exact r_iret (pc := 83) dX8_readPlain_83 rfl rfl (cpo_k (tr := .sum t_54) (by rw [sPlain, hN2, sPos, if_pos (show cj (f0 (b + 1)) t j1 = 140 by omega), bnd_o hR_54]; dsimp only; rw [if_pos c_71]) hC_78 rfl (⟨s_54, cdT_congr (fun i q1 q2 => hS_78 i (by omega)) hc_54, by rw [hA_78]; rfl, rfl⟩) (fun i hi => by rw [hS_78 i (by omega), hS_54 i hi, hrow]) (by rw [hM_78, hM_54]; exact hmk) hv_54 (by omega))
      · obtain ⟨m', rfl⟩ : ∃ m', m = m' + 1 := ⟨m - 1, by omega⟩
        have hk1 := kc_j (t := t) hby j1
        refine r_aload_n (pc := 11) 2 dX8_readPlain_11 rfl rfl ?_
        refine r_getIv (pc := 12) (x := kj (f0 (b + 1)) t j1) dX8_readPlain_12 fl_X8_63 rfl hT.k (hC1.k) ?_
        refine r_sipush (pc := 15) dX8_readPlain_15 (by decide) ?_
        refine r_icmp_ne (pc := 18) (tgt := 41) dX8_readPlain_18 (by decide) (by omega) (by omega) (fun c_18 => ?_) (fun c_18 => ?_)
        · skip
          have hN2 : sNot (cj (f0 (b + 1)) t) 400 false j = (bb, j1) := by rw [hN, sNot, if_neg (by omega)]
          refine r_aload_n (pc := 41) 2 dX8_readPlain_41 rfl rfl ?_
          refine r_getIv (pc := 42) (x := kj (f0 (b + 1)) t j1) dX8_readPlain_42 fl_X8_63 rfl hT.k (hC1.k) ?_
          refine r_bipush (pc := 45) dX8_readPlain_45 (by decide) ?_
          refine r_icmp_ne (pc := 47) (tgt := 60) dX8_readPlain_47 (by decide) (by omega) (by omega) (fun c_47 => ?_) (fun c_47 => ?_)
          · refine r_aload_n (pc := 60) 2 dX8_readPlain_60 rfl rfl ?_
            refine r_iload_n (pc := 61) 3 dX8_readPlain_61 rfl rfl ?_
            refine r_callV (pc := 62) (As := [(.int (iI (((br : Nat) : Int))))]) (S := []) dX8_readPlain_62 cv_X8_96 hT.k rfl (Nat.le_of_ble_eq_true rfl) (hsub _ (by omega) _ _ _ _ _ (by omega) (hC1)) (Nat.zero_le _) (Nat.zero_le _) (fun r_62 g_62 f_62 q_62 => ?_)
            obtain ⟨rfl, ⟨x_62, hR_62, rfl, hx_62, hF_62⟩ | ⟨t_62, j_62, l_62, s_62, hR_62, rfl, hC_62, hc_62, hS_62, hM_62, hv_62, hj_62⟩⟩ := cpo_or q_62
            · refine r_istore_n (pc := 65) (L2 := [(3, (.int (iI (0)))), (2, (.int (iI (b01 (bb = true))))), (0, (.ref b)), (1, (.int (iI (((br : Nat) : Int)))))]) dX8_readPlain_65 rfl (by decide) rfl ?_
              refine r_iload_n (pc := 66) 0 dX8_readPlain_66 rfl rfl ?_
              refine r_if_eq (pc := 67) (tgt := 82) dX8_readPlain_67 (by decide) (by omega) (fun c_67 => ?_) (fun c_67 => ?_)
              · refine r_iload_n (pc := 82) 0 dX8_readPlain_82 rfl rfl ?_
                exact r_iret (pc := 83) dX8_readPlain_83 rfl rfl (cpo_e (by rw [sPlain, hN2, sPos, if_neg (show ¬ cj (f0 (b + 1)) t j1 = 140 by omega)]; exact bnd_e hR_62) hx_62 hF_62)
              · exact absurd c_67 (by decide)
            · refine r_istore_n (pc := 65) (L2 := [(3, (.int (iI (1)))), (2, (.int (iI (b01 (bb = true))))), (0, (.ref b)), (1, (.int (iI (((br : Nat) : Int)))))]) dX8_readPlain_65 rfl (by decide) rfl ?_
              refine r_iload_n (pc := 66) 0 dX8_readPlain_66 rfl rfl ?_
              refine r_if_eq (pc := 67) (tgt := 82) dX8_readPlain_67 (by decide) (by omega) (fun c_67 => ?_) (fun c_67 => ?_)
              · exact absurd c_67 (by decide)
              · refine r_iload_n (pc := 70) 1 dX8_readPlain_70 rfl rfl ?_
                refine r_if_eq (pc := 71) (tgt := 82) dX8_readPlain_71 (by decide) (b01_r) (fun c_71 => ?_) (fun c_71 => ?_)
                · replace c_71 := b01_z c_71
                  refine r_iload_n (pc := 82) 0 dX8_readPlain_82 rfl rfl ?_
                  exact r_iret (pc := 83) dX8_readPlain_83 rfl rfl (cpo_k (tr := t_62) (by rw [sPlain, hN2, sPos, if_neg (show ¬ cj (f0 (b + 1)) t j1 = 140 by omega), bnd_o hR_62]; dsimp only; rw [if_neg c_71]) hC_62 rfl hc_62 (fun i hi => by rw [hS_62 i hi, hrow]) (by rw [hM_62]; exact hmk) hv_62 (by omega))
                · replace c_71 := b01_nz c_71
                  refine r_aload_n (pc := 74) 2 dX8_readPlain_74 rfl rfl ?_
                  refine r_bipush (pc := 75) dX8_readPlain_75 (by decide) ?_
                  refine r_iconst (pc := 77) dX8_readPlain_77 ?_
                  refine r_callV (pc := 78) (As := [(.int (iI (9))), (.int (iI (0)))]) (S := []) dX8_readPlain_78 cv_X8_81 hT.k rfl (Nat.le_of_ble_eq_true rfl) (x_write (kk := 9) (w := 0) l z _ hT ht4 (hC_62) (by omega) (by omega) (by omega)) (Nat.zero_le _) (Nat.zero_le _) (fun r_78 g_78 f_78 q_78 => ?_)
                  obtain ⟨rfl, rfl, hC_78, hA_78, hS_78, hM_78⟩ := q_78
                  refine r_pop (pc := 81) dX8_readPlain_81 rfl ?_
                  refine r_iload_n (pc := 82) 0 dX8_readPlain_82 rfl rfl ?_
                  have hlt1 := cdT_lt hc_62
                  have hjj := hbb c_71
                  exact r_iret (pc := 83) dX8_readPlain_83 rfl rfl (cpo_k (tr := .sum t_62) (by rw [sPlain, hN2, sPos, if_neg (show ¬ cj (f0 (b + 1)) t j1 = 140 by omega), bnd_o hR_62]; dsimp only; rw [if_pos c_71]) hC_78 rfl (⟨s_62, cdT_congr (fun i q1 q2 => hS_78 i (by omega)) hc_62, by rw [hA_78]; rfl, rfl⟩) (fun i hi => by rw [hS_78 i (by omega), hS_62 i hi, hrow]) (by rw [hM_78, hM_62]; exact hmk) hv_62 (by omega))
          · refine r_aload_n (pc := 50) 2 dX8_readPlain_50 rfl rfl ?_
            refine r_iload_n (pc := 51) 3 dX8_readPlain_51 rfl rfl ?_
            refine r_bipush (pc := 52) dX8_readPlain_52 (by decide) ?_
            refine r_callV (pc := 54) (As := [(.int (iI (((br : Nat) : Int)))), (.int (iI (41)))]) (S := []) dX8_readPlain_54 cv_X8_92 hT.k rfl (Nat.le_of_ble_eq_true rfl) (x_brT l z hT ht4 hby he (by omega) hsubT (by omega) hC1 (by omega)) (Nat.zero_le _) (Nat.zero_le _) (fun r_54 g_54 f_54 q_54 => ?_)
            obtain ⟨rfl, ⟨x_54, hR_54, rfl, hx_54, hF_54⟩ | ⟨t_54, j_54, l_54, s_54, hR_54, rfl, hC_54, hc_54, hS_54, hM_54, hv_54, hj_54⟩⟩ := cpo_or q_54
            · refine r_goto (pc := 57) (tgt := 65) dX8_readPlain_57 (by decide) ?_
              refine r_istore_n (pc := 65) (L2 := [(3, (.int (iI (0)))), (2, (.int (iI (b01 (bb = true))))), (0, (.ref b)), (1, (.int (iI (((br : Nat) : Int)))))]) dX8_readPlain_65 rfl (by decide) rfl ?_
              refine r_iload_n (pc := 66) 0 dX8_readPlain_66 rfl rfl ?_
              refine r_if_eq (pc := 67) (tgt := 82) dX8_readPlain_67 (by decide) (by omega) (fun c_67 => ?_) (fun c_67 => ?_)
              · refine r_iload_n (pc := 82) 0 dX8_readPlain_82 rfl rfl ?_
                exact r_iret (pc := 83) dX8_readPlain_83 rfl rfl (cpo_e (by rw [sPlain, hN2, sPos, if_pos (show cj (f0 (b + 1)) t j1 = 140 by omega)]; exact bnd_e hR_54) hx_54 hF_54)
              · exact absurd c_67 (by decide)
            · refine r_goto (pc := 57) (tgt := 65) dX8_readPlain_57 (by decide) ?_
              refine r_istore_n (pc := 65) (L2 := [(3, (.int (iI (1)))), (2, (.int (iI (b01 (bb = true))))), (0, (.ref b)), (1, (.int (iI (((br : Nat) : Int)))))]) dX8_readPlain_65 rfl (by decide) rfl ?_
              refine r_iload_n (pc := 66) 0 dX8_readPlain_66 rfl rfl ?_
              refine r_if_eq (pc := 67) (tgt := 82) dX8_readPlain_67 (by decide) (by omega) (fun c_67 => ?_) (fun c_67 => ?_)
              · exact absurd c_67 (by decide)
              · refine r_iload_n (pc := 70) 1 dX8_readPlain_70 rfl rfl ?_
                refine r_if_eq (pc := 71) (tgt := 82) dX8_readPlain_71 (by decide) (b01_r) (fun c_71 => ?_) (fun c_71 => ?_)
                · replace c_71 := b01_z c_71
                  refine r_iload_n (pc := 82) 0 dX8_readPlain_82 rfl rfl ?_
                  exact r_iret (pc := 83) dX8_readPlain_83 rfl rfl (cpo_k (tr := t_54) (by rw [sPlain, hN2, sPos, if_pos (show cj (f0 (b + 1)) t j1 = 140 by omega), bnd_o hR_54]; dsimp only; rw [if_neg c_71]) hC_54 rfl hc_54 (fun i hi => by rw [hS_54 i hi, hrow]) (by rw [hM_54]; exact hmk) hv_54 (by omega))
                · replace c_71 := b01_nz c_71
                  refine r_aload_n (pc := 74) 2 dX8_readPlain_74 rfl rfl ?_
                  refine r_bipush (pc := 75) dX8_readPlain_75 (by decide) ?_
                  refine r_iconst (pc := 77) dX8_readPlain_77 ?_
                  refine r_callV (pc := 78) (As := [(.int (iI (9))), (.int (iI (0)))]) (S := []) dX8_readPlain_78 cv_X8_81 hT.k rfl (Nat.le_of_ble_eq_true rfl) (x_write (kk := 9) (w := 0) l z _ hT ht4 (hC_54) (by omega) (by omega) (by omega)) (Nat.zero_le _) (Nat.zero_le _) (fun r_78 g_78 f_78 q_78 => ?_)
                  obtain ⟨rfl, rfl, hC_78, hA_78, hS_78, hM_78⟩ := q_78
                  refine r_pop (pc := 81) dX8_readPlain_81 rfl ?_
                  refine r_iload_n (pc := 82) 0 dX8_readPlain_82 rfl rfl ?_
                  have hlt1 := cdT_lt hc_54
                  have hjj := hbb c_71
                  exact r_iret (pc := 83) dX8_readPlain_83 rfl rfl (cpo_k (tr := .sum t_54) (by rw [sPlain, hN2, sPos, if_pos (show cj (f0 (b + 1)) t j1 = 140 by omega), bnd_o hR_54]; dsimp only; rw [if_pos c_71]) hC_78 rfl (⟨s_54, cdT_congr (fun i q1 q2 => hS_78 i (by omega)) hc_54, by rw [hA_78]; rfl, rfl⟩) (fun i hi => by rw [hS_78 i (by omega), hS_54 i hi, hrow]) (by rw [hM_78, hM_54]; exact hmk) hv_54 (by omega))
        · refine r_iload_n (pc := 21) 1 dX8_readPlain_21 rfl rfl ?_
          refine r_if_ne (pc := 22) (tgt := 29) dX8_readPlain_22 (by decide) (b01_r) (fun c_22 => ?_) (fun c_22 => ?_)
          · replace c_22 := b01_nz c_22
            refine r_iconst (pc := 29) dX8_readPlain_29 ?_
            refine r_eqI (y := b01 ((!bb) = true)) (by rw [c_22]; rfl) ?_
            refine r_istore_n (pc := 30) (L2 := [(2, (.int (iI (b01 ((!bb) = true))))), (3, (.int (iI (((i : Nat) : Int))))), (0, (.ref b)), (1, (.int (iI (((br : Nat) : Int)))))]) dX8_readPlain_30 rfl (by decide) rfl ?_
            refine r_aload_n (pc := 31) 2 dX8_readPlain_31 rfl rfl ?_
            refine r_callV (pc := 32) (As := []) (S := []) dX8_readPlain_32 cv_X8_43 hT.k rfl (Nat.le_of_ble_eq_true rfl) (CP.adv l z (by omega) hT ht4 hby (hC1) (by omega)) (Nat.zero_le _) (Nat.zero_le _) (fun r_32 g_32 f_32 q_32 => ?_)
            obtain ⟨rfl, rfl, hC_32, hS_32, hM_32⟩ := q_32
            refine r_iincv (pc := 35) (y := ((i + 1 : Nat) : Int)) (L2 := [(3, (.int (iI (((i + 1 : Nat) : Int))))), (2, (.int (iI (b01 ((!bb) = true))))), (0, (.ref b)), (1, (.int (iI (((br : Nat) : Int)))))]) 1 dX8_readPlain_35 rfl (by omega) (by decide) rfl ?_
            refine r_goto (pc := 38) (tgt := 4) dX8_readPlain_38 (by decide) ?_
            refine r_sub (L2 := [(3, (.int (iI (((i + 1 : Nat) : Int))))), (2, (.int (iI (b01 ((!bb) = true))))), (0, (.ref b)), (1, (.int (iI (((br : Nat) : Int)))))]) [0, 1, 2, 3] rfl ?_
            exact ih m' (by omega) (i + 1) (by omega) _ _ (!bb) (by rw [hN, sNot, if_pos (by omega)]) hC_32 (by rw [hS_32]; exact hrow) (by rw [hM_32]; exact hmk) (fun _ => by omega) (by omega)
          · replace c_22 := b01_z c_22
            refine r_iconst (pc := 25) dX8_readPlain_25 ?_
            refine r_goto (pc := 26) (tgt := 30) dX8_readPlain_26 (by decide) ?_
            refine r_eqI (y := b01 ((!bb) = true)) (by rw [Bool.eq_false_iff.mpr c_22]; rfl) ?_
            refine r_istore_n (pc := 30) (L2 := [(2, (.int (iI (b01 ((!bb) = true))))), (3, (.int (iI (((i : Nat) : Int))))), (0, (.ref b)), (1, (.int (iI (((br : Nat) : Int)))))]) dX8_readPlain_30 rfl (by decide) rfl ?_
            refine r_aload_n (pc := 31) 2 dX8_readPlain_31 rfl rfl ?_
            refine r_callV (pc := 32) (As := []) (S := []) dX8_readPlain_32 cv_X8_43 hT.k rfl (Nat.le_of_ble_eq_true rfl) (CP.adv l z (by omega) hT ht4 hby (hC1) (by omega)) (Nat.zero_le _) (Nat.zero_le _) (fun r_32 g_32 f_32 q_32 => ?_)
            obtain ⟨rfl, rfl, hC_32, hS_32, hM_32⟩ := q_32
            refine r_iincv (pc := 35) (y := ((i + 1 : Nat) : Int)) (L2 := [(3, (.int (iI (((i + 1 : Nat) : Int))))), (2, (.int (iI (b01 ((!bb) = true))))), (0, (.ref b)), (1, (.int (iI (((br : Nat) : Int)))))]) 1 dX8_readPlain_35 rfl (by omega) (by decide) rfl ?_
            refine r_goto (pc := 38) (tgt := 4) dX8_readPlain_38 (by decide) ?_
            refine r_sub (L2 := [(3, (.int (iI (((i + 1 : Nat) : Int))))), (2, (.int (iI (b01 ((!bb) = true))))), (0, (.ref b)), (1, (.int (iI (((br : Nat) : Int)))))]) [0, 1, 2, 3] rfl ?_
            exact ih m' (by omega) (i + 1) (by omega) _ _ (!bb) (by rw [hN, sNot, if_pos (by omega)]) hC_32 (by rw [hS_32]; exact hrow) (by rw [hM_32]; exact hmk) (fun _ => by omega) (by omega)
  refine r_iconst (pc := 0) dX8_readPlain_0 ?_
  refine r_istore_n (pc := 1) (L2 := [(2, (.int (iI (0)))), (0, (.ref b)), (1, (.int (iI (((br : Nat) : Int)))))]) dX8_readPlain_1 rfl (by decide) rfl ?_
  refine r_iconst (pc := 2) dX8_readPlain_2 ?_
  refine r_istore_n (pc := 3) (L2 := [(3, (.int (iI (0)))), (2, (.int (iI (0)))), (0, (.ref b)), (1, (.int (iI (((br : Nat) : Int)))))]) dX8_readPlain_3 rfl (by decide) rfl ?_
  refine r_sub (L2 := [(3, (.int (iI (0)))), (2, (.int (iI (0)))), (0, (.ref b)), (1, (.int (iI (((br : Nat) : Int)))))]) [0, 1, 2, 3] rfl ?_
  exact loop 400 0 rfl f j false rfl hC rfl rfl (fun h => absurd h (by decide)) (Nat.le_refl _)

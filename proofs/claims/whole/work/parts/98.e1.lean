theorem lI_rem {x y : Int} (hx : 0 ≤ x ∧ x ≤ 2000000000) (hy : 0 < y ∧ y ≤ 2000000000) : lI x - lI x / lI y * lI y = lI (x % y) := by
  have hd : lI x / lI y = lI (x / y) := by
    unfold lI
    rw [show x / y = x.tdiv y from (Int.tdiv_eq_ediv_of_nonneg hx.1).symm]
    have e1 : Int64.minValue.toInt = -9223372036854775808 := by decide
    have e2 : Int64.maxValue.toInt = 9223372036854775807 := by decide
    exact (Int64.ofInt_tdiv (by omega) (by omega) (by omega) (by omega)).symm
  rw [hd, lI_mul, lI_sub]
  congr 1
  have := Int.emod_def x y
  rw [this, Int.mul_comm]
theorem lI_ne0 {y : Int} (hy : 0 < y ∧ y ≤ 2000000000) : ¬ lI y = 0 := by
  have h0 : (0 : Int64) = lI 0 := rfl
  rw [h0, lI_eq (by omega) (by omega)]; omega
theorem bc_left {n s : Nat} : ∀ j, j ≤ n → bc (ndf (2 ^ n - 1) s) j = j - bc s j
  | 0, _ => rfl
  | j + 1, h => by
    have h1 := bc_left (n := n) (s := s) j (by omega)
    have h2 := bc_le s j
    rw [bc_s, bc_s, h1]
    by_cases hb : s.testBit j = true
    · rw [if_pos hb, if_neg (fun q => (left_bit (by omega)).mp q hb)]; omega
    · rw [if_neg hb, if_pos ((left_bit (by omega)).mpr hb)]; omega
theorem bc_z {s n : Nat} (hs : s < 2 ^ n) (h : bc s n = 0) : s = 0 := by
  rcases Nat.eq_zero_or_pos s with q | q
  · exact q
  · have := bc_pos n hs (by omega); omega

set_option maxRecDepth 100000 in
set_option maxHeartbeats 4000000 in
theorem m_draws (l : Launch) (z : Zv) (d : Nat) {g : Gm} {f : Fm} {sd k : Nat} (hM : ML g) (hsd : f 164 44 = ((sd : Nat) : Int)) (hsr : sd ≤ 1000002) (hk : 0 < k ∧ k ≤ 8) : PM l z d mX11_draws [(.ref 164), (.int (iI (((k : Nat) : Int))))] g f 0 0 (fun r g' f' => r = some (.int (iI ((lcg sd % k : Nat) : Int))) ∧ g = g' ∧ stF f 164 44 ((lcg sd : Nat) : Int) = f') := by
  refine PM.of (by decide +kernel) (Nat.le_of_ble_eq_true rfl) ?_
  have hlr := lcg_r sd
  refine r_aload_n (pc := 0) 0 dX11_draws_0 rfl rfl ?_
  refine r_ldc2 (pc := 1) (x := 1103) dX11_draws_1 kc_X11_360 (by decide) ?_
  refine r_aload_n (pc := 4) 0 dX11_draws_4 rfl rfl ?_
  refine r_getIv (pc := 5) (x := ((sd : Nat) : Int)) dX11_draws_5 fl_X11_362 rfl hM.k (hsd) ?_
  refine r_i2l (pc := 8) dX11_draws_8 (iI_l (by omega)) ?_
  refine r_lmul (pc := 9) dX11_draws_9 ?_
  refine r_ldc2 (pc := 10) (x := 12345) dX11_draws_10 kc_X11_365 (by decide) ?_
  refine r_ladd (pc := 13) dX11_draws_13 ?_
  refine r_ldc2 (pc := 14) (x := 1000003) dX11_draws_14 kc_X11_367 (by decide) ?_
  refine r_lrem (pc := 17) (w := ((lcg sd : Nat) : Int)) dX11_draws_17 (lI_ne0 (by decide)) (by unfold lcg; have h := lI_rem (x := ((sd * 1103 + 12345 : Nat) : Int)) (y := 1000003) (by omega) (by omega); rw [show (1103 : Int) * ((sd : Nat) : Int) + 12345 = ((sd * 1103 + 12345 : Nat) : Int) by omega]; exact h) ?_
  refine r_l2i (pc := 18) dX11_draws_18 ?_
  refine r_putI (pc := 19) dX11_draws_19 fl_X11_362 rfl rfl hM.k ?_
  refine r_aload_n (pc := 22) 0 dX11_draws_22 rfl rfl ?_
  refine r_getIv (pc := 23) (x := ((lcg sd : Nat) : Int)) dX11_draws_23 fl_X11_362 rfl hM.k (stF_s _ _ _ _) ?_
  refine r_iload_n (pc := 26) 1 dX11_draws_26 rfl rfl ?_
  refine r_irem (pc := 27) (w := ((lcg sd % k : Nat) : Int)) dX11_draws_27 (iI_ne0 (by omega)) (by have h := iI_rem (x := ((lcg sd : Nat) : Int)) (y := ((k : Nat) : Int)) (by omega) (by omega); exact h) ?_
  exact r_iret (pc := 28) dX11_draws_28 rfl rfl ⟨rfl, rfl, rfl⟩

set_option maxRecDepth 100000 in
set_option maxHeartbeats 4000000 in
theorem m_queuesUp (l : Launch) (z : Zv) (d : Nat) {g : Gm} {f : Fm} {n s0 : Nat} {ov wa wt bk : Nat → Nat} (hM : ML g) (hD : MD f n ov wa wt bk) (hs0 : s0 ≤ 1000002) (hsd0 : f 164 44 = ((s0 : Nat) : Int)) : PM l z (d + 2) mX11_queuesUp [.ref 164] g f 0 0 (fun r g' f' => r = none ∧ g = g' ∧ (∀ b, b ≠ 164 → b ≠ 184 → f' b = f b) ∧ (∀ k, k ≠ 44 → f' 164 k = f 164 k) ∧ f' 164 44 = (((qR wt n s0 n).2 : Nat) : Int) ∧ ∀ i, i < n → f' 184 i = ((qO wt n s0 i : Nat) : Int)) := by
  have hn8 := hD.n8
  have hp8 := pow8 hn8
  refine PM.of (by decide +kernel) (Nat.le_of_ble_eq_true rfl) ?_
  have outer : ∀ m i : Nat, m = n - i → i ≤ n → ∀ f1 : Fm, (∀ b, b ≠ 164 → b ≠ 184 → f1 b = f b) → (∀ k, k ≠ 44 → f1 164 k = f 164 k) → f1 164 44 = (((qR wt n s0 i).2 : Nat) : Int) → (∀ j, j < i → f1 184 j = ((qO wt n s0 j : Nat) : Int)) → PW l z (d + 2) mX11_queuesUp 0 0 (fun r g' f' => r = none ∧ g = g' ∧ (∀ b, b ≠ 164 → b ≠ 184 → f' b = f b) ∧ (∀ k, k ≠ 44 → f' 164 k = f 164 k) ∧ f' 164 44 = (((qR wt n s0 n).2 : Nat) : Int) ∧ ∀ i, i < n → f' 184 i = ((qO wt n s0 i : Nat) : Int)) 4 [(2, (.int (iI (((i : Nat) : Int))))), (1, (.int (iI ((((qR wt n s0 i).1 : Nat) : Int))))), (0, (.ref 164))] [] g f1 0 0 := by
    intro m
    induction m using Nat.strongRecOn with
    | _ m ih =>
      intro i hm hi f1 hF1 hF2 hsd hR1
      have hqi := q_inv (wt := wt) (s0 := s0) hn8 i hi
      have hD1 : MD f1 n ov wa wt bk := hD.mv (hF1 166 (by decide) (by decide)) (hF1 176 (by decide) (by decide)) (hF1 177 (by decide) (by decide)) (hF1 178 (by decide) (by decide))
      refine r_iload_n (pc := 4) 0 dX11_queuesUp_4 rfl rfl ?_
      refine r_aload_n (pc := 5) 2 dX11_queuesUp_5 rfl rfl ?_
      refine r_callV (pc := 6) (As := []) (S := [(.int (iI (((i : Nat) : Int))))]) dX11_queuesUp_6 cv_X11_121 hM.k rfl (Nat.le_of_ble_eq_true rfl) (m_cust (v := ((n : Nat) : Int)) l z _ hM hD1.n) (Nat.zero_le _) (Nat.zero_le _) (fun r_6 g_6 f_6 q_6 => ?_)
      obtain ⟨rfl, rfl, rfl⟩ := q_6
      refine r_icmp_ge (pc := 9) (tgt := 186) dX11_queuesUp_9 (by decide) (by omega) (by omega) (fun c_9 => ?_) (fun c_9 => ?_)
      · have hin : i = n := by omega
        rw [hin] at hsd hR1
        exact r_vret (pc := 186) dX11_queuesUp_186 rfl ⟨rfl, rfl, hF1, hF2, hsd, hR1⟩
      · refine r_iconst (pc := 12) dX11_queuesUp_12 ?_
        refine r_istore_n (pc := 13) (L2 := [(3, (.int (iI (0)))), (2, (.int (iI (((i : Nat) : Int))))), (1, (.int (iI ((((qR wt n s0 i).1 : Nat) : Int))))), (0, (.ref 164))]) dX11_queuesUp_13 rfl (by decide) rfl ?_
        refine r_iconst (pc := 14) dX11_queuesUp_14 ?_
        refine r_istore (pc := 15) (L2 := [(4, (.int (iI (0)))), (3, (.int (iI (0)))), (2, (.int (iI (((i : Nat) : Int))))), (1, (.int (iI ((((qR wt n s0 i).1 : Nat) : Int))))), (0, (.ref 164))]) dX11_queuesUp_15 (by decide) rfl ?_
        have hqb : bc (qR wt n s0 i).1 n < n := by omega
        have hpp := pkS_pos (wt := wt) hn8 hqi.1 hqb
        have hqo := q_step (wt := wt) (s0 := s0) hn8 hqi.1 hqb
        have hnl : nxM wt n (qR wt n s0 i).1 < 2 ^ n := wmk_lt _ n
        have inner : ∀ m c : Nat, m = n - c → c ≤ n → PW l z (d + 2) mX11_queuesUp 0 0 (fun r g' f' => r = none ∧ g = g' ∧ (∀ b, b ≠ 164 → b ≠ 184 → f' b = f b) ∧ (∀ k, k ≠ 44 → f' 164 k = f 164 k) ∧ f' 164 44 = (((qR wt n s0 n).2 : Nat) : Int) ∧ ∀ i, i < n → f' 184 i = ((qO wt n s0 i : Nat) : Int)) 17 [(4, (.int (iI (((c : Nat) : Int))))), (3, (.int (iI (((bc (nxM wt n (qR wt n s0 i).1) c : Nat) : Int))))), (2, (.int (iI (((i : Nat) : Int))))), (1, (.int (iI ((((qR wt n s0 i).1 : Nat) : Int))))), (0, (.ref 164))] [] g f1 0 0 := by
          intro m
          induction m using Nat.strongRecOn with
          | _ m ih2 =>
            intro c hm hc
            have hbl := bc_le (nxM wt n (qR wt n s0 i).1) c
            refine r_iload (pc := 17) 0 dX11_queuesUp_17 rfl ?_
            refine r_aload_n (pc := 19) 4 dX11_queuesUp_19 rfl rfl ?_
            refine r_callV (pc := 20) (As := []) (S := [(.int (iI (((c : Nat) : Int))))]) dX11_queuesUp_20 cv_X11_121 hM.k rfl (Nat.le_of_ble_eq_true rfl) (m_cust (v := ((n : Nat) : Int)) l z _ hM hD1.n) (Nat.zero_le _) (Nat.zero_le _) (fun r_20 g_20 f_20 q_20 => ?_)
            obtain ⟨rfl, rfl, rfl⟩ := q_20
            refine r_icmp_ge (pc := 23) (tgt := 50) dX11_queuesUp_23 (by decide) (by omega) (by omega) (fun c_23 => ?_) (fun c_23 => ?_)
            · have hcn : c = n := by omega
              have hb8 : bc (nxM wt n (qR wt n s0 i).1) 8 = bc (nxM wt n (qR wt n s0 i).1) n := bc_hi hnl 8 hn8
              refine r_iload_n (pc := 50) 1 dX11_queuesUp_50 rfl rfl ?_
              refine r_if_ne (pc := 51) (tgt := 58) dX11_queuesUp_51 (by decide) (by omega) (fun c_51 => ?_) (fun c_51 => ?_)
              · have hnz : ¬ nxM wt n (qR wt n s0 i).1 = 0 := fun e => by have h0 : bc (nxM wt n (qR wt n s0 i).1) c = 0 := (by rw [e]; exact bc_0 c); omega
                have hpk : (pkS wt n (qR wt n s0 i).1) = nxM wt n (qR wt n s0 i).1 := by unfold pkS; rw [if_neg hnz]
                have hpk8 : bc (pkS wt n (qR wt n s0 i).1) 8 = bc (nxM wt n (qR wt n s0 i).1) c := by rw [hpk, hb8, hcn]
                refine r_iconst (pc := 58) dX11_queuesUp_58 ?_
                refine r_istore (pc := 59) (L2 := [(4, (.int (iI (0)))), (3, (.int (iI (((bc (nxM wt n (qR wt n s0 i).1) c : Nat) : Int))))), (2, (.int (iI (((i : Nat) : Int))))), (1, (.int (iI ((((qR wt n s0 i).1 : Nat) : Int))))), (0, (.ref 164))]) dX11_queuesUp_59 (by decide) rfl ?_
                refine r_aload_n (pc := 61) 4 dX11_queuesUp_61 rfl rfl ?_
                refine r_iload (pc := 62) 0 dX11_queuesUp_62 rfl ?_
                refine r_if_eq (pc := 64) (tgt := 76) dX11_queuesUp_64 (by decide) (by omega) (fun c_64 => ?_) (fun c_64 => ?_)
                · refine r_iload_n (pc := 76) 1 dX11_queuesUp_76 rfl rfl ?_
                  refine r_eqI (y := ((bc (pkS wt n (qR wt n s0 i).1) 8 : Nat) : Int)) (by rw [hpk8]) ?_
                  refine r_callV (pc := 77) (As := [(.int (iI (((bc (pkS wt n (qR wt n s0 i).1) 8 : Nat) : Int))))]) (S := []) dX11_queuesUp_77 cv_X11_375 hM.k rfl (Nat.le_of_ble_eq_true rfl) (m_draws (sd := (qR wt n s0 i).2) (k := bc (pkS wt n (qR wt n s0 i).1) 8) l z _ hM hsd (qR_sd wt n hs0 i) hpp) (Nat.zero_le _) (Nat.zero_le _) (fun r_77 g_77 f_77 q_77 => ?_)
                  obtain ⟨rfl, rfl, rfl⟩ := q_77
                  refine r_istore (pc := 80) (L2 := [(5, (.int (iI (((lcg (qR wt n s0 i).2 % bc (pkS wt n (qR wt n s0 i).1) 8 : Nat) : Int))))), (4, (.int (iI (0)))), (3, (.int (iI (((bc (nxM wt n (qR wt n s0 i).1) c : Nat) : Int))))), (2, (.int (iI (((i : Nat) : Int))))), (1, (.int (iI ((((qR wt n s0 i).1 : Nat) : Int))))), (0, (.ref 164))]) dX11_queuesUp_80 (by decide) rfl ?_
                  refine r_iconst (pc := 82) dX11_queuesUp_82 ?_
                  refine r_istore (pc := 83) (L2 := [(6, (.int (iI (0)))), (5, (.int (iI (((lcg (qR wt n s0 i).2 % bc (pkS wt n (qR wt n s0 i).1) 8 : Nat) : Int))))), (4, (.int (iI (0)))), (3, (.int (iI (((bc (nxM wt n (qR wt n s0 i).1) c : Nat) : Int))))), (2, (.int (iI (((i : Nat) : Int))))), (1, (.int (iI ((((qR wt n s0 i).1 : Nat) : Int))))), (0, (.ref 164))]) dX11_queuesUp_83 (by decide) rfl ?_
                  have hbit : ∀ e, e < n → ((pkS wt n (qR wt n s0 i).1).testBit e = true ↔ (nxM wt n (qR wt n s0 i).1).testBit e = true) := fun e he => by rw [hpk]
                  have hmd := Nat.mod_lt (lcg (qR wt n s0 i).2) hpp.1
                  have hdk := drw_ok (s := (pkS wt n (qR wt n s0 i).1)) (r := lcg (qR wt n s0 i).2 % bc (pkS wt n (qR wt n s0 i).1) 8) hmd
                  have hC : qO wt n s0 i = drw (pkS wt n (qR wt n s0 i).1) (lcg (qR wt n s0 i).2 % bc (pkS wt n (qR wt n s0 i).1) 8) := rfl
                  have find : ∀ m e : Nat, m = qO wt n s0 i - e → e ≤ qO wt n s0 i → PW l z (d + 2) mX11_queuesUp 0 0 (fun r g' f' => r = none ∧ g = g' ∧ (∀ b, b ≠ 164 → b ≠ 184 → f' b = f b) ∧ (∀ k, k ≠ 44 → f' 164 k = f 164 k) ∧ f' 164 44 = (((qR wt n s0 n).2 : Nat) : Int) ∧ ∀ i, i < n → f' 184 i = ((qO wt n s0 i : Nat) : Int)) 85 [(6, (.int (iI (((e : Nat) : Int))))), (5, (.int (iI (((lcg (qR wt n s0 i).2 % bc (pkS wt n (qR wt n s0 i).1) 8 : Nat) : Int) - ((bc (pkS wt n (qR wt n s0 i).1) e : Nat) : Int))))), (4, (.int (iI (0)))), (2, (.int (iI (((i : Nat) : Int))))), (1, (.int (iI ((((qR wt n s0 i).1 : Nat) : Int))))), (0, (.ref 164))] [] g (stF f1 164 44 (((lcg (qR wt n s0 i).2 : Nat) : Int))) 0 0 := by
                    intro m
                    induction m using Nat.strongRecOn with
                    | _ m ih3 =>
                      intro e hm he
                      have hbm := bc_mono (pkS wt n (qR wt n s0 i).1) (j := e) (qO wt n s0 i) he
                      rw [hC, hdk.2.2] at hbm
                      have hbl := bc_le (pkS wt n (qR wt n s0 i).1) e
                      refine r_iload (pc := 85) 2 dX11_queuesUp_85 rfl ?_
                      refine r_if_eq (pc := 87) (tgt := 107) dX11_queuesUp_87 (by decide) (by omega) (fun c_87 => ?_) (fun c_87 => ?_)
                      · refine r_aload_n (pc := 107) 5 dX11_queuesUp_107 rfl rfl ?_
                        refine r_iload_n (pc := 108) 4 dX11_queuesUp_108 rfl rfl ?_
                        refine r_iload (pc := 109) 0 dX11_queuesUp_109 rfl ?_
                        refine r_callV (pc := 111) (As := [(.int (iI ((((qR wt n s0 i).1 : Nat) : Int)))), (.int (iI (((e : Nat) : Int))))]) (S := []) dX11_queuesUp_111 cv_X11_305 hM.k rfl (Nat.le_of_ble_eq_true rfl) (m_mayNext (s := (qR wt n s0 i).1) (c := e) l z _ hM (hD1.mv (stF_n _ _ _ (by decide)) (stF_n _ _ _ (by decide)) (stF_n _ _ _ (by decide)) (stF_n _ _ _ (by decide))) (by omega) (by omega)) (Nat.zero_le _) (Nat.zero_le _) (fun r_111 g_111 f_111 q_111 => ?_)
                        obtain ⟨rfl, rfl, rfl⟩ := q_111
                        refine r_eqI (y := b01 ((nxM wt n (qR wt n s0 i).1).testBit e = true)) (b01_iff (nx_may (by omega)).symm) ?_
                        refine r_if_eq (pc := 114) (tgt := 122) dX11_queuesUp_114 (by decide) (b01_r) (fun c_114 => ?_) (fun c_114 => ?_)
                        · replace c_114 := b01_z c_114
                          refine r_iload (pc := 122) 1 dX11_queuesUp_122 rfl ?_
                          refine r_iload (pc := 124) 2 dX11_queuesUp_124 rfl ?_
                          refine r_if_eq (pc := 126) (tgt := 141) dX11_queuesUp_126 (by decide) (by omega) (fun c_126 => ?_) (fun c_126 => ?_)
                          · refine r_aload_n (pc := 141) 5 dX11_queuesUp_141 rfl rfl ?_
                            refine r_iload_n (pc := 142) 4 dX11_queuesUp_142 rfl rfl ?_
                            refine r_iload (pc := 143) 0 dX11_queuesUp_143 rfl ?_
                            refine r_callV (pc := 145) (As := [(.int (iI ((((qR wt n s0 i).1 : Nat) : Int)))), (.int (iI (((e : Nat) : Int))))]) (S := [(.int (iI (((lcg (qR wt n s0 i).2 % bc (pkS wt n (qR wt n s0 i).1) 8 : Nat) : Int) - ((bc (pkS wt n (qR wt n s0 i).1) e : Nat) : Int))))]) dX11_queuesUp_145 cv_X11_305 hM.k rfl (Nat.le_of_ble_eq_true rfl) (m_mayNext (s := (qR wt n s0 i).1) (c := e) l z _ hM (hD1.mv (stF_n _ _ _ (by decide)) (stF_n _ _ _ (by decide)) (stF_n _ _ _ (by decide)) (stF_n _ _ _ (by decide))) (by omega) (by omega)) (Nat.zero_le _) (Nat.zero_le _) (fun r_145 g_145 f_145 q_145 => ?_)
                            obtain ⟨rfl, rfl, rfl⟩ := q_145
                            refine r_eqI (y := b01 ((nxM wt n (qR wt n s0 i).1).testBit e = true)) (b01_iff (nx_may (by omega)).symm) ?_
                            refine r_if_eq (pc := 148) (tgt := 155) dX11_queuesUp_148 (by decide) (b01_r) (fun c_148 => ?_) (fun c_148 => ?_)
                            · replace c_148 := b01_z c_148
                              refine r_iconst (pc := 155) dX11_queuesUp_155 ?_
                              refine r_isub (pc := 156) dX11_queuesUp_156 ?_
                              refine r_istore (pc := 157) (L2 := [(5, (.int (iI ((((lcg (qR wt n s0 i).2 % bc (pkS wt n (qR wt n s0 i).1) 8 : Nat) : Int) - ((bc (pkS wt n (qR wt n s0 i).1) e : Nat) : Int)) - (0))))), (6, (.int (iI (((e : Nat) : Int))))), (4, (.int (iI (0)))), (2, (.int (iI (((i : Nat) : Int))))), (1, (.int (iI ((((qR wt n s0 i).1 : Nat) : Int))))), (0, (.ref 164))]) dX11_queuesUp_157 (by decide) rfl ?_
                              refine r_iincv (pc := 159) (y := ((e + 1 : Nat) : Int)) (L2 := [(6, (.int (iI (((e + 1 : Nat) : Int))))), (5, (.int (iI ((((lcg (qR wt n s0 i).2 % bc (pkS wt n (qR wt n s0 i).1) 8 : Nat) : Int) - ((bc (pkS wt n (qR wt n s0 i).1) e : Nat) : Int)) - (0))))), (4, (.int (iI (0)))), (2, (.int (iI (((i : Nat) : Int))))), (1, (.int (iI ((((qR wt n s0 i).1 : Nat) : Int))))), (0, (.ref 164))]) 1 dX11_queuesUp_159 rfl (by omega) (by decide) rfl ?_
                              refine r_goto (pc := 162) (tgt := 85) dX11_queuesUp_162 (by decide) ?_
                              have hbs : bc (pkS wt n (qR wt n s0 i).1) (e + 1) = bc (pkS wt n (qR wt n s0 i).1) e + 0 := by rw [bc_s, if_neg (fun q => c_148 ((hbit e (by omega)).mp q))]
                              have hlt : e < qO wt n s0 i := by
                                rcases Nat.lt_or_eq_of_le he with h | h
                                · exact h
                                · exfalso
                                  have hb1 : (pkS wt n (qR wt n s0 i).1).testBit e = true := by rw [h, hC]; exact hdk.2.1
                                  have hb2 : bc (pkS wt n (qR wt n s0 i).1) e = lcg (qR wt n s0 i).2 % bc (pkS wt n (qR wt n s0 i).1) 8 := by rw [h, hC]; exact hdk.2.2
                                  first | exact absurd hb1 (fun q => c_148 ((hbit e (by omega)).mp q)) | omega
                              refine r_sub (L2 := [(6, (.int (iI (((e + 1 : Nat) : Int))))), (5, (.int (iI (((lcg (qR wt n s0 i).2 % bc (pkS wt n (qR wt n s0 i).1) 8 : Nat) : Int) - ((bc (pkS wt n (qR wt n s0 i).1) (e + 1) : Nat) : Int))))), (4, (.int (iI (0)))), (2, (.int (iI (((i : Nat) : Int))))), (1, (.int (iI ((((qR wt n s0 i).1 : Nat) : Int))))), (0, (.ref 164))]) [0, 1, 2, 3, 4, 5] (by rw [hbs, show ((lcg (qR wt n s0 i).2 % bc (pkS wt n (qR wt n s0 i).1) 8 : Nat) : Int) - ((bc (pkS wt n (qR wt n s0 i).1) e + 0 : Nat) : Int) = ((lcg (qR wt n s0 i).2 % bc (pkS wt n (qR wt n s0 i).1) 8 : Nat) : Int) - ((bc (pkS wt n (qR wt n s0 i).1) e : Nat) : Int) - 0 by omega]; rfl) ?_
                              exact ih3 (qO wt n s0 i - (e + 1)) (by omega) (e + 1) rfl (by omega)
                            · replace c_148 := b01_nz c_148
                              exact absurd c_148 c_114
                          · exact absurd c_126 (by decide)
                        · replace c_114 := b01_nz c_114
                          refine r_iload (pc := 117) 1 dX11_queuesUp_117 rfl ?_
                          refine r_if_le (pc := 119) (tgt := 165) dX11_queuesUp_119 (by decide) (by omega) (fun c_119 => ?_) (fun c_119 => ?_)
                          · have heC : e = qO wt n s0 i := by rw [hC]; exact (drw_at (by omega) ((hbit e (by omega)).mpr c_114) (by omega)).symm
                            refine r_sub (L2 := [(6, (.int (iI (((qO wt n s0 i : Nat) : Int))))), (5, (.int (iI (((lcg (qR wt n s0 i).2 % bc (pkS wt n (qR wt n s0 i).1) 8 : Nat) : Int) - ((bc (pkS wt n (qR wt n s0 i).1) e : Nat) : Int))))), (4, (.int (iI (0)))), (2, (.int (iI (((i : Nat) : Int))))), (1, (.int (iI ((((qR wt n s0 i).1 : Nat) : Int))))), (0, (.ref 164))]) [0, 1, 2, 3, 4, 5] (by rw [← heC]; rfl) ?_
                            refine r_aload_n (pc := 165) 5 dX11_queuesUp_165 rfl rfl ?_
                            refine r_getR (pc := 166) (b := 184) dX11_queuesUp_166 fl_X11_76 rfl hM.k hM.r32 ?_
                            refine r_iload_n (pc := 169) 3 dX11_queuesUp_169 rfl rfl ?_
                            refine r_iload (pc := 170) 0 dX11_queuesUp_170 rfl ?_
                            refine r_iastv (pc := 172) (i := i) dX11_queuesUp_172 hM.a32 (by omega) (by decide) rfl ?_
                            refine r_iload_n (pc := 173) 4 dX11_queuesUp_173 rfl rfl ?_
                            refine r_iconst (pc := 174) dX11_queuesUp_174 ?_
                            refine r_iload (pc := 175) 0 dX11_queuesUp_175 rfl ?_
                            refine r_ishl (pc := 177) (w := ((2 ^ (qO wt n s0 i) : Nat) : Int)) dX11_queuesUp_177  (iI_shl1 (by omega)) ?_
                            refine r_ior (pc := 178) (w := ((((qR wt n s0 i).1) ||| (2 ^ (qO wt n s0 i)) : Nat) : Int)) dX11_queuesUp_178  (iI_or _ _) ?_
                            refine r_istore_n (pc := 179) (L2 := [(1, (.int (iI (((((qR wt n s0 i).1) ||| (2 ^ (qO wt n s0 i)) : Nat) : Int))))), (6, (.int (iI (((qO wt n s0 i : Nat) : Int))))), (5, (.int (iI (((lcg (qR wt n s0 i).2 % bc (pkS wt n (qR wt n s0 i).1) 8 : Nat) : Int) - ((bc (pkS wt n (qR wt n s0 i).1) e : Nat) : Int))))), (4, (.int (iI (0)))), (2, (.int (iI (((i : Nat) : Int))))), (0, (.ref 164))]) dX11_queuesUp_179 rfl (by decide) rfl ?_
                            refine r_iincv (pc := 180) (y := ((i + 1 : Nat) : Int)) (L2 := [(2, (.int (iI (((i + 1 : Nat) : Int))))), (1, (.int (iI (((((qR wt n s0 i).1) ||| (2 ^ (qO wt n s0 i)) : Nat) : Int))))), (6, (.int (iI (((qO wt n s0 i : Nat) : Int))))), (5, (.int (iI (((lcg (qR wt n s0 i).2 % bc (pkS wt n (qR wt n s0 i).1) 8 : Nat) : Int) - ((bc (pkS wt n (qR wt n s0 i).1) e : Nat) : Int))))), (4, (.int (iI (0)))), (0, (.ref 164))]) 4 dX11_queuesUp_180 rfl (by omega) (by decide) rfl ?_
                            refine r_goto (pc := 183) (tgt := 4) dX11_queuesUp_183 (by decide) ?_
                            refine r_sub (L2 := [(2, (.int (iI (((i + 1 : Nat) : Int))))), (1, (.int (iI ((((qR wt n s0 (i + 1)).1 : Nat) : Int))))), (0, (.ref 164))]) [0, 1, 5] rfl ?_
                            exact ih (n - (i + 1)) (by omega) (i + 1) (by omega) (by omega) _ (fun b h1 h2 => by rw [stF_n _ _ _ h2, stF_n _ _ _ h1]; exact hF1 b h1 h2) (fun k hk => rdn (by decide) (rdi hk (hF2 k hk))) (rdn (by decide) (stF_s _ _ _ _)) (fun j hj => by
                              rcases Nat.lt_succ_iff_lt_or_eq.mp hj with h | h
                              · exact rdi (by omega) (rdn (by decide) (hR1 j h))
                              · subst h; exact stF_s _ _ _ _)
                          · refine r_iload (pc := 122) 1 dX11_queuesUp_122 rfl ?_
                            refine r_iload (pc := 124) 2 dX11_queuesUp_124 rfl ?_
                            refine r_if_eq (pc := 126) (tgt := 141) dX11_queuesUp_126 (by decide) (by omega) (fun c_126 => ?_) (fun c_126 => ?_)
                            · refine r_aload_n (pc := 141) 5 dX11_queuesUp_141 rfl rfl ?_
                              refine r_iload_n (pc := 142) 4 dX11_queuesUp_142 rfl rfl ?_
                              refine r_iload (pc := 143) 0 dX11_queuesUp_143 rfl ?_
                              refine r_callV (pc := 145) (As := [(.int (iI ((((qR wt n s0 i).1 : Nat) : Int)))), (.int (iI (((e : Nat) : Int))))]) (S := [(.int (iI (((lcg (qR wt n s0 i).2 % bc (pkS wt n (qR wt n s0 i).1) 8 : Nat) : Int) - ((bc (pkS wt n (qR wt n s0 i).1) e : Nat) : Int))))]) dX11_queuesUp_145 cv_X11_305 hM.k rfl (Nat.le_of_ble_eq_true rfl) (m_mayNext (s := (qR wt n s0 i).1) (c := e) l z _ hM (hD1.mv (stF_n _ _ _ (by decide)) (stF_n _ _ _ (by decide)) (stF_n _ _ _ (by decide)) (stF_n _ _ _ (by decide))) (by omega) (by omega)) (Nat.zero_le _) (Nat.zero_le _) (fun r_145 g_145 f_145 q_145 => ?_)
                              obtain ⟨rfl, rfl, rfl⟩ := q_145
                              refine r_eqI (y := b01 ((nxM wt n (qR wt n s0 i).1).testBit e = true)) (b01_iff (nx_may (by omega)).symm) ?_
                              refine r_if_eq (pc := 148) (tgt := 155) dX11_queuesUp_148 (by decide) (b01_r) (fun c_148 => ?_) (fun c_148 => ?_)
                              · replace c_148 := b01_z c_148
                                exact absurd c_114 c_148
                              · replace c_148 := b01_nz c_148
                                refine r_iconst (pc := 151) dX11_queuesUp_151 ?_
                                refine r_goto (pc := 152) (tgt := 156) dX11_queuesUp_152 (by decide) ?_
                                refine r_isub (pc := 156) dX11_queuesUp_156 ?_
                                refine r_istore (pc := 157) (L2 := [(5, (.int (iI ((((lcg (qR wt n s0 i).2 % bc (pkS wt n (qR wt n s0 i).1) 8 : Nat) : Int) - ((bc (pkS wt n (qR wt n s0 i).1) e : Nat) : Int)) - (1))))), (6, (.int (iI (((e : Nat) : Int))))), (4, (.int (iI (0)))), (2, (.int (iI (((i : Nat) : Int))))), (1, (.int (iI ((((qR wt n s0 i).1 : Nat) : Int))))), (0, (.ref 164))]) dX11_queuesUp_157 (by decide) rfl ?_
                                refine r_iincv (pc := 159) (y := ((e + 1 : Nat) : Int)) (L2 := [(6, (.int (iI (((e + 1 : Nat) : Int))))), (5, (.int (iI ((((lcg (qR wt n s0 i).2 % bc (pkS wt n (qR wt n s0 i).1) 8 : Nat) : Int) - ((bc (pkS wt n (qR wt n s0 i).1) e : Nat) : Int)) - (1))))), (4, (.int (iI (0)))), (2, (.int (iI (((i : Nat) : Int))))), (1, (.int (iI ((((qR wt n s0 i).1 : Nat) : Int))))), (0, (.ref 164))]) 1 dX11_queuesUp_159 rfl (by omega) (by decide) rfl ?_
                                refine r_goto (pc := 162) (tgt := 85) dX11_queuesUp_162 (by decide) ?_
                                have hbs : bc (pkS wt n (qR wt n s0 i).1) (e + 1) = bc (pkS wt n (qR wt n s0 i).1) e + 1 := by rw [bc_s, if_pos ((hbit e (by omega)).mpr c_148)]
                                have hlt : e < qO wt n s0 i := by
                                  rcases Nat.lt_or_eq_of_le he with h | h
                                  · exact h
                                  · exfalso
                                    have hb1 : (pkS wt n (qR wt n s0 i).1).testBit e = true := by rw [h, hC]; exact hdk.2.1
                                    have hb2 : bc (pkS wt n (qR wt n s0 i).1) e = lcg (qR wt n s0 i).2 % bc (pkS wt n (qR wt n s0 i).1) 8 := by rw [h, hC]; exact hdk.2.2
                                    first | exact absurd hb1 (fun _ => by omega) | omega
                                refine r_sub (L2 := [(6, (.int (iI (((e + 1 : Nat) : Int))))), (5, (.int (iI (((lcg (qR wt n s0 i).2 % bc (pkS wt n (qR wt n s0 i).1) 8 : Nat) : Int) - ((bc (pkS wt n (qR wt n s0 i).1) (e + 1) : Nat) : Int))))), (4, (.int (iI (0)))), (2, (.int (iI (((i : Nat) : Int))))), (1, (.int (iI ((((qR wt n s0 i).1 : Nat) : Int))))), (0, (.ref 164))]) [0, 1, 2, 3, 4, 5] (by rw [hbs, show ((lcg (qR wt n s0 i).2 % bc (pkS wt n (qR wt n s0 i).1) 8 : Nat) : Int) - ((bc (pkS wt n (qR wt n s0 i).1) e + 1 : Nat) : Int) = ((lcg (qR wt n s0 i).2 % bc (pkS wt n (qR wt n s0 i).1) 8 : Nat) : Int) - ((bc (pkS wt n (qR wt n s0 i).1) e : Nat) : Int) - 1 by omega]; rfl) ?_
                                exact ih3 (qO wt n s0 i - (e + 1)) (by omega) (e + 1) rfl (by omega)
                            · exact absurd c_126 (by decide)
                      · exact absurd c_87 (by decide)
                  refine r_sub (L2 := [(6, (.int (iI (((0 : Nat) : Int))))), (5, (.int (iI (((lcg (qR wt n s0 i).2 % bc (pkS wt n (qR wt n s0 i).1) 8 : Nat) : Int) - ((bc (pkS wt n (qR wt n s0 i).1) 0 : Nat) : Int))))), (4, (.int (iI (0)))), (2, (.int (iI (((i : Nat) : Int))))), (1, (.int (iI ((((qR wt n s0 i).1 : Nat) : Int))))), (0, (.ref 164))]) [0, 1, 2, 4, 5, 6] (by rw [show ((lcg (qR wt n s0 i).2 % bc (pkS wt n (qR wt n s0 i).1) 8 : Nat) : Int) - ((bc (pkS wt n (qR wt n s0 i).1) 0 : Nat) : Int) = ((lcg (qR wt n s0 i).2 % bc (pkS wt n (qR wt n s0 i).1) 8 : Nat) : Int) from by show _ - ((0 : Nat) : Int) = _; omega]; rfl) ?_
                  exact find _ 0 rfl (by omega)
                · exact absurd c_64 (by decide)
              · have hz : nxM wt n (qR wt n s0 i).1 = 0 := bc_z hnl (by have h := c_51; rw [hcn] at h; omega)
                have hpk : (pkS wt n (qR wt n s0 i).1) = ndf (2 ^ n - 1) (qR wt n s0 i).1 := by unfold pkS; rw [if_pos hz]
                have hpk8 : bc (pkS wt n (qR wt n s0 i).1) 8 = n - i := by rw [bc_hi pkS_lt 8 hn8, hpk, bc_left n (Nat.le_refl _), hqi.2]
                refine r_iconst (pc := 54) dX11_queuesUp_54 ?_
                refine r_goto (pc := 55) (tgt := 59) dX11_queuesUp_55 (by decide) ?_
                refine r_istore (pc := 59) (L2 := [(4, (.int (iI (1)))), (3, (.int (iI (((bc (nxM wt n (qR wt n s0 i).1) c : Nat) : Int))))), (2, (.int (iI (((i : Nat) : Int))))), (1, (.int (iI ((((qR wt n s0 i).1 : Nat) : Int))))), (0, (.ref 164))]) dX11_queuesUp_59 (by decide) rfl ?_
                refine r_aload_n (pc := 61) 4 dX11_queuesUp_61 rfl rfl ?_
                refine r_iload (pc := 62) 0 dX11_queuesUp_62 rfl ?_
                refine r_if_eq (pc := 64) (tgt := 76) dX11_queuesUp_64 (by decide) (by omega) (fun c_64 => ?_) (fun c_64 => ?_)
                · exact absurd c_64 (by decide)
                · refine r_aload_n (pc := 67) 4 dX11_queuesUp_67 rfl rfl ?_
                  refine r_callV (pc := 68) (As := []) (S := [(.ref 164)]) dX11_queuesUp_68 cv_X11_121 hM.k rfl (Nat.le_of_ble_eq_true rfl) (m_cust (v := ((n : Nat) : Int)) l z _ hM hD1.n) (Nat.zero_le _) (Nat.zero_le _) (fun r_68 g_68 f_68 q_68 => ?_)
                  obtain ⟨rfl, rfl, rfl⟩ := q_68
                  refine r_iload_n (pc := 71) 2 dX11_queuesUp_71 rfl rfl ?_
                  refine r_isub (pc := 72) dX11_queuesUp_72 ?_
                  refine r_goto (pc := 73) (tgt := 77) dX11_queuesUp_73 (by decide) ?_
                  refine r_eqI (y := ((bc (pkS wt n (qR wt n s0 i).1) 8 : Nat) : Int)) (by rw [hpk8]; omega) ?_
                  refine r_callV (pc := 77) (As := [(.int (iI (((bc (pkS wt n (qR wt n s0 i).1) 8 : Nat) : Int))))]) (S := []) dX11_queuesUp_77 cv_X11_375 hM.k rfl (Nat.le_of_ble_eq_true rfl) (m_draws (sd := (qR wt n s0 i).2) (k := bc (pkS wt n (qR wt n s0 i).1) 8) l z _ hM hsd (qR_sd wt n hs0 i) hpp) (Nat.zero_le _) (Nat.zero_le _) (fun r_77 g_77 f_77 q_77 => ?_)
                  obtain ⟨rfl, rfl, rfl⟩ := q_77
                  refine r_istore (pc := 80) (L2 := [(5, (.int (iI (((lcg (qR wt n s0 i).2 % bc (pkS wt n (qR wt n s0 i).1) 8 : Nat) : Int))))), (4, (.int (iI (1)))), (3, (.int (iI (((bc (nxM wt n (qR wt n s0 i).1) c : Nat) : Int))))), (2, (.int (iI (((i : Nat) : Int))))), (1, (.int (iI ((((qR wt n s0 i).1 : Nat) : Int))))), (0, (.ref 164))]) dX11_queuesUp_80 (by decide) rfl ?_
                  refine r_iconst (pc := 82) dX11_queuesUp_82 ?_
                  refine r_istore (pc := 83) (L2 := [(6, (.int (iI (0)))), (5, (.int (iI (((lcg (qR wt n s0 i).2 % bc (pkS wt n (qR wt n s0 i).1) 8 : Nat) : Int))))), (4, (.int (iI (1)))), (3, (.int (iI (((bc (nxM wt n (qR wt n s0 i).1) c : Nat) : Int))))), (2, (.int (iI (((i : Nat) : Int))))), (1, (.int (iI ((((qR wt n s0 i).1 : Nat) : Int))))), (0, (.ref 164))]) dX11_queuesUp_83 (by decide) rfl ?_
                  have hbit : ∀ e, e < n → ((pkS wt n (qR wt n s0 i).1).testBit e = true ↔ ¬ (qR wt n s0 i).1.testBit e = true) := fun e he => by rw [hpk]; exact left_bit he
                  have hmd := Nat.mod_lt (lcg (qR wt n s0 i).2) hpp.1
                  have hdk := drw_ok (s := (pkS wt n (qR wt n s0 i).1)) (r := lcg (qR wt n s0 i).2 % bc (pkS wt n (qR wt n s0 i).1) 8) hmd
                  have hC : qO wt n s0 i = drw (pkS wt n (qR wt n s0 i).1) (lcg (qR wt n s0 i).2 % bc (pkS wt n (qR wt n s0 i).1) 8) := rfl
                  have find : ∀ m e : Nat, m = qO wt n s0 i - e → e ≤ qO wt n s0 i → PW l z (d + 2) mX11_queuesUp 0 0 (fun r g' f' => r = none ∧ g = g' ∧ (∀ b, b ≠ 164 → b ≠ 184 → f' b = f b) ∧ (∀ k, k ≠ 44 → f' 164 k = f 164 k) ∧ f' 164 44 = (((qR wt n s0 n).2 : Nat) : Int) ∧ ∀ i, i < n → f' 184 i = ((qO wt n s0 i : Nat) : Int)) 85 [(6, (.int (iI (((e : Nat) : Int))))), (5, (.int (iI (((lcg (qR wt n s0 i).2 % bc (pkS wt n (qR wt n s0 i).1) 8 : Nat) : Int) - ((bc (pkS wt n (qR wt n s0 i).1) e : Nat) : Int))))), (4, (.int (iI (1)))), (2, (.int (iI (((i : Nat) : Int))))), (1, (.int (iI ((((qR wt n s0 i).1 : Nat) : Int))))), (0, (.ref 164))] [] g (stF f1 164 44 (((lcg (qR wt n s0 i).2 : Nat) : Int))) 0 0 := by
                    intro m
                    induction m using Nat.strongRecOn with
                    | _ m ih3 =>
                      intro e hm he
                      have hbm := bc_mono (pkS wt n (qR wt n s0 i).1) (j := e) (qO wt n s0 i) he
                      rw [hC, hdk.2.2] at hbm
                      have hbl := bc_le (pkS wt n (qR wt n s0 i).1) e
                      refine r_iload (pc := 85) 2 dX11_queuesUp_85 rfl ?_
                      refine r_if_eq (pc := 87) (tgt := 107) dX11_queuesUp_87 (by decide) (by omega) (fun c_87 => ?_) (fun c_87 => ?_)
                      · exact absurd c_87 (by decide)
                      · refine r_iload_n (pc := 90) 4 dX11_queuesUp_90 rfl rfl ?_
                        refine r_iload (pc := 91) 0 dX11_queuesUp_91 rfl ?_
                        refine r_callS (pc := 93) (As := [(.int (iI ((((qR wt n s0 i).1 : Nat) : Int)))), (.int (iI (((e : Nat) : Int))))]) (S := []) dX11_queuesUp_93 cs_X11_287 rfl (Nat.le_of_ble_eq_true rfl) (m_isIn (s := (qR wt n s0 i).1) (c := e) l z _ (by omega) (by omega)) (Nat.zero_le _) (Nat.zero_le _) (fun r_93 g_93 f_93 q_93 => ?_)
                        obtain ⟨rfl, rfl, rfl⟩ := q_93
                        refine r_if_ne (pc := 96) (tgt := 122) dX11_queuesUp_96 (by decide) (b01_r) (fun c_96 => ?_) (fun c_96 => ?_)
                        · replace c_96 := b01_nz c_96
                          refine r_iload (pc := 122) 1 dX11_queuesUp_122 rfl ?_
                          refine r_iload (pc := 124) 2 dX11_queuesUp_124 rfl ?_
                          refine r_if_eq (pc := 126) (tgt := 141) dX11_queuesUp_126 (by decide) (by omega) (fun c_126 => ?_) (fun c_126 => ?_)
                          · exact absurd c_126 (by decide)
                          · refine r_iload_n (pc := 129) 4 dX11_queuesUp_129 rfl rfl ?_
                            refine r_iload (pc := 130) 0 dX11_queuesUp_130 rfl ?_
                            refine r_callS (pc := 132) (As := [(.int (iI ((((qR wt n s0 i).1 : Nat) : Int)))), (.int (iI (((e : Nat) : Int))))]) (S := [(.int (iI (((lcg (qR wt n s0 i).2 % bc (pkS wt n (qR wt n s0 i).1) 8 : Nat) : Int) - ((bc (pkS wt n (qR wt n s0 i).1) e : Nat) : Int))))]) dX11_queuesUp_132 cs_X11_287 rfl (Nat.le_of_ble_eq_true rfl) (m_isIn (s := (qR wt n s0 i).1) (c := e) l z _ (by omega) (by omega)) (Nat.zero_le _) (Nat.zero_le _) (fun r_132 g_132 f_132 q_132 => ?_)
                            obtain ⟨rfl, rfl, rfl⟩ := q_132
                            refine r_if_ne (pc := 135) (tgt := 155) dX11_queuesUp_135 (by decide) (b01_r) (fun c_135 => ?_) (fun c_135 => ?_)
                            · replace c_135 := b01_nz c_135
                              refine r_iconst (pc := 155) dX11_queuesUp_155 ?_
                              refine r_isub (pc := 156) dX11_queuesUp_156 ?_
                              refine r_istore (pc := 157) (L2 := [(5, (.int (iI ((((lcg (qR wt n s0 i).2 % bc (pkS wt n (qR wt n s0 i).1) 8 : Nat) : Int) - ((bc (pkS wt n (qR wt n s0 i).1) e : Nat) : Int)) - (0))))), (6, (.int (iI (((e : Nat) : Int))))), (4, (.int (iI (1)))), (2, (.int (iI (((i : Nat) : Int))))), (1, (.int (iI ((((qR wt n s0 i).1 : Nat) : Int))))), (0, (.ref 164))]) dX11_queuesUp_157 (by decide) rfl ?_
                              refine r_iincv (pc := 159) (y := ((e + 1 : Nat) : Int)) (L2 := [(6, (.int (iI (((e + 1 : Nat) : Int))))), (5, (.int (iI ((((lcg (qR wt n s0 i).2 % bc (pkS wt n (qR wt n s0 i).1) 8 : Nat) : Int) - ((bc (pkS wt n (qR wt n s0 i).1) e : Nat) : Int)) - (0))))), (4, (.int (iI (1)))), (2, (.int (iI (((i : Nat) : Int))))), (1, (.int (iI ((((qR wt n s0 i).1 : Nat) : Int))))), (0, (.ref 164))]) 1 dX11_queuesUp_159 rfl (by omega) (by decide) rfl ?_
                              refine r_goto (pc := 162) (tgt := 85) dX11_queuesUp_162 (by decide) ?_
                              have hbs : bc (pkS wt n (qR wt n s0 i).1) (e + 1) = bc (pkS wt n (qR wt n s0 i).1) e + 0 := by rw [bc_s, if_neg (fun q => (hbit e (by omega)).mp q c_135)]
                              have hlt : e < qO wt n s0 i := by
                                rcases Nat.lt_or_eq_of_le he with h | h
                                · exact h
                                · exfalso
                                  have hb1 : (pkS wt n (qR wt n s0 i).1).testBit e = true := by rw [h, hC]; exact hdk.2.1
                                  have hb2 : bc (pkS wt n (qR wt n s0 i).1) e = lcg (qR wt n s0 i).2 % bc (pkS wt n (qR wt n s0 i).1) 8 := by rw [h, hC]; exact hdk.2.2
                                  first | exact absurd hb1 (fun q => (hbit e (by omega)).mp q c_135) | omega
                              refine r_sub (L2 := [(6, (.int (iI (((e + 1 : Nat) : Int))))), (5, (.int (iI (((lcg (qR wt n s0 i).2 % bc (pkS wt n (qR wt n s0 i).1) 8 : Nat) : Int) - ((bc (pkS wt n (qR wt n s0 i).1) (e + 1) : Nat) : Int))))), (4, (.int (iI (1)))), (2, (.int (iI (((i : Nat) : Int))))), (1, (.int (iI ((((qR wt n s0 i).1 : Nat) : Int))))), (0, (.ref 164))]) [0, 1, 2, 3, 4, 5] (by rw [hbs, show ((lcg (qR wt n s0 i).2 % bc (pkS wt n (qR wt n s0 i).1) 8 : Nat) : Int) - ((bc (pkS wt n (qR wt n s0 i).1) e + 0 : Nat) : Int) = ((lcg (qR wt n s0 i).2 % bc (pkS wt n (qR wt n s0 i).1) 8 : Nat) : Int) - ((bc (pkS wt n (qR wt n s0 i).1) e : Nat) : Int) - 0 by omega]; rfl) ?_
                              exact ih3 (qO wt n s0 i - (e + 1)) (by omega) (e + 1) rfl (by omega)
                            · replace c_135 := b01_z c_135
                              exact absurd c_96 c_135
                        · replace c_96 := b01_z c_96
                          refine r_iload (pc := 99) 1 dX11_queuesUp_99 rfl ?_
                          refine r_if_le (pc := 101) (tgt := 165) dX11_queuesUp_101 (by decide) (by omega) (fun c_101 => ?_) (fun c_101 => ?_)
                          · have heC : e = qO wt n s0 i := by rw [hC]; exact (drw_at (by omega) ((hbit e (by omega)).mpr c_96) (by omega)).symm
                            refine r_sub (L2 := [(6, (.int (iI (((qO wt n s0 i : Nat) : Int))))), (5, (.int (iI (((lcg (qR wt n s0 i).2 % bc (pkS wt n (qR wt n s0 i).1) 8 : Nat) : Int) - ((bc (pkS wt n (qR wt n s0 i).1) e : Nat) : Int))))), (4, (.int (iI (1)))), (2, (.int (iI (((i : Nat) : Int))))), (1, (.int (iI ((((qR wt n s0 i).1 : Nat) : Int))))), (0, (.ref 164))]) [0, 1, 2, 3, 4, 5] (by rw [← heC]; rfl) ?_
                            refine r_aload_n (pc := 165) 5 dX11_queuesUp_165 rfl rfl ?_
                            refine r_getR (pc := 166) (b := 184) dX11_queuesUp_166 fl_X11_76 rfl hM.k hM.r32 ?_
                            refine r_iload_n (pc := 169) 3 dX11_queuesUp_169 rfl rfl ?_
                            refine r_iload (pc := 170) 0 dX11_queuesUp_170 rfl ?_
                            refine r_iastv (pc := 172) (i := i) dX11_queuesUp_172 hM.a32 (by omega) (by decide) rfl ?_
                            refine r_iload_n (pc := 173) 4 dX11_queuesUp_173 rfl rfl ?_
                            refine r_iconst (pc := 174) dX11_queuesUp_174 ?_
                            refine r_iload (pc := 175) 0 dX11_queuesUp_175 rfl ?_
                            refine r_ishl (pc := 177) (w := ((2 ^ (qO wt n s0 i) : Nat) : Int)) dX11_queuesUp_177  (iI_shl1 (by omega)) ?_
                            refine r_ior (pc := 178) (w := ((((qR wt n s0 i).1) ||| (2 ^ (qO wt n s0 i)) : Nat) : Int)) dX11_queuesUp_178  (iI_or _ _) ?_
                            refine r_istore_n (pc := 179) (L2 := [(1, (.int (iI (((((qR wt n s0 i).1) ||| (2 ^ (qO wt n s0 i)) : Nat) : Int))))), (6, (.int (iI (((qO wt n s0 i : Nat) : Int))))), (5, (.int (iI (((lcg (qR wt n s0 i).2 % bc (pkS wt n (qR wt n s0 i).1) 8 : Nat) : Int) - ((bc (pkS wt n (qR wt n s0 i).1) e : Nat) : Int))))), (4, (.int (iI (1)))), (2, (.int (iI (((i : Nat) : Int))))), (0, (.ref 164))]) dX11_queuesUp_179 rfl (by decide) rfl ?_
                            refine r_iincv (pc := 180) (y := ((i + 1 : Nat) : Int)) (L2 := [(2, (.int (iI (((i + 1 : Nat) : Int))))), (1, (.int (iI (((((qR wt n s0 i).1) ||| (2 ^ (qO wt n s0 i)) : Nat) : Int))))), (6, (.int (iI (((qO wt n s0 i : Nat) : Int))))), (5, (.int (iI (((lcg (qR wt n s0 i).2 % bc (pkS wt n (qR wt n s0 i).1) 8 : Nat) : Int) - ((bc (pkS wt n (qR wt n s0 i).1) e : Nat) : Int))))), (4, (.int (iI (1)))), (0, (.ref 164))]) 4 dX11_queuesUp_180 rfl (by omega) (by decide) rfl ?_
                            refine r_goto (pc := 183) (tgt := 4) dX11_queuesUp_183 (by decide) ?_
                            refine r_sub (L2 := [(2, (.int (iI (((i + 1 : Nat) : Int))))), (1, (.int (iI ((((qR wt n s0 (i + 1)).1 : Nat) : Int))))), (0, (.ref 164))]) [0, 1, 5] rfl ?_
                            exact ih (n - (i + 1)) (by omega) (i + 1) (by omega) (by omega) _ (fun b h1 h2 => by rw [stF_n _ _ _ h2, stF_n _ _ _ h1]; exact hF1 b h1 h2) (fun k hk => rdn (by decide) (rdi hk (hF2 k hk))) (rdn (by decide) (stF_s _ _ _ _)) (fun j hj => by
                              rcases Nat.lt_succ_iff_lt_or_eq.mp hj with h | h
                              · exact rdi (by omega) (rdn (by decide) (hR1 j h))
                              · subst h; exact stF_s _ _ _ _)
                          · refine r_goto (pc := 104) (tgt := 122) dX11_queuesUp_104 (by decide) ?_
                            refine r_iload (pc := 122) 1 dX11_queuesUp_122 rfl ?_
                            refine r_iload (pc := 124) 2 dX11_queuesUp_124 rfl ?_
                            refine r_if_eq (pc := 126) (tgt := 141) dX11_queuesUp_126 (by decide) (by omega) (fun c_126 => ?_) (fun c_126 => ?_)
                            · exact absurd c_126 (by decide)
                            · refine r_iload_n (pc := 129) 4 dX11_queuesUp_129 rfl rfl ?_
                              refine r_iload (pc := 130) 0 dX11_queuesUp_130 rfl ?_
                              refine r_callS (pc := 132) (As := [(.int (iI ((((qR wt n s0 i).1 : Nat) : Int)))), (.int (iI (((e : Nat) : Int))))]) (S := [(.int (iI (((lcg (qR wt n s0 i).2 % bc (pkS wt n (qR wt n s0 i).1) 8 : Nat) : Int) - ((bc (pkS wt n (qR wt n s0 i).1) e : Nat) : Int))))]) dX11_queuesUp_132 cs_X11_287 rfl (Nat.le_of_ble_eq_true rfl) (m_isIn (s := (qR wt n s0 i).1) (c := e) l z _ (by omega) (by omega)) (Nat.zero_le _) (Nat.zero_le _) (fun r_132 g_132 f_132 q_132 => ?_)
                              obtain ⟨rfl, rfl, rfl⟩ := q_132
                              refine r_if_ne (pc := 135) (tgt := 155) dX11_queuesUp_135 (by decide) (b01_r) (fun c_135 => ?_) (fun c_135 => ?_)
                              · replace c_135 := b01_nz c_135
                                exact absurd c_135 c_96
                              · replace c_135 := b01_z c_135
                                refine r_goto (pc := 138) (tgt := 151) dX11_queuesUp_138 (by decide) ?_
                                refine r_iconst (pc := 151) dX11_queuesUp_151 ?_
                                refine r_goto (pc := 152) (tgt := 156) dX11_queuesUp_152 (by decide) ?_
                                refine r_isub (pc := 156) dX11_queuesUp_156 ?_
                                refine r_istore (pc := 157) (L2 := [(5, (.int (iI ((((lcg (qR wt n s0 i).2 % bc (pkS wt n (qR wt n s0 i).1) 8 : Nat) : Int) - ((bc (pkS wt n (qR wt n s0 i).1) e : Nat) : Int)) - (1))))), (6, (.int (iI (((e : Nat) : Int))))), (4, (.int (iI (1)))), (2, (.int (iI (((i : Nat) : Int))))), (1, (.int (iI ((((qR wt n s0 i).1 : Nat) : Int))))), (0, (.ref 164))]) dX11_queuesUp_157 (by decide) rfl ?_
                                refine r_iincv (pc := 159) (y := ((e + 1 : Nat) : Int)) (L2 := [(6, (.int (iI (((e + 1 : Nat) : Int))))), (5, (.int (iI ((((lcg (qR wt n s0 i).2 % bc (pkS wt n (qR wt n s0 i).1) 8 : Nat) : Int) - ((bc (pkS wt n (qR wt n s0 i).1) e : Nat) : Int)) - (1))))), (4, (.int (iI (1)))), (2, (.int (iI (((i : Nat) : Int))))), (1, (.int (iI ((((qR wt n s0 i).1 : Nat) : Int))))), (0, (.ref 164))]) 1 dX11_queuesUp_159 rfl (by omega) (by decide) rfl ?_
                                refine r_goto (pc := 162) (tgt := 85) dX11_queuesUp_162 (by decide) ?_
                                have hbs : bc (pkS wt n (qR wt n s0 i).1) (e + 1) = bc (pkS wt n (qR wt n s0 i).1) e + 1 := by rw [bc_s, if_pos ((hbit e (by omega)).mpr c_135)]
                                have hlt : e < qO wt n s0 i := by
                                  rcases Nat.lt_or_eq_of_le he with h | h
                                  · exact h
                                  · exfalso
                                    have hb1 : (pkS wt n (qR wt n s0 i).1).testBit e = true := by rw [h, hC]; exact hdk.2.1
                                    have hb2 : bc (pkS wt n (qR wt n s0 i).1) e = lcg (qR wt n s0 i).2 % bc (pkS wt n (qR wt n s0 i).1) 8 := by rw [h, hC]; exact hdk.2.2
                                    first | exact absurd hb1 (fun _ => by omega) | omega
                                refine r_sub (L2 := [(6, (.int (iI (((e + 1 : Nat) : Int))))), (5, (.int (iI (((lcg (qR wt n s0 i).2 % bc (pkS wt n (qR wt n s0 i).1) 8 : Nat) : Int) - ((bc (pkS wt n (qR wt n s0 i).1) (e + 1) : Nat) : Int))))), (4, (.int (iI (1)))), (2, (.int (iI (((i : Nat) : Int))))), (1, (.int (iI ((((qR wt n s0 i).1 : Nat) : Int))))), (0, (.ref 164))]) [0, 1, 2, 3, 4, 5] (by rw [hbs, show ((lcg (qR wt n s0 i).2 % bc (pkS wt n (qR wt n s0 i).1) 8 : Nat) : Int) - ((bc (pkS wt n (qR wt n s0 i).1) e + 1 : Nat) : Int) = ((lcg (qR wt n s0 i).2 % bc (pkS wt n (qR wt n s0 i).1) 8 : Nat) : Int) - ((bc (pkS wt n (qR wt n s0 i).1) e : Nat) : Int) - 1 by omega]; rfl) ?_
                                exact ih3 (qO wt n s0 i - (e + 1)) (by omega) (e + 1) rfl (by omega)
                  refine r_sub (L2 := [(6, (.int (iI (((0 : Nat) : Int))))), (5, (.int (iI (((lcg (qR wt n s0 i).2 % bc (pkS wt n (qR wt n s0 i).1) 8 : Nat) : Int) - ((bc (pkS wt n (qR wt n s0 i).1) 0 : Nat) : Int))))), (4, (.int (iI (1)))), (2, (.int (iI (((i : Nat) : Int))))), (1, (.int (iI ((((qR wt n s0 i).1 : Nat) : Int))))), (0, (.ref 164))]) [0, 1, 2, 4, 5, 6] (by rw [show ((lcg (qR wt n s0 i).2 % bc (pkS wt n (qR wt n s0 i).1) 8 : Nat) : Int) - ((bc (pkS wt n (qR wt n s0 i).1) 0 : Nat) : Int) = ((lcg (qR wt n s0 i).2 % bc (pkS wt n (qR wt n s0 i).1) 8 : Nat) : Int) from by show _ - ((0 : Nat) : Int) = _; omega]; rfl) ?_
                  exact find _ 0 rfl (by omega)
            · refine r_iload_n (pc := 26) 1 dX11_queuesUp_26 rfl rfl ?_
              refine r_aload_n (pc := 27) 4 dX11_queuesUp_27 rfl rfl ?_
              refine r_iload_n (pc := 28) 3 dX11_queuesUp_28 rfl rfl ?_
              refine r_iload (pc := 29) 0 dX11_queuesUp_29 rfl ?_
              refine r_callV (pc := 31) (As := [(.int (iI ((((qR wt n s0 i).1 : Nat) : Int)))), (.int (iI (((c : Nat) : Int))))]) (S := [(.int (iI (((bc (nxM wt n (qR wt n s0 i).1) c : Nat) : Int))))]) dX11_queuesUp_31 cv_X11_305 hM.k rfl (Nat.le_of_ble_eq_true rfl) (m_mayNext (s := (qR wt n s0 i).1) (c := c) l z _ hM hD1 (by omega) (by omega)) (Nat.zero_le _) (Nat.zero_le _) (fun r_31 g_31 f_31 q_31 => ?_)
              obtain ⟨rfl, rfl, rfl⟩ := q_31
              refine r_eqI (y := b01 ((nxM wt n (qR wt n s0 i).1).testBit c = true)) (b01_iff (nx_may (by omega)).symm) ?_
              refine r_if_eq (pc := 34) (tgt := 41) dX11_queuesUp_34 (by decide) (b01_r) (fun c_34 => ?_) (fun c_34 => ?_)
              · replace c_34 := b01_z c_34
                refine r_iconst (pc := 41) dX11_queuesUp_41 ?_
                refine r_iadd (pc := 42) dX11_queuesUp_42 ?_
                refine r_eqI (y := ((bc (nxM wt n (qR wt n s0 i).1) c + 0 : Nat) : Int)) (Int.natCast_add _ _ |>.symm) ?_
                refine r_istore_n (pc := 43) (L2 := [(3, (.int (iI (((bc (nxM wt n (qR wt n s0 i).1) c + 0 : Nat) : Int))))), (4, (.int (iI (((c : Nat) : Int))))), (2, (.int (iI (((i : Nat) : Int))))), (1, (.int (iI ((((qR wt n s0 i).1 : Nat) : Int))))), (0, (.ref 164))]) dX11_queuesUp_43 rfl (by decide) rfl ?_
                refine r_iincv (pc := 44) (y := ((c + 1 : Nat) : Int)) (L2 := [(4, (.int (iI (((c + 1 : Nat) : Int))))), (3, (.int (iI (((bc (nxM wt n (qR wt n s0 i).1) c + 0 : Nat) : Int))))), (2, (.int (iI (((i : Nat) : Int))))), (1, (.int (iI ((((qR wt n s0 i).1 : Nat) : Int))))), (0, (.ref 164))]) 1 dX11_queuesUp_44 rfl (by omega) (by decide) rfl ?_
                refine r_goto (pc := 47) (tgt := 17) dX11_queuesUp_47 (by decide) ?_
                have hbs : bc (nxM wt n (qR wt n s0 i).1) (c + 1) = bc (nxM wt n (qR wt n s0 i).1) c + 0 := by rw [bc_s, if_neg c_34]
                refine r_sub (L2 := [(4, (.int (iI (((c + 1 : Nat) : Int))))), (3, (.int (iI (((bc (nxM wt n (qR wt n s0 i).1) (c + 1) : Nat) : Int))))), (2, (.int (iI (((i : Nat) : Int))))), (1, (.int (iI ((((qR wt n s0 i).1 : Nat) : Int))))), (0, (.ref 164))]) [0, 1, 2, 3, 4] (by rw [hbs]; rfl) ?_
                exact ih2 (n - (c + 1)) (by omega) (c + 1) (by omega) (by omega)
              · replace c_34 := b01_nz c_34
                refine r_iconst (pc := 37) dX11_queuesUp_37 ?_
                refine r_goto (pc := 38) (tgt := 42) dX11_queuesUp_38 (by decide) ?_
                refine r_iadd (pc := 42) dX11_queuesUp_42 ?_
                refine r_eqI (y := ((bc (nxM wt n (qR wt n s0 i).1) c + 1 : Nat) : Int)) (Int.natCast_add _ _ |>.symm) ?_
                refine r_istore_n (pc := 43) (L2 := [(3, (.int (iI (((bc (nxM wt n (qR wt n s0 i).1) c + 1 : Nat) : Int))))), (4, (.int (iI (((c : Nat) : Int))))), (2, (.int (iI (((i : Nat) : Int))))), (1, (.int (iI ((((qR wt n s0 i).1 : Nat) : Int))))), (0, (.ref 164))]) dX11_queuesUp_43 rfl (by decide) rfl ?_
                refine r_iincv (pc := 44) (y := ((c + 1 : Nat) : Int)) (L2 := [(4, (.int (iI (((c + 1 : Nat) : Int))))), (3, (.int (iI (((bc (nxM wt n (qR wt n s0 i).1) c + 1 : Nat) : Int))))), (2, (.int (iI (((i : Nat) : Int))))), (1, (.int (iI ((((qR wt n s0 i).1 : Nat) : Int))))), (0, (.ref 164))]) 1 dX11_queuesUp_44 rfl (by omega) (by decide) rfl ?_
                refine r_goto (pc := 47) (tgt := 17) dX11_queuesUp_47 (by decide) ?_
                have hbs : bc (nxM wt n (qR wt n s0 i).1) (c + 1) = bc (nxM wt n (qR wt n s0 i).1) c + 1 := by rw [bc_s, if_pos c_34]
                refine r_sub (L2 := [(4, (.int (iI (((c + 1 : Nat) : Int))))), (3, (.int (iI (((bc (nxM wt n (qR wt n s0 i).1) (c + 1) : Nat) : Int))))), (2, (.int (iI (((i : Nat) : Int))))), (1, (.int (iI ((((qR wt n s0 i).1 : Nat) : Int))))), (0, (.ref 164))]) [0, 1, 2, 3, 4] (by rw [hbs]; rfl) ?_
                exact ih2 (n - (c + 1)) (by omega) (c + 1) (by omega) (by omega)
        refine r_sub (L2 := [(4, (.int (iI (((0 : Nat) : Int))))), (3, (.int (iI (((bc (nxM wt n (qR wt n s0 i).1) 0 : Nat) : Int))))), (2, (.int (iI (((i : Nat) : Int))))), (1, (.int (iI ((((qR wt n s0 i).1 : Nat) : Int))))), (0, (.ref 164))]) [0, 1, 2, 3, 4] rfl ?_
        exact inner n 0 (by omega) (by omega)
  refine r_iconst (pc := 0) dX11_queuesUp_0 ?_
  refine r_istore_n (pc := 1) (L2 := [(1, (.int (iI (0)))), (0, (.ref 164))]) dX11_queuesUp_1 rfl (by decide) rfl ?_
  refine r_iconst (pc := 2) dX11_queuesUp_2 ?_
  refine r_istore_n (pc := 3) (L2 := [(2, (.int (iI (0)))), (1, (.int (iI (0)))), (0, (.ref 164))]) dX11_queuesUp_3 rfl (by decide) rfl ?_
  refine r_sub (L2 := [(2, (.int (iI (((0 : Nat) : Int))))), (1, (.int (iI ((((qR wt n s0 0).1 : Nat) : Int))))), (0, (.ref 164))]) [0, 1, 2] rfl ?_
  exact outer n 0 (by omega) (by omega) f (fun _ _ _ => rfl) (fun _ _ => rfl) hsd0 (fun j hj => absurd hj (by omega))

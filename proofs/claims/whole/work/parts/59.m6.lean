theorem TkO.mem {f f' : Fm} {B : Nat → Int} {t i : Nat} (h : TkO f B t i) (hf : ∀ a, a = 172 ∨ a = 173 ∨ a = 174 → f' a = f a) : TkO f' B t i := by
  unfold TkO at h ⊢
  rw [hf 172 (by omega), hf 173 (by omega), hf 174 (by omega)]
  exact h

set_option maxRecDepth 100000 in
set_option maxHeartbeats 4000000 in
theorem m_fineB (l : Launch) (z : Zv) (d : Nat) {g : Gm} {f : Fm} {y : Nat} (hM : ML g) (hb : f 164 17 = ((y : Nat) : Int)) (hy : y ≤ 400) : PM l z d mX11_fine [(.ref 164)] g f 0 0 (rdQ (.int (iI 0)) g f) := by
  refine PM.of (by decide +kernel) (Nat.le_of_ble_eq_true rfl) ?_
  refine r_aload_n (pc := 0) 0 dX11_fine_0 rfl rfl ?_
  refine r_getIv (pc := 1) (x := ((y : Nat) : Int)) dX11_fine_1 fl_X11_169 rfl hM.k (hb) ?_
  refine r_iconst (pc := 4) dX11_fine_4 ?_
  refine r_icmp_ne (pc := 5) (tgt := 12) dX11_fine_5 (by decide) (by omega) (by omega) (fun c_5 => ?_) (fun c_5 => ?_)
  · refine r_iconst (pc := 12) dX11_fine_12 ?_
    exact r_iret (pc := 13) dX11_fine_13 rfl rfl ⟨rfl, rfl, rfl⟩
  · exfalso; omega

set_option maxRecDepth 100000 in
set_option maxHeartbeats 4000000 in
theorem m_reads (l : Launch) (z : Zv) {g : Gm} {f : Fm} {A B : Nat → Int} {t : Nat} (hM : ML g) (hwd : ∀ k, k < 66 → f 169 k = wdl.getD k 0) (hA : ∀ i, f 170 i = A i) (hS : SB A B) (ht : f 164 9 = ((t : Nat) : Int)) (ht4 : t ≤ 400) {D : Nat} (hD : 240 ≤ D) : PM l z D mX11_reads [.ref 164] g f 0 0 (fun r g' f' => g = g' ∧ ∃ T, T ≤ 400 ∧ (∀ a, a ≠ 164 → a ≠ 172 → a ≠ 173 → a ≠ 174 → f' a = f a) ∧ (∀ i, i ≠ 9 → i ≠ 10 → i ≠ 14 → i ≠ 15 → i ≠ 16 → i ≠ 17 → f' 164 i = f 164 i) ∧ f' 164 9 = 0 ∧ f' 164 14 = ((T : Nat) : Int) ∧ (∀ i, i < T → pl B t i < t) ∧ t ≤ pl B t T ∧ (∀ i, i ≤ T → TkO f' B t i) ∧ ((∃ x, sLaw (cj B t) (vj B t) (enj B t) 12 0 0 [] = .error x ∧ r = some (.int (iI 0)) ∧ f' 164 10 = ((pl B t x : Nat) : Int)) ∨ (∃ cls, sLaw (cj B t) (vj B t) (enj B t) 12 0 0 [] = .ok cls ∧ r = some (.int (iI 1)) ∧ f' 164 10 = -1 ∧ 1 ≤ T))) := by
  obtain ⟨d, rfl⟩ : ∃ d, D = d + 8 := ⟨D - 8, by omega⟩
  refine PM.of (by decide +kernel) (Nat.le_of_ble_eq_true rfl) ?_
  have tail : ∀ (T : Nat) (fz : Fm), MT fz (cj B t) (vj B t) (pl B t) T → MG T fz fz 0 0 → (∀ a, a ≠ 164 → a ≠ 172 → a ≠ 173 → a ≠ 174 → fz a = f a) → (∀ i, i ≠ 9 → i ≠ 14 → i ≠ 15 → i ≠ 16 → i ≠ 17 → fz 164 i = f 164 i) → fz 164 9 = 0 → fz 164 14 = ((T : Nat) : Int) → (∀ i, i < T → pl B t i < t) → t ≤ pl B t T → (∀ i, i ≤ T → TkO fz B t i) → PW l z (d + 8) mX11_reads 0 0 (fun r g' f' => g = g' ∧ ∃ T, T ≤ 400 ∧ (∀ a, a ≠ 164 → a ≠ 172 → a ≠ 173 → a ≠ 174 → f' a = f a) ∧ (∀ i, i ≠ 9 → i ≠ 10 → i ≠ 14 → i ≠ 15 → i ≠ 16 → i ≠ 17 → f' 164 i = f 164 i) ∧ f' 164 9 = 0 ∧ f' 164 14 = ((T : Nat) : Int) ∧ (∀ i, i < T → pl B t i < t) ∧ t ≤ pl B t T ∧ (∀ i, i ≤ T → TkO f' B t i) ∧ ((∃ x, sLaw (cj B t) (vj B t) (enj B t) 12 0 0 [] = .error x ∧ r = some (.int (iI 0)) ∧ f' 164 10 = ((pl B t x : Nat) : Int)) ∨ (∃ cls, sLaw (cj B t) (vj B t) (enj B t) 12 0 0 [] = .ok cls ∧ r = some (.int (iI 1)) ∧ f' 164 10 = -1 ∧ 1 ≤ T))) 28 [(0, (.ref 164))] [] g fz 0 0 := by
    intro T fz hT hG0 hz1 hz2 hz9 hz14 hTl hTe htk
    have ht4T := hT.t4
    have hsum := m_sumT l z hM hT
    have htest := m_testT l z hM hT
    have loopbad : ∀ (n : Nat) (f1 : Fm) (x1 : Nat), MX (pl B t) fz f1 x1 → sLaw (cj B t) (vj B t) (enj B t) 12 0 0 [] = .error x1 → PW l z (d + 8) mX11_reads 0 0 (fun r g' f' => g = g' ∧ ∃ T, T ≤ 400 ∧ (∀ a, a ≠ 164 → a ≠ 172 → a ≠ 173 → a ≠ 174 → f' a = f a) ∧ (∀ i, i ≠ 9 → i ≠ 10 → i ≠ 14 → i ≠ 15 → i ≠ 16 → i ≠ 17 → f' 164 i = f 164 i) ∧ f' 164 9 = 0 ∧ f' 164 14 = ((T : Nat) : Int) ∧ (∀ i, i < T → pl B t i < t) ∧ t ≤ pl B t T ∧ (∀ i, i ≤ T → TkO f' B t i) ∧ ((∃ x, sLaw (cj B t) (vj B t) (enj B t) 12 0 0 [] = .error x ∧ r = some (.int (iI 0)) ∧ f' 164 10 = ((pl B t x : Nat) : Int)) ∨ (∃ cls, sLaw (cj B t) (vj B t) (enj B t) 12 0 0 [] = .ok cls ∧ r = some (.int (iI 1)) ∧ f' 164 10 = -1 ∧ 1 ≤ T))) 34 [(1, (.int (iI (((n : Nat) : Int))))), (0, (.ref 164))] [] g f1 0 0 := by
      intro n f1 x1 hX1 hE
      refine r_aload_n (pc := 34) 1 dX11_reads_34 rfl rfl ?_
      refine r_bipush (pc := 35) dX11_reads_35 (by decide) ?_
      refine r_callS (pc := 37) (As := [(.int (iI (59)))]) (S := [(.ref 164)]) dX11_reads_37 cs_X11_203 rfl (Nat.le_of_ble_eq_true rfl) (m_sign l z _ (59)) (Nat.zero_le _) (Nat.zero_le _) (fun r_37 g_37 f_37 q_37 => ?_)
      obtain ⟨rfl, rfl, rfl⟩ := q_37
      refine r_eqI (y := 159) (by decide) ?_
      refine r_callV (pc := 40) (As := [(.int (iI (159)))]) (S := []) dX11_reads_40 cv_X11_179 hM.k rfl (Nat.le_of_ble_eq_true rfl) (m_takeX l z _ hM hT hX1) (Nat.zero_le _) (Nat.zero_le _) (fun r_40 g_40 f_40 q_40 => ?_)
      obtain ⟨rfl, rfl, rfl⟩ := q_40
      refine r_if_eq (pc := 43) (tgt := 73) dX11_reads_43 (by decide) (by omega) (fun c_43 => ?_) (fun c_43 => ?_)
      · refine r_aload_n (pc := 73) 1 dX11_reads_73 rfl rfl ?_
        refine r_callV (pc := 74) (As := []) (S := []) dX11_reads_74 cv_X11_172 hM.k rfl (Nat.le_of_ble_eq_true rfl) (m_fineX l z _ hM hT hX1) (Nat.zero_le _) (Nat.zero_le _) (fun r_74 g_74 f_74 q_74 => ?_)
        obtain ⟨rfl, rfl, rfl⟩ := q_74
        refine r_if_eq (pc := 77) (tgt := 95) dX11_reads_77 (by decide) (by omega) (fun c_77 => ?_) (fun c_77 => ?_)
        · refine r_aload_n (pc := 95) 1 dX11_reads_95 rfl rfl ?_
          refine r_aload_n (pc := 96) 1 dX11_reads_96 rfl rfl ?_
          refine r_getIv (pc := 97) (x := ((pl B t x1 : Nat) : Int)) dX11_reads_97 fl_X11_169 rfl hM.k (hX1.2) ?_
          refine r_putI (pc := 100) dX11_reads_100 fl_X11_37 rfl rfl hM.k ?_
          refine r_aload_n (pc := 103) 1 dX11_reads_103 rfl rfl ?_
          refine r_callV (pc := 104) (As := []) (S := []) dX11_reads_104 cv_X11_172 hM.k rfl (Nat.le_of_ble_eq_true rfl) (m_fineB l z _ hM (rdi (by decide) hX1.2) (by have := hT.pr x1; omega)) (Nat.zero_le _) (Nat.zero_le _) (fun r_104 g_104 f_104 q_104 => ?_)
          obtain ⟨rfl, rfl, rfl⟩ := q_104
          exact r_iret (pc := 107) dX11_reads_107 rfl rfl ⟨rfl, T, hT.t4, fun a h1 h2 h3 h4 => by rw [stF_n _ _ _ h1, hX1.1.1 a h1]; exact hz1 a h1 h2 h3 h4, fun i h9 h10 h14 h15 h16 h17 => by rw [stF_i _ _ _ h10, hX1.1.2 i h15 h16 h17]; exact hz2 i h9 h14 h15 h16 h17, rdi (by decide) ((hX1.1.2 9 (by decide) (by decide) (by decide)).trans hz9), rdi (by decide) ((hX1.1.2 14 (by decide) (by decide) (by decide)).trans hz14), hTl, hTe, fun i hi => TkO.mem (htk i hi) (fun a ha => by rw [stF_n _ _ _ (by omega), hX1.1.1 a (by omega)]), Or.inl ⟨_, hE, rfl, stF_s _ _ _ _⟩⟩
        · exact absurd c_77 (by decide)
      · exact absurd c_43 (by decide)
    have loop : ∀ m n : Nat, m + n = 12 → 1 ≤ n → ∀ (f1 : Fm) (acc : List Cl) (j1 l1 : Nat), sLaw (cj B t) (vj B t) (enj B t) 12 0 0 [] = (if (enj B t) j1 = true then .ok acc else if (cj B t) j1 = 159 then sLaw (cj B t) (vj B t) (enj B t) m (j1 + 1) l1 acc else .error j1) → MG T fz f1 j1 l1 → 1 ≤ j1 → PW l z (d + 8) mX11_reads 0 0 (fun r g' f' => g = g' ∧ ∃ T, T ≤ 400 ∧ (∀ a, a ≠ 164 → a ≠ 172 → a ≠ 173 → a ≠ 174 → f' a = f a) ∧ (∀ i, i ≠ 9 → i ≠ 10 → i ≠ 14 → i ≠ 15 → i ≠ 16 → i ≠ 17 → f' 164 i = f 164 i) ∧ f' 164 9 = 0 ∧ f' 164 14 = ((T : Nat) : Int) ∧ (∀ i, i < T → pl B t i < t) ∧ t ≤ pl B t T ∧ (∀ i, i ≤ T → TkO f' B t i) ∧ ((∃ x, sLaw (cj B t) (vj B t) (enj B t) 12 0 0 [] = .error x ∧ r = some (.int (iI 0)) ∧ f' 164 10 = ((pl B t x : Nat) : Int)) ∨ (∃ cls, sLaw (cj B t) (vj B t) (enj B t) 12 0 0 [] = .ok cls ∧ r = some (.int (iI 1)) ∧ f' 164 10 = -1 ∧ 1 ≤ T))) 34 [(1, (.int (iI (((n : Nat) : Int))))), (0, (.ref 164))] [] g f1 0 0 := by
      intro m
      induction m using Nat.strongRecOn with
      | _ m ih =>
        intro n hm hn1 f1 acc j1 l1 hR hG1 hj1
        have hr1 := hG1.r
        refine r_aload_n (pc := 34) 1 dX11_reads_34 rfl rfl ?_
        refine r_bipush (pc := 35) dX11_reads_35 (by decide) ?_
        refine r_callS (pc := 37) (As := [(.int (iI (59)))]) (S := [(.ref 164)]) dX11_reads_37 cs_X11_203 rfl (Nat.le_of_ble_eq_true rfl) (m_sign l z _ (59)) (Nat.zero_le _) (Nat.zero_le _) (fun r_37 g_37 f_37 q_37 => ?_)
        obtain ⟨rfl, rfl, rfl⟩ := q_37
        refine r_eqI (y := 159) (by decide) ?_
        refine r_callV (pc := 40) (As := [(.int (iI (159)))]) (S := []) dX11_reads_40 cv_X11_179 hM.k rfl (Nat.le_of_ble_eq_true rfl) (m_take l z _ hM hT hG1 (by decide) (by decide)) (Nat.zero_le _) (Nat.zero_le _) (fun r_40 g_40 f_40 q_40 => ?_)
        obtain ⟨rfl, ⟨hc_40, rfl, hG_40, hj_40⟩ | ⟨hc_40, rfl, rfl⟩⟩ := q_40
        · refine r_if_eq (pc := 43) (tgt := 73) dX11_reads_43 (by decide) (by omega) (fun c_43 => ?_) (fun c_43 => ?_)
          · exact absurd c_43 (by decide)
          · refine r_iload_n (pc := 46) 0 dX11_reads_46 rfl rfl ?_
            refine r_bipush (pc := 47) dX11_reads_47 (by decide) ?_
            refine r_icmp_ne (pc := 49) (tgt := 56) dX11_reads_49 (by decide) (by omega) (by omega) (fun c_49 => ?_) (fun c_49 => ?_)
            · refine r_aload_n (pc := 56) 1 dX11_reads_56 rfl rfl ?_
              refine r_callV (pc := 57) (As := []) (S := []) dX11_reads_57 cv_X11_172 hM.k rfl (Nat.le_of_ble_eq_true rfl) (m_fineG l z _ hM hG_40) (Nat.zero_le _) (Nat.zero_le _) (fun r_57 g_57 f_57 q_57 => ?_)
              obtain ⟨rfl, rfl, rfl⟩ := q_57
              refine r_if_eq (pc := 60) (tgt := 67) dX11_reads_60 (by decide) (by omega) (fun c_60 => ?_) (fun c_60 => ?_)
              · exact absurd c_60 (by decide)
              · refine r_aload_n (pc := 63) 1 dX11_reads_63 rfl rfl ?_
                refine r_callV (pc := 64) (As := []) (S := []) dX11_reads_64 cv_X11_219 hM.k rfl (Nat.le_of_ble_eq_true rfl) (m_clause l z hM hT hG_40 hsum htest (by omega)) (Nat.zero_le _) (Nat.zero_le _) (fun r_64 g_64 f_64 q_64 => ?_)
                obtain ⟨rfl, rfl, ⟨x_64, hR_64, hX_64⟩ | ⟨cl_64, j_64, l_64, hR_64, hG_64, hj_64⟩⟩ := q_64
                · refine r_iincv (pc := 67) (y := ((n + 1 : Nat) : Int)) (L2 := [(1, (.int (iI (((n + 1 : Nat) : Int))))), (0, (.ref 164))]) 0 dX11_reads_67 rfl (by omega) (by decide) rfl ?_
                  refine r_goto (pc := 70) (tgt := 34) dX11_reads_70 (by decide) ?_
                  refine r_sub (L2 := [(1, (.int (iI (((n + 1 : Nat) : Int))))), (0, (.ref 164))]) [0, 1] rfl ?_
                  exact loopbad _ _ _ hX_64 (by rw [hR, if_neg (by rw [enj_T hTl hTe, decide_eq_true_eq]; omega), if_pos hc_40, show m = m - 1 + 1 by omega, sLaw, hR_64])
                · refine r_iincv (pc := 67) (y := ((n + 1 : Nat) : Int)) (L2 := [(1, (.int (iI (((n + 1 : Nat) : Int))))), (0, (.ref 164))]) 0 dX11_reads_67 rfl (by omega) (by decide) rfl ?_
                  refine r_goto (pc := 70) (tgt := 34) dX11_reads_70 (by decide) ?_
                  refine r_sub (L2 := [(1, (.int (iI (((n + 1 : Nat) : Int))))), (0, (.ref 164))]) [0, 1] rfl ?_
                  exact ih (m - 1) (by omega) (n + 1) (by omega) (by omega) _ (acc ++ [cl_64]) _ _ (by rw [hR, if_neg (by rw [enj_T hTl hTe, decide_eq_true_eq]; omega), if_pos hc_40]; conv => lhs; rw [show m = m - 1 + 1 by omega, sLaw, hR_64]) hG_64 (by omega)
            · refine r_aload_n (pc := 52) 1 dX11_reads_52 rfl rfl ?_
              refine r_callV (pc := 53) (As := []) (S := []) dX11_reads_53 cv_X11_182 hM.k rfl (Nat.le_of_ble_eq_true rfl) (m_faults l z _ hM hT hG_40) (Nat.zero_le _) (Nat.zero_le _) (fun r_53 g_53 f_53 q_53 => ?_)
              obtain ⟨rfl, rfl, hX_53⟩ := q_53
              refine r_aload_n (pc := 56) 1 dX11_reads_56 rfl rfl ?_
              refine r_callV (pc := 57) (As := []) (S := []) dX11_reads_57 cv_X11_172 hM.k rfl (Nat.le_of_ble_eq_true rfl) (m_fineX l z _ hM hT hX_53) (Nat.zero_le _) (Nat.zero_le _) (fun r_57 g_57 f_57 q_57 => ?_)
              obtain ⟨rfl, rfl, rfl⟩ := q_57
              refine r_if_eq (pc := 60) (tgt := 67) dX11_reads_60 (by decide) (by omega) (fun c_60 => ?_) (fun c_60 => ?_)
              · refine r_iincv (pc := 67) (y := ((n + 1 : Nat) : Int)) (L2 := [(1, (.int (iI (((n + 1 : Nat) : Int))))), (0, (.ref 164))]) 0 dX11_reads_67 rfl (by omega) (by decide) rfl ?_
                refine r_goto (pc := 70) (tgt := 34) dX11_reads_70 (by decide) ?_
                refine r_sub (L2 := [(1, (.int (iI (((n + 1 : Nat) : Int))))), (0, (.ref 164))]) [0, 1] rfl ?_
                exact loopbad _ _ _ hX_53 (by rw [hR, if_neg (by rw [enj_T hTl hTe, decide_eq_true_eq]; omega), if_pos hc_40, show m = 0 by omega, sLaw])
              · exact absurd c_60 (by decide)
        · refine r_if_eq (pc := 43) (tgt := 73) dX11_reads_43 (by decide) (by omega) (fun c_43 => ?_) (fun c_43 => ?_)
          · refine r_aload_n (pc := 73) 1 dX11_reads_73 rfl rfl ?_
            refine r_callV (pc := 74) (As := []) (S := []) dX11_reads_74 cv_X11_172 hM.k rfl (Nat.le_of_ble_eq_true rfl) (m_fineG l z _ hM hG1) (Nat.zero_le _) (Nat.zero_le _) (fun r_74 g_74 f_74 q_74 => ?_)
            obtain ⟨rfl, rfl, rfl⟩ := q_74
            refine r_if_eq (pc := 77) (tgt := 95) dX11_reads_77 (by decide) (by omega) (fun c_77 => ?_) (fun c_77 => ?_)
            · exact absurd c_77 (by decide)
            · refine r_aload_n (pc := 80) 1 dX11_reads_80 rfl rfl ?_
              refine r_getIv (pc := 81) (x := ((j1 : Nat) : Int)) dX11_reads_81 fl_X11_176 rfl hM.k (hG1.xj) ?_
              refine r_aload_n (pc := 84) 1 dX11_reads_84 rfl rfl ?_
              refine r_getIv (pc := 85) (x := ((T : Nat) : Int)) dX11_reads_85 fl_X11_156 rfl hM.k (hG1.1.2 14 (by decide) (by decide) (by decide) |>.trans hz14) ?_
              refine r_icmp_ge (pc := 88) (tgt := 95) dX11_reads_88 (by decide) (by have := hG1.r; omega) (by omega) (fun c_88 => ?_) (fun c_88 => ?_)
              · refine r_aload_n (pc := 95) 1 dX11_reads_95 rfl rfl ?_
                refine r_aload_n (pc := 96) 1 dX11_reads_96 rfl rfl ?_
                refine r_getIv (pc := 97) (x := -1) dX11_reads_97 fl_X11_169 rfl hM.k (hG1.xb) ?_
                refine r_putI (pc := 100) dX11_reads_100 fl_X11_37 rfl rfl hM.k ?_
                refine r_aload_n (pc := 103) 1 dX11_reads_103 rfl rfl ?_
                refine r_callV (pc := 104) (As := []) (S := []) dX11_reads_104 cv_X11_172 hM.k rfl (Nat.le_of_ble_eq_true rfl) (m_fineL l z _ hM (rdi (by decide) hG1.xb)) (Nat.zero_le _) (Nat.zero_le _) (fun r_104 g_104 f_104 q_104 => ?_)
                obtain ⟨rfl, rfl, rfl⟩ := q_104
                exact r_iret (pc := 107) dX11_reads_107 rfl rfl ⟨rfl, T, hT.t4, fun a h1 h2 h3 h4 => by rw [stF_n _ _ _ h1, hG1.1.1 a h1]; exact hz1 a h1 h2 h3 h4, fun i h9 h10 h14 h15 h16 h17 => by rw [stF_i _ _ _ h10, hG1.1.2 i h15 h16 h17]; exact hz2 i h9 h14 h15 h16 h17, rdi (by decide) ((hG1.1.2 9 (by decide) (by decide) (by decide)).trans hz9), rdi (by decide) ((hG1.1.2 14 (by decide) (by decide) (by decide)).trans hz14), hTl, hTe, fun i hi => TkO.mem (htk i hi) (fun a ha => by rw [stF_n _ _ _ (by omega), hG1.1.1 a (by omega)]), Or.inr ⟨_, by rw [hR, if_pos (by rw [enj_T hTl hTe, decide_eq_true_eq]; omega)], rfl, stF_s _ _ _ _, by have := hG1.r; omega⟩⟩
              · refine r_aload_n (pc := 91) 1 dX11_reads_91 rfl rfl ?_
                refine r_callV (pc := 92) (As := []) (S := []) dX11_reads_92 cv_X11_182 hM.k rfl (Nat.le_of_ble_eq_true rfl) (m_faults l z _ hM hT hG1) (Nat.zero_le _) (Nat.zero_le _) (fun r_92 g_92 f_92 q_92 => ?_)
                obtain ⟨rfl, rfl, hX_92⟩ := q_92
                refine r_aload_n (pc := 95) 1 dX11_reads_95 rfl rfl ?_
                refine r_aload_n (pc := 96) 1 dX11_reads_96 rfl rfl ?_
                refine r_getIv (pc := 97) (x := ((pl B t j1 : Nat) : Int)) dX11_reads_97 fl_X11_169 rfl hM.k (hX_92.2) ?_
                refine r_putI (pc := 100) dX11_reads_100 fl_X11_37 rfl rfl hM.k ?_
                refine r_aload_n (pc := 103) 1 dX11_reads_103 rfl rfl ?_
                refine r_callV (pc := 104) (As := []) (S := []) dX11_reads_104 cv_X11_172 hM.k rfl (Nat.le_of_ble_eq_true rfl) (m_fineB l z _ hM (rdi (by decide) hX_92.2) (by have := hT.pr j1; omega)) (Nat.zero_le _) (Nat.zero_le _) (fun r_104 g_104 f_104 q_104 => ?_)
                obtain ⟨rfl, rfl, rfl⟩ := q_104
                exact r_iret (pc := 107) dX11_reads_107 rfl rfl ⟨rfl, T, hT.t4, fun a h1 h2 h3 h4 => by rw [stF_n _ _ _ h1, hX_92.1.1 a h1]; exact hz1 a h1 h2 h3 h4, fun i h9 h10 h14 h15 h16 h17 => by rw [stF_i _ _ _ h10, hX_92.1.2 i h15 h16 h17]; exact hz2 i h9 h14 h15 h16 h17, rdi (by decide) ((hX_92.1.2 9 (by decide) (by decide) (by decide)).trans hz9), rdi (by decide) ((hX_92.1.2 14 (by decide) (by decide) (by decide)).trans hz14), hTl, hTe, fun i hi => TkO.mem (htk i hi) (fun a ha => by rw [stF_n _ _ _ (by omega), hX_92.1.1 a (by omega)]), Or.inl ⟨_, by rw [hR, if_neg (by rw [enj_T hTl hTe, decide_eq_true_eq]; omega), if_neg hc_40], rfl, stF_s _ _ _ _⟩⟩
          · exact absurd c_43 (by decide)
    refine r_aload_n (pc := 28) 0 dX11_reads_28 rfl rfl ?_
    refine r_callV (pc := 29) (As := []) (S := []) dX11_reads_29 cv_X11_219 hM.k rfl (Nat.le_of_ble_eq_true rfl) (m_clause l z hM hT hG0 hsum htest (by omega)) (Nat.zero_le _) (Nat.zero_le _) (fun r_29 g_29 f_29 q_29 => ?_)
    obtain ⟨rfl, rfl, ⟨x_29, hR_29, hX_29⟩ | ⟨cl_29, j_29, l_29, hR_29, hG_29, hj_29⟩⟩ := q_29
    · refine r_iconst (pc := 32) dX11_reads_32 ?_
      refine r_istore_n (pc := 33) (L2 := [(1, (.int (iI (1)))), (0, (.ref 164))]) dX11_reads_33 rfl (by decide) rfl ?_
      refine r_sub (L2 := [(1, (.int (iI (((1 : Nat) : Int))))), (0, (.ref 164))]) [0, 1] rfl ?_
      exact loopbad _ _ _ hX_29 (by rw [sLaw, hR_29])
    · refine r_iconst (pc := 32) dX11_reads_32 ?_
      refine r_istore_n (pc := 33) (L2 := [(1, (.int (iI (1)))), (0, (.ref 164))]) dX11_reads_33 rfl (by decide) rfl ?_
      refine r_sub (L2 := [(1, (.int (iI (((1 : Nat) : Int))))), (0, (.ref 164))]) [0, 1] rfl ?_
      exact loop 11 1 rfl (by omega) _ [cl_29] _ _ (by rw [sLaw, hR_29]; rfl) hG_29 (by omega)
  refine r_aload_n (pc := 0) 0 dX11_reads_0 rfl rfl ?_
  refine r_aload_n (pc := 1) 0 dX11_reads_1 rfl rfl ?_
  refine r_getIv (pc := 2) (x := ((t : Nat) : Int)) dX11_reads_2 fl_X11_150 rfl hM.k (ht) ?_
  refine r_callV (pc := 5) (As := [(.int (iI (((t : Nat) : Int))))]) (S := []) dX11_reads_5 cv_X11_216 hM.k rfl (Nat.le_of_ble_eq_true rfl) (m_splits (A := A) (B := B) (t := t) l z _ hM hwd hA hS ht4) (Nat.zero_le _) (Nat.zero_le _) (fun r_5 g_5 f_5 q_5 => ?_)
  obtain ⟨rfl, rfl, T, hT4, hI, hTe, hTT⟩ := q_5
  refine r_aload_n (pc := 8) 0 dX11_reads_8 rfl rfl ?_
  refine r_iconst (pc := 9) dX11_reads_9 ?_
  refine r_putI (pc := 10) dX11_reads_10 fl_X11_150 rfl rfl hM.k ?_
  refine r_aload_n (pc := 13) 0 dX11_reads_13 rfl rfl ?_
  refine r_iconst (pc := 14) dX11_reads_14 ?_
  refine r_putI (pc := 15) dX11_reads_15 fl_X11_176 rfl rfl hM.k ?_
  refine r_aload_n (pc := 18) 0 dX11_reads_18 rfl rfl ?_
  refine r_iconst (pc := 19) dX11_reads_19 ?_
  refine r_putI (pc := 20) dX11_reads_20 fl_X11_185 rfl rfl hM.k ?_
  refine r_aload_n (pc := 23) 0 dX11_reads_23 rfl rfl ?_
  refine r_iconst (pc := 24) dX11_reads_24 ?_
  refine r_putI (pc := 25) dX11_reads_25 fl_X11_169 rfl rfl hM.k ?_
  have htk : ∀ i, i ≤ T → TkO f_5 B t i := fun i hi => by rcases (show i < T ∨ i = T by omega) with q | rfl; exact (hI.2.2.2 i q).1; exact hTT
  have htk2 : ∀ i, i ≤ T → TkO (stF (stF (stF (stF f_5 164 9 (0)) 164 15 (0)) 164 16 (0)) 164 17 (-1)) B t i := fun i hi => (htk i hi).mem (fun a ha => by rw [stF_n _ _ _ (by omega), stF_n _ _ _ (by omega), stF_n _ _ _ (by omega), stF_n _ _ _ (by omega)])
  exact tail T (stF (stF (stF (stF f_5 164 9 (0)) 164 15 (0)) 164 16 (0)) 164 17 (-1)) ⟨fun i hi => (htk2 i hi).1, fun i hi => (htk2 i hi).2.1, fun i hi => ⟨(htk2 i hi).2.2.1, by have := (htk2 i hi).2.2.2; omega, by have := (htk2 i hi).2.2.2; omega⟩, by rw [cj, tC, if_pos hTe], hT4, fun i => by have := kc_j (t := t) hS.by i; omega, fun i => by have := (pl_r (B := B) (t := t) i).2; omega⟩ ⟨⟨fun _ _ => rfl, fun _ _ _ _ => rfl⟩, rdi (by decide) (rdi (by decide) (stF_s _ _ _ _)), rdi (by decide) (stF_s _ _ _ _), stF_s _ _ _ _, Nat.zero_le _, Nat.zero_le _⟩ (fun a h1 h2 h3 h4 => by rw [stF_n _ _ _ h1, stF_n _ _ _ h1, stF_n _ _ _ h1, stF_n _ _ _ h1]; exact hI.1 a h1 h2 h3 h4) (fun i h9 h14 h15 h16 h17 => by rw [stF_i _ _ _ h17, stF_i _ _ _ h16, stF_i _ _ _ h15, stF_i _ _ _ h9]; exact hI.2.1 i h14) (rdi (by decide) (rdi (by decide) (rdi (by decide) (stF_s _ _ _ _)))) (rdi (by decide) (rdi (by decide) (rdi (by decide) (rdi (by decide) (hI.2.2.1))))) (fun i hi => (hI.2.2.2 i hi).2) hTe htk2

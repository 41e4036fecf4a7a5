theorem sTermR_out {c : Nat → Int} {part : Nat → Nat → PR} {m : Nat} {acc : Term} {j lv : Nat} (h1 : ¬ c j = 142) (h2 : ¬ c j = 147) : sTermR c part m acc j lv = .ok (acc, j, lv) := by
  cases m with
  | zero => rfl
  | succ m => rw [sTermR, if_neg h1, if_neg h2]
theorem sSumR_out {c : Nat → Int} {part : Nat → Nat → PR} {m : Nat} {acc : Term} {j lv : Nat} (h1 : ¬ c j = 143) (h2 : ¬ c j = 145) : sSumR c part m acc j lv = .ok (acc, j, lv) := by
  cases m with
  | zero => rfl
  | succ m => rw [sSumR, if_neg h1, if_neg h2]
theorem sBothR_out {c : Nat → Int} {part : Nat → Nat → PR} {m : Nat} {acc : Term} {j lv : Nat} (h1 : ¬ c j = 5) : sBothR c part m acc j lv = .ok (acc, j, lv) := by
  cases m with
  | zero => rfl
  | succ m => rw [sBothR, if_neg h1]
theorem sTestR_out {c : Nat → Int} {part : Nat → Nat → PR} {m : Nat} {acc : Term} {j lv : Nat} (h1 : ¬ c j = 4) : sTestR c part m acc j lv = .ok (acc, j, lv) := by
  cases m with
  | zero => rfl
  | succ m => rw [sTestR, if_neg h1]
theorem sNot_out {c : Nat → Int} {m : Nat} {b : Bool} {j : Nat} (h1 : ¬ c j = 6) : sNot c m b j = (b, j) := by
  cases m with
  | zero => rfl
  | succ m => rw [sNot, if_neg h1]

set_option maxRecDepth 100000 in
set_option maxHeartbeats 4000000 in
theorem m_part (l : Launch) (z : Zv) {g : Gm} {T : Nat} {c v : Nat → Int} {p : Nat → Nat} {f0 : Fm} (hM : ML g) (hT : MT f0 c v p T) {dp e H : Nat} {sum : Nat → Nat → PR} (he : dp + e = 8) (hsub : e ≠ 0 → RdM l z g T p f0 mX11_readSum sum H (dp + 1)) : RdM l z g T p f0 mX11_readPart (sPart c v sum e) (H + 5) dp := by
  have ht4 := hT.t4
  refine ⟨fun D hD f j lv hG => ?_, fun D hD f x hX => ?_⟩
  · obtain ⟨d, rfl⟩ : ∃ d, D = d + 4 := ⟨D - 4, by omega⟩
    refine PM.of (by decide +kernel) (Nat.le_of_ble_eq_true rfl) ?_
    have hr := hG.r
    refine r_aload_n (pc := 0) 0 dX11_readPart_0 rfl rfl ?_
    refine r_callV (pc := 1) (As := []) (S := []) dX11_readPart_1 cv_X11_172 hM.k rfl (Nat.le_of_ble_eq_true rfl) (m_fineG l z _ hM hG) (Nat.zero_le _) (Nat.zero_le _) (fun r_1 g_1 f_1 q_1 => ?_)
    obtain ⟨rfl, rfl, rfl⟩ := q_1
    refine r_if_ne (pc := 4) (tgt := 8) dX11_readPart_4 (by decide) (by have := hT.xr j; omega) (fun c_4 => ?_) (fun c_4 => ?_)
    · have hcr := hT.xr j
      refine r_aload_n (pc := 8) 0 dX11_readPart_8 rfl rfl ?_
      refine r_getR (pc := 9) (b := 172) dX11_readPart_9 fl_X11_40 rfl hM.k hM.r11 ?_
      refine r_aload_n (pc := 12) 0 dX11_readPart_12 rfl rfl ?_
      refine r_getIv (pc := 13) (x := ((j : Nat) : Int)) dX11_readPart_13 fl_X11_176 rfl hM.k (hG.xj) ?_
      refine r_ialdv (pc := 16) (w := c j) dX11_readPart_16 hM.a11 (by omega) (by decide) (hG.xc hT (by omega)) ?_
      refine r_istore_n (pc := 17) (L2 := [(2, (.int (iI (c j)))), (0, (.ref 164)), (1, (.int (iI (((dp : Nat) : Int)))))]) dX11_readPart_17 rfl (by decide) rfl ?_
      refine r_iload_n (pc := 18) 0 dX11_readPart_18 rfl rfl ?_
      refine r_bipush (pc := 19) dX11_readPart_19 (by decide) ?_
      refine r_callS (pc := 21) (As := [(.int (iI (91)))]) (S := [(.int (iI (c j)))]) dX11_readPart_21 cs_X11_203 rfl (Nat.le_of_ble_eq_true rfl) (m_sign l z _ (91)) (Nat.zero_le _) (Nat.zero_le _) (fun r_21 g_21 f_21 q_21 => ?_)
      obtain ⟨rfl, rfl, rfl⟩ := q_21
      refine r_eqI (y := 191) (by decide) ?_
      refine r_icmp_ne (pc := 24) (tgt := 74) dX11_readPart_24 (by decide) (by have := hT.xr j; omega) (by omega) (fun c_24 => ?_) (fun c_24 => ?_)
      · refine r_iload_n (pc := 74) 0 dX11_readPart_74 rfl rfl ?_
        refine r_bipush (pc := 75) dX11_readPart_75 (by decide) ?_
        refine r_icmp_ne (pc := 77) (tgt := 95) dX11_readPart_77 (by decide) (by have := hT.xr j; omega) (by omega) (fun c_77 => ?_) (fun c_77 => ?_)
        · refine r_iload_n (pc := 95) 0 dX11_readPart_95 rfl rfl ?_
          refine r_bipush (pc := 96) dX11_readPart_96 (by decide) ?_
          refine r_icmp_lt (pc := 98) (tgt := 114) dX11_readPart_98 (by decide) (by have := hT.xr j; omega) (by omega) (fun c_98 => ?_) (fun c_98 => ?_)
          · refine r_aload_n (pc := 114) 1 dX11_readPart_114 rfl rfl ?_
            refine r_callV (pc := 115) (As := []) (S := []) dX11_readPart_115 cv_X11_182 hM.k rfl (Nat.le_of_ble_eq_true rfl) (m_faults l z _ hM hT hG) (Nat.zero_le _) (Nat.zero_le _) (fun r_115 g_115 f_115 q_115 => ?_)
            obtain ⟨rfl, rfl, hX_115⟩ := q_115
            exact r_vret (pc := 118) dX11_readPart_118 rfl ⟨rfl, rfl, Or.inl ⟨_, by rw [sPart, if_neg (by omega), if_neg (by omega), if_neg (by omega)], hX_115⟩⟩
          · refine r_iload_n (pc := 101) 0 dX11_readPart_101 rfl rfl ?_
            refine r_bipush (pc := 102) dX11_readPart_102 (by decide) ?_
            refine r_icmp_gt (pc := 104) (tgt := 114) dX11_readPart_104 (by decide) (by have := hT.xr j; omega) (by omega) (fun c_104 => ?_) (fun c_104 => ?_)
            · refine r_aload_n (pc := 114) 1 dX11_readPart_114 rfl rfl ?_
              refine r_callV (pc := 115) (As := []) (S := []) dX11_readPart_115 cv_X11_182 hM.k rfl (Nat.le_of_ble_eq_true rfl) (m_faults l z _ hM hT hG) (Nat.zero_le _) (Nat.zero_le _) (fun r_115 g_115 f_115 q_115 => ?_)
              obtain ⟨rfl, rfl, hX_115⟩ := q_115
              exact r_vret (pc := 118) dX11_readPart_118 rfl ⟨rfl, rfl, Or.inl ⟨_, by rw [sPart, if_neg (by omega), if_neg (by omega), if_neg (by omega)], hX_115⟩⟩
            · refine r_aload_n (pc := 107) 1 dX11_readPart_107 rfl rfl ?_
              refine r_callV (pc := 108) (As := []) (S := []) dX11_readPart_108 cv_X11_213 hM.k rfl (Nat.le_of_ble_eq_true rfl) (m_leaf l z _ hM hT hG (hT.lt (by omega) (by omega))) (Nat.zero_le _) (Nat.zero_le _) (fun r_108 g_108 f_108 q_108 => ?_)
              obtain ⟨rfl, rfl, ⟨hl_108, hG_108⟩ | ⟨hl_108, hX_108⟩⟩ := q_108
              · refine r_goto (pc := 111) (tgt := 118) dX11_readPart_111 (by decide) ?_
                exact r_vret (pc := 118) dX11_readPart_118 rfl ⟨rfl, rfl, Or.inr ⟨_, _, _, by rw [sPart, if_neg (by omega), if_neg (by omega), if_pos ⟨by omega, by omega⟩, if_neg (by omega)], hG_108, by omega⟩⟩
              · refine r_goto (pc := 111) (tgt := 118) dX11_readPart_111 (by decide) ?_
                exact r_vret (pc := 118) dX11_readPart_118 rfl ⟨rfl, rfl, Or.inl ⟨_, by rw [sPart, if_neg (by omega), if_neg (by omega), if_pos ⟨by omega, by omega⟩, if_pos (by omega)], hX_108⟩⟩
        · have hvx := hT.xv hr.1
          refine r_aload_n (pc := 80) 1 dX11_readPart_80 rfl rfl ?_
          refine r_getR (pc := 81) (b := 173) dX11_readPart_81 fl_X11_43 rfl hM.k hM.r12 ?_
          refine r_aload_n (pc := 84) 1 dX11_readPart_84 rfl rfl ?_
          refine r_getIv (pc := 85) (x := ((j : Nat) : Int)) dX11_readPart_85 fl_X11_176 rfl hM.k (hG.xj) ?_
          refine r_ialdv (pc := 88) (w := f0 173 j) dX11_readPart_88 hM.a12 (by omega) (by decide) (congrFun (hG.o (by decide)) _) ?_
          refine r_sipush (pc := 89) dX11_readPart_89 (by decide) ?_
          refine r_icmp_le (pc := 92) (tgt := 107) dX11_readPart_92 (by decide) (by have := (hT.xv hr.1).2; omega) (by omega) (fun c_92 => ?_) (fun c_92 => ?_)
          · refine r_aload_n (pc := 107) 1 dX11_readPart_107 rfl rfl ?_
            refine r_callV (pc := 108) (As := []) (S := []) dX11_readPart_108 cv_X11_213 hM.k rfl (Nat.le_of_ble_eq_true rfl) (m_leaf l z _ hM hT hG (hT.lt (by omega) (by omega))) (Nat.zero_le _) (Nat.zero_le _) (fun r_108 g_108 f_108 q_108 => ?_)
            obtain ⟨rfl, rfl, ⟨hl_108, hG_108⟩ | ⟨hl_108, hX_108⟩⟩ := q_108
            · refine r_goto (pc := 111) (tgt := 118) dX11_readPart_111 (by decide) ?_
              exact r_vret (pc := 118) dX11_readPart_118 rfl ⟨rfl, rfl, Or.inr ⟨_, _, _, by rw [sPart, if_neg (by omega), if_pos ⟨by omega, by omega⟩, if_neg (by omega)], hG_108, by omega⟩⟩
            · refine r_goto (pc := 111) (tgt := 118) dX11_readPart_111 (by decide) ?_
              exact r_vret (pc := 118) dX11_readPart_118 rfl ⟨rfl, rfl, Or.inl ⟨_, by rw [sPart, if_neg (by omega), if_pos ⟨by omega, by omega⟩, if_pos (by omega)], hX_108⟩⟩
          · refine r_iload_n (pc := 95) 0 dX11_readPart_95 rfl rfl ?_
            refine r_bipush (pc := 96) dX11_readPart_96 (by decide) ?_
            refine r_icmp_lt (pc := 98) (tgt := 114) dX11_readPart_98 (by decide) (by have := hT.xr j; omega) (by omega) (fun c_98 => ?_) (fun c_98 => ?_)
            · refine r_aload_n (pc := 114) 1 dX11_readPart_114 rfl rfl ?_
              refine r_callV (pc := 115) (As := []) (S := []) dX11_readPart_115 cv_X11_182 hM.k rfl (Nat.le_of_ble_eq_true rfl) (m_faults l z _ hM hT hG) (Nat.zero_le _) (Nat.zero_le _) (fun r_115 g_115 f_115 q_115 => ?_)
              obtain ⟨rfl, rfl, hX_115⟩ := q_115
              exact r_vret (pc := 118) dX11_readPart_118 rfl ⟨rfl, rfl, Or.inl ⟨_, by rw [sPart, if_neg (by omega), if_neg (by omega), if_neg (by omega)], hX_115⟩⟩
            · refine r_iload_n (pc := 101) 0 dX11_readPart_101 rfl rfl ?_
              refine r_bipush (pc := 102) dX11_readPart_102 (by decide) ?_
              refine r_icmp_gt (pc := 104) (tgt := 114) dX11_readPart_104 (by decide) (by have := hT.xr j; omega) (by omega) (fun c_104 => ?_) (fun c_104 => ?_)
              · refine r_aload_n (pc := 114) 1 dX11_readPart_114 rfl rfl ?_
                refine r_callV (pc := 115) (As := []) (S := []) dX11_readPart_115 cv_X11_182 hM.k rfl (Nat.le_of_ble_eq_true rfl) (m_faults l z _ hM hT hG) (Nat.zero_le _) (Nat.zero_le _) (fun r_115 g_115 f_115 q_115 => ?_)
                obtain ⟨rfl, rfl, hX_115⟩ := q_115
                exact r_vret (pc := 118) dX11_readPart_118 rfl ⟨rfl, rfl, Or.inl ⟨_, by rw [sPart, if_neg (by omega), if_neg (by omega), if_neg (by omega)], hX_115⟩⟩
              · refine r_aload_n (pc := 107) 1 dX11_readPart_107 rfl rfl ?_
                refine r_callV (pc := 108) (As := []) (S := []) dX11_readPart_108 cv_X11_213 hM.k rfl (Nat.le_of_ble_eq_true rfl) (m_leaf l z _ hM hT hG (hT.lt (by omega) (by omega))) (Nat.zero_le _) (Nat.zero_le _) (fun r_108 g_108 f_108 q_108 => ?_)
                obtain ⟨rfl, rfl, ⟨hl_108, hG_108⟩ | ⟨hl_108, hX_108⟩⟩ := q_108
                · refine r_goto (pc := 111) (tgt := 118) dX11_readPart_111 (by decide) ?_
                  exact r_vret (pc := 118) dX11_readPart_118 rfl ⟨rfl, rfl, Or.inr ⟨_, _, _, by rw [sPart, if_neg (by omega), if_neg (by omega), if_pos ⟨by omega, by omega⟩, if_neg (by omega)], hG_108, by omega⟩⟩
                · refine r_goto (pc := 111) (tgt := 118) dX11_readPart_111 (by decide) ?_
                  exact r_vret (pc := 118) dX11_readPart_118 rfl ⟨rfl, rfl, Or.inl ⟨_, by rw [sPart, if_neg (by omega), if_neg (by omega), if_pos ⟨by omega, by omega⟩, if_pos (by omega)], hX_108⟩⟩
      · refine r_iload_n (pc := 27) 2 dX11_readPart_27 rfl rfl ?_
        refine r_bipush (pc := 28) dX11_readPart_28 (by decide) ?_
        refine r_icmp_ne (pc := 30) (tgt := 37) dX11_readPart_30 (by decide) (by omega) (by omega) (fun c_30 => ?_) (fun c_30 => ?_)
        · refine r_aload_n (pc := 37) 1 dX11_readPart_37 rfl rfl ?_
          refine r_callV (pc := 38) (As := []) (S := []) dX11_readPart_38 cv_X11_172 hM.k rfl (Nat.le_of_ble_eq_true rfl) (m_fineG l z _ hM hG) (Nat.zero_le _) (Nat.zero_le _) (fun r_38 g_38 f_38 q_38 => ?_)
          obtain ⟨rfl, rfl, rfl⟩ := q_38
          refine r_if_ne (pc := 41) (tgt := 45) dX11_readPart_41 (by decide) (by have := hT.xr j; omega) (fun c_41 => ?_) (fun c_41 => ?_)
          · refine r_aload_n (pc := 45) 1 dX11_readPart_45 rfl rfl ?_
            refine r_dup (pc := 46) dX11_readPart_46 rfl ?_
            refine r_getIv (pc := 47) (x := ((j : Nat) : Int)) dX11_readPart_47 fl_X11_176 rfl hM.k (hG.xj) ?_
            refine r_iconst (pc := 50) dX11_readPart_50 ?_
            refine r_iadd (pc := 51) dX11_readPart_51 ?_
            refine r_eqI (y := ((j + 1 : Nat) : Int)) (Int.natCast_add _ _ |>.symm) ?_
            refine r_putI (pc := 52) dX11_readPart_52 fl_X11_176 rfl rfl hM.k ?_
            refine r_aload_n (pc := 55) 1 dX11_readPart_55 rfl rfl ?_
            refine r_iload_n (pc := 56) 2 dX11_readPart_56 rfl rfl ?_
            refine r_iconst (pc := 57) dX11_readPart_57 ?_
            refine r_iadd (pc := 58) dX11_readPart_58 ?_
            refine r_eqI (y := ((dp + 1 : Nat) : Int)) (Int.natCast_add _ _ |>.symm) ?_
            refine r_callV (pc := 59) (As := [(.int (iI (((dp + 1 : Nat) : Int))))]) (S := []) dX11_readPart_59 cv_X11_188 hM.k rfl (Nat.le_of_ble_eq_true rfl) ((hsub (by omega)).1 _ (by omega) _ _ _ (hG.next (hT.lt (by omega) (by omega)))) (Nat.zero_le _) (Nat.zero_le _) (fun r_59 g_59 f_59 q_59 => ?_)
            obtain ⟨rfl, rfl, ⟨x_59, hR_59, hX_59⟩ | ⟨t_59, j_59, l_59, hR_59, hG_59, hj_59⟩⟩ := q_59
            · refine r_aload_n (pc := 62) 1 dX11_readPart_62 rfl rfl ?_
              refine r_bipush (pc := 63) dX11_readPart_63 (by decide) ?_
              refine r_callS (pc := 65) (As := [(.int (iI (93)))]) (S := [(.ref 164)]) dX11_readPart_65 cs_X11_203 rfl (Nat.le_of_ble_eq_true rfl) (m_sign l z _ (93)) (Nat.zero_le _) (Nat.zero_le _) (fun r_65 g_65 f_65 q_65 => ?_)
              obtain ⟨rfl, rfl, rfl⟩ := q_65
              refine r_eqI (y := 193) (by decide) ?_
              refine r_callV (pc := 68) (As := [(.int (iI (193)))]) (S := []) dX11_readPart_68 cv_X11_191 hM.k rfl (Nat.le_of_ble_eq_true rfl) (m_mustX l z _ hM hT hX_59) (Nat.zero_le _) (Nat.zero_le _) (fun r_68 g_68 f_68 q_68 => ?_)
              obtain ⟨rfl, rfl, rfl⟩ := q_68
              refine r_goto (pc := 71) (tgt := 118) dX11_readPart_71 (by decide) ?_
              exact r_vret (pc := 118) dX11_readPart_118 rfl ⟨rfl, rfl, Or.inl ⟨_, by rw [sPart, if_pos (by omega), if_neg (by omega)]; exact bnd_e hR_59, hX_59⟩⟩
            · refine r_aload_n (pc := 62) 1 dX11_readPart_62 rfl rfl ?_
              refine r_bipush (pc := 63) dX11_readPart_63 (by decide) ?_
              refine r_callS (pc := 65) (As := [(.int (iI (93)))]) (S := [(.ref 164)]) dX11_readPart_65 cs_X11_203 rfl (Nat.le_of_ble_eq_true rfl) (m_sign l z _ (93)) (Nat.zero_le _) (Nat.zero_le _) (fun r_65 g_65 f_65 q_65 => ?_)
              obtain ⟨rfl, rfl, rfl⟩ := q_65
              refine r_eqI (y := 193) (by decide) ?_
              refine r_callV (pc := 68) (As := [(.int (iI (193)))]) (S := []) dX11_readPart_68 cv_X11_191 hM.k rfl (Nat.le_of_ble_eq_true rfl) (m_must l z _ hM hT hG_59 (by decide) (by decide)) (Nat.zero_le _) (Nat.zero_le _) (fun r_68 g_68 f_68 q_68 => ?_)
              obtain ⟨rfl, rfl, ⟨hc_68, hG_68, hj_68⟩ | ⟨hc_68, hX_68⟩⟩ := q_68
              · refine r_goto (pc := 71) (tgt := 118) dX11_readPart_71 (by decide) ?_
                exact r_vret (pc := 118) dX11_readPart_118 rfl ⟨rfl, rfl, Or.inr ⟨_, _, _, by rw [sPart, if_pos (by omega), if_neg (by omega), bnd_o hR_59, if_pos hc_68], hG_68, by omega⟩⟩
              · refine r_goto (pc := 71) (tgt := 118) dX11_readPart_71 (by decide) ?_
                exact r_vret (pc := 118) dX11_readPart_118 rfl ⟨rfl, rfl, Or.inl ⟨_, by rw [sPart, if_pos (by omega), if_neg (by omega), bnd_o hR_59, if_neg hc_68], hX_68⟩⟩
          · exact absurd c_41 (by decide)
        · refine r_aload_n (pc := 33) 1 dX11_readPart_33 rfl rfl ?_
          refine r_callV (pc := 34) (As := []) (S := []) dX11_readPart_34 cv_X11_182 hM.k rfl (Nat.le_of_ble_eq_true rfl) (m_faults l z _ hM hT hG) (Nat.zero_le _) (Nat.zero_le _) (fun r_34 g_34 f_34 q_34 => ?_)
          obtain ⟨rfl, rfl, hX_34⟩ := q_34
          refine r_aload_n (pc := 37) 1 dX11_readPart_37 rfl rfl ?_
          refine r_callV (pc := 38) (As := []) (S := []) dX11_readPart_38 cv_X11_172 hM.k rfl (Nat.le_of_ble_eq_true rfl) (m_fineX l z _ hM hT hX_34) (Nat.zero_le _) (Nat.zero_le _) (fun r_38 g_38 f_38 q_38 => ?_)
          obtain ⟨rfl, rfl, rfl⟩ := q_38
          refine r_if_ne (pc := 41) (tgt := 45) dX11_readPart_41 (by decide) (by have := hT.xr j; omega) (fun c_41 => ?_) (fun c_41 => ?_)
          · exact absurd c_41 (by decide)
          · exact r_vret (pc := 44) dX11_readPart_44 rfl ⟨rfl, rfl, Or.inl ⟨_, by rw [sPart, if_pos (by omega), if_pos (by omega)], hX_34⟩⟩
    · exact absurd c_4 (by decide)
  · obtain ⟨d, rfl⟩ : ∃ d, D = d + 4 := ⟨D - 4, by omega⟩
    refine PM.of (by decide +kernel) (Nat.le_of_ble_eq_true rfl) ?_
    refine r_aload_n (pc := 0) 0 dX11_readPart_0 rfl rfl ?_
    refine r_callV (pc := 1) (As := []) (S := []) dX11_readPart_1 cv_X11_172 hM.k rfl (Nat.le_of_ble_eq_true rfl) (m_fineX l z _ hM hT hX) (Nat.zero_le _) (Nat.zero_le _) (fun r_1 g_1 f_1 q_1 => ?_)
    obtain ⟨rfl, rfl, rfl⟩ := q_1
    refine r_if_ne (pc := 4) (tgt := 8) dX11_readPart_4 (by decide) (by omega) (fun c_4 => ?_) (fun c_4 => ?_)
    · exact absurd c_4 (by decide)
    · exact r_vret (pc := 7) dX11_readPart_7 rfl ⟨rfl, rfl, rfl⟩

set_option maxRecDepth 100000 in
set_option maxHeartbeats 4000000 in
theorem m_term (l : Launch) (z : Zv) {g : Gm} {T : Nat} {c v : Nat → Int} {p : Nat → Nat} {f0 : Fm} (hM : ML g) (hT : MT f0 c v p T) {dp H : Nat} {part : Nat → Nat → PR} (hsub : RdM l z g T p f0 mX11_readPart part H dp) : RdM l z g T p f0 mX11_readTerm (sTerm c part) (H + 4) dp := by
  have ht4 := hT.t4
  refine ⟨fun D hD f j lv hG => ?_, fun D hD f x hX => ?_⟩
  · obtain ⟨d, rfl⟩ : ∃ d, D = d + 4 := ⟨D - 4, by omega⟩
    refine PM.of (by decide +kernel) (Nat.le_of_ble_eq_true rfl) ?_
    have hr := hG.r
    have loopbad : ∀ (f1 : Fm) (x1 : Nat), MX p f0 f1 x1 → sTerm c part j lv = .error x1 → PW l z (d + 4) mX11_readTerm 0 0 (mpo T p f0 g j (sTerm c part j lv)) 5 [(0, (.ref 164)), (1, (.int (iI (((dp : Nat) : Int)))))] [] g f1 0 0 := by
      intro f1 x1 hX1 hE
      refine r_aload_n (pc := 5) 0 dX11_readTerm_5 rfl rfl ?_
      refine r_bipush (pc := 6) dX11_readTerm_6 (by decide) ?_
      refine r_callS (pc := 8) (As := [(.int (iI (42)))]) (S := [(.ref 164)]) dX11_readTerm_8 cs_X11_203 rfl (Nat.le_of_ble_eq_true rfl) (m_sign l z _ (42)) (Nat.zero_le _) (Nat.zero_le _) (fun r_8 g_8 f_8 q_8 => ?_)
      obtain ⟨rfl, rfl, rfl⟩ := q_8
      refine r_eqI (y := 142) (by decide) ?_
      refine r_callV (pc := 11) (As := [(.int (iI (142)))]) (S := []) dX11_readTerm_11 cv_X11_179 hM.k rfl (Nat.le_of_ble_eq_true rfl) (m_takeX l z _ hM hT hX1) (Nat.zero_le _) (Nat.zero_le _) (fun r_11 g_11 f_11 q_11 => ?_)
      obtain ⟨rfl, rfl, rfl⟩ := q_11
      refine r_if_ne (pc := 14) (tgt := 29) dX11_readTerm_14 (by decide) (by omega) (fun c_14 => ?_) (fun c_14 => ?_)
      · exact absurd c_14 (by decide)
      · refine r_aload_n (pc := 17) 0 dX11_readTerm_17 rfl rfl ?_
        refine r_bipush (pc := 18) dX11_readTerm_18 (by decide) ?_
        refine r_callS (pc := 20) (As := [(.int (iI (47)))]) (S := [(.ref 164)]) dX11_readTerm_20 cs_X11_203 rfl (Nat.le_of_ble_eq_true rfl) (m_sign l z _ (47)) (Nat.zero_le _) (Nat.zero_le _) (fun r_20 g_20 f_20 q_20 => ?_)
        obtain ⟨rfl, rfl, rfl⟩ := q_20
        refine r_eqI (y := 147) (by decide) ?_
        refine r_callV (pc := 23) (As := [(.int (iI (147)))]) (S := []) dX11_readTerm_23 cv_X11_179 hM.k rfl (Nat.le_of_ble_eq_true rfl) (m_takeX l z _ hM hT hX1) (Nat.zero_le _) (Nat.zero_le _) (fun r_23 g_23 f_23 q_23 => ?_)
        obtain ⟨rfl, rfl, rfl⟩ := q_23
        refine r_if_eq (pc := 26) (tgt := 37) dX11_readTerm_26 (by decide) (by omega) (fun c_26 => ?_) (fun c_26 => ?_)
        · exact r_vret (pc := 37) dX11_readTerm_37 rfl ⟨rfl, rfl, Or.inl ⟨_, hE, hX1⟩⟩
        · exact absurd c_26 (by decide)
    have loop : ∀ m : Nat, m ≤ 400 → ∀ (f1 : Fm) (acc : Term) (j1 l1 : Nat), sTerm c part j lv = sTermR c part m acc j1 l1 → MG T f0 f1 j1 l1 → j ≤ j1 → T ≤ j1 + m → PW l z (d + 4) mX11_readTerm 0 0 (mpo T p f0 g j (sTerm c part j lv)) 5 [(0, (.ref 164)), (1, (.int (iI (((dp : Nat) : Int)))))] [] g f1 0 0 := by
      intro m
      induction m using Nat.strongRecOn with
      | _ m ih =>
        intro hm4 f1 acc j1 l1 hR hG1 hjj hfu
        have hr1 := hG1.r
        refine r_aload_n (pc := 5) 0 dX11_readTerm_5 rfl rfl ?_
        refine r_bipush (pc := 6) dX11_readTerm_6 (by decide) ?_
        refine r_callS (pc := 8) (As := [(.int (iI (42)))]) (S := [(.ref 164)]) dX11_readTerm_8 cs_X11_203 rfl (Nat.le_of_ble_eq_true rfl) (m_sign l z _ (42)) (Nat.zero_le _) (Nat.zero_le _) (fun r_8 g_8 f_8 q_8 => ?_)
        obtain ⟨rfl, rfl, rfl⟩ := q_8
        refine r_eqI (y := 142) (by decide) ?_
        refine r_callV (pc := 11) (As := [(.int (iI (142)))]) (S := []) dX11_readTerm_11 cv_X11_179 hM.k rfl (Nat.le_of_ble_eq_true rfl) (m_take l z _ hM hT hG1 (by decide) (by decide)) (Nat.zero_le _) (Nat.zero_le _) (fun r_11 g_11 f_11 q_11 => ?_)
        obtain ⟨rfl, ⟨hc_11, rfl, hG_11, hj_11⟩ | ⟨hc_11, rfl, rfl⟩⟩ := q_11
        · refine r_if_ne (pc := 14) (tgt := 29) dX11_readTerm_14 (by decide) (by omega) (fun c_14 => ?_) (fun c_14 => ?_)
          · obtain ⟨m', rfl⟩ : ∃ m', m = m' + 1 := ⟨m - 1, by omega⟩
            refine r_aload_n (pc := 29) 0 dX11_readTerm_29 rfl rfl ?_
            refine r_iload_n (pc := 30) 1 dX11_readTerm_30 rfl rfl ?_
            refine r_callV (pc := 31) (As := [(.int (iI (((dp : Nat) : Int))))]) (S := []) dX11_readTerm_31 cv_X11_210 hM.k rfl (Nat.le_of_ble_eq_true rfl) (hsub.1 _ (by omega) _ _ _ hG_11) (Nat.zero_le _) (Nat.zero_le _) (fun r_31 g_31 f_31 q_31 => ?_)
            obtain ⟨rfl, rfl, ⟨x_31, hR_31, hX_31⟩ | ⟨t_31, j_31, l_31, hR_31, hG_31, hj_31⟩⟩ := q_31
            · refine r_goto (pc := 34) (tgt := 5) dX11_readTerm_34 (by decide) ?_
              exact loopbad _ _ hX_31 (by rw [hR, sTermR, if_pos hc_11]; exact bnd_e hR_31)
            · refine r_goto (pc := 34) (tgt := 5) dX11_readTerm_34 (by decide) ?_
              exact ih m' (by omega) (by omega) _ (.mul acc t_31) _ _ (by rw [hR, sTermR, if_pos hc_11, bnd_o hR_31]) hG_31 (by omega) (by omega)
          · exact absurd c_14 (by decide)
        · refine r_if_ne (pc := 14) (tgt := 29) dX11_readTerm_14 (by decide) (by omega) (fun c_14 => ?_) (fun c_14 => ?_)
          · exact absurd c_14 (by decide)
          · refine r_aload_n (pc := 17) 0 dX11_readTerm_17 rfl rfl ?_
            refine r_bipush (pc := 18) dX11_readTerm_18 (by decide) ?_
            refine r_callS (pc := 20) (As := [(.int (iI (47)))]) (S := [(.ref 164)]) dX11_readTerm_20 cs_X11_203 rfl (Nat.le_of_ble_eq_true rfl) (m_sign l z _ (47)) (Nat.zero_le _) (Nat.zero_le _) (fun r_20 g_20 f_20 q_20 => ?_)
            obtain ⟨rfl, rfl, rfl⟩ := q_20
            refine r_eqI (y := 147) (by decide) ?_
            refine r_callV (pc := 23) (As := [(.int (iI (147)))]) (S := []) dX11_readTerm_23 cv_X11_179 hM.k rfl (Nat.le_of_ble_eq_true rfl) (m_take l z _ hM hT hG1 (by decide) (by decide)) (Nat.zero_le _) (Nat.zero_le _) (fun r_23 g_23 f_23 q_23 => ?_)
            obtain ⟨rfl, ⟨hc_23, rfl, hG_23, hj_23⟩ | ⟨hc_23, rfl, rfl⟩⟩ := q_23
            · refine r_if_eq (pc := 26) (tgt := 37) dX11_readTerm_26 (by decide) (by omega) (fun c_26 => ?_) (fun c_26 => ?_)
              · exact absurd c_26 (by decide)
              · obtain ⟨m', rfl⟩ : ∃ m', m = m' + 1 := ⟨m - 1, by omega⟩
                refine r_aload_n (pc := 29) 0 dX11_readTerm_29 rfl rfl ?_
                refine r_iload_n (pc := 30) 1 dX11_readTerm_30 rfl rfl ?_
                refine r_callV (pc := 31) (As := [(.int (iI (((dp : Nat) : Int))))]) (S := []) dX11_readTerm_31 cv_X11_210 hM.k rfl (Nat.le_of_ble_eq_true rfl) (hsub.1 _ (by omega) _ _ _ hG_23) (Nat.zero_le _) (Nat.zero_le _) (fun r_31 g_31 f_31 q_31 => ?_)
                obtain ⟨rfl, rfl, ⟨x_31, hR_31, hX_31⟩ | ⟨t_31, j_31, l_31, hR_31, hG_31, hj_31⟩⟩ := q_31
                · refine r_goto (pc := 34) (tgt := 5) dX11_readTerm_34 (by decide) ?_
                  exact loopbad _ _ hX_31 (by rw [hR, sTermR, if_neg hc_11, if_pos hc_23]; exact bnd_e hR_31)
                · refine r_goto (pc := 34) (tgt := 5) dX11_readTerm_34 (by decide) ?_
                  exact ih m' (by omega) (by omega) _ (.div acc t_31) _ _ (by rw [hR, sTermR, if_neg hc_11, if_pos hc_23, bnd_o hR_31]) hG_31 (by omega) (by omega)
            · refine r_if_eq (pc := 26) (tgt := 37) dX11_readTerm_26 (by decide) (by omega) (fun c_26 => ?_) (fun c_26 => ?_)
              · exact r_vret (pc := 37) dX11_readTerm_37 rfl ⟨rfl, rfl, Or.inr ⟨_, _, _, by rw [hR]; exact sTermR_out hc_11 hc_23, hG1, by omega⟩⟩
              · exact absurd c_26 (by decide)
    refine r_aload_n (pc := 0) 0 dX11_readTerm_0 rfl rfl ?_
    refine r_iload_n (pc := 1) 1 dX11_readTerm_1 rfl rfl ?_
    refine r_callV (pc := 2) (As := [(.int (iI (((dp : Nat) : Int))))]) (S := []) dX11_readTerm_2 cv_X11_210 hM.k rfl (Nat.le_of_ble_eq_true rfl) (hsub.1 _ (by omega) _ _ _ hG) (Nat.zero_le _) (Nat.zero_le _) (fun r_2 g_2 f_2 q_2 => ?_)
    obtain ⟨rfl, rfl, ⟨x_2, hR_2, hX_2⟩ | ⟨t_2, j_2, l_2, hR_2, hG_2, hj_2⟩⟩ := q_2
    · exact loopbad _ _ hX_2 (bnd_e hR_2)
    · exact loop 400 (by omega) _ _ _ _ (bnd_o hR_2) hG_2 hj_2 (by omega)
  · obtain ⟨d, rfl⟩ : ∃ d, D = d + 4 := ⟨D - 4, by omega⟩
    refine PM.of (by decide +kernel) (Nat.le_of_ble_eq_true rfl) ?_
    refine r_aload_n (pc := 0) 0 dX11_readTerm_0 rfl rfl ?_
    refine r_iload_n (pc := 1) 1 dX11_readTerm_1 rfl rfl ?_
    refine r_callV (pc := 2) (As := [(.int (iI (((dp : Nat) : Int))))]) (S := []) dX11_readTerm_2 cv_X11_210 hM.k rfl (Nat.le_of_ble_eq_true rfl) (hsub.2 _ (by omega) _ _ hX) (Nat.zero_le _) (Nat.zero_le _) (fun r_2 g_2 f_2 q_2 => ?_)
    obtain ⟨rfl, rfl, rfl⟩ := q_2
    refine r_aload_n (pc := 5) 0 dX11_readTerm_5 rfl rfl ?_
    refine r_bipush (pc := 6) dX11_readTerm_6 (by decide) ?_
    refine r_callS (pc := 8) (As := [(.int (iI (42)))]) (S := [(.ref 164)]) dX11_readTerm_8 cs_X11_203 rfl (Nat.le_of_ble_eq_true rfl) (m_sign l z _ (42)) (Nat.zero_le _) (Nat.zero_le _) (fun r_8 g_8 f_8 q_8 => ?_)
    obtain ⟨rfl, rfl, rfl⟩ := q_8
    refine r_eqI (y := 142) (by decide) ?_
    refine r_callV (pc := 11) (As := [(.int (iI (142)))]) (S := []) dX11_readTerm_11 cv_X11_179 hM.k rfl (Nat.le_of_ble_eq_true rfl) (m_takeX l z _ hM hT hX) (Nat.zero_le _) (Nat.zero_le _) (fun r_11 g_11 f_11 q_11 => ?_)
    obtain ⟨rfl, rfl, rfl⟩ := q_11
    refine r_if_ne (pc := 14) (tgt := 29) dX11_readTerm_14 (by decide) (by omega) (fun c_14 => ?_) (fun c_14 => ?_)
    · exact absurd c_14 (by decide)
    · refine r_aload_n (pc := 17) 0 dX11_readTerm_17 rfl rfl ?_
      refine r_bipush (pc := 18) dX11_readTerm_18 (by decide) ?_
      refine r_callS (pc := 20) (As := [(.int (iI (47)))]) (S := [(.ref 164)]) dX11_readTerm_20 cs_X11_203 rfl (Nat.le_of_ble_eq_true rfl) (m_sign l z _ (47)) (Nat.zero_le _) (Nat.zero_le _) (fun r_20 g_20 f_20 q_20 => ?_)
      obtain ⟨rfl, rfl, rfl⟩ := q_20
      refine r_eqI (y := 147) (by decide) ?_
      refine r_callV (pc := 23) (As := [(.int (iI (147)))]) (S := []) dX11_readTerm_23 cv_X11_179 hM.k rfl (Nat.le_of_ble_eq_true rfl) (m_takeX l z _ hM hT hX) (Nat.zero_le _) (Nat.zero_le _) (fun r_23 g_23 f_23 q_23 => ?_)
      obtain ⟨rfl, rfl, rfl⟩ := q_23
      refine r_if_eq (pc := 26) (tgt := 37) dX11_readTerm_26 (by decide) (by omega) (fun c_26 => ?_) (fun c_26 => ?_)
      · exact r_vret (pc := 37) dX11_readTerm_37 rfl ⟨rfl, rfl, rfl⟩
      · exact absurd c_26 (by decide)

set_option maxRecDepth 100000 in
set_option maxHeartbeats 4000000 in
theorem m_sum (l : Launch) (z : Zv) {g : Gm} {T : Nat} {c v : Nat → Int} {p : Nat → Nat} {f0 : Fm} (hM : ML g) (hT : MT f0 c v p T) {dp H : Nat} {term : Nat → Nat → PR} (hsub : RdM l z g T p f0 mX11_readTerm term H dp) : RdM l z g T p f0 mX11_readSum (sSum c term) (H + 4) dp := by
  have ht4 := hT.t4
  refine ⟨fun D hD f j lv hG => ?_, fun D hD f x hX => ?_⟩
  · obtain ⟨d, rfl⟩ : ∃ d, D = d + 4 := ⟨D - 4, by omega⟩
    refine PM.of (by decide +kernel) (Nat.le_of_ble_eq_true rfl) ?_
    have hr := hG.r
    have loopbad : ∀ (f1 : Fm) (x1 : Nat), MX p f0 f1 x1 → sSum c term j lv = .error x1 → PW l z (d + 4) mX11_readSum 0 0 (mpo T p f0 g j (sSum c term j lv)) 5 [(0, (.ref 164)), (1, (.int (iI (((dp : Nat) : Int)))))] [] g f1 0 0 := by
      intro f1 x1 hX1 hE
      refine r_aload_n (pc := 5) 0 dX11_readSum_5 rfl rfl ?_
      refine r_bipush (pc := 6) dX11_readSum_6 (by decide) ?_
      refine r_callS (pc := 8) (As := [(.int (iI (43)))]) (S := [(.ref 164)]) dX11_readSum_8 cs_X11_203 rfl (Nat.le_of_ble_eq_true rfl) (m_sign l z _ (43)) (Nat.zero_le _) (Nat.zero_le _) (fun r_8 g_8 f_8 q_8 => ?_)
      obtain ⟨rfl, rfl, rfl⟩ := q_8
      refine r_eqI (y := 143) (by decide) ?_
      refine r_callV (pc := 11) (As := [(.int (iI (143)))]) (S := []) dX11_readSum_11 cv_X11_179 hM.k rfl (Nat.le_of_ble_eq_true rfl) (m_takeX l z _ hM hT hX1) (Nat.zero_le _) (Nat.zero_le _) (fun r_11 g_11 f_11 q_11 => ?_)
      obtain ⟨rfl, rfl, rfl⟩ := q_11
      refine r_if_ne (pc := 14) (tgt := 29) dX11_readSum_14 (by decide) (by omega) (fun c_14 => ?_) (fun c_14 => ?_)
      · exact absurd c_14 (by decide)
      · refine r_aload_n (pc := 17) 0 dX11_readSum_17 rfl rfl ?_
        refine r_bipush (pc := 18) dX11_readSum_18 (by decide) ?_
        refine r_callS (pc := 20) (As := [(.int (iI (45)))]) (S := [(.ref 164)]) dX11_readSum_20 cs_X11_203 rfl (Nat.le_of_ble_eq_true rfl) (m_sign l z _ (45)) (Nat.zero_le _) (Nat.zero_le _) (fun r_20 g_20 f_20 q_20 => ?_)
        obtain ⟨rfl, rfl, rfl⟩ := q_20
        refine r_eqI (y := 145) (by decide) ?_
        refine r_callV (pc := 23) (As := [(.int (iI (145)))]) (S := []) dX11_readSum_23 cv_X11_179 hM.k rfl (Nat.le_of_ble_eq_true rfl) (m_takeX l z _ hM hT hX1) (Nat.zero_le _) (Nat.zero_le _) (fun r_23 g_23 f_23 q_23 => ?_)
        obtain ⟨rfl, rfl, rfl⟩ := q_23
        refine r_if_eq (pc := 26) (tgt := 37) dX11_readSum_26 (by decide) (by omega) (fun c_26 => ?_) (fun c_26 => ?_)
        · exact r_vret (pc := 37) dX11_readSum_37 rfl ⟨rfl, rfl, Or.inl ⟨_, hE, hX1⟩⟩
        · exact absurd c_26 (by decide)
    have loop : ∀ m : Nat, m ≤ 400 → ∀ (f1 : Fm) (acc : Term) (j1 l1 : Nat), sSum c term j lv = sSumR c term m acc j1 l1 → MG T f0 f1 j1 l1 → j ≤ j1 → T ≤ j1 + m → PW l z (d + 4) mX11_readSum 0 0 (mpo T p f0 g j (sSum c term j lv)) 5 [(0, (.ref 164)), (1, (.int (iI (((dp : Nat) : Int)))))] [] g f1 0 0 := by
      intro m
      induction m using Nat.strongRecOn with
      | _ m ih =>
        intro hm4 f1 acc j1 l1 hR hG1 hjj hfu
        have hr1 := hG1.r
        refine r_aload_n (pc := 5) 0 dX11_readSum_5 rfl rfl ?_
        refine r_bipush (pc := 6) dX11_readSum_6 (by decide) ?_
        refine r_callS (pc := 8) (As := [(.int (iI (43)))]) (S := [(.ref 164)]) dX11_readSum_8 cs_X11_203 rfl (Nat.le_of_ble_eq_true rfl) (m_sign l z _ (43)) (Nat.zero_le _) (Nat.zero_le _) (fun r_8 g_8 f_8 q_8 => ?_)
        obtain ⟨rfl, rfl, rfl⟩ := q_8
        refine r_eqI (y := 143) (by decide) ?_
        refine r_callV (pc := 11) (As := [(.int (iI (143)))]) (S := []) dX11_readSum_11 cv_X11_179 hM.k rfl (Nat.le_of_ble_eq_true rfl) (m_take l z _ hM hT hG1 (by decide) (by decide)) (Nat.zero_le _) (Nat.zero_le _) (fun r_11 g_11 f_11 q_11 => ?_)
        obtain ⟨rfl, ⟨hc_11, rfl, hG_11, hj_11⟩ | ⟨hc_11, rfl, rfl⟩⟩ := q_11
        · refine r_if_ne (pc := 14) (tgt := 29) dX11_readSum_14 (by decide) (by omega) (fun c_14 => ?_) (fun c_14 => ?_)
          · obtain ⟨m', rfl⟩ : ∃ m', m = m' + 1 := ⟨m - 1, by omega⟩
            refine r_aload_n (pc := 29) 0 dX11_readSum_29 rfl rfl ?_
            refine r_iload_n (pc := 30) 1 dX11_readSum_30 rfl rfl ?_
            refine r_callV (pc := 31) (As := [(.int (iI (((dp : Nat) : Int))))]) (S := []) dX11_readSum_31 cv_X11_207 hM.k rfl (Nat.le_of_ble_eq_true rfl) (hsub.1 _ (by omega) _ _ _ hG_11) (Nat.zero_le _) (Nat.zero_le _) (fun r_31 g_31 f_31 q_31 => ?_)
            obtain ⟨rfl, rfl, ⟨x_31, hR_31, hX_31⟩ | ⟨t_31, j_31, l_31, hR_31, hG_31, hj_31⟩⟩ := q_31
            · refine r_goto (pc := 34) (tgt := 5) dX11_readSum_34 (by decide) ?_
              exact loopbad _ _ hX_31 (by rw [hR, sSumR, if_pos hc_11]; exact bnd_e hR_31)
            · refine r_goto (pc := 34) (tgt := 5) dX11_readSum_34 (by decide) ?_
              exact ih m' (by omega) (by omega) _ (.add acc t_31) _ _ (by rw [hR, sSumR, if_pos hc_11, bnd_o hR_31]) hG_31 (by omega) (by omega)
          · exact absurd c_14 (by decide)
        · refine r_if_ne (pc := 14) (tgt := 29) dX11_readSum_14 (by decide) (by omega) (fun c_14 => ?_) (fun c_14 => ?_)
          · exact absurd c_14 (by decide)
          · refine r_aload_n (pc := 17) 0 dX11_readSum_17 rfl rfl ?_
            refine r_bipush (pc := 18) dX11_readSum_18 (by decide) ?_
            refine r_callS (pc := 20) (As := [(.int (iI (45)))]) (S := [(.ref 164)]) dX11_readSum_20 cs_X11_203 rfl (Nat.le_of_ble_eq_true rfl) (m_sign l z _ (45)) (Nat.zero_le _) (Nat.zero_le _) (fun r_20 g_20 f_20 q_20 => ?_)
            obtain ⟨rfl, rfl, rfl⟩ := q_20
            refine r_eqI (y := 145) (by decide) ?_
            refine r_callV (pc := 23) (As := [(.int (iI (145)))]) (S := []) dX11_readSum_23 cv_X11_179 hM.k rfl (Nat.le_of_ble_eq_true rfl) (m_take l z _ hM hT hG1 (by decide) (by decide)) (Nat.zero_le _) (Nat.zero_le _) (fun r_23 g_23 f_23 q_23 => ?_)
            obtain ⟨rfl, ⟨hc_23, rfl, hG_23, hj_23⟩ | ⟨hc_23, rfl, rfl⟩⟩ := q_23
            · refine r_if_eq (pc := 26) (tgt := 37) dX11_readSum_26 (by decide) (by omega) (fun c_26 => ?_) (fun c_26 => ?_)
              · exact absurd c_26 (by decide)
              · obtain ⟨m', rfl⟩ : ∃ m', m = m' + 1 := ⟨m - 1, by omega⟩
                refine r_aload_n (pc := 29) 0 dX11_readSum_29 rfl rfl ?_
                refine r_iload_n (pc := 30) 1 dX11_readSum_30 rfl rfl ?_
                refine r_callV (pc := 31) (As := [(.int (iI (((dp : Nat) : Int))))]) (S := []) dX11_readSum_31 cv_X11_207 hM.k rfl (Nat.le_of_ble_eq_true rfl) (hsub.1 _ (by omega) _ _ _ hG_23) (Nat.zero_le _) (Nat.zero_le _) (fun r_31 g_31 f_31 q_31 => ?_)
                obtain ⟨rfl, rfl, ⟨x_31, hR_31, hX_31⟩ | ⟨t_31, j_31, l_31, hR_31, hG_31, hj_31⟩⟩ := q_31
                · refine r_goto (pc := 34) (tgt := 5) dX11_readSum_34 (by decide) ?_
                  exact loopbad _ _ hX_31 (by rw [hR, sSumR, if_neg hc_11, if_pos hc_23]; exact bnd_e hR_31)
                · refine r_goto (pc := 34) (tgt := 5) dX11_readSum_34 (by decide) ?_
                  exact ih m' (by omega) (by omega) _ (.sub acc t_31) _ _ (by rw [hR, sSumR, if_neg hc_11, if_pos hc_23, bnd_o hR_31]) hG_31 (by omega) (by omega)
            · refine r_if_eq (pc := 26) (tgt := 37) dX11_readSum_26 (by decide) (by omega) (fun c_26 => ?_) (fun c_26 => ?_)
              · exact r_vret (pc := 37) dX11_readSum_37 rfl ⟨rfl, rfl, Or.inr ⟨_, _, _, by rw [hR]; exact sSumR_out hc_11 hc_23, hG1, by omega⟩⟩
              · exact absurd c_26 (by decide)
    refine r_aload_n (pc := 0) 0 dX11_readSum_0 rfl rfl ?_
    refine r_iload_n (pc := 1) 1 dX11_readSum_1 rfl rfl ?_
    refine r_callV (pc := 2) (As := [(.int (iI (((dp : Nat) : Int))))]) (S := []) dX11_readSum_2 cv_X11_207 hM.k rfl (Nat.le_of_ble_eq_true rfl) (hsub.1 _ (by omega) _ _ _ hG) (Nat.zero_le _) (Nat.zero_le _) (fun r_2 g_2 f_2 q_2 => ?_)
    obtain ⟨rfl, rfl, ⟨x_2, hR_2, hX_2⟩ | ⟨t_2, j_2, l_2, hR_2, hG_2, hj_2⟩⟩ := q_2
    · exact loopbad _ _ hX_2 (bnd_e hR_2)
    · exact loop 400 (by omega) _ _ _ _ (bnd_o hR_2) hG_2 hj_2 (by omega)
  · obtain ⟨d, rfl⟩ : ∃ d, D = d + 4 := ⟨D - 4, by omega⟩
    refine PM.of (by decide +kernel) (Nat.le_of_ble_eq_true rfl) ?_
    refine r_aload_n (pc := 0) 0 dX11_readSum_0 rfl rfl ?_
    refine r_iload_n (pc := 1) 1 dX11_readSum_1 rfl rfl ?_
    refine r_callV (pc := 2) (As := [(.int (iI (((dp : Nat) : Int))))]) (S := []) dX11_readSum_2 cv_X11_207 hM.k rfl (Nat.le_of_ble_eq_true rfl) (hsub.2 _ (by omega) _ _ hX) (Nat.zero_le _) (Nat.zero_le _) (fun r_2 g_2 f_2 q_2 => ?_)
    obtain ⟨rfl, rfl, rfl⟩ := q_2
    refine r_aload_n (pc := 5) 0 dX11_readSum_5 rfl rfl ?_
    refine r_bipush (pc := 6) dX11_readSum_6 (by decide) ?_
    refine r_callS (pc := 8) (As := [(.int (iI (43)))]) (S := [(.ref 164)]) dX11_readSum_8 cs_X11_203 rfl (Nat.le_of_ble_eq_true rfl) (m_sign l z _ (43)) (Nat.zero_le _) (Nat.zero_le _) (fun r_8 g_8 f_8 q_8 => ?_)
    obtain ⟨rfl, rfl, rfl⟩ := q_8
    refine r_eqI (y := 143) (by decide) ?_
    refine r_callV (pc := 11) (As := [(.int (iI (143)))]) (S := []) dX11_readSum_11 cv_X11_179 hM.k rfl (Nat.le_of_ble_eq_true rfl) (m_takeX l z _ hM hT hX) (Nat.zero_le _) (Nat.zero_le _) (fun r_11 g_11 f_11 q_11 => ?_)
    obtain ⟨rfl, rfl, rfl⟩ := q_11
    refine r_if_ne (pc := 14) (tgt := 29) dX11_readSum_14 (by decide) (by omega) (fun c_14 => ?_) (fun c_14 => ?_)
    · exact absurd c_14 (by decide)
    · refine r_aload_n (pc := 17) 0 dX11_readSum_17 rfl rfl ?_
      refine r_bipush (pc := 18) dX11_readSum_18 (by decide) ?_
      refine r_callS (pc := 20) (As := [(.int (iI (45)))]) (S := [(.ref 164)]) dX11_readSum_20 cs_X11_203 rfl (Nat.le_of_ble_eq_true rfl) (m_sign l z _ (45)) (Nat.zero_le _) (Nat.zero_le _) (fun r_20 g_20 f_20 q_20 => ?_)
      obtain ⟨rfl, rfl, rfl⟩ := q_20
      refine r_eqI (y := 145) (by decide) ?_
      refine r_callV (pc := 23) (As := [(.int (iI (145)))]) (S := []) dX11_readSum_23 cv_X11_179 hM.k rfl (Nat.le_of_ble_eq_true rfl) (m_takeX l z _ hM hT hX) (Nat.zero_le _) (Nat.zero_le _) (fun r_23 g_23 f_23 q_23 => ?_)
      obtain ⟨rfl, rfl, rfl⟩ := q_23
      refine r_if_eq (pc := 26) (tgt := 37) dX11_readSum_26 (by decide) (by omega) (fun c_26 => ?_) (fun c_26 => ?_)
      · exact r_vret (pc := 37) dX11_readSum_37 rfl ⟨rfl, rfl, rfl⟩
      · exact absurd c_26 (by decide)

set_option maxRecDepth 100000 in
set_option maxHeartbeats 4000000 in
theorem m_both (l : Launch) (z : Zv) {g : Gm} {T : Nat} {c v : Nat → Int} {p : Nat → Nat} {f0 : Fm} (hM : ML g) (hT : MT f0 c v p T) {dp H : Nat} {plain : Nat → Nat → PR} (hsub : RdM l z g T p f0 mX11_readPlain plain H dp) : RdM l z g T p f0 mX11_readBoth (sBoth c plain) (H + 4) dp := by
  have ht4 := hT.t4
  refine ⟨fun D hD f j lv hG => ?_, fun D hD f x hX => ?_⟩
  · obtain ⟨d, rfl⟩ : ∃ d, D = d + 4 := ⟨D - 4, by omega⟩
    refine PM.of (by decide +kernel) (Nat.le_of_ble_eq_true rfl) ?_
    have hr := hG.r
    have loopbad : ∀ (f1 : Fm) (x1 : Nat), MX p f0 f1 x1 → sBoth c plain j lv = .error x1 → PW l z (d + 4) mX11_readBoth 0 0 (mpo T p f0 g j (sBoth c plain j lv)) 5 [(0, (.ref 164)), (1, (.int (iI (((dp : Nat) : Int)))))] [] g f1 0 0 := by
      intro f1 x1 hX1 hE
      refine r_aload_n (pc := 5) 0 dX11_readBoth_5 rfl rfl ?_
      refine r_iconst (pc := 6) dX11_readBoth_6 ?_
      refine r_callV (pc := 7) (As := [(.int (iI (5)))]) (S := []) dX11_readBoth_7 cv_X11_179 hM.k rfl (Nat.le_of_ble_eq_true rfl) (m_takeX l z _ hM hT hX1) (Nat.zero_le _) (Nat.zero_le _) (fun r_7 g_7 f_7 q_7 => ?_)
      obtain ⟨rfl, rfl, rfl⟩ := q_7
      refine r_if_eq (pc := 10) (tgt := 21) dX11_readBoth_10 (by decide) (by omega) (fun c_10 => ?_) (fun c_10 => ?_)
      · exact r_vret (pc := 21) dX11_readBoth_21 rfl ⟨rfl, rfl, Or.inl ⟨_, hE, hX1⟩⟩
      · exact absurd c_10 (by decide)
    have loop : ∀ m : Nat, m ≤ 400 → ∀ (f1 : Fm) (acc : Term) (j1 l1 : Nat), sBoth c plain j lv = sBothR c plain m acc j1 l1 → MG T f0 f1 j1 l1 → j ≤ j1 → T ≤ j1 + m → PW l z (d + 4) mX11_readBoth 0 0 (mpo T p f0 g j (sBoth c plain j lv)) 5 [(0, (.ref 164)), (1, (.int (iI (((dp : Nat) : Int)))))] [] g f1 0 0 := by
      intro m
      induction m using Nat.strongRecOn with
      | _ m ih =>
        intro hm4 f1 acc j1 l1 hR hG1 hjj hfu
        have hr1 := hG1.r
        refine r_aload_n (pc := 5) 0 dX11_readBoth_5 rfl rfl ?_
        refine r_iconst (pc := 6) dX11_readBoth_6 ?_
        refine r_callV (pc := 7) (As := [(.int (iI (5)))]) (S := []) dX11_readBoth_7 cv_X11_179 hM.k rfl (Nat.le_of_ble_eq_true rfl) (m_take l z _ hM hT hG1 (by decide) (by decide)) (Nat.zero_le _) (Nat.zero_le _) (fun r_7 g_7 f_7 q_7 => ?_)
        obtain ⟨rfl, ⟨hc_7, rfl, hG_7, hj_7⟩ | ⟨hc_7, rfl, rfl⟩⟩ := q_7
        · refine r_if_eq (pc := 10) (tgt := 21) dX11_readBoth_10 (by decide) (by omega) (fun c_10 => ?_) (fun c_10 => ?_)
          · exact absurd c_10 (by decide)
          · obtain ⟨m', rfl⟩ : ∃ m', m = m' + 1 := ⟨m - 1, by omega⟩
            refine r_aload_n (pc := 13) 0 dX11_readBoth_13 rfl rfl ?_
            refine r_iload_n (pc := 14) 1 dX11_readBoth_14 rfl rfl ?_
            refine r_callV (pc := 15) (As := [(.int (iI (((dp : Nat) : Int))))]) (S := []) dX11_readBoth_15 cv_X11_200 hM.k rfl (Nat.le_of_ble_eq_true rfl) (hsub.1 _ (by omega) _ _ _ hG_7) (Nat.zero_le _) (Nat.zero_le _) (fun r_15 g_15 f_15 q_15 => ?_)
            obtain ⟨rfl, rfl, ⟨x_15, hR_15, hX_15⟩ | ⟨t_15, j_15, l_15, hR_15, hG_15, hj_15⟩⟩ := q_15
            · refine r_goto (pc := 18) (tgt := 5) dX11_readBoth_18 (by decide) ?_
              exact loopbad _ _ hX_15 (by rw [hR, sBothR, if_pos hc_7]; exact bnd_e hR_15)
            · refine r_goto (pc := 18) (tgt := 5) dX11_readBoth_18 (by decide) ?_
              exact ih m' (by omega) (by omega) _ (.mul acc t_15) _ _ (by rw [hR, sBothR, if_pos hc_7, bnd_o hR_15]) hG_15 (by omega) (by omega)
        · refine r_if_eq (pc := 10) (tgt := 21) dX11_readBoth_10 (by decide) (by omega) (fun c_10 => ?_) (fun c_10 => ?_)
          · exact r_vret (pc := 21) dX11_readBoth_21 rfl ⟨rfl, rfl, Or.inr ⟨_, _, _, by rw [hR]; exact sBothR_out hc_7, hG1, by omega⟩⟩
          · exact absurd c_10 (by decide)
    refine r_aload_n (pc := 0) 0 dX11_readBoth_0 rfl rfl ?_
    refine r_iload_n (pc := 1) 1 dX11_readBoth_1 rfl rfl ?_
    refine r_callV (pc := 2) (As := [(.int (iI (((dp : Nat) : Int))))]) (S := []) dX11_readBoth_2 cv_X11_200 hM.k rfl (Nat.le_of_ble_eq_true rfl) (hsub.1 _ (by omega) _ _ _ hG) (Nat.zero_le _) (Nat.zero_le _) (fun r_2 g_2 f_2 q_2 => ?_)
    obtain ⟨rfl, rfl, ⟨x_2, hR_2, hX_2⟩ | ⟨t_2, j_2, l_2, hR_2, hG_2, hj_2⟩⟩ := q_2
    · exact loopbad _ _ hX_2 (bnd_e hR_2)
    · exact loop 400 (by omega) _ _ _ _ (bnd_o hR_2) hG_2 hj_2 (by omega)
  · obtain ⟨d, rfl⟩ : ∃ d, D = d + 4 := ⟨D - 4, by omega⟩
    refine PM.of (by decide +kernel) (Nat.le_of_ble_eq_true rfl) ?_
    refine r_aload_n (pc := 0) 0 dX11_readBoth_0 rfl rfl ?_
    refine r_iload_n (pc := 1) 1 dX11_readBoth_1 rfl rfl ?_
    refine r_callV (pc := 2) (As := [(.int (iI (((dp : Nat) : Int))))]) (S := []) dX11_readBoth_2 cv_X11_200 hM.k rfl (Nat.le_of_ble_eq_true rfl) (hsub.2 _ (by omega) _ _ hX) (Nat.zero_le _) (Nat.zero_le _) (fun r_2 g_2 f_2 q_2 => ?_)
    obtain ⟨rfl, rfl, rfl⟩ := q_2
    refine r_aload_n (pc := 5) 0 dX11_readBoth_5 rfl rfl ?_
    refine r_iconst (pc := 6) dX11_readBoth_6 ?_
    refine r_callV (pc := 7) (As := [(.int (iI (5)))]) (S := []) dX11_readBoth_7 cv_X11_179 hM.k rfl (Nat.le_of_ble_eq_true rfl) (m_takeX l z _ hM hT hX) (Nat.zero_le _) (Nat.zero_le _) (fun r_7 g_7 f_7 q_7 => ?_)
    obtain ⟨rfl, rfl, rfl⟩ := q_7
    refine r_if_eq (pc := 10) (tgt := 21) dX11_readBoth_10 (by decide) (by omega) (fun c_10 => ?_) (fun c_10 => ?_)
    · exact r_vret (pc := 21) dX11_readBoth_21 rfl ⟨rfl, rfl, rfl⟩
    · exact absurd c_10 (by decide)

set_option maxRecDepth 100000 in
set_option maxHeartbeats 4000000 in
theorem m_test (l : Launch) (z : Zv) {g : Gm} {T : Nat} {c v : Nat → Int} {p : Nat → Nat} {f0 : Fm} (hM : ML g) (hT : MT f0 c v p T) {dp H : Nat} {both : Nat → Nat → PR} (hsub : RdM l z g T p f0 mX11_readBoth both H dp) : RdM l z g T p f0 mX11_readTest (sTest c both) (H + 4) dp := by
  have ht4 := hT.t4
  refine ⟨fun D hD f j lv hG => ?_, fun D hD f x hX => ?_⟩
  · obtain ⟨d, rfl⟩ : ∃ d, D = d + 4 := ⟨D - 4, by omega⟩
    refine PM.of (by decide +kernel) (Nat.le_of_ble_eq_true rfl) ?_
    have hr := hG.r
    have loopbad : ∀ (f1 : Fm) (x1 : Nat), MX p f0 f1 x1 → sTest c both j lv = .error x1 → PW l z (d + 4) mX11_readTest 0 0 (mpo T p f0 g j (sTest c both j lv)) 5 [(0, (.ref 164)), (1, (.int (iI (((dp : Nat) : Int)))))] [] g f1 0 0 := by
      intro f1 x1 hX1 hE
      refine r_aload_n (pc := 5) 0 dX11_readTest_5 rfl rfl ?_
      refine r_iconst (pc := 6) dX11_readTest_6 ?_
      refine r_callV (pc := 7) (As := [(.int (iI (4)))]) (S := []) dX11_readTest_7 cv_X11_179 hM.k rfl (Nat.le_of_ble_eq_true rfl) (m_takeX l z _ hM hT hX1) (Nat.zero_le _) (Nat.zero_le _) (fun r_7 g_7 f_7 q_7 => ?_)
      obtain ⟨rfl, rfl, rfl⟩ := q_7
      refine r_if_eq (pc := 10) (tgt := 21) dX11_readTest_10 (by decide) (by omega) (fun c_10 => ?_) (fun c_10 => ?_)
      · exact r_vret (pc := 21) dX11_readTest_21 rfl ⟨rfl, rfl, Or.inl ⟨_, hE, hX1⟩⟩
      · exact absurd c_10 (by decide)
    have loop : ∀ m : Nat, m ≤ 400 → ∀ (f1 : Fm) (acc : Term) (j1 l1 : Nat), sTest c both j lv = sTestR c both m acc j1 l1 → MG T f0 f1 j1 l1 → j ≤ j1 → T ≤ j1 + m → PW l z (d + 4) mX11_readTest 0 0 (mpo T p f0 g j (sTest c both j lv)) 5 [(0, (.ref 164)), (1, (.int (iI (((dp : Nat) : Int)))))] [] g f1 0 0 := by
      intro m
      induction m using Nat.strongRecOn with
      | _ m ih =>
        intro hm4 f1 acc j1 l1 hR hG1 hjj hfu
        have hr1 := hG1.r
        refine r_aload_n (pc := 5) 0 dX11_readTest_5 rfl rfl ?_
        refine r_iconst (pc := 6) dX11_readTest_6 ?_
        refine r_callV (pc := 7) (As := [(.int (iI (4)))]) (S := []) dX11_readTest_7 cv_X11_179 hM.k rfl (Nat.le_of_ble_eq_true rfl) (m_take l z _ hM hT hG1 (by decide) (by decide)) (Nat.zero_le _) (Nat.zero_le _) (fun r_7 g_7 f_7 q_7 => ?_)
        obtain ⟨rfl, ⟨hc_7, rfl, hG_7, hj_7⟩ | ⟨hc_7, rfl, rfl⟩⟩ := q_7
        · refine r_if_eq (pc := 10) (tgt := 21) dX11_readTest_10 (by decide) (by omega) (fun c_10 => ?_) (fun c_10 => ?_)
          · exact absurd c_10 (by decide)
          · obtain ⟨m', rfl⟩ : ∃ m', m = m' + 1 := ⟨m - 1, by omega⟩
            refine r_aload_n (pc := 13) 0 dX11_readTest_13 rfl rfl ?_
            refine r_iload_n (pc := 14) 1 dX11_readTest_14 rfl rfl ?_
            refine r_callV (pc := 15) (As := [(.int (iI (((dp : Nat) : Int))))]) (S := []) dX11_readTest_15 cv_X11_197 hM.k rfl (Nat.le_of_ble_eq_true rfl) (hsub.1 _ (by omega) _ _ _ hG_7) (Nat.zero_le _) (Nat.zero_le _) (fun r_15 g_15 f_15 q_15 => ?_)
            obtain ⟨rfl, rfl, ⟨x_15, hR_15, hX_15⟩ | ⟨t_15, j_15, l_15, hR_15, hG_15, hj_15⟩⟩ := q_15
            · refine r_goto (pc := 18) (tgt := 5) dX11_readTest_18 (by decide) ?_
              exact loopbad _ _ hX_15 (by rw [hR, sTestR, if_pos hc_7]; exact bnd_e hR_15)
            · refine r_goto (pc := 18) (tgt := 5) dX11_readTest_18 (by decide) ?_
              exact ih m' (by omega) (by omega) _ (.add acc t_15) _ _ (by rw [hR, sTestR, if_pos hc_7, bnd_o hR_15]) hG_15 (by omega) (by omega)
        · refine r_if_eq (pc := 10) (tgt := 21) dX11_readTest_10 (by decide) (by omega) (fun c_10 => ?_) (fun c_10 => ?_)
          · exact r_vret (pc := 21) dX11_readTest_21 rfl ⟨rfl, rfl, Or.inr ⟨_, _, _, by rw [hR]; exact sTestR_out hc_7, hG1, by omega⟩⟩
          · exact absurd c_10 (by decide)
    refine r_aload_n (pc := 0) 0 dX11_readTest_0 rfl rfl ?_
    refine r_iload_n (pc := 1) 1 dX11_readTest_1 rfl rfl ?_
    refine r_callV (pc := 2) (As := [(.int (iI (((dp : Nat) : Int))))]) (S := []) dX11_readTest_2 cv_X11_197 hM.k rfl (Nat.le_of_ble_eq_true rfl) (hsub.1 _ (by omega) _ _ _ hG) (Nat.zero_le _) (Nat.zero_le _) (fun r_2 g_2 f_2 q_2 => ?_)
    obtain ⟨rfl, rfl, ⟨x_2, hR_2, hX_2⟩ | ⟨t_2, j_2, l_2, hR_2, hG_2, hj_2⟩⟩ := q_2
    · exact loopbad _ _ hX_2 (bnd_e hR_2)
    · exact loop 400 (by omega) _ _ _ _ (bnd_o hR_2) hG_2 hj_2 (by omega)
  · obtain ⟨d, rfl⟩ : ∃ d, D = d + 4 := ⟨D - 4, by omega⟩
    refine PM.of (by decide +kernel) (Nat.le_of_ble_eq_true rfl) ?_
    refine r_aload_n (pc := 0) 0 dX11_readTest_0 rfl rfl ?_
    refine r_iload_n (pc := 1) 1 dX11_readTest_1 rfl rfl ?_
    refine r_callV (pc := 2) (As := [(.int (iI (((dp : Nat) : Int))))]) (S := []) dX11_readTest_2 cv_X11_197 hM.k rfl (Nat.le_of_ble_eq_true rfl) (hsub.2 _ (by omega) _ _ hX) (Nat.zero_le _) (Nat.zero_le _) (fun r_2 g_2 f_2 q_2 => ?_)
    obtain ⟨rfl, rfl, rfl⟩ := q_2
    refine r_aload_n (pc := 5) 0 dX11_readTest_5 rfl rfl ?_
    refine r_iconst (pc := 6) dX11_readTest_6 ?_
    refine r_callV (pc := 7) (As := [(.int (iI (4)))]) (S := []) dX11_readTest_7 cv_X11_179 hM.k rfl (Nat.le_of_ble_eq_true rfl) (m_takeX l z _ hM hT hX) (Nat.zero_le _) (Nat.zero_le _) (fun r_7 g_7 f_7 q_7 => ?_)
    obtain ⟨rfl, rfl, rfl⟩ := q_7
    refine r_if_eq (pc := 10) (tgt := 21) dX11_readTest_10 (by decide) (by omega) (fun c_10 => ?_) (fun c_10 => ?_)
    · exact r_vret (pc := 21) dX11_readTest_21 rfl ⟨rfl, rfl, rfl⟩
    · exact absurd c_10 (by decide)

set_option maxRecDepth 100000 in
set_option maxHeartbeats 4000000 in
theorem m_plain (l : Launch) (z : Zv) {g : Gm} {T : Nat} {c v : Nat → Int} {p : Nat → Nat} {f0 : Fm} (hM : ML g) (hT : MT f0 c v p T) {dp e H : Nat} {sum test : Nat → Nat → PR} (he : dp + e = 8) (hsum : RdM l z g T p f0 mX11_readSum sum H dp) (hsubT : e ≠ 0 → RdM l z g T p f0 mX11_readTest test H (dp + 1)) : RdM l z g T p f0 mX11_readPlain (sPlain c sum test e) (H + 4) dp := by
  have ht4 := hT.t4
  refine ⟨fun D hD f j lv hG => ?_, fun D hD f x hX => ?_⟩
  · obtain ⟨d, rfl⟩ : ∃ d, D = d + 4 := ⟨D - 4, by omega⟩
    refine PM.of (by decide +kernel) (Nat.le_of_ble_eq_true rfl) ?_
    have hr := hG.r
    have loop : ∀ m : Nat, m ≤ 400 → ∀ (f1 : Fm) (j1 : Nat) (bb : Bool), sNot c 400 false j = sNot c m bb j1 → MG T f0 f1 j1 lv → j ≤ j1 → T ≤ j1 + m → PW l z (d + 4) mX11_readPlain 0 0 (mpo T p f0 g j (sPlain c sum test e j lv)) 6 [(2, (.int (iI (1)))), (0, (.ref 164)), (1, (.int (iI (((dp : Nat) : Int)))))] [] g f1 0 0 := by
      intro m
      induction m using Nat.strongRecOn with
      | _ m ih =>
        intro hm4 f1 j1 bb hN hG1 hjj hfu
        have hr1 := hG1.r
        refine r_aload_n (pc := 6) 1 dX11_readPlain_6 rfl rfl ?_
        refine r_bipush (pc := 7) dX11_readPlain_7 (by decide) ?_
        refine r_callV (pc := 9) (As := [(.int (iI (6)))]) (S := []) dX11_readPlain_9 cv_X11_179 hM.k rfl (Nat.le_of_ble_eq_true rfl) (m_take l z _ hM hT hG1 (by decide) (by decide)) (Nat.zero_le _) (Nat.zero_le _) (fun r_9 g_9 f_9 q_9 => ?_)
        obtain ⟨rfl, ⟨hc_9, rfl, hG_9, hj_9⟩ | ⟨hc_9, rfl, rfl⟩⟩ := q_9
        · obtain ⟨m', rfl⟩ : ∃ m', m = m' + 1 := ⟨m - 1, by omega⟩
          refine r_istore_n (pc := 12) (L2 := [(2, (.int (iI (1)))), (0, (.ref 164)), (1, (.int (iI (((dp : Nat) : Int)))))]) dX11_readPlain_12 rfl (by decide) rfl ?_
          refine r_goto (pc := 13) (tgt := 2) dX11_readPlain_13 (by decide) ?_
          refine r_iload_n (pc := 2) 0 dX11_readPlain_2 rfl rfl ?_
          refine r_if_eq (pc := 3) (tgt := 16) dX11_readPlain_3 (by decide) (by omega) (fun c_3 => ?_) (fun c_3 => ?_)
          · exact absurd c_3 (by decide)
          · refine r_sub (L2 := [(2, (.int (iI (1)))), (0, (.ref 164)), (1, (.int (iI (((dp : Nat) : Int)))))]) [0, 1, 2] rfl ?_
            exact ih m' (by omega) (by omega) _ _ (!bb) (by rw [hN, sNot, if_pos hc_9]) hG_9 (by omega) (by omega)
        · refine r_istore_n (pc := 12) (L2 := [(2, (.int (iI (0)))), (0, (.ref 164)), (1, (.int (iI (((dp : Nat) : Int)))))]) dX11_readPlain_12 rfl (by decide) rfl ?_
          refine r_goto (pc := 13) (tgt := 2) dX11_readPlain_13 (by decide) ?_
          refine r_iload_n (pc := 2) 0 dX11_readPlain_2 rfl rfl ?_
          refine r_if_eq (pc := 3) (tgt := 16) dX11_readPlain_3 (by decide) (by omega) (fun c_3 => ?_) (fun c_3 => ?_)
          · have hN2 : sNot c 400 false j = (bb, j1) := by rw [hN]; exact sNot_out hc_9
            have hcr := hT.xr j1
            refine r_aload_n (pc := 16) 1 dX11_readPlain_16 rfl rfl ?_
            refine r_callV (pc := 17) (As := []) (S := []) dX11_readPlain_17 cv_X11_172 hM.k rfl (Nat.le_of_ble_eq_true rfl) (m_fineG l z _ hM hG1) (Nat.zero_le _) (Nat.zero_le _) (fun r_17 g_17 f_17 q_17 => ?_)
            obtain ⟨rfl, rfl, rfl⟩ := q_17
            refine r_if_ne (pc := 20) (tgt := 24) dX11_readPlain_20 (by decide) (by have := hT.xr j1; omega) (fun c_20 => ?_) (fun c_20 => ?_)
            · refine r_aload_n (pc := 24) 1 dX11_readPlain_24 rfl rfl ?_
              refine r_getR (pc := 25) (b := 172) dX11_readPlain_25 fl_X11_40 rfl hM.k hM.r11 ?_
              refine r_aload_n (pc := 28) 1 dX11_readPlain_28 rfl rfl ?_
              refine r_getIv (pc := 29) (x := ((j1 : Nat) : Int)) dX11_readPlain_29 fl_X11_176 rfl hM.k (hG1.xj) ?_
              refine r_ialdv (pc := 32) (w := c j1) dX11_readPlain_32 hM.a11 (by omega) (by decide) (hG1.xc hT (by omega)) ?_
              refine r_istore_n (pc := 33) (L2 := [(3, (.int (iI (c j1)))), (2, (.int (iI (0)))), (0, (.ref 164)), (1, (.int (iI (((dp : Nat) : Int)))))]) dX11_readPlain_33 rfl (by decide) rfl ?_
              refine r_iload_n (pc := 34) 0 dX11_readPlain_34 rfl rfl ?_
              refine r_bipush (pc := 35) dX11_readPlain_35 (by decide) ?_
              refine r_callS (pc := 37) (As := [(.int (iI (40)))]) (S := [(.int (iI (c j1)))]) dX11_readPlain_37 cs_X11_203 rfl (Nat.le_of_ble_eq_true rfl) (m_sign l z _ (40)) (Nat.zero_le _) (Nat.zero_le _) (fun r_37 g_37 f_37 q_37 => ?_)
              obtain ⟨rfl, rfl, rfl⟩ := q_37
              refine r_eqI (y := 140) (by decide) ?_
              refine r_icmp_ne (pc := 40) (tgt := 90) dX11_readPlain_40 (by decide) (by have := hT.xr j1; omega) (by omega) (fun c_40 => ?_) (fun c_40 => ?_)
              · refine r_aload_n (pc := 90) 2 dX11_readPlain_90 rfl rfl ?_
                refine r_iload_n (pc := 91) 3 dX11_readPlain_91 rfl rfl ?_
                refine r_callV (pc := 92) (As := [(.int (iI (((dp : Nat) : Int))))]) (S := []) dX11_readPlain_92 cv_X11_188 hM.k rfl (Nat.le_of_ble_eq_true rfl) (hsum.1 _ (by omega) _ _ _ hG1) (Nat.zero_le _) (Nat.zero_le _) (fun r_92 g_92 f_92 q_92 => ?_)
                obtain ⟨rfl, rfl, ⟨x_92, hR_92, hX_92⟩ | ⟨t_92, j_92, l_92, hR_92, hG_92, hj_92⟩⟩ := q_92
                · refine r_aload_n (pc := 95) 2 dX11_readPlain_95 rfl rfl ?_
                  refine r_bipush (pc := 96) dX11_readPlain_96 (by decide) ?_
                  refine r_callS (pc := 98) (As := [(.int (iI (60)))]) (S := [(.ref 164)]) dX11_readPlain_98 cs_X11_203 rfl (Nat.le_of_ble_eq_true rfl) (m_sign l z _ (60)) (Nat.zero_le _) (Nat.zero_le _) (fun r_98 g_98 f_98 q_98 => ?_)
                  obtain ⟨rfl, rfl, rfl⟩ := q_98
                  refine r_eqI (y := 160) (by decide) ?_
                  refine r_callV (pc := 101) (As := [(.int (iI (160)))]) (S := []) dX11_readPlain_101 cv_X11_179 hM.k rfl (Nat.le_of_ble_eq_true rfl) (m_takeX l z _ hM hT hX_92) (Nat.zero_le _) (Nat.zero_le _) (fun r_101 g_101 f_101 q_101 => ?_)
                  obtain ⟨rfl, rfl, rfl⟩ := q_101
                  refine r_if_ne (pc := 104) (tgt := 128) dX11_readPlain_104 (by decide) (by have := hT.xr j1; omega) (fun c_104 => ?_) (fun c_104 => ?_)
                  · exact absurd c_104 (by decide)
                  · refine r_aload_n (pc := 107) 2 dX11_readPlain_107 rfl rfl ?_
                    refine r_bipush (pc := 108) dX11_readPlain_108 (by decide) ?_
                    refine r_callS (pc := 110) (As := [(.int (iI (62)))]) (S := [(.ref 164)]) dX11_readPlain_110 cs_X11_203 rfl (Nat.le_of_ble_eq_true rfl) (m_sign l z _ (62)) (Nat.zero_le _) (Nat.zero_le _) (fun r_110 g_110 f_110 q_110 => ?_)
                    obtain ⟨rfl, rfl, rfl⟩ := q_110
                    refine r_eqI (y := 162) (by decide) ?_
                    refine r_callV (pc := 113) (As := [(.int (iI (162)))]) (S := []) dX11_readPlain_113 cv_X11_179 hM.k rfl (Nat.le_of_ble_eq_true rfl) (m_takeX l z _ hM hT hX_92) (Nat.zero_le _) (Nat.zero_le _) (fun r_113 g_113 f_113 q_113 => ?_)
                    obtain ⟨rfl, rfl, rfl⟩ := q_113
                    refine r_if_ne (pc := 116) (tgt := 128) dX11_readPlain_116 (by decide) (by have := hT.xr j1; omega) (fun c_116 => ?_) (fun c_116 => ?_)
                    · exact absurd c_116 (by decide)
                    · refine r_aload_n (pc := 119) 2 dX11_readPlain_119 rfl rfl ?_
                      refine r_bipush (pc := 120) dX11_readPlain_120 (by decide) ?_
                      refine r_callS (pc := 122) (As := [(.int (iI (61)))]) (S := [(.ref 164)]) dX11_readPlain_122 cs_X11_203 rfl (Nat.le_of_ble_eq_true rfl) (m_sign l z _ (61)) (Nat.zero_le _) (Nat.zero_le _) (fun r_122 g_122 f_122 q_122 => ?_)
                      obtain ⟨rfl, rfl, rfl⟩ := q_122
                      refine r_eqI (y := 161) (by decide) ?_
                      refine r_callV (pc := 125) (As := [(.int (iI (161)))]) (S := []) dX11_readPlain_125 cv_X11_191 hM.k rfl (Nat.le_of_ble_eq_true rfl) (m_mustX l z _ hM hT hX_92) (Nat.zero_le _) (Nat.zero_le _) (fun r_125 g_125 f_125 q_125 => ?_)
                      obtain ⟨rfl, rfl, rfl⟩ := q_125
                      refine r_aload_n (pc := 128) 2 dX11_readPlain_128 rfl rfl ?_
                      refine r_iload_n (pc := 129) 3 dX11_readPlain_129 rfl rfl ?_
                      refine r_callV (pc := 130) (As := [(.int (iI (((dp : Nat) : Int))))]) (S := []) dX11_readPlain_130 cv_X11_188 hM.k rfl (Nat.le_of_ble_eq_true rfl) (hsum.2 _ (by omega) _ _ hX_92) (Nat.zero_le _) (Nat.zero_le _) (fun r_130 g_130 f_130 q_130 => ?_)
                      obtain ⟨rfl, rfl, rfl⟩ := q_130
                      exact r_vret (pc := 133) dX11_readPlain_133 rfl ⟨rfl, rfl, Or.inl ⟨_, by rw [sPlain, hN2, sPos, if_neg (show ¬ c j1 = 140 by omega), sCmp, bnd_e hR_92]; rfl, hX_92⟩⟩
                · refine r_aload_n (pc := 95) 2 dX11_readPlain_95 rfl rfl ?_
                  refine r_bipush (pc := 96) dX11_readPlain_96 (by decide) ?_
                  refine r_callS (pc := 98) (As := [(.int (iI (60)))]) (S := [(.ref 164)]) dX11_readPlain_98 cs_X11_203 rfl (Nat.le_of_ble_eq_true rfl) (m_sign l z _ (60)) (Nat.zero_le _) (Nat.zero_le _) (fun r_98 g_98 f_98 q_98 => ?_)
                  obtain ⟨rfl, rfl, rfl⟩ := q_98
                  refine r_eqI (y := 160) (by decide) ?_
                  refine r_callV (pc := 101) (As := [(.int (iI (160)))]) (S := []) dX11_readPlain_101 cv_X11_179 hM.k rfl (Nat.le_of_ble_eq_true rfl) (m_take l z _ hM hT hG_92 (by decide) (by decide)) (Nat.zero_le _) (Nat.zero_le _) (fun r_101 g_101 f_101 q_101 => ?_)
                  obtain ⟨rfl, ⟨hc_101, rfl, hG_101, hj_101⟩ | ⟨hc_101, rfl, rfl⟩⟩ := q_101
                  · refine r_if_ne (pc := 104) (tgt := 128) dX11_readPlain_104 (by decide) (by have := hT.xr j1; omega) (fun c_104 => ?_) (fun c_104 => ?_)
                    · refine r_aload_n (pc := 128) 2 dX11_readPlain_128 rfl rfl ?_
                      refine r_iload_n (pc := 129) 3 dX11_readPlain_129 rfl rfl ?_
                      refine r_callV (pc := 130) (As := [(.int (iI (((dp : Nat) : Int))))]) (S := []) dX11_readPlain_130 cv_X11_188 hM.k rfl (Nat.le_of_ble_eq_true rfl) (hsum.1 _ (by omega) _ _ _ hG_101) (Nat.zero_le _) (Nat.zero_le _) (fun r_130 g_130 f_130 q_130 => ?_)
                      obtain ⟨rfl, rfl, ⟨x_130, hR_130, hX_130⟩ | ⟨t_130, j_130, l_130, hR_130, hG_130, hj_130⟩⟩ := q_130
                      · exact r_vret (pc := 133) dX11_readPlain_133 rfl ⟨rfl, rfl, Or.inl ⟨_, by rw [sPlain, hN2, sPos, if_neg (show ¬ c j1 = 140 by omega), sCmp, bnd_o hR_92, if_pos hc_101, bnd_e hR_130]; rfl, hX_130⟩⟩
                      · exact r_vret (pc := 133) dX11_readPlain_133 rfl ⟨rfl, rfl, Or.inr ⟨_, _, _, by rw [sPlain, hN2, sPos, if_neg (show ¬ c j1 = 140 by omega), sCmp, bnd_o hR_92, if_pos hc_101, bnd_o hR_130]; rfl, hG_130, by omega⟩⟩
                    · exact absurd c_104 (by decide)
                  · refine r_if_ne (pc := 104) (tgt := 128) dX11_readPlain_104 (by decide) (by have := hT.xr j1; omega) (fun c_104 => ?_) (fun c_104 => ?_)
                    · exact absurd c_104 (by decide)
                    · refine r_aload_n (pc := 107) 2 dX11_readPlain_107 rfl rfl ?_
                      refine r_bipush (pc := 108) dX11_readPlain_108 (by decide) ?_
                      refine r_callS (pc := 110) (As := [(.int (iI (62)))]) (S := [(.ref 164)]) dX11_readPlain_110 cs_X11_203 rfl (Nat.le_of_ble_eq_true rfl) (m_sign l z _ (62)) (Nat.zero_le _) (Nat.zero_le _) (fun r_110 g_110 f_110 q_110 => ?_)
                      obtain ⟨rfl, rfl, rfl⟩ := q_110
                      refine r_eqI (y := 162) (by decide) ?_
                      refine r_callV (pc := 113) (As := [(.int (iI (162)))]) (S := []) dX11_readPlain_113 cv_X11_179 hM.k rfl (Nat.le_of_ble_eq_true rfl) (m_take l z _ hM hT hG_92 (by decide) (by decide)) (Nat.zero_le _) (Nat.zero_le _) (fun r_113 g_113 f_113 q_113 => ?_)
                      obtain ⟨rfl, ⟨hc_113, rfl, hG_113, hj_113⟩ | ⟨hc_113, rfl, rfl⟩⟩ := q_113
                      · refine r_if_ne (pc := 116) (tgt := 128) dX11_readPlain_116 (by decide) (by have := hT.xr j1; omega) (fun c_116 => ?_) (fun c_116 => ?_)
                        · refine r_aload_n (pc := 128) 2 dX11_readPlain_128 rfl rfl ?_
                          refine r_iload_n (pc := 129) 3 dX11_readPlain_129 rfl rfl ?_
                          refine r_callV (pc := 130) (As := [(.int (iI (((dp : Nat) : Int))))]) (S := []) dX11_readPlain_130 cv_X11_188 hM.k rfl (Nat.le_of_ble_eq_true rfl) (hsum.1 _ (by omega) _ _ _ hG_113) (Nat.zero_le _) (Nat.zero_le _) (fun r_130 g_130 f_130 q_130 => ?_)
                          obtain ⟨rfl, rfl, ⟨x_130, hR_130, hX_130⟩ | ⟨t_130, j_130, l_130, hR_130, hG_130, hj_130⟩⟩ := q_130
                          · exact r_vret (pc := 133) dX11_readPlain_133 rfl ⟨rfl, rfl, Or.inl ⟨_, by rw [sPlain, hN2, sPos, if_neg (show ¬ c j1 = 140 by omega), sCmp, bnd_o hR_92, if_neg hc_101, if_pos hc_113, bnd_e hR_130]; rfl, hX_130⟩⟩
                          · exact r_vret (pc := 133) dX11_readPlain_133 rfl ⟨rfl, rfl, Or.inr ⟨_, _, _, by rw [sPlain, hN2, sPos, if_neg (show ¬ c j1 = 140 by omega), sCmp, bnd_o hR_92, if_neg hc_101, if_pos hc_113, bnd_o hR_130]; rfl, hG_130, by omega⟩⟩
                        · exact absurd c_116 (by decide)
                      · refine r_if_ne (pc := 116) (tgt := 128) dX11_readPlain_116 (by decide) (by have := hT.xr j1; omega) (fun c_116 => ?_) (fun c_116 => ?_)
                        · exact absurd c_116 (by decide)
                        · refine r_aload_n (pc := 119) 2 dX11_readPlain_119 rfl rfl ?_
                          refine r_bipush (pc := 120) dX11_readPlain_120 (by decide) ?_
                          refine r_callS (pc := 122) (As := [(.int (iI (61)))]) (S := [(.ref 164)]) dX11_readPlain_122 cs_X11_203 rfl (Nat.le_of_ble_eq_true rfl) (m_sign l z _ (61)) (Nat.zero_le _) (Nat.zero_le _) (fun r_122 g_122 f_122 q_122 => ?_)
                          obtain ⟨rfl, rfl, rfl⟩ := q_122
                          refine r_eqI (y := 161) (by decide) ?_
                          refine r_callV (pc := 125) (As := [(.int (iI (161)))]) (S := []) dX11_readPlain_125 cv_X11_191 hM.k rfl (Nat.le_of_ble_eq_true rfl) (m_must l z _ hM hT hG_92 (by decide) (by decide)) (Nat.zero_le _) (Nat.zero_le _) (fun r_125 g_125 f_125 q_125 => ?_)
                          obtain ⟨rfl, rfl, ⟨hc_125, hG_125, hj_125⟩ | ⟨hc_125, hX_125⟩⟩ := q_125
                          · refine r_aload_n (pc := 128) 2 dX11_readPlain_128 rfl rfl ?_
                            refine r_iload_n (pc := 129) 3 dX11_readPlain_129 rfl rfl ?_
                            refine r_callV (pc := 130) (As := [(.int (iI (((dp : Nat) : Int))))]) (S := []) dX11_readPlain_130 cv_X11_188 hM.k rfl (Nat.le_of_ble_eq_true rfl) (hsum.1 _ (by omega) _ _ _ hG_125) (Nat.zero_le _) (Nat.zero_le _) (fun r_130 g_130 f_130 q_130 => ?_)
                            obtain ⟨rfl, rfl, ⟨x_130, hR_130, hX_130⟩ | ⟨t_130, j_130, l_130, hR_130, hG_130, hj_130⟩⟩ := q_130
                            · exact r_vret (pc := 133) dX11_readPlain_133 rfl ⟨rfl, rfl, Or.inl ⟨_, by rw [sPlain, hN2, sPos, if_neg (show ¬ c j1 = 140 by omega), sCmp, bnd_o hR_92, if_neg hc_101, if_neg hc_113, if_pos hc_125, bnd_e hR_130]; rfl, hX_130⟩⟩
                            · exact r_vret (pc := 133) dX11_readPlain_133 rfl ⟨rfl, rfl, Or.inr ⟨_, _, _, by rw [sPlain, hN2, sPos, if_neg (show ¬ c j1 = 140 by omega), sCmp, bnd_o hR_92, if_neg hc_101, if_neg hc_113, if_pos hc_125, bnd_o hR_130]; rfl, hG_130, by omega⟩⟩
                          · refine r_aload_n (pc := 128) 2 dX11_readPlain_128 rfl rfl ?_
                            refine r_iload_n (pc := 129) 3 dX11_readPlain_129 rfl rfl ?_
                            refine r_callV (pc := 130) (As := [(.int (iI (((dp : Nat) : Int))))]) (S := []) dX11_readPlain_130 cv_X11_188 hM.k rfl (Nat.le_of_ble_eq_true rfl) (hsum.2 _ (by omega) _ _ hX_125) (Nat.zero_le _) (Nat.zero_le _) (fun r_130 g_130 f_130 q_130 => ?_)
                            obtain ⟨rfl, rfl, rfl⟩ := q_130
                            exact r_vret (pc := 133) dX11_readPlain_133 rfl ⟨rfl, rfl, Or.inl ⟨_, by rw [sPlain, hN2, sPos, if_neg (show ¬ c j1 = 140 by omega), sCmp, bnd_o hR_92, if_neg hc_101, if_neg hc_113, if_neg hc_125]; rfl, hX_125⟩⟩
              · refine r_iload_n (pc := 43) 3 dX11_readPlain_43 rfl rfl ?_
                refine r_bipush (pc := 44) dX11_readPlain_44 (by decide) ?_
                refine r_icmp_ne (pc := 46) (tgt := 53) dX11_readPlain_46 (by decide) (by omega) (by omega) (fun c_46 => ?_) (fun c_46 => ?_)
                · refine r_aload_n (pc := 53) 2 dX11_readPlain_53 rfl rfl ?_
                  refine r_callV (pc := 54) (As := []) (S := []) dX11_readPlain_54 cv_X11_172 hM.k rfl (Nat.le_of_ble_eq_true rfl) (m_fineG l z _ hM hG1) (Nat.zero_le _) (Nat.zero_le _) (fun r_54 g_54 f_54 q_54 => ?_)
                  obtain ⟨rfl, rfl, rfl⟩ := q_54
                  refine r_if_ne (pc := 57) (tgt := 61) dX11_readPlain_57 (by decide) (by have := hT.xr j1; omega) (fun c_57 => ?_) (fun c_57 => ?_)
                  · refine r_aload_n (pc := 61) 2 dX11_readPlain_61 rfl rfl ?_
                    refine r_dup (pc := 62) dX11_readPlain_62 rfl ?_
                    refine r_getIv (pc := 63) (x := ((j1 : Nat) : Int)) dX11_readPlain_63 fl_X11_176 rfl hM.k (hG1.xj) ?_
                    refine r_iconst (pc := 66) dX11_readPlain_66 ?_
                    refine r_iadd (pc := 67) dX11_readPlain_67 ?_
                    refine r_eqI (y := ((j1 + 1 : Nat) : Int)) (Int.natCast_add _ _ |>.symm) ?_
                    refine r_putI (pc := 68) dX11_readPlain_68 fl_X11_176 rfl rfl hM.k ?_
                    refine r_aload_n (pc := 71) 2 dX11_readPlain_71 rfl rfl ?_
                    refine r_iload_n (pc := 72) 3 dX11_readPlain_72 rfl rfl ?_
                    refine r_iconst (pc := 73) dX11_readPlain_73 ?_
                    refine r_iadd (pc := 74) dX11_readPlain_74 ?_
                    refine r_eqI (y := ((dp + 1 : Nat) : Int)) (Int.natCast_add _ _ |>.symm) ?_
                    refine r_callV (pc := 75) (As := [(.int (iI (((dp + 1 : Nat) : Int))))]) (S := []) dX11_readPlain_75 cv_X11_194 hM.k rfl (Nat.le_of_ble_eq_true rfl) ((hsubT (by omega)).1 _ (by omega) _ _ _ (hG1.next (hT.lt (by omega) (by omega)))) (Nat.zero_le _) (Nat.zero_le _) (fun r_75 g_75 f_75 q_75 => ?_)
                    obtain ⟨rfl, rfl, ⟨x_75, hR_75, hX_75⟩ | ⟨t_75, j_75, l_75, hR_75, hG_75, hj_75⟩⟩ := q_75
                    · refine r_aload_n (pc := 78) 2 dX11_readPlain_78 rfl rfl ?_
                      refine r_bipush (pc := 79) dX11_readPlain_79 (by decide) ?_
                      refine r_callS (pc := 81) (As := [(.int (iI (41)))]) (S := [(.ref 164)]) dX11_readPlain_81 cs_X11_203 rfl (Nat.le_of_ble_eq_true rfl) (m_sign l z _ (41)) (Nat.zero_le _) (Nat.zero_le _) (fun r_81 g_81 f_81 q_81 => ?_)
                      obtain ⟨rfl, rfl, rfl⟩ := q_81
                      refine r_eqI (y := 141) (by decide) ?_
                      refine r_callV (pc := 84) (As := [(.int (iI (141)))]) (S := []) dX11_readPlain_84 cv_X11_191 hM.k rfl (Nat.le_of_ble_eq_true rfl) (m_mustX l z _ hM hT hX_75) (Nat.zero_le _) (Nat.zero_le _) (fun r_84 g_84 f_84 q_84 => ?_)
                      obtain ⟨rfl, rfl, rfl⟩ := q_84
                      refine r_goto (pc := 87) (tgt := 133) dX11_readPlain_87 (by decide) ?_
                      exact r_vret (pc := 133) dX11_readPlain_133 rfl ⟨rfl, rfl, Or.inl ⟨_, by rw [sPlain, hN2, sPos, if_pos (show c j1 = 140 by omega), if_neg (by omega), bnd_e hR_75]; rfl, hX_75⟩⟩
                    · refine r_aload_n (pc := 78) 2 dX11_readPlain_78 rfl rfl ?_
                      refine r_bipush (pc := 79) dX11_readPlain_79 (by decide) ?_
                      refine r_callS (pc := 81) (As := [(.int (iI (41)))]) (S := [(.ref 164)]) dX11_readPlain_81 cs_X11_203 rfl (Nat.le_of_ble_eq_true rfl) (m_sign l z _ (41)) (Nat.zero_le _) (Nat.zero_le _) (fun r_81 g_81 f_81 q_81 => ?_)
                      obtain ⟨rfl, rfl, rfl⟩ := q_81
                      refine r_eqI (y := 141) (by decide) ?_
                      refine r_callV (pc := 84) (As := [(.int (iI (141)))]) (S := []) dX11_readPlain_84 cv_X11_191 hM.k rfl (Nat.le_of_ble_eq_true rfl) (m_must l z _ hM hT hG_75 (by decide) (by decide)) (Nat.zero_le _) (Nat.zero_le _) (fun r_84 g_84 f_84 q_84 => ?_)
                      obtain ⟨rfl, rfl, ⟨hc_84, hG_84, hj_84⟩ | ⟨hc_84, hX_84⟩⟩ := q_84
                      · refine r_goto (pc := 87) (tgt := 133) dX11_readPlain_87 (by decide) ?_
                        exact r_vret (pc := 133) dX11_readPlain_133 rfl ⟨rfl, rfl, Or.inr ⟨_, _, _, by rw [sPlain, hN2, sPos, if_pos (show c j1 = 140 by omega), if_neg (by omega), bnd_o hR_75, if_pos hc_84]; rfl, hG_84, by omega⟩⟩
                      · refine r_goto (pc := 87) (tgt := 133) dX11_readPlain_87 (by decide) ?_
                        exact r_vret (pc := 133) dX11_readPlain_133 rfl ⟨rfl, rfl, Or.inl ⟨_, by rw [sPlain, hN2, sPos, if_pos (show c j1 = 140 by omega), if_neg (by omega), bnd_o hR_75, if_neg hc_84]; rfl, hX_84⟩⟩
                  · exact absurd c_57 (by decide)
                · refine r_aload_n (pc := 49) 2 dX11_readPlain_49 rfl rfl ?_
                  refine r_callV (pc := 50) (As := []) (S := []) dX11_readPlain_50 cv_X11_182 hM.k rfl (Nat.le_of_ble_eq_true rfl) (m_faults l z _ hM hT hG1) (Nat.zero_le _) (Nat.zero_le _) (fun r_50 g_50 f_50 q_50 => ?_)
                  obtain ⟨rfl, rfl, hX_50⟩ := q_50
                  refine r_aload_n (pc := 53) 2 dX11_readPlain_53 rfl rfl ?_
                  refine r_callV (pc := 54) (As := []) (S := []) dX11_readPlain_54 cv_X11_172 hM.k rfl (Nat.le_of_ble_eq_true rfl) (m_fineX l z _ hM hT hX_50) (Nat.zero_le _) (Nat.zero_le _) (fun r_54 g_54 f_54 q_54 => ?_)
                  obtain ⟨rfl, rfl, rfl⟩ := q_54
                  refine r_if_ne (pc := 57) (tgt := 61) dX11_readPlain_57 (by decide) (by have := hT.xr j1; omega) (fun c_57 => ?_) (fun c_57 => ?_)
                  · exact absurd c_57 (by decide)
                  · exact r_vret (pc := 60) dX11_readPlain_60 rfl ⟨rfl, rfl, Or.inl ⟨_, by rw [sPlain, hN2, sPos, if_pos (show c j1 = 140 by omega), if_pos (by omega)]; rfl, hX_50⟩⟩
            · exact absurd c_20 (by decide)
          · exact absurd c_3 (by decide)
    refine r_iconst (pc := 0) dX11_readPlain_0 ?_
    refine r_istore_n (pc := 1) (L2 := [(2, (.int (iI (1)))), (0, (.ref 164)), (1, (.int (iI (((dp : Nat) : Int)))))]) dX11_readPlain_1 rfl (by decide) rfl ?_
    refine r_iload_n (pc := 2) 0 dX11_readPlain_2 rfl rfl ?_
    refine r_if_eq (pc := 3) (tgt := 16) dX11_readPlain_3 (by decide) (by omega) (fun c_3 => ?_) (fun c_3 => ?_)
    · exact absurd c_3 (by decide)
    · refine r_sub (L2 := [(2, (.int (iI (1)))), (0, (.ref 164)), (1, (.int (iI (((dp : Nat) : Int)))))]) [0, 1, 2] rfl ?_
      exact loop 400 (by omega) f j false rfl hG (Nat.le_refl _) (by omega)
  · obtain ⟨d, rfl⟩ : ∃ d, D = d + 4 := ⟨D - 4, by omega⟩
    refine PM.of (by decide +kernel) (Nat.le_of_ble_eq_true rfl) ?_
    refine r_iconst (pc := 0) dX11_readPlain_0 ?_
    refine r_istore_n (pc := 1) (L2 := [(2, (.int (iI (1)))), (0, (.ref 164)), (1, (.int (iI (((dp : Nat) : Int)))))]) dX11_readPlain_1 rfl (by decide) rfl ?_
    refine r_iload_n (pc := 2) 0 dX11_readPlain_2 rfl rfl ?_
    refine r_if_eq (pc := 3) (tgt := 16) dX11_readPlain_3 (by decide) (by omega) (fun c_3 => ?_) (fun c_3 => ?_)
    · exact absurd c_3 (by decide)
    · refine r_aload_n (pc := 6) 1 dX11_readPlain_6 rfl rfl ?_
      refine r_bipush (pc := 7) dX11_readPlain_7 (by decide) ?_
      refine r_callV (pc := 9) (As := [(.int (iI (6)))]) (S := []) dX11_readPlain_9 cv_X11_179 hM.k rfl (Nat.le_of_ble_eq_true rfl) (m_takeX l z _ hM hT hX) (Nat.zero_le _) (Nat.zero_le _) (fun r_9 g_9 f_9 q_9 => ?_)
      obtain ⟨rfl, rfl, rfl⟩ := q_9
      refine r_istore_n (pc := 12) (L2 := [(2, (.int (iI (0)))), (0, (.ref 164)), (1, (.int (iI (((dp : Nat) : Int)))))]) dX11_readPlain_12 rfl (by decide) rfl ?_
      refine r_goto (pc := 13) (tgt := 2) dX11_readPlain_13 (by decide) ?_
      refine r_iload_n (pc := 2) 0 dX11_readPlain_2 rfl rfl ?_
      refine r_if_eq (pc := 3) (tgt := 16) dX11_readPlain_3 (by decide) (by omega) (fun c_3 => ?_) (fun c_3 => ?_)
      · refine r_aload_n (pc := 16) 1 dX11_readPlain_16 rfl rfl ?_
        refine r_callV (pc := 17) (As := []) (S := []) dX11_readPlain_17 cv_X11_172 hM.k rfl (Nat.le_of_ble_eq_true rfl) (m_fineX l z _ hM hT hX) (Nat.zero_le _) (Nat.zero_le _) (fun r_17 g_17 f_17 q_17 => ?_)
        obtain ⟨rfl, rfl, rfl⟩ := q_17
        refine r_if_ne (pc := 20) (tgt := 24) dX11_readPlain_20 (by decide) (by omega) (fun c_20 => ?_) (fun c_20 => ?_)
        · exact absurd c_20 (by decide)
        · exact r_vret (pc := 23) dX11_readPlain_23 rfl ⟨rfl, rfl, rfl⟩
      · exact absurd c_3 (by decide)

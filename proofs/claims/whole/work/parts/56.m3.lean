theorem m_lvS (l : Launch) (z : Zv) {g : Gm} {T : Nat} {c v : Nat → Int} {p : Nat → Nat} {f0 : Fm} (hM : ML g) (hT : MT f0 c v p T) {dp e H : Nat} {sum : Nat → Nat → PR} (he : dp + e = 8) (hsub : e ≠ 0 → RdM l z g T p f0 mX11_readSum sum H (dp + 1)) : RdM l z g T p f0 mX11_readSum (lvS c v sum e) (H + 13) dp :=
  m_sum l z hM hT (m_term l z hM hT (m_part l z hM hT he hsub))
theorem m_lvT (l : Launch) (z : Zv) {g : Gm} {T : Nat} {c v : Nat → Int} {p : Nat → Nat} {f0 : Fm} (hM : ML g) (hT : MT f0 c v p T) {dp e H : Nat} {sum test : Nat → Nat → PR} (he : dp + e = 8) (hsub : e ≠ 0 → RdM l z g T p f0 mX11_readSum sum H (dp + 1)) (hsubT : e ≠ 0 → RdM l z g T p f0 mX11_readTest test H (dp + 1)) : RdM l z g T p f0 mX11_readTest (lvT c v sum test e) (H + 25) dp :=
  m_test l z hM hT (m_both l z hM hT (m_plain l z hM hT (H := H + 13) he (m_lvS l z hM hT he hsub) (fun h => (hsubT h).up (by omega))))
theorem m_lev (l : Launch) (z : Zv) {g : Gm} {T : Nat} {c v : Nat → Int} {p : Nat → Nat} {f0 : Fm} (hM : ML g) (hT : MT f0 c v p T) : ∀ e dp : Nat, dp + e = 8 → RdM l z g T p f0 mX11_readSum (lev c v e).1 (25 * e + 25) dp ∧ RdM l z g T p f0 mX11_readTest (lev c v e).2 (25 * e + 25) dp
  | 0, dp, he => ⟨(m_lvS l z hM hT (H := 0) he (fun h => absurd rfl h)).up (by omega), (m_lvT l z hM hT (H := 0) he (fun h => absurd rfl h) (fun h => absurd rfl h)).up (by omega)⟩
  | e + 1, dp, he => by
    obtain ⟨h1, h2⟩ := m_lev l z hM hT e (dp + 1) (by omega)
    exact ⟨(m_lvS l z hM hT he (fun _ => h1)).up (by omega), (m_lvT l z hM hT he (fun _ => h1) (fun _ => h2)).up (by omega)⟩
theorem m_sumT (l : Launch) (z : Zv) {g : Gm} {T : Nat} {c v : Nat → Int} {p : Nat → Nat} {f0 : Fm} (hM : ML g) (hT : MT f0 c v p T) : RdM l z g T p f0 mX11_readSum (sSumT c v) 225 0 := by
  have h := (m_lev l z hM hT 8 0 rfl).1
  unfold sSumT
  exact h
theorem m_testT (l : Launch) (z : Zv) {g : Gm} {T : Nat} {c v : Nat → Int} {p : Nat → Nat} {f0 : Fm} (hM : ML g) (hT : MT f0 c v p T) : RdM l z g T p f0 mX11_readTest (sTestT c v) 225 0 := by
  have h := (m_lev l z hM hT 8 0 rfl).2
  unfold sTestT
  exact h
def mco (T : Nat) (p : Nat → Nat) (f0 : Fm) (g : Gm) (j : Nat) (R : Except Nat (Cl × Nat × Nat)) : Po := fun r g' f' => r = none ∧ g = g' ∧ ((∃ x, R = .error x ∧ MX p f0 f' x) ∨ (∃ cl j1 l1, R = .ok (cl, j1, l1) ∧ MG T f0 f' j1 l1 ∧ j < j1))

set_option maxRecDepth 100000 in
set_option maxHeartbeats 4000000 in
theorem m_clause (l : Launch) (z : Zv) {g : Gm} {T : Nat} {c v : Nat → Int} {p : Nat → Nat} {f0 : Fm} (hM : ML g) (hT : MT f0 c v p T) {f : Fm} {j lv : Nat} (hG : MG T f0 f j lv) (hsum : RdM l z g T p f0 mX11_readSum (sSumT c v) 225 0) (htest : RdM l z g T p f0 mX11_readTest (sTestT c v) 225 0) {D : Nat} (hD : 230 ≤ D) : PM l z D mX11_readClause [.ref 164] g f 0 0 (mco T p f0 g j (sCl c v j lv)) := by
  obtain ⟨d, rfl⟩ : ∃ d, D = d + 4 := ⟨D - 4, by omega⟩
  refine PM.of (by decide +kernel) (Nat.le_of_ble_eq_true rfl) ?_
  have hr := hG.r
  refine r_aload_n (pc := 0) 0 dX11_readClause_0 rfl rfl ?_
  refine r_iconst (pc := 1) dX11_readClause_1 ?_
  refine r_callV (pc := 2) (As := [(.int (iI (1)))]) (S := []) dX11_readClause_2 cv_X11_179 hM.k rfl (Nat.le_of_ble_eq_true rfl) (m_take l z _ hM hT hG (by decide) (by decide)) (Nat.zero_le _) (Nat.zero_le _) (fun r_2 g_2 f_2 q_2 => ?_)
  obtain ⟨rfl, ⟨hc_2, rfl, hG_2, hj_2⟩ | ⟨hc_2, rfl, rfl⟩⟩ := q_2
  · refine r_if_eq (pc := 5) (tgt := 16) dX11_readClause_5 (by decide) (by omega) (fun c_5 => ?_) (fun c_5 => ?_)
    · exact absurd c_5 (by decide)
    · refine r_aload_n (pc := 8) 0 dX11_readClause_8 rfl rfl ?_
      refine r_iconst (pc := 9) dX11_readClause_9 ?_
      refine r_callV (pc := 10) (As := [(.int (iI (0)))]) (S := []) dX11_readClause_10 cv_X11_188 hM.k rfl (Nat.le_of_ble_eq_true rfl) (hsum.1 _ (by omega) _ _ _ hG_2) (Nat.zero_le _) (Nat.zero_le _) (fun r_10 g_10 f_10 q_10 => ?_)
      obtain ⟨rfl, rfl, ⟨x_10, hR_10, hX_10⟩ | ⟨t_10, j_10, l_10, hR_10, hG_10, hj_10⟩⟩ := q_10
      · refine r_goto (pc := 13) (tgt := 21) dX11_readClause_13 (by decide) ?_
        refine r_aload_n (pc := 21) 0 dX11_readClause_21 rfl rfl ?_
        refine r_iconst (pc := 22) dX11_readClause_22 ?_
        refine r_callV (pc := 23) (As := [(.int (iI (3)))]) (S := []) dX11_readClause_23 cv_X11_179 hM.k rfl (Nat.le_of_ble_eq_true rfl) (m_takeX l z _ hM hT hX_10) (Nat.zero_le _) (Nat.zero_le _) (fun r_23 g_23 f_23 q_23 => ?_)
        obtain ⟨rfl, rfl, rfl⟩ := q_23
        refine r_if_eq (pc := 26) (tgt := 34) dX11_readClause_26 (by decide) (by omega) (fun c_26 => ?_) (fun c_26 => ?_)
        · exact r_vret (pc := 34) dX11_readClause_34 rfl ⟨rfl, rfl, Or.inl ⟨_, cpl_e (by rw [if_pos hc_2]; exact hR_10), hX_10⟩⟩
        · exact absurd c_26 (by decide)
      · refine r_goto (pc := 13) (tgt := 21) dX11_readClause_13 (by decide) ?_
        refine r_aload_n (pc := 21) 0 dX11_readClause_21 rfl rfl ?_
        refine r_iconst (pc := 22) dX11_readClause_22 ?_
        refine r_callV (pc := 23) (As := [(.int (iI (3)))]) (S := []) dX11_readClause_23 cv_X11_179 hM.k rfl (Nat.le_of_ble_eq_true rfl) (m_take l z _ hM hT hG_10 (by decide) (by decide)) (Nat.zero_le _) (Nat.zero_le _) (fun r_23 g_23 f_23 q_23 => ?_)
        obtain ⟨rfl, ⟨hc_23, rfl, hG_23, hj_23⟩ | ⟨hc_23, rfl, rfl⟩⟩ := q_23
        · refine r_if_eq (pc := 26) (tgt := 34) dX11_readClause_26 (by decide) (by omega) (fun c_26 => ?_) (fun c_26 => ?_)
          · exact absurd c_26 (by decide)
          · refine r_aload_n (pc := 29) 0 dX11_readClause_29 rfl rfl ?_
            refine r_iconst (pc := 30) dX11_readClause_30 ?_
            refine r_callV (pc := 31) (As := [(.int (iI (0)))]) (S := []) dX11_readClause_31 cv_X11_194 hM.k rfl (Nat.le_of_ble_eq_true rfl) (htest.1 _ (by omega) _ _ _ hG_23) (Nat.zero_le _) (Nat.zero_le _) (fun r_31 g_31 f_31 q_31 => ?_)
            obtain ⟨rfl, rfl, ⟨x_31, hR_31, hX_31⟩ | ⟨t_31, j_31, l_31, hR_31, hG_31, hj_31⟩⟩ := q_31
            · exact r_vret (pc := 34) dX11_readClause_34 rfl ⟨rfl, rfl, Or.inl ⟨_, cpl_te (by rw [if_pos hc_2]; exact hR_10) hc_23 hR_31, hX_31⟩⟩
            · exact r_vret (pc := 34) dX11_readClause_34 rfl ⟨rfl, rfl, Or.inr ⟨_, _, _, cpl_t (by rw [if_pos hc_2]; exact hR_10) hc_23 hR_31, hG_31, by omega⟩⟩
        · refine r_if_eq (pc := 26) (tgt := 34) dX11_readClause_26 (by decide) (by omega) (fun c_26 => ?_) (fun c_26 => ?_)
          · exact r_vret (pc := 34) dX11_readClause_34 rfl ⟨rfl, rfl, Or.inr ⟨_, _, _, cpl_n (by rw [if_pos hc_2]; exact hR_10) hc_23, hG_10, by omega⟩⟩
          · exact absurd c_26 (by decide)
  · refine r_if_eq (pc := 5) (tgt := 16) dX11_readClause_5 (by decide) (by omega) (fun c_5 => ?_) (fun c_5 => ?_)
    · refine r_aload_n (pc := 16) 0 dX11_readClause_16 rfl rfl ?_
      refine r_iconst (pc := 17) dX11_readClause_17 ?_
      refine r_callV (pc := 18) (As := [(.int (iI (2)))]) (S := []) dX11_readClause_18 cv_X11_191 hM.k rfl (Nat.le_of_ble_eq_true rfl) (m_must l z _ hM hT hG (by decide) (by decide)) (Nat.zero_le _) (Nat.zero_le _) (fun r_18 g_18 f_18 q_18 => ?_)
      obtain ⟨rfl, rfl, ⟨hc_18, hG_18, hj_18⟩ | ⟨hc_18, hX_18⟩⟩ := q_18
      · refine r_aload_n (pc := 21) 0 dX11_readClause_21 rfl rfl ?_
        refine r_iconst (pc := 22) dX11_readClause_22 ?_
        refine r_callV (pc := 23) (As := [(.int (iI (3)))]) (S := []) dX11_readClause_23 cv_X11_179 hM.k rfl (Nat.le_of_ble_eq_true rfl) (m_take l z _ hM hT hG_18 (by decide) (by decide)) (Nat.zero_le _) (Nat.zero_le _) (fun r_23 g_23 f_23 q_23 => ?_)
        obtain ⟨rfl, ⟨hc_23, rfl, hG_23, hj_23⟩ | ⟨hc_23, rfl, rfl⟩⟩ := q_23
        · refine r_if_eq (pc := 26) (tgt := 34) dX11_readClause_26 (by decide) (by omega) (fun c_26 => ?_) (fun c_26 => ?_)
          · exact absurd c_26 (by decide)
          · refine r_aload_n (pc := 29) 0 dX11_readClause_29 rfl rfl ?_
            refine r_iconst (pc := 30) dX11_readClause_30 ?_
            refine r_callV (pc := 31) (As := [(.int (iI (0)))]) (S := []) dX11_readClause_31 cv_X11_194 hM.k rfl (Nat.le_of_ble_eq_true rfl) (htest.1 _ (by omega) _ _ _ hG_23) (Nat.zero_le _) (Nat.zero_le _) (fun r_31 g_31 f_31 q_31 => ?_)
            obtain ⟨rfl, rfl, ⟨x_31, hR_31, hX_31⟩ | ⟨t_31, j_31, l_31, hR_31, hG_31, hj_31⟩⟩ := q_31
            · exact r_vret (pc := 34) dX11_readClause_34 rfl ⟨rfl, rfl, Or.inl ⟨_, cpl_te (by rw [if_neg hc_2, if_pos hc_18]) hc_23 hR_31, hX_31⟩⟩
            · exact r_vret (pc := 34) dX11_readClause_34 rfl ⟨rfl, rfl, Or.inr ⟨_, _, _, cpl_t (by rw [if_neg hc_2, if_pos hc_18]) hc_23 hR_31, hG_31, by omega⟩⟩
        · refine r_if_eq (pc := 26) (tgt := 34) dX11_readClause_26 (by decide) (by omega) (fun c_26 => ?_) (fun c_26 => ?_)
          · exact r_vret (pc := 34) dX11_readClause_34 rfl ⟨rfl, rfl, Or.inr ⟨_, _, _, cpl_n (by rw [if_neg hc_2, if_pos hc_18]) hc_23, hG_18, by omega⟩⟩
          · exact absurd c_26 (by decide)
      · refine r_aload_n (pc := 21) 0 dX11_readClause_21 rfl rfl ?_
        refine r_iconst (pc := 22) dX11_readClause_22 ?_
        refine r_callV (pc := 23) (As := [(.int (iI (3)))]) (S := []) dX11_readClause_23 cv_X11_179 hM.k rfl (Nat.le_of_ble_eq_true rfl) (m_takeX l z _ hM hT hX_18) (Nat.zero_le _) (Nat.zero_le _) (fun r_23 g_23 f_23 q_23 => ?_)
        obtain ⟨rfl, rfl, rfl⟩ := q_23
        refine r_if_eq (pc := 26) (tgt := 34) dX11_readClause_26 (by decide) (by omega) (fun c_26 => ?_) (fun c_26 => ?_)
        · exact r_vret (pc := 34) dX11_readClause_34 rfl ⟨rfl, rfl, Or.inl ⟨_, cpl_e (by rw [if_neg hc_2, if_neg hc_18]), hX_18⟩⟩
        · exact absurd c_26 (by decide)
    · exact absurd c_5 (by decide)

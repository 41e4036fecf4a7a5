theorem mT_f (e : Nat → Int) (bk : Bool) (t : Term) : mT e false bk t = bk := rfl
theorem mT_b (e : Nat → Int) (t : Term) : mT e true true t = true := rfl
theorem mT_n (e : Nat → Int) (t : Term) : mT e true false t = (evT e t).isNone := rfl
theorem sCmp_ok {c : Nat → Int} {sum : Nat → Nat → PR} {j lv j1 l1 : Nat} {tr : Term} (h : sCmp c sum j lv = .ok (tr, j1, l1)) : ∃ a b j2 l2, sum j lv = .ok (a, j2, l2) ∧ sum (j2 + 1) l2 = .ok (b, j1, l1) ∧ ((c j2 = 160 ∧ tr = .sub a b) ∨ (c j2 = 162 ∧ tr = .div a b) ∨ (c j2 = 161 ∧ tr = .rem a b)) := by
  obtain ⟨a, j2, l2, h1, h2⟩ := bnd_ok h
  by_cases k1 : c j2 = 160
  · rw [if_pos k1] at h2
    obtain ⟨b, j3, l3, h3, h4⟩ := bnd_ok h2
    cases h4; exact ⟨a, b, j2, l2, h1, h3, Or.inl ⟨k1, rfl⟩⟩
  · rw [if_neg k1] at h2
    by_cases k2 : c j2 = 162
    · rw [if_pos k2] at h2
      obtain ⟨b, j3, l3, h3, h4⟩ := bnd_ok h2
      cases h4; exact ⟨a, b, j2, l2, h1, h3, Or.inr (Or.inl ⟨k2, rfl⟩)⟩
    · rw [if_neg k2] at h2
      by_cases k3 : c j2 = 161
      · rw [if_pos k3] at h2
        obtain ⟨b, j3, l3, h3, h4⟩ := bnd_ok h2
        cases h4; exact ⟨a, b, j2, l2, h1, h3, Or.inr (Or.inr ⟨k3, rfl⟩)⟩
      · rw [if_neg k3] at h2; cases h2
theorem sPos_ok {c : Nat → Int} {sum test : Nat → Nat → PR} {e j lv j1 l1 : Nat} {tr : Term} (h : sPos c sum test e j lv = .ok (tr, j1, l1)) : (c j = 140 ∧ e ≠ 0 ∧ ∃ j0, test (j + 1) lv = .ok (tr, j0, l1) ∧ c j0 = 141 ∧ j1 = j0 + 1) ∨ (¬ c j = 140 ∧ sCmp c sum j lv = .ok (tr, j1, l1)) := by
  unfold sPos at h
  by_cases h1 : c j = 140
  · rw [if_pos h1] at h
    by_cases h2 : e = 0
    · rw [if_pos h2] at h; cases h
    · rw [if_neg h2] at h
      obtain ⟨t, j0, l0, h3, h4⟩ := bnd_ok h
      by_cases h5 : c j0 = 141
      · rw [if_pos h5] at h4; cases h4; exact Or.inl ⟨h1, h2, j0, h3, h5, rfl⟩
      · rw [if_neg h5] at h4; cases h4
  · rw [if_neg h1] at h; exact Or.inr ⟨h1, h⟩
theorem mT_cmp {e : Nat → Int} {lb bk : Bool} {a b t : Term} (h1 : evS e a = none → evT e t = none) (h2 : evS e b = none → evT e t = none) (h3 : ∀ x y, evS e a = some x → evS e b = some y → (evT e t).isNone = false) : (mS e lb (mS e lb bk a).2 b).2 = mT e lb bk t := by
  cases lb with
  | false => rfl
  | true =>
    cases bk with
    | true => rfl
    | false =>
      rw [mT_n]
      rcases ha : evS e a with _ | x
      · rw [mS_n ha, h1 ha]; rfl
      · rw [mS_s ha]
        dsimp only
        rcases hb : evS e b with _ | y
        · rw [mS_n hb, h2 hb]; rfl
        · rw [mS_s hb, h3 x y ha hb]
theorem mS_val {e : Nat → Int} {a b : Term} {bk : Bool} (h : (mS e true (mS e true bk a).2 b).2 = false) : bk = false ∧ evS e a = some (mS e true bk a).1 ∧ evS e b = some (mS e true (mS e true bk a).2 b).1 := by
  cases bk with
  | true => cases h
  | false =>
    rcases ha : evS e a with _ | x
    · rw [mS_n ha] at h; cases h
    · rw [mS_s ha] at h ⊢
      dsimp only at h ⊢
      rcases hb : evS e b with _ | y
      · rw [mS_n hb] at h; cases h
      · rw [mS_s hb]; exact ⟨rfl, rfl, rfl⟩

set_option maxRecDepth 100000 in
set_option maxHeartbeats 4000000 in
theorem m_positiveOf (l : Launch) (z : Zv) {g : Gm} {f0 : Fm} {c v e : Nat → Int} {base T : Nat} (hM : ML g) (hE : ET f0 c v e base T) {e0 H : Nat} {sum test : Nat → Nat → PR} (hsum : EvMS l z g f0 e base T mX11_sumOf sum H) (hsubT : e0 ≠ 0 → EvMT l z g f0 e base T mX11_testOf test H) : EvMT l z g f0 e base T mX11_positiveOf (sPos c sum test e0) (H + 4) := by
  have hr0 := hE.r
  intro D hD f j lv bk lb tr j1 l1 hF hG
  obtain ⟨d, rfl⟩ : ∃ d, D = d + 4 := ⟨D - 4, by omega⟩
  refine PM.of (by decide +kernel) (Nat.le_of_ble_eq_true rfl) ?_
  have hok := sPos_ok hF
  refine r_aload_n (pc := 0) 0 dX11_positiveOf_0 rfl rfl ?_
  refine r_bipush (pc := 1) dX11_positiveOf_1 (by decide) ?_
  refine r_callS (pc := 3) (As := [(.int (iI (40)))]) (S := [(.ref 164)]) dX11_positiveOf_3 cs_X11_203 rfl (Nat.le_of_ble_eq_true rfl) (m_sign l z _ (40)) (Nat.zero_le _) (Nat.zero_le _) (fun r_3 g_3 f_3 q_3 => ?_)
  obtain ⟨rfl, rfl, rfl⟩ := q_3
  refine r_eqI (y := 140) (by decide) ?_
  refine r_callV (pc := 6) (As := [(.int (iI (140)))]) (S := []) dX11_positiveOf_6 cv_X11_253 hM.k rfl (Nat.le_of_ble_eq_true rfl) (m_pass l z _ hM hE hG (by decide) (by decide)) (Nat.zero_le _) (Nat.zero_le _) (fun r_6 g_6 f_6 q_6 => ?_)
  obtain ⟨rfl, ⟨hc_6, rfl, hG_6⟩ | ⟨hc_6, rfl, rfl⟩⟩ := q_6
  · refine r_if_eq (pc := 9) (tgt := 30) dX11_positiveOf_9 (by decide) (by omega) (fun c_9 => ?_) (fun c_9 => ?_)
    · exact absurd c_9 (by decide)
    · obtain ⟨he0, j0, hs, h141, hj1⟩ : e0 ≠ 0 ∧ ∃ j0, test (j + 1) lv = .ok (tr, j0, l1) ∧ c j0 = 141 ∧ j1 = j0 + 1 := by rcases hok with h | h; exact h.2; exact absurd hc_6 h.1
      refine r_aload_n (pc := 12) 0 dX11_positiveOf_12 rfl rfl ?_
      refine r_iload_n (pc := 13) 1 dX11_positiveOf_13 rfl rfl ?_
      refine r_callV (pc := 14) (As := [(.int (iI (b01 (lb = true))))]) (S := []) dX11_positiveOf_14 cv_X11_269 hM.k rfl (Nat.le_of_ble_eq_true rfl) ((hsubT he0) _ (by omega) _ _ _ _ lb _ _ _ hs hG_6) (Nat.zero_le _) (Nat.zero_le _) (fun r_14 g_14 f_14 q_14 => ?_)
      obtain ⟨rb_14, rfl, rfl, hG_14, hv_14⟩ := q_14
      refine r_istore_n (pc := 17) (L2 := [(2, (.int (iI (b01 (rb_14 = true))))), (0, (.ref 164)), (1, (.int (iI (b01 (lb = true)))))]) dX11_positiveOf_17 rfl (by decide) rfl ?_
      refine r_aload_n (pc := 18) 1 dX11_positiveOf_18 rfl rfl ?_
      refine r_dup (pc := 19) dX11_positiveOf_19 rfl ?_
      refine r_getIv (pc := 20) (x := ((base + j0 : Nat) : Int)) dX11_positiveOf_20 fl_X11_228 rfl hM.k (hG_14.xg) ?_
      refine r_iconst (pc := 23) dX11_positiveOf_23 ?_
      refine r_iadd (pc := 24) dX11_positiveOf_24 ?_
      refine r_eqI (y := ((base + j0 + 1 : Nat) : Int)) (Int.natCast_add _ _ |>.symm) ?_
      refine r_putI (pc := 25) dX11_positiveOf_25 fl_X11_228 rfl rfl hM.k ?_
      refine r_iload_n (pc := 28) 0 dX11_positiveOf_28 rfl rfl ?_
      exact r_iret (pc := 29) dX11_positiveOf_29 rfl b01_nar ⟨rb_14, rfl, rfl, by rw [hj1]; exact hG_14.next (by have := hE.lt (i := j0) (by omega); omega), hv_14⟩
  · refine r_if_eq (pc := 9) (tgt := 30) dX11_positiveOf_9 (by decide) (by omega) (fun c_9 => ?_) (fun c_9 => ?_)
    · obtain ⟨ta, tb, j2, l2, hsa, hsb, hcm⟩ : ∃ a b j2 l2, sum j lv = .ok (a, j2, l2) ∧ sum (j2 + 1) l2 = .ok (b, j1, l1) ∧ ((c j2 = 160 ∧ tr = .sub a b) ∨ (c j2 = 162 ∧ tr = .div a b) ∨ (c j2 = 161 ∧ tr = .rem a b)) := by rcases hok with h | h; exact absurd h.1 hc_6; exact sCmp_ok h.2
      have hfl : (mS e lb (mS e lb bk ta).2 tb).2 = mT e lb bk tr := by
        rcases hcm with ⟨_, h⟩ | ⟨_, h⟩ | ⟨_, h⟩ <;> subst h <;> exact mT_cmp (fun h => by simp only [evT, h]) (fun h => by simp only [evT, h]; split <;> simp_all) (fun x y ha hb => by simp only [evT, ha, hb]; rfl)
      refine r_aload_n (pc := 30) 0 dX11_positiveOf_30 rfl rfl ?_
      refine r_iload_n (pc := 31) 1 dX11_positiveOf_31 rfl rfl ?_
      refine r_callV (pc := 32) (As := [(.int (iI (b01 (lb = true))))]) (S := []) dX11_positiveOf_32 cv_X11_256 hM.k rfl (Nat.le_of_ble_eq_true rfl) (hsum _ (by omega) _ _ _ _ lb _ _ _ hsa hG) (Nat.zero_le _) (Nat.zero_le _) (fun r_32 g_32 f_32 q_32 => ?_)
      obtain ⟨rfl, rfl, hG_32, hr_32⟩ := q_32
      refine r_lstore_n (pc := 35) (L2 := [(2, (.long (lI ((mS e lb bk ta).1)))), (0, (.ref 164)), (1, (.int (iI (b01 (lb = true)))))]) dX11_positiveOf_35 rfl (by decide) rfl ?_
      refine r_aload_n (pc := 36) 1 dX11_positiveOf_36 rfl rfl ?_
      refine r_aload_n (pc := 37) 1 dX11_positiveOf_37 rfl rfl ?_
      refine r_getIv (pc := 38) (x := ((base + j2 : Nat) : Int)) dX11_positiveOf_38 fl_X11_228 rfl hM.k (hG_32.xg) ?_
      refine r_callV (pc := 41) (As := [(.int (iI (((base + j2 : Nat) : Int))))]) (S := []) dX11_positiveOf_41 cv_X11_231 hM.k rfl (Nat.le_of_ble_eq_true rfl) (m_codeAt (j := j2) l z _ hM hE hG_32) (Nat.zero_le _) (Nat.zero_le _) (fun r_41 g_41 f_41 q_41 => ?_)
      obtain ⟨rfl, rfl, rfl⟩ := q_41
      have hcr_41 := hE.cr j2
      refine r_istore (pc := 44) (L2 := [(4, (.int (iI (c j2)))), (2, (.long (lI ((mS e lb bk ta).1)))), (0, (.ref 164)), (1, (.int (iI (b01 (lb = true)))))]) dX11_positiveOf_44 (by decide) rfl ?_
      refine r_aload_n (pc := 46) 2 dX11_positiveOf_46 rfl rfl ?_
      refine r_dup (pc := 47) dX11_positiveOf_47 rfl ?_
      refine r_getIv (pc := 48) (x := ((base + j2 : Nat) : Int)) dX11_positiveOf_48 fl_X11_228 rfl hM.k (hG_32.xg) ?_
      refine r_iconst (pc := 51) dX11_positiveOf_51 ?_
      refine r_iadd (pc := 52) dX11_positiveOf_52 ?_
      refine r_eqI (y := ((base + j2 + 1 : Nat) : Int)) (Int.natCast_add _ _ |>.symm) ?_
      refine r_putI (pc := 53) dX11_positiveOf_53 fl_X11_228 rfl rfl hM.k ?_
      refine r_aload_n (pc := 56) 2 dX11_positiveOf_56 rfl rfl ?_
      refine r_iload_n (pc := 57) 3 dX11_positiveOf_57 rfl rfl ?_
      refine r_callV (pc := 58) (As := [(.int (iI (b01 (lb = true))))]) (S := []) dX11_positiveOf_58 cv_X11_256 hM.k rfl (Nat.le_of_ble_eq_true rfl) (hsum _ (by omega) _ _ _ _ lb _ _ _ hsb (hG_32.next (by have := hE.lt (i := j2) (by omega); omega))) (Nat.zero_le _) (Nat.zero_le _) (fun r_58 g_58 f_58 q_58 => ?_)
      obtain ⟨rfl, rfl, hG_58, hr_58⟩ := q_58
      refine r_lstore (pc := 61) (L2 := [(5, (.long (lI ((mS e lb ((mS e lb bk ta).2) tb).1)))), (4, (.int (iI (c j2)))), (2, (.long (lI ((mS e lb bk ta).1)))), (0, (.ref 164)), (1, (.int (iI (b01 (lb = true)))))]) dX11_positiveOf_61 (by decide) rfl ?_
      refine r_iload_n (pc := 63) 4 dX11_positiveOf_63 rfl rfl ?_
      refine r_if_eq (pc := 64) (tgt := 125) dX11_positiveOf_64 (by decide) (b01_r) (fun c_64 => ?_) (fun c_64 => ?_)
      · replace c_64 := b01_z c_64
        refine r_iconst (pc := 125) dX11_positiveOf_125 ?_
        exact r_iret (pc := 126) dX11_positiveOf_126 rfl rfl ⟨false, rfl, rfl, by rw [← hfl]; exact hG_58, fun hl _ _ _ => absurd hl c_64⟩
      · replace c_64 := b01_nz c_64
        refine r_aload_n (pc := 67) 3 dX11_positiveOf_67 rfl rfl ?_
        refine r_getIv (pc := 68) (x := b01 ((mS e lb ((mS e lb bk ta).2) tb).2 = true)) dX11_positiveOf_68 fl_X11_238 rfl hM.k (hG_58.xb) ?_
        refine r_if_ne (pc := 71) (tgt := 125) dX11_positiveOf_71 (by decide) (b01_r) (fun c_71 => ?_) (fun c_71 => ?_)
        · replace c_71 := b01_nz c_71
          refine r_iconst (pc := 125) dX11_positiveOf_125 ?_
          have hnone : bk = false → evT e tr = none := fun hb => by
            have := hfl
            rw [c_71, c_64, hb, mT_n] at this
            exact Option.isNone_iff_eq_none.mp this.symm
          exact r_iret (pc := 126) dX11_positiveOf_126 rfl rfl ⟨false, rfl, rfl, by rw [← hfl]; exact hG_58, fun _ hb w hw => by rw [hnone hb] at hw; cases hw⟩
        · replace c_71 := b01_z c_71
          refine r_iload (pc := 74) 1 dX11_positiveOf_74 rfl ?_
          refine r_bipush (pc := 76) dX11_positiveOf_76 (by decide) ?_
          refine r_callS (pc := 78) (As := [(.int (iI (60)))]) (S := [(.int (iI (c j2)))]) dX11_positiveOf_78 cs_X11_203 rfl (Nat.le_of_ble_eq_true rfl) (m_sign l z _ (60)) (Nat.zero_le _) (Nat.zero_le _) (fun r_78 g_78 f_78 q_78 => ?_)
          obtain ⟨rfl, rfl, rfl⟩ := q_78
          refine r_eqI (y := 160) (by decide) ?_
          refine r_icmp_ne (pc := 81) (tgt := 94) dX11_positiveOf_81 (by decide) (by have := hE.cr j2; omega) (by omega) (fun c_81 => ?_) (fun c_81 => ?_)
          · refine r_iload (pc := 94) 1 dX11_positiveOf_94 rfl ?_
            refine r_bipush (pc := 96) dX11_positiveOf_96 (by decide) ?_
            refine r_callS (pc := 98) (As := [(.int (iI (62)))]) (S := [(.int (iI (c j2)))]) dX11_positiveOf_98 cs_X11_203 rfl (Nat.le_of_ble_eq_true rfl) (m_sign l z _ (62)) (Nat.zero_le _) (Nat.zero_le _) (fun r_98 g_98 f_98 q_98 => ?_)
            obtain ⟨rfl, rfl, rfl⟩ := q_98
            refine r_eqI (y := 162) (by decide) ?_
            refine r_icmp_ne (pc := 101) (tgt := 114) dX11_positiveOf_101 (by decide) (by have := hE.cr j2; omega) (by omega) (fun c_101 => ?_) (fun c_101 => ?_)
            · refine r_lload_n (pc := 114) 2 dX11_positiveOf_114 rfl rfl ?_
              refine r_lload (pc := 115) 0 dX11_positiveOf_115 rfl ?_
              refine r_lcmp (pc := 117) (w := cmpZ ((mS e lb bk ta).1) ((mS e lb ((mS e lb bk ta).2) tb).1)) dX11_positiveOf_117  (cmp_z (by omega) (by omega)) ?_
              refine r_if_ne (pc := 118) (tgt := 125) dX11_positiveOf_118 (by decide) (cmpZ_r) (fun c_118 => ?_) (fun c_118 => ?_)
              · replace c_118 := (not_congr cmpZ_eq).mp c_118
                refine r_iconst (pc := 125) dX11_positiveOf_125 ?_
                have htr : tr = .rem ta tb := by rcases hcm with ⟨h, q⟩ | ⟨h, q⟩ | ⟨h, q⟩ <;> first | exact q | (exfalso; omega)
                have hmv := mS_val (e := e) (bk := bk) (a := ta) (b := tb) (by have := Bool.eq_false_iff.mpr c_71; rw [c_64] at this; exact this)
                rw [c_64] at c_118
                exact r_iret (pc := 126) dX11_positiveOf_126 rfl rfl ⟨false, rfl, rfl, by rw [← hfl]; exact hG_58, fun _ _ w hw => by rw [htr] at hw; simp only [evT, hmv.2.1, hmv.2.2] at hw; cases hw; simp; omega⟩
              · replace c_118 := cmpZ_eq.mp c_118
                refine r_iconst (pc := 121) dX11_positiveOf_121 ?_
                refine r_goto (pc := 122) (tgt := 126) dX11_positiveOf_122 (by decide) ?_
                have htr : tr = .rem ta tb := by rcases hcm with ⟨h, q⟩ | ⟨h, q⟩ | ⟨h, q⟩ <;> first | exact q | (exfalso; omega)
                have hmv := mS_val (e := e) (bk := bk) (a := ta) (b := tb) (by have := Bool.eq_false_iff.mpr c_71; rw [c_64] at this; exact this)
                rw [c_64] at c_118
                exact r_iret (pc := 126) dX11_positiveOf_126 rfl rfl ⟨true, rfl, rfl, by rw [← hfl]; exact hG_58, fun _ _ w hw => by rw [htr] at hw; simp only [evT, hmv.2.1, hmv.2.2] at hw; cases hw; simp; omega⟩
            · refine r_lload_n (pc := 104) 2 dX11_positiveOf_104 rfl rfl ?_
              refine r_lload (pc := 105) 0 dX11_positiveOf_105 rfl ?_
              refine r_lcmp (pc := 107) (w := cmpZ ((mS e lb bk ta).1) ((mS e lb ((mS e lb bk ta).2) tb).1)) dX11_positiveOf_107  (cmp_z (by omega) (by omega)) ?_
              refine r_if_le (pc := 108) (tgt := 125) dX11_positiveOf_108 (by decide) (cmpZ_r) (fun c_108 => ?_) (fun c_108 => ?_)
              · replace c_108 := cmpZ_le.mp c_108
                refine r_iconst (pc := 125) dX11_positiveOf_125 ?_
                have htr : tr = .div ta tb := by rcases hcm with ⟨h, q⟩ | ⟨h, q⟩ | ⟨h, q⟩ <;> first | exact q | (exfalso; omega)
                have hmv := mS_val (e := e) (bk := bk) (a := ta) (b := tb) (by have := Bool.eq_false_iff.mpr c_71; rw [c_64] at this; exact this)
                rw [c_64] at c_108
                exact r_iret (pc := 126) dX11_positiveOf_126 rfl rfl ⟨false, rfl, rfl, by rw [← hfl]; exact hG_58, fun _ _ w hw => by rw [htr] at hw; simp only [evT, hmv.2.1, hmv.2.2] at hw; cases hw; simp; omega⟩
              · replace c_108 := cmpZ_gt.mp c_108
                refine r_goto (pc := 111) (tgt := 121) dX11_positiveOf_111 (by decide) ?_
                refine r_iconst (pc := 121) dX11_positiveOf_121 ?_
                refine r_goto (pc := 122) (tgt := 126) dX11_positiveOf_122 (by decide) ?_
                have htr : tr = .div ta tb := by rcases hcm with ⟨h, q⟩ | ⟨h, q⟩ | ⟨h, q⟩ <;> first | exact q | (exfalso; omega)
                have hmv := mS_val (e := e) (bk := bk) (a := ta) (b := tb) (by have := Bool.eq_false_iff.mpr c_71; rw [c_64] at this; exact this)
                rw [c_64] at c_108
                exact r_iret (pc := 126) dX11_positiveOf_126 rfl rfl ⟨true, rfl, rfl, by rw [← hfl]; exact hG_58, fun _ _ w hw => by rw [htr] at hw; simp only [evT, hmv.2.1, hmv.2.2] at hw; cases hw; simp; omega⟩
          · refine r_lload_n (pc := 84) 2 dX11_positiveOf_84 rfl rfl ?_
            refine r_lload (pc := 85) 0 dX11_positiveOf_85 rfl ?_
            refine r_lcmp (pc := 87) (w := cmpZ ((mS e lb bk ta).1) ((mS e lb ((mS e lb bk ta).2) tb).1)) dX11_positiveOf_87  (cmp_z (by omega) (by omega)) ?_
            refine r_if_ge (pc := 88) (tgt := 125) dX11_positiveOf_88 (by decide) (cmpZ_r) (fun c_88 => ?_) (fun c_88 => ?_)
            · replace c_88 := cmpZ_ge.mp c_88
              refine r_iconst (pc := 125) dX11_positiveOf_125 ?_
              have htr : tr = .sub ta tb := by rcases hcm with ⟨h, q⟩ | ⟨h, q⟩ | ⟨h, q⟩ <;> first | exact q | (exfalso; omega)
              have hmv := mS_val (e := e) (bk := bk) (a := ta) (b := tb) (by have := Bool.eq_false_iff.mpr c_71; rw [c_64] at this; exact this)
              rw [c_64] at c_88
              exact r_iret (pc := 126) dX11_positiveOf_126 rfl rfl ⟨false, rfl, rfl, by rw [← hfl]; exact hG_58, fun _ _ w hw => by rw [htr] at hw; simp only [evT, hmv.2.1, hmv.2.2] at hw; cases hw; simp; omega⟩
            · replace c_88 := cmpZ_lt.mp c_88
              refine r_goto (pc := 91) (tgt := 121) dX11_positiveOf_91 (by decide) ?_
              refine r_iconst (pc := 121) dX11_positiveOf_121 ?_
              refine r_goto (pc := 122) (tgt := 126) dX11_positiveOf_122 (by decide) ?_
              have htr : tr = .sub ta tb := by rcases hcm with ⟨h, q⟩ | ⟨h, q⟩ | ⟨h, q⟩ <;> first | exact q | (exfalso; omega)
              have hmv := mS_val (e := e) (bk := bk) (a := ta) (b := tb) (by have := Bool.eq_false_iff.mpr c_71; rw [c_64] at this; exact this)
              rw [c_64] at c_88
              exact r_iret (pc := 126) dX11_positiveOf_126 rfl rfl ⟨true, rfl, rfl, by rw [← hfl]; exact hG_58, fun _ _ w hw => by rw [htr] at hw; simp only [evT, hmv.2.1, hmv.2.2] at hw; cases hw; simp; omega⟩
    · exact absurd c_9 (by decide)

theorem mT_mul {e : Nat → Int} {lb bk rv : Bool} {a t : Term} (hv : lb = true → bk = false → ∀ w, evT e a = some w → rv = w) : mT e (lb && rv) (mT e lb bk a) t = mT e lb bk (.mul a t) := by
  cases lb with
  | false => rfl
  | true =>
    cases bk with
    | true => cases rv <;> rfl
    | false =>
      rw [mT_n, mT_n]
      rcases ha : evT e a with _ | w
      · simp only [evT, ha]; cases rv <;> rfl
      · have hr := hv rfl rfl w ha
        subst hr
        simp only [evT, ha]
        cases rv <;> rfl
theorem mV_mul {e : Nat → Int} {lb bk rv rw_ : Bool} {a t : Term} (hv : lb = true → bk = false → ∀ w, evT e a = some w → rv = w) (hw : (lb && rv) = true → mT e lb bk a = false → ∀ w, evT e t = some w → rw_ = w) : lb = true → bk = false → ∀ w, evT e (.mul a t) = some w → (rv && rw_) = w := by
  intro hl hb w h
  subst hl; subst hb
  rw [mT_n] at hw
  rcases ha : evT e a with _ | x
  · simp only [evT, ha] at h; cases h
  · have hr := hv rfl rfl x ha
    subst hr
    simp only [evT, ha] at h hw
    cases rv with
    | false => cases h; simp
    | true => have := hw rfl rfl w h; simp [this]

theorem mT_add {e : Nat → Int} {lb bk rv : Bool} {a t : Term} (hv : lb = true → bk = false → ∀ w, evT e a = some w → rv = w) : mT e (lb && !rv) (mT e lb bk a) t = mT e lb bk (.add a t) := by
  cases lb with
  | false => rfl
  | true =>
    cases bk with
    | true => cases rv <;> rfl
    | false =>
      rw [mT_n, mT_n]
      rcases ha : evT e a with _ | w
      · simp only [evT, ha]; cases rv <;> rfl
      · have hr := hv rfl rfl w ha
        subst hr
        simp only [evT, ha]
        cases rv <;> rfl
theorem mV_add {e : Nat → Int} {lb bk rv rw_ : Bool} {a t : Term} (hv : lb = true → bk = false → ∀ w, evT e a = some w → rv = w) (hw : (lb && !rv) = true → mT e lb bk a = false → ∀ w, evT e t = some w → rw_ = w) : lb = true → bk = false → ∀ w, evT e (.add a t) = some w → (rv || rw_) = w := by
  intro hl hb w h
  subst hl; subst hb
  rw [mT_n] at hw
  rcases ha : evT e a with _ | x
  · simp only [evT, ha] at h; cases h
  · have hr := hv rfl rfl x ha
    subst hr
    simp only [evT, ha] at h hw
    cases rv with
    | true => cases h; simp
    | false => have := hw rfl rfl w h; simp [this]

set_option maxRecDepth 100000 in
set_option maxHeartbeats 4000000 in
theorem m_plainOf (l : Launch) (z : Zv) {g : Gm} {f0 : Fm} {c v e : Nat → Int} {base T : Nat} (hM : ML g) (hE : ET f0 c v e base T) {e0 H : Nat} {sum test : Nat → Nat → PR} (hpos : EvMT l z g f0 e base T mX11_positiveOf (sPos c sum test e0) H) : EvMT l z g f0 e base T mX11_plainOf (sPlain c sum test e0) (H + 4) := by
  have hr0 := hE.r
  intro D hD f j lv bk lb tr j1 l1 hF hG
  obtain ⟨d, rfl⟩ : ∃ d, D = d + 4 := ⟨D - 4, by omega⟩
  refine PM.of (by decide +kernel) (Nat.le_of_ble_eq_true rfl) ?_
  have loop : ∀ (m : Nat) (f1 : Fm) (j2 : Nat) (nb : Bool), sNot c 400 false j = sNot c m nb j2 → EG f0 f1 base T j2 bk → T ≤ j2 + m → PW l z (d + 4) mX11_plainOf 0 0 (fun r g' f' => ∃ rb : Bool, g = g' ∧ r = some (.int (iI (b01 (rb = true)))) ∧ EG f0 f' base T j1 (mT e lb bk tr) ∧ (lb = true → bk = false → ∀ w, evT e tr = some w → rb = w)) 2 [(2, (.int (iI (b01 (nb = true))))), (0, (.ref 164)), (1, (.int (iI (b01 (lb = true)))))] [] g f1 0 0 := by
    intro m
    induction m using Nat.strongRecOn with
    | _ m ih =>
      intro f1 j2 nb hN hG1 hfu
      have hj2 := hG1.r
      refine r_aload_n (pc := 2) 1 dX11_plainOf_2 rfl rfl ?_
      refine r_bipush (pc := 3) dX11_plainOf_3 (by decide) ?_
      refine r_callV (pc := 5) (As := [(.int (iI (6)))]) (S := []) dX11_plainOf_5 cv_X11_253 hM.k rfl (Nat.le_of_ble_eq_true rfl) (m_pass l z _ hM hE hG1 (by decide) (by decide)) (Nat.zero_le _) (Nat.zero_le _) (fun r_5 g_5 f_5 q_5 => ?_)
      obtain ⟨rfl, ⟨hc_5, rfl, hG_5⟩ | ⟨hc_5, rfl, rfl⟩⟩ := q_5
      · refine r_if_eq (pc := 8) (tgt := 24) dX11_plainOf_8 (by decide) (by omega) (fun c_8 => ?_) (fun c_8 => ?_)
        · exact absurd c_8 (by decide)
        · refine r_iload_n (pc := 11) 0 dX11_plainOf_11 rfl rfl ?_
          refine r_if_ne (pc := 12) (tgt := 19) dX11_plainOf_12 (by decide) (b01_r) (fun c_12 => ?_) (fun c_12 => ?_)
          · replace c_12 := b01_nz c_12
            refine r_iconst (pc := 19) dX11_plainOf_19 ?_
            refine r_eqI (y := b01 ((!nb) = true)) (by rw [c_12]; rfl) ?_
            refine r_istore_n (pc := 20) (L2 := [(2, (.int (iI (b01 ((!nb) = true))))), (0, (.ref 164)), (1, (.int (iI (b01 (lb = true)))))]) dX11_plainOf_20 rfl (by decide) rfl ?_
            refine r_goto (pc := 21) (tgt := 2) dX11_plainOf_21 (by decide) ?_
            refine r_sub (L2 := [(2, (.int (iI (b01 ((!nb) = true))))), (0, (.ref 164)), (1, (.int (iI (b01 (lb = true)))))]) [0, 1, 2] rfl ?_
            exact ih (m - 1) (by have := hE.lt (i := j2) (by omega); omega) _ _ (!nb) (by rw [hN]; conv => lhs; rw [show m = m - 1 + 1 by have := hE.lt (i := j2) (by omega); omega, sNot, if_pos hc_5]) hG_5 (by have := hE.lt (i := j2) (by omega); omega)
          · replace c_12 := b01_z c_12
            refine r_iconst (pc := 15) dX11_plainOf_15 ?_
            refine r_goto (pc := 16) (tgt := 20) dX11_plainOf_16 (by decide) ?_
            refine r_eqI (y := b01 ((!nb) = true)) (by rw [Bool.eq_false_iff.mpr c_12]; rfl) ?_
            refine r_istore_n (pc := 20) (L2 := [(2, (.int (iI (b01 ((!nb) = true))))), (0, (.ref 164)), (1, (.int (iI (b01 (lb = true)))))]) dX11_plainOf_20 rfl (by decide) rfl ?_
            refine r_goto (pc := 21) (tgt := 2) dX11_plainOf_21 (by decide) ?_
            refine r_sub (L2 := [(2, (.int (iI (b01 ((!nb) = true))))), (0, (.ref 164)), (1, (.int (iI (b01 (lb = true)))))]) [0, 1, 2] rfl ?_
            exact ih (m - 1) (by have := hE.lt (i := j2) (by omega); omega) _ _ (!nb) (by rw [hN]; conv => lhs; rw [show m = m - 1 + 1 by have := hE.lt (i := j2) (by omega); omega, sNot, if_pos hc_5]) hG_5 (by have := hE.lt (i := j2) (by omega); omega)
      · refine r_if_eq (pc := 8) (tgt := 24) dX11_plainOf_8 (by decide) (by omega) (fun c_8 => ?_) (fun c_8 => ?_)
        · have hN2 : sNot c 400 false j = (nb, j2) := by rw [hN]; exact sNot_out hc_5
          have hFF : bndP (sPos c sum test e0 j2 lv) (fun t j1 l1 => .ok (if nb = true then .sum t else t, j1, l1)) = .ok (tr, j1, l1) := by have h := hF; rw [sPlain, hN2] at h; exact h
          obtain ⟨t_, j_, l_, hs, hq⟩ := bnd_ok hFF
          obtain ⟨htr, rfl, rfl⟩ : (if nb = true then Term.sum t_ else t_) = tr ∧ j_ = j1 ∧ l_ = l1 := by cases hq; exact ⟨rfl, rfl, rfl⟩
          refine r_aload_n (pc := 24) 1 dX11_plainOf_24 rfl rfl ?_
          refine r_iload_n (pc := 25) 2 dX11_plainOf_25 rfl rfl ?_
          refine r_callV (pc := 26) (As := [(.int (iI (b01 (lb = true))))]) (S := []) dX11_plainOf_26 cv_X11_266 hM.k rfl (Nat.le_of_ble_eq_true rfl) (hpos _ (by omega) _ _ _ _ lb _ _ _ hs hG1) (Nat.zero_le _) (Nat.zero_le _) (fun r_26 g_26 f_26 q_26 => ?_)
          obtain ⟨rb_26, rfl, rfl, hG_26, hv_26⟩ := q_26
          refine r_iload_n (pc := 29) 0 dX11_plainOf_29 rfl rfl ?_
          refine r_icmp_eq (pc := 30) (tgt := 37) dX11_plainOf_30 (by decide) (b01_r) (b01_r) (fun c_30 => ?_) (fun c_30 => ?_)
          · refine r_iconst (pc := 37) dX11_plainOf_37 ?_
            have hfl : mT e lb bk tr = mT e lb bk t_ := by
              rw [← htr]
              cases nb with
              | false => rfl
              | true => unfold mT; rw [if_pos rfl]; simp only [evT]; cases evT e t_ <;> rfl
            have hx : (rb_26 != nb) = false := by
              cases rb_26 <;> cases nb <;> simp [b01] at c_30 ⊢
            refine r_iret (pc := 38) dX11_plainOf_38 rfl rfl ⟨false, rfl, rfl, by rw [hfl]; exact hG_26, fun hl hb w hw => ?_⟩
            rw [← hx]
            cases nb with
            | false => rw [← htr] at hw; have := hv_26 hl hb w hw; simp [this]
            | true =>
              rw [← htr, if_pos rfl] at hw
              simp only [evT] at hw
              rcases hq2 : evT e t_ with _ | y
              · rw [hq2] at hw; cases hw
              · rw [hq2] at hw; have := hv_26 hl hb y hq2; cases hw; simp [this]
          · refine r_iconst (pc := 33) dX11_plainOf_33 ?_
            refine r_goto (pc := 34) (tgt := 38) dX11_plainOf_34 (by decide) ?_
            have hfl : mT e lb bk tr = mT e lb bk t_ := by
              rw [← htr]
              cases nb with
              | false => rfl
              | true => unfold mT; rw [if_pos rfl]; simp only [evT]; cases evT e t_ <;> rfl
            have hx : (rb_26 != nb) = true := by
              cases rb_26 <;> cases nb <;> simp [b01] at c_30 ⊢
            refine r_iret (pc := 38) dX11_plainOf_38 rfl rfl ⟨true, rfl, rfl, by rw [hfl]; exact hG_26, fun hl hb w hw => ?_⟩
            rw [← hx]
            cases nb with
            | false => rw [← htr] at hw; have := hv_26 hl hb w hw; simp [this]
            | true =>
              rw [← htr, if_pos rfl] at hw
              simp only [evT] at hw
              rcases hq2 : evT e t_ with _ | y
              · rw [hq2] at hw; cases hw
              · rw [hq2] at hw; have := hv_26 hl hb y hq2; cases hw; simp [this]
        · exact absurd c_8 (by decide)
  refine r_iconst (pc := 0) dX11_plainOf_0 ?_
  refine r_istore_n (pc := 1) (L2 := [(2, (.int (iI (0)))), (0, (.ref 164)), (1, (.int (iI (b01 (lb = true)))))]) dX11_plainOf_1 rfl (by decide) rfl ?_
  refine r_sub (L2 := [(2, (.int (iI (b01 (false = true))))), (0, (.ref 164)), (1, (.int (iI (b01 (lb = true)))))]) [0, 1, 2] rfl ?_
  exact loop 400 f j false rfl hG (by omega)

set_option maxRecDepth 100000 in
set_option maxHeartbeats 4000000 in
theorem m_bothOf (l : Launch) (z : Zv) {g : Gm} {f0 : Fm} {c v e : Nat → Int} {base T : Nat} (hM : ML g) (hE : ET f0 c v e base T) {H : Nat} {plain : Nat → Nat → PR} (hmono : ∀ j lv tr j1 l1, plain j lv = .ok (tr, j1, l1) → j < j1) (hsub : EvMT l z g f0 e base T mX11_plainOf plain H) : EvMT l z g f0 e base T mX11_bothOf (sBoth c plain) (H + 4) := by
  have hr0 := hE.r
  intro D hD f j lv bk lb tr j1 l1 hF hG
  obtain ⟨d, rfl⟩ : ∃ d, D = d + 4 := ⟨D - 4, by omega⟩
  refine PM.of (by decide +kernel) (Nat.le_of_ble_eq_true rfl) ?_
  obtain ⟨t0, j0, l0, h0, h0r⟩ := bnd_ok hF
  have loop : ∀ (m : Nat) (f1 : Fm) (acc : Term) (j2 l2 : Nat) (rv : Bool), sBothR c plain m acc j2 l2 = .ok (tr, j1, l1) → EG f0 f1 base T j2 (mT e lb bk acc) → (lb = true → bk = false → ∀ w, evT e acc = some w → rv = w) → T ≤ j2 + m → PW l z (d + 4) mX11_bothOf 0 0 (fun r g' f' => ∃ rb : Bool, g = g' ∧ r = some (.int (iI (b01 (rb = true)))) ∧ EG f0 f' base T j1 (mT e lb bk tr) ∧ (lb = true → bk = false → ∀ w, evT e tr = some w → rb = w)) 6 [(2, (.int (iI (b01 (rv = true))))), (0, (.ref 164)), (1, (.int (iI (b01 (lb = true)))))] [] g f1 0 0 := by
    intro m
    induction m using Nat.strongRecOn with
    | _ m ih =>
      intro f1 acc j2 l2 rv hR hG1 hv1 hfu
      have hj2 := hG1.r
      have hok := sBothR_ok hR (fun q => by have := hE.lt (i := j2) (by omega); omega)
      refine r_aload_n (pc := 6) 1 dX11_bothOf_6 rfl rfl ?_
      refine r_iconst (pc := 7) dX11_bothOf_7 ?_
      refine r_callV (pc := 8) (As := [(.int (iI (5)))]) (S := []) dX11_bothOf_8 cv_X11_253 hM.k rfl (Nat.le_of_ble_eq_true rfl) (m_pass l z _ hM hE hG1 (by decide) (by decide)) (Nat.zero_le _) (Nat.zero_le _) (fun r_8 g_8 f_8 q_8 => ?_)
      obtain ⟨rfl, ⟨hc_8, rfl, hG_8⟩ | ⟨hc_8, rfl, rfl⟩⟩ := q_8
      · refine r_if_eq (pc := 11) (tgt := 49) dX11_bothOf_11 (by decide) (by omega) (fun c_11 => ?_) (fun c_11 => ?_)
        · exact absurd c_11 (by decide)
        · obtain ⟨t_, j_, l_, ht_, hR_⟩ : ∃ t j0 l0, plain (j2 + 1) l2 = .ok (t, j0, l0) ∧ sBothR c plain (m - 1) (.mul acc t) j0 l0 = .ok (tr, j1, l1) := by rcases hok with h | h; exact absurd hc_8 h.1; exact h.2
          have hjT : j2 + 1 ≤ T := hE.lt (by omega)
          refine r_aload_n (pc := 14) 1 dX11_bothOf_14 rfl rfl ?_
          refine r_iload_n (pc := 15) 2 dX11_bothOf_15 rfl rfl ?_
          refine r_if_eq (pc := 16) (tgt := 27) dX11_bothOf_16 (by decide) (b01_r) (fun c_16 => ?_) (fun c_16 => ?_)
          · replace c_16 := b01_z c_16
            refine r_iconst (pc := 27) dX11_bothOf_27 ?_
            refine r_eqI (y := b01 (false = true)) (rfl) ?_
            refine r_callV (pc := 28) (As := [(.int (iI (b01 (false = true))))]) (S := []) dX11_bothOf_28 cv_X11_263 hM.k rfl (Nat.le_of_ble_eq_true rfl) (hsub _ (by omega) _ _ _ _ false _ _ _ ht_ hG_8) (Nat.zero_le _) (Nat.zero_le _) (fun r_28 g_28 f_28 q_28 => ?_)
            obtain ⟨rb_28, rfl, rfl, hG_28, hv_28⟩ := q_28
            refine r_istore_n (pc := 31) (L2 := [(3, (.int (iI (b01 (rb_28 = true))))), (2, (.int (iI (b01 (rv = true))))), (0, (.ref 164)), (1, (.int (iI (b01 (lb = true)))))]) dX11_bothOf_31 rfl (by decide) rfl ?_
            refine r_iload_n (pc := 32) 1 dX11_bothOf_32 rfl rfl ?_
            refine r_if_eq (pc := 33) (tgt := 44) dX11_bothOf_33 (by decide) (b01_r) (fun c_33 => ?_) (fun c_33 => ?_)
            · replace c_33 := b01_z c_33
              refine r_iconst (pc := 44) dX11_bothOf_44 ?_
              refine r_eqI (y := b01 ((rv && rb_28) = true)) (by rw [Bool.eq_false_iff.mpr c_33]; cases rb_28 <;> rfl) ?_
              refine r_istore_n (pc := 45) (L2 := [(2, (.int (iI (b01 ((rv && rb_28) = true))))), (3, (.int (iI (b01 (rb_28 = true))))), (0, (.ref 164)), (1, (.int (iI (b01 (lb = true)))))]) dX11_bothOf_45 rfl (by decide) rfl ?_
              refine r_goto (pc := 46) (tgt := 6) dX11_bothOf_46 (by decide) ?_
              refine r_sub (L2 := [(2, (.int (iI (b01 ((rv && rb_28) = true))))), (0, (.ref 164)), (1, (.int (iI (b01 (lb = true)))))]) [0, 2, 3] rfl ?_
              have hlv : false = (lb && rv) := by rw [Bool.eq_false_iff.mpr c_16]; rfl
              exact ih (m - 1) (by omega) _ (.mul acc t_) j_ l_ (rv && rb_28) hR_ (by rw [← mT_mul (rv := rv) hv1, ← hlv]; exact hG_28) (mV_mul hv1 (by rw [← hlv]; exact hv_28)) (by have := hmono _ _ _ _ _ ht_; omega)
            · replace c_33 := b01_nz c_33
              refine r_iload_n (pc := 36) 0 dX11_bothOf_36 rfl rfl ?_
              refine r_if_eq (pc := 37) (tgt := 44) dX11_bothOf_37 (by decide) (b01_r) (fun c_37 => ?_) (fun c_37 => ?_)
              · replace c_37 := b01_z c_37
                refine r_iconst (pc := 44) dX11_bothOf_44 ?_
                refine r_eqI (y := b01 ((rv && rb_28) = true)) (by rw [c_33]; rw [Bool.eq_false_iff.mpr c_37]; rfl) ?_
                refine r_istore_n (pc := 45) (L2 := [(2, (.int (iI (b01 ((rv && rb_28) = true))))), (3, (.int (iI (b01 (rb_28 = true))))), (0, (.ref 164)), (1, (.int (iI (b01 (lb = true)))))]) dX11_bothOf_45 rfl (by decide) rfl ?_
                refine r_goto (pc := 46) (tgt := 6) dX11_bothOf_46 (by decide) ?_
                refine r_sub (L2 := [(2, (.int (iI (b01 ((rv && rb_28) = true))))), (0, (.ref 164)), (1, (.int (iI (b01 (lb = true)))))]) [0, 2, 3] rfl ?_
                have hlv : false = (lb && rv) := by rw [Bool.eq_false_iff.mpr c_16]; rfl
                exact ih (m - 1) (by omega) _ (.mul acc t_) j_ l_ (rv && rb_28) hR_ (by rw [← mT_mul (rv := rv) hv1, ← hlv]; exact hG_28) (mV_mul hv1 (by rw [← hlv]; exact hv_28)) (by have := hmono _ _ _ _ _ ht_; omega)
              · replace c_37 := b01_nz c_37
                refine r_iconst (pc := 40) dX11_bothOf_40 ?_
                refine r_goto (pc := 41) (tgt := 45) dX11_bothOf_41 (by decide) ?_
                refine r_eqI (y := b01 ((rv && rb_28) = true)) (by rw [c_33]; rw [c_37]; rfl) ?_
                refine r_istore_n (pc := 45) (L2 := [(2, (.int (iI (b01 ((rv && rb_28) = true))))), (3, (.int (iI (b01 (rb_28 = true))))), (0, (.ref 164)), (1, (.int (iI (b01 (lb = true)))))]) dX11_bothOf_45 rfl (by decide) rfl ?_
                refine r_goto (pc := 46) (tgt := 6) dX11_bothOf_46 (by decide) ?_
                refine r_sub (L2 := [(2, (.int (iI (b01 ((rv && rb_28) = true))))), (0, (.ref 164)), (1, (.int (iI (b01 (lb = true)))))]) [0, 2, 3] rfl ?_
                have hlv : false = (lb && rv) := by rw [Bool.eq_false_iff.mpr c_16]; rfl
                exact ih (m - 1) (by omega) _ (.mul acc t_) j_ l_ (rv && rb_28) hR_ (by rw [← mT_mul (rv := rv) hv1, ← hlv]; exact hG_28) (mV_mul hv1 (by rw [← hlv]; exact hv_28)) (by have := hmono _ _ _ _ _ ht_; omega)
          · replace c_16 := b01_nz c_16
            refine r_iload_n (pc := 19) 0 dX11_bothOf_19 rfl rfl ?_
            refine r_if_eq (pc := 20) (tgt := 27) dX11_bothOf_20 (by decide) (b01_r) (fun c_20 => ?_) (fun c_20 => ?_)
            · replace c_20 := b01_z c_20
              refine r_iconst (pc := 27) dX11_bothOf_27 ?_
              refine r_eqI (y := b01 (false = true)) (rfl) ?_
              refine r_callV (pc := 28) (As := [(.int (iI (b01 (false = true))))]) (S := []) dX11_bothOf_28 cv_X11_263 hM.k rfl (Nat.le_of_ble_eq_true rfl) (hsub _ (by omega) _ _ _ _ false _ _ _ ht_ hG_8) (Nat.zero_le _) (Nat.zero_le _) (fun r_28 g_28 f_28 q_28 => ?_)
              obtain ⟨rb_28, rfl, rfl, hG_28, hv_28⟩ := q_28
              refine r_istore_n (pc := 31) (L2 := [(3, (.int (iI (b01 (rb_28 = true))))), (2, (.int (iI (b01 (rv = true))))), (0, (.ref 164)), (1, (.int (iI (b01 (lb = true)))))]) dX11_bothOf_31 rfl (by decide) rfl ?_
              refine r_iload_n (pc := 32) 1 dX11_bothOf_32 rfl rfl ?_
              refine r_if_eq (pc := 33) (tgt := 44) dX11_bothOf_33 (by decide) (b01_r) (fun c_33 => ?_) (fun c_33 => ?_)
              · replace c_33 := b01_z c_33
                refine r_iconst (pc := 44) dX11_bothOf_44 ?_
                refine r_eqI (y := b01 ((rv && rb_28) = true)) (by rw [Bool.eq_false_iff.mpr c_33]; cases rb_28 <;> rfl) ?_
                refine r_istore_n (pc := 45) (L2 := [(2, (.int (iI (b01 ((rv && rb_28) = true))))), (3, (.int (iI (b01 (rb_28 = true))))), (0, (.ref 164)), (1, (.int (iI (b01 (lb = true)))))]) dX11_bothOf_45 rfl (by decide) rfl ?_
                refine r_goto (pc := 46) (tgt := 6) dX11_bothOf_46 (by decide) ?_
                refine r_sub (L2 := [(2, (.int (iI (b01 ((rv && rb_28) = true))))), (0, (.ref 164)), (1, (.int (iI (b01 (lb = true)))))]) [0, 2, 3] rfl ?_
                have hlv : false = (lb && rv) := by rw [c_16, Bool.eq_false_iff.mpr c_20]; rfl
                exact ih (m - 1) (by omega) _ (.mul acc t_) j_ l_ (rv && rb_28) hR_ (by rw [← mT_mul (rv := rv) hv1, ← hlv]; exact hG_28) (mV_mul hv1 (by rw [← hlv]; exact hv_28)) (by have := hmono _ _ _ _ _ ht_; omega)
              · replace c_33 := b01_nz c_33
                refine r_iload_n (pc := 36) 0 dX11_bothOf_36 rfl rfl ?_
                refine r_if_eq (pc := 37) (tgt := 44) dX11_bothOf_37 (by decide) (b01_r) (fun c_37 => ?_) (fun c_37 => ?_)
                · replace c_37 := b01_z c_37
                  refine r_iconst (pc := 44) dX11_bothOf_44 ?_
                  refine r_eqI (y := b01 ((rv && rb_28) = true)) (by rw [c_33]; rw [Bool.eq_false_iff.mpr c_37]; rfl) ?_
                  refine r_istore_n (pc := 45) (L2 := [(2, (.int (iI (b01 ((rv && rb_28) = true))))), (3, (.int (iI (b01 (rb_28 = true))))), (0, (.ref 164)), (1, (.int (iI (b01 (lb = true)))))]) dX11_bothOf_45 rfl (by decide) rfl ?_
                  refine r_goto (pc := 46) (tgt := 6) dX11_bothOf_46 (by decide) ?_
                  refine r_sub (L2 := [(2, (.int (iI (b01 ((rv && rb_28) = true))))), (0, (.ref 164)), (1, (.int (iI (b01 (lb = true)))))]) [0, 2, 3] rfl ?_
                  have hlv : false = (lb && rv) := by rw [c_16, Bool.eq_false_iff.mpr c_20]; rfl
                  exact ih (m - 1) (by omega) _ (.mul acc t_) j_ l_ (rv && rb_28) hR_ (by rw [← mT_mul (rv := rv) hv1, ← hlv]; exact hG_28) (mV_mul hv1 (by rw [← hlv]; exact hv_28)) (by have := hmono _ _ _ _ _ ht_; omega)
                · replace c_37 := b01_nz c_37
                  refine r_iconst (pc := 40) dX11_bothOf_40 ?_
                  refine r_goto (pc := 41) (tgt := 45) dX11_bothOf_41 (by decide) ?_
                  refine r_eqI (y := b01 ((rv && rb_28) = true)) (by rw [c_33]; rw [c_37]; rfl) ?_
                  refine r_istore_n (pc := 45) (L2 := [(2, (.int (iI (b01 ((rv && rb_28) = true))))), (3, (.int (iI (b01 (rb_28 = true))))), (0, (.ref 164)), (1, (.int (iI (b01 (lb = true)))))]) dX11_bothOf_45 rfl (by decide) rfl ?_
                  refine r_goto (pc := 46) (tgt := 6) dX11_bothOf_46 (by decide) ?_
                  refine r_sub (L2 := [(2, (.int (iI (b01 ((rv && rb_28) = true))))), (0, (.ref 164)), (1, (.int (iI (b01 (lb = true)))))]) [0, 2, 3] rfl ?_
                  have hlv : false = (lb && rv) := by rw [c_16, Bool.eq_false_iff.mpr c_20]; rfl
                  exact ih (m - 1) (by omega) _ (.mul acc t_) j_ l_ (rv && rb_28) hR_ (by rw [← mT_mul (rv := rv) hv1, ← hlv]; exact hG_28) (mV_mul hv1 (by rw [← hlv]; exact hv_28)) (by have := hmono _ _ _ _ _ ht_; omega)
            · replace c_20 := b01_nz c_20
              refine r_iconst (pc := 23) dX11_bothOf_23 ?_
              refine r_goto (pc := 24) (tgt := 28) dX11_bothOf_24 (by decide) ?_
              refine r_eqI (y := b01 (true = true)) (rfl) ?_
              refine r_callV (pc := 28) (As := [(.int (iI (b01 (true = true))))]) (S := []) dX11_bothOf_28 cv_X11_263 hM.k rfl (Nat.le_of_ble_eq_true rfl) (hsub _ (by omega) _ _ _ _ true _ _ _ ht_ hG_8) (Nat.zero_le _) (Nat.zero_le _) (fun r_28 g_28 f_28 q_28 => ?_)
              obtain ⟨rb_28, rfl, rfl, hG_28, hv_28⟩ := q_28
              refine r_istore_n (pc := 31) (L2 := [(3, (.int (iI (b01 (rb_28 = true))))), (2, (.int (iI (b01 (rv = true))))), (0, (.ref 164)), (1, (.int (iI (b01 (lb = true)))))]) dX11_bothOf_31 rfl (by decide) rfl ?_
              refine r_iload_n (pc := 32) 1 dX11_bothOf_32 rfl rfl ?_
              refine r_if_eq (pc := 33) (tgt := 44) dX11_bothOf_33 (by decide) (b01_r) (fun c_33 => ?_) (fun c_33 => ?_)
              · replace c_33 := b01_z c_33
                refine r_iconst (pc := 44) dX11_bothOf_44 ?_
                refine r_eqI (y := b01 ((rv && rb_28) = true)) (by rw [Bool.eq_false_iff.mpr c_33]; cases rb_28 <;> rfl) ?_
                refine r_istore_n (pc := 45) (L2 := [(2, (.int (iI (b01 ((rv && rb_28) = true))))), (3, (.int (iI (b01 (rb_28 = true))))), (0, (.ref 164)), (1, (.int (iI (b01 (lb = true)))))]) dX11_bothOf_45 rfl (by decide) rfl ?_
                refine r_goto (pc := 46) (tgt := 6) dX11_bothOf_46 (by decide) ?_
                refine r_sub (L2 := [(2, (.int (iI (b01 ((rv && rb_28) = true))))), (0, (.ref 164)), (1, (.int (iI (b01 (lb = true)))))]) [0, 2, 3] rfl ?_
                have hlv : true = (lb && rv) := by rw [c_16, c_20]; rfl
                exact ih (m - 1) (by omega) _ (.mul acc t_) j_ l_ (rv && rb_28) hR_ (by rw [← mT_mul (rv := rv) hv1, ← hlv]; exact hG_28) (mV_mul hv1 (by rw [← hlv]; exact hv_28)) (by have := hmono _ _ _ _ _ ht_; omega)
              · replace c_33 := b01_nz c_33
                refine r_iload_n (pc := 36) 0 dX11_bothOf_36 rfl rfl ?_
                refine r_if_eq (pc := 37) (tgt := 44) dX11_bothOf_37 (by decide) (b01_r) (fun c_37 => ?_) (fun c_37 => ?_)
                · replace c_37 := b01_z c_37
                  refine r_iconst (pc := 44) dX11_bothOf_44 ?_
                  refine r_eqI (y := b01 ((rv && rb_28) = true)) (by rw [c_33]; rw [Bool.eq_false_iff.mpr c_37]; rfl) ?_
                  refine r_istore_n (pc := 45) (L2 := [(2, (.int (iI (b01 ((rv && rb_28) = true))))), (3, (.int (iI (b01 (rb_28 = true))))), (0, (.ref 164)), (1, (.int (iI (b01 (lb = true)))))]) dX11_bothOf_45 rfl (by decide) rfl ?_
                  refine r_goto (pc := 46) (tgt := 6) dX11_bothOf_46 (by decide) ?_
                  refine r_sub (L2 := [(2, (.int (iI (b01 ((rv && rb_28) = true))))), (0, (.ref 164)), (1, (.int (iI (b01 (lb = true)))))]) [0, 2, 3] rfl ?_
                  have hlv : true = (lb && rv) := by rw [c_16, c_20]; rfl
                  exact ih (m - 1) (by omega) _ (.mul acc t_) j_ l_ (rv && rb_28) hR_ (by rw [← mT_mul (rv := rv) hv1, ← hlv]; exact hG_28) (mV_mul hv1 (by rw [← hlv]; exact hv_28)) (by have := hmono _ _ _ _ _ ht_; omega)
                · replace c_37 := b01_nz c_37
                  refine r_iconst (pc := 40) dX11_bothOf_40 ?_
                  refine r_goto (pc := 41) (tgt := 45) dX11_bothOf_41 (by decide) ?_
                  refine r_eqI (y := b01 ((rv && rb_28) = true)) (by rw [c_33]; rw [c_37]; rfl) ?_
                  refine r_istore_n (pc := 45) (L2 := [(2, (.int (iI (b01 ((rv && rb_28) = true))))), (3, (.int (iI (b01 (rb_28 = true))))), (0, (.ref 164)), (1, (.int (iI (b01 (lb = true)))))]) dX11_bothOf_45 rfl (by decide) rfl ?_
                  refine r_goto (pc := 46) (tgt := 6) dX11_bothOf_46 (by decide) ?_
                  refine r_sub (L2 := [(2, (.int (iI (b01 ((rv && rb_28) = true))))), (0, (.ref 164)), (1, (.int (iI (b01 (lb = true)))))]) [0, 2, 3] rfl ?_
                  have hlv : true = (lb && rv) := by rw [c_16, c_20]; rfl
                  exact ih (m - 1) (by omega) _ (.mul acc t_) j_ l_ (rv && rb_28) hR_ (by rw [← mT_mul (rv := rv) hv1, ← hlv]; exact hG_28) (mV_mul hv1 (by rw [← hlv]; exact hv_28)) (by have := hmono _ _ _ _ _ ht_; omega)
      · refine r_if_eq (pc := 11) (tgt := 49) dX11_bothOf_11 (by decide) (by omega) (fun c_11 => ?_) (fun c_11 => ?_)
        · refine r_iload_n (pc := 49) 0 dX11_bothOf_49 rfl rfl ?_
          obtain ⟨q1, q3, q4, q5⟩ : ¬ c j2 = 5 ∧ tr = acc ∧ j1 = j2 ∧ l1 = l2 := by rcases hok with h | h; exact h; exact absurd h.1 hc_8
          subst q3; subst q4
          exact r_iret (pc := 50) dX11_bothOf_50 rfl b01_nar ⟨rv, rfl, rfl, hG1, hv1⟩
        · exact absurd c_11 (by decide)
  refine r_aload_n (pc := 0) 0 dX11_bothOf_0 rfl rfl ?_
  refine r_iload_n (pc := 1) 1 dX11_bothOf_1 rfl rfl ?_
  refine r_callV (pc := 2) (As := [(.int (iI (b01 (lb = true))))]) (S := []) dX11_bothOf_2 cv_X11_263 hM.k rfl (Nat.le_of_ble_eq_true rfl) (hsub _ (by omega) _ _ _ _ lb _ _ _ h0 hG) (Nat.zero_le _) (Nat.zero_le _) (fun r_2 g_2 f_2 q_2 => ?_)
  obtain ⟨rb_2, rfl, rfl, hG_2, hv_2⟩ := q_2
  refine r_istore_n (pc := 5) (L2 := [(2, (.int (iI (b01 (rb_2 = true))))), (0, (.ref 164)), (1, (.int (iI (b01 (lb = true)))))]) dX11_bothOf_5 rfl (by decide) rfl ?_
  refine r_sub (L2 := [(2, (.int (iI (b01 (rb_2 = true))))), (0, (.ref 164)), (1, (.int (iI (b01 (lb = true)))))]) [0, 1, 2] rfl ?_
  exact loop 400 _ t0 j0 l0 rb_2 h0r hG_2 hv_2 (by have := hG_2.r; omega)

set_option maxRecDepth 100000 in
set_option maxHeartbeats 4000000 in
theorem m_testOf (l : Launch) (z : Zv) {g : Gm} {f0 : Fm} {c v e : Nat → Int} {base T : Nat} (hM : ML g) (hE : ET f0 c v e base T) {H : Nat} {both : Nat → Nat → PR} (hmono : ∀ j lv tr j1 l1, both j lv = .ok (tr, j1, l1) → j < j1) (hsub : EvMT l z g f0 e base T mX11_bothOf both H) : EvMT l z g f0 e base T mX11_testOf (sTest c both) (H + 4) := by
  have hr0 := hE.r
  intro D hD f j lv bk lb tr j1 l1 hF hG
  obtain ⟨d, rfl⟩ : ∃ d, D = d + 4 := ⟨D - 4, by omega⟩
  refine PM.of (by decide +kernel) (Nat.le_of_ble_eq_true rfl) ?_
  obtain ⟨t0, j0, l0, h0, h0r⟩ := bnd_ok hF
  have loop : ∀ (m : Nat) (f1 : Fm) (acc : Term) (j2 l2 : Nat) (rv : Bool), sTestR c both m acc j2 l2 = .ok (tr, j1, l1) → EG f0 f1 base T j2 (mT e lb bk acc) → (lb = true → bk = false → ∀ w, evT e acc = some w → rv = w) → T ≤ j2 + m → PW l z (d + 4) mX11_testOf 0 0 (fun r g' f' => ∃ rb : Bool, g = g' ∧ r = some (.int (iI (b01 (rb = true)))) ∧ EG f0 f' base T j1 (mT e lb bk tr) ∧ (lb = true → bk = false → ∀ w, evT e tr = some w → rb = w)) 6 [(2, (.int (iI (b01 (rv = true))))), (0, (.ref 164)), (1, (.int (iI (b01 (lb = true)))))] [] g f1 0 0 := by
    intro m
    induction m using Nat.strongRecOn with
    | _ m ih =>
      intro f1 acc j2 l2 rv hR hG1 hv1 hfu
      have hj2 := hG1.r
      have hok := sTestR_ok hR (fun q => by have := hE.lt (i := j2) (by omega); omega)
      refine r_aload_n (pc := 6) 1 dX11_testOf_6 rfl rfl ?_
      refine r_iconst (pc := 7) dX11_testOf_7 ?_
      refine r_callV (pc := 8) (As := [(.int (iI (4)))]) (S := []) dX11_testOf_8 cv_X11_253 hM.k rfl (Nat.le_of_ble_eq_true rfl) (m_pass l z _ hM hE hG1 (by decide) (by decide)) (Nat.zero_le _) (Nat.zero_le _) (fun r_8 g_8 f_8 q_8 => ?_)
      obtain ⟨rfl, ⟨hc_8, rfl, hG_8⟩ | ⟨hc_8, rfl, rfl⟩⟩ := q_8
      · refine r_if_eq (pc := 11) (tgt := 49) dX11_testOf_11 (by decide) (by omega) (fun c_11 => ?_) (fun c_11 => ?_)
        · exact absurd c_11 (by decide)
        · obtain ⟨t_, j_, l_, ht_, hR_⟩ : ∃ t j0 l0, both (j2 + 1) l2 = .ok (t, j0, l0) ∧ sTestR c both (m - 1) (.add acc t) j0 l0 = .ok (tr, j1, l1) := by rcases hok with h | h; exact absurd hc_8 h.1; exact h.2
          have hjT : j2 + 1 ≤ T := hE.lt (by omega)
          refine r_aload_n (pc := 14) 1 dX11_testOf_14 rfl rfl ?_
          refine r_iload_n (pc := 15) 2 dX11_testOf_15 rfl rfl ?_
          refine r_if_eq (pc := 16) (tgt := 27) dX11_testOf_16 (by decide) (b01_r) (fun c_16 => ?_) (fun c_16 => ?_)
          · replace c_16 := b01_z c_16
            refine r_iconst (pc := 27) dX11_testOf_27 ?_
            refine r_eqI (y := b01 (false = true)) (rfl) ?_
            refine r_callV (pc := 28) (As := [(.int (iI (b01 (false = true))))]) (S := []) dX11_testOf_28 cv_X11_259 hM.k rfl (Nat.le_of_ble_eq_true rfl) (hsub _ (by omega) _ _ _ _ false _ _ _ ht_ hG_8) (Nat.zero_le _) (Nat.zero_le _) (fun r_28 g_28 f_28 q_28 => ?_)
            obtain ⟨rb_28, rfl, rfl, hG_28, hv_28⟩ := q_28
            refine r_istore_n (pc := 31) (L2 := [(3, (.int (iI (b01 (rb_28 = true))))), (2, (.int (iI (b01 (rv = true))))), (0, (.ref 164)), (1, (.int (iI (b01 (lb = true)))))]) dX11_testOf_31 rfl (by decide) rfl ?_
            refine r_iload_n (pc := 32) 1 dX11_testOf_32 rfl rfl ?_
            refine r_if_ne (pc := 33) (tgt := 40) dX11_testOf_33 (by decide) (b01_r) (fun c_33 => ?_) (fun c_33 => ?_)
            · replace c_33 := b01_nz c_33
              refine r_iconst (pc := 40) dX11_testOf_40 ?_
              refine r_goto (pc := 41) (tgt := 45) dX11_testOf_41 (by decide) ?_
              refine r_eqI (y := b01 ((rv || rb_28) = true)) (by rw [c_33]; cases rb_28 <;> rfl) ?_
              refine r_istore_n (pc := 45) (L2 := [(2, (.int (iI (b01 ((rv || rb_28) = true))))), (3, (.int (iI (b01 (rb_28 = true))))), (0, (.ref 164)), (1, (.int (iI (b01 (lb = true)))))]) dX11_testOf_45 rfl (by decide) rfl ?_
              refine r_goto (pc := 46) (tgt := 6) dX11_testOf_46 (by decide) ?_
              refine r_sub (L2 := [(2, (.int (iI (b01 ((rv || rb_28) = true))))), (0, (.ref 164)), (1, (.int (iI (b01 (lb = true)))))]) [0, 2, 3] rfl ?_
              have hlv : false = (lb && !rv) := by rw [Bool.eq_false_iff.mpr c_16]; rfl
              exact ih (m - 1) (by omega) _ (.add acc t_) j_ l_ (rv || rb_28) hR_ (by rw [← mT_add (rv := rv) hv1, ← hlv]; exact hG_28) (mV_add hv1 (by rw [← hlv]; exact hv_28)) (by have := hmono _ _ _ _ _ ht_; omega)
            · replace c_33 := b01_z c_33
              refine r_iload_n (pc := 36) 0 dX11_testOf_36 rfl rfl ?_
              refine r_if_eq (pc := 37) (tgt := 44) dX11_testOf_37 (by decide) (b01_r) (fun c_37 => ?_) (fun c_37 => ?_)
              · replace c_37 := b01_z c_37
                refine r_iconst (pc := 44) dX11_testOf_44 ?_
                refine r_eqI (y := b01 ((rv || rb_28) = true)) (by rw [Bool.eq_false_iff.mpr c_33]; rw [Bool.eq_false_iff.mpr c_37]; rfl) ?_
                refine r_istore_n (pc := 45) (L2 := [(2, (.int (iI (b01 ((rv || rb_28) = true))))), (3, (.int (iI (b01 (rb_28 = true))))), (0, (.ref 164)), (1, (.int (iI (b01 (lb = true)))))]) dX11_testOf_45 rfl (by decide) rfl ?_
                refine r_goto (pc := 46) (tgt := 6) dX11_testOf_46 (by decide) ?_
                refine r_sub (L2 := [(2, (.int (iI (b01 ((rv || rb_28) = true))))), (0, (.ref 164)), (1, (.int (iI (b01 (lb = true)))))]) [0, 2, 3] rfl ?_
                have hlv : false = (lb && !rv) := by rw [Bool.eq_false_iff.mpr c_16]; rfl
                exact ih (m - 1) (by omega) _ (.add acc t_) j_ l_ (rv || rb_28) hR_ (by rw [← mT_add (rv := rv) hv1, ← hlv]; exact hG_28) (mV_add hv1 (by rw [← hlv]; exact hv_28)) (by have := hmono _ _ _ _ _ ht_; omega)
              · replace c_37 := b01_nz c_37
                refine r_iconst (pc := 40) dX11_testOf_40 ?_
                refine r_goto (pc := 41) (tgt := 45) dX11_testOf_41 (by decide) ?_
                refine r_eqI (y := b01 ((rv || rb_28) = true)) (by rw [Bool.eq_false_iff.mpr c_33]; rw [c_37]; rfl) ?_
                refine r_istore_n (pc := 45) (L2 := [(2, (.int (iI (b01 ((rv || rb_28) = true))))), (3, (.int (iI (b01 (rb_28 = true))))), (0, (.ref 164)), (1, (.int (iI (b01 (lb = true)))))]) dX11_testOf_45 rfl (by decide) rfl ?_
                refine r_goto (pc := 46) (tgt := 6) dX11_testOf_46 (by decide) ?_
                refine r_sub (L2 := [(2, (.int (iI (b01 ((rv || rb_28) = true))))), (0, (.ref 164)), (1, (.int (iI (b01 (lb = true)))))]) [0, 2, 3] rfl ?_
                have hlv : false = (lb && !rv) := by rw [Bool.eq_false_iff.mpr c_16]; rfl
                exact ih (m - 1) (by omega) _ (.add acc t_) j_ l_ (rv || rb_28) hR_ (by rw [← mT_add (rv := rv) hv1, ← hlv]; exact hG_28) (mV_add hv1 (by rw [← hlv]; exact hv_28)) (by have := hmono _ _ _ _ _ ht_; omega)
          · replace c_16 := b01_nz c_16
            refine r_iload_n (pc := 19) 0 dX11_testOf_19 rfl rfl ?_
            refine r_if_ne (pc := 20) (tgt := 27) dX11_testOf_20 (by decide) (b01_r) (fun c_20 => ?_) (fun c_20 => ?_)
            · replace c_20 := b01_nz c_20
              refine r_iconst (pc := 27) dX11_testOf_27 ?_
              refine r_eqI (y := b01 (false = true)) (rfl) ?_
              refine r_callV (pc := 28) (As := [(.int (iI (b01 (false = true))))]) (S := []) dX11_testOf_28 cv_X11_259 hM.k rfl (Nat.le_of_ble_eq_true rfl) (hsub _ (by omega) _ _ _ _ false _ _ _ ht_ hG_8) (Nat.zero_le _) (Nat.zero_le _) (fun r_28 g_28 f_28 q_28 => ?_)
              obtain ⟨rb_28, rfl, rfl, hG_28, hv_28⟩ := q_28
              refine r_istore_n (pc := 31) (L2 := [(3, (.int (iI (b01 (rb_28 = true))))), (2, (.int (iI (b01 (rv = true))))), (0, (.ref 164)), (1, (.int (iI (b01 (lb = true)))))]) dX11_testOf_31 rfl (by decide) rfl ?_
              refine r_iload_n (pc := 32) 1 dX11_testOf_32 rfl rfl ?_
              refine r_if_ne (pc := 33) (tgt := 40) dX11_testOf_33 (by decide) (b01_r) (fun c_33 => ?_) (fun c_33 => ?_)
              · replace c_33 := b01_nz c_33
                refine r_iconst (pc := 40) dX11_testOf_40 ?_
                refine r_goto (pc := 41) (tgt := 45) dX11_testOf_41 (by decide) ?_
                refine r_eqI (y := b01 ((rv || rb_28) = true)) (by rw [c_33]; cases rb_28 <;> rfl) ?_
                refine r_istore_n (pc := 45) (L2 := [(2, (.int (iI (b01 ((rv || rb_28) = true))))), (3, (.int (iI (b01 (rb_28 = true))))), (0, (.ref 164)), (1, (.int (iI (b01 (lb = true)))))]) dX11_testOf_45 rfl (by decide) rfl ?_
                refine r_goto (pc := 46) (tgt := 6) dX11_testOf_46 (by decide) ?_
                refine r_sub (L2 := [(2, (.int (iI (b01 ((rv || rb_28) = true))))), (0, (.ref 164)), (1, (.int (iI (b01 (lb = true)))))]) [0, 2, 3] rfl ?_
                have hlv : false = (lb && !rv) := by rw [c_16, c_20]; rfl
                exact ih (m - 1) (by omega) _ (.add acc t_) j_ l_ (rv || rb_28) hR_ (by rw [← mT_add (rv := rv) hv1, ← hlv]; exact hG_28) (mV_add hv1 (by rw [← hlv]; exact hv_28)) (by have := hmono _ _ _ _ _ ht_; omega)
              · replace c_33 := b01_z c_33
                refine r_iload_n (pc := 36) 0 dX11_testOf_36 rfl rfl ?_
                refine r_if_eq (pc := 37) (tgt := 44) dX11_testOf_37 (by decide) (b01_r) (fun c_37 => ?_) (fun c_37 => ?_)
                · replace c_37 := b01_z c_37
                  refine r_iconst (pc := 44) dX11_testOf_44 ?_
                  refine r_eqI (y := b01 ((rv || rb_28) = true)) (by rw [Bool.eq_false_iff.mpr c_33]; rw [Bool.eq_false_iff.mpr c_37]; rfl) ?_
                  refine r_istore_n (pc := 45) (L2 := [(2, (.int (iI (b01 ((rv || rb_28) = true))))), (3, (.int (iI (b01 (rb_28 = true))))), (0, (.ref 164)), (1, (.int (iI (b01 (lb = true)))))]) dX11_testOf_45 rfl (by decide) rfl ?_
                  refine r_goto (pc := 46) (tgt := 6) dX11_testOf_46 (by decide) ?_
                  refine r_sub (L2 := [(2, (.int (iI (b01 ((rv || rb_28) = true))))), (0, (.ref 164)), (1, (.int (iI (b01 (lb = true)))))]) [0, 2, 3] rfl ?_
                  have hlv : false = (lb && !rv) := by rw [c_16, c_20]; rfl
                  exact ih (m - 1) (by omega) _ (.add acc t_) j_ l_ (rv || rb_28) hR_ (by rw [← mT_add (rv := rv) hv1, ← hlv]; exact hG_28) (mV_add hv1 (by rw [← hlv]; exact hv_28)) (by have := hmono _ _ _ _ _ ht_; omega)
                · replace c_37 := b01_nz c_37
                  refine r_iconst (pc := 40) dX11_testOf_40 ?_
                  refine r_goto (pc := 41) (tgt := 45) dX11_testOf_41 (by decide) ?_
                  refine r_eqI (y := b01 ((rv || rb_28) = true)) (by rw [Bool.eq_false_iff.mpr c_33]; rw [c_37]; rfl) ?_
                  refine r_istore_n (pc := 45) (L2 := [(2, (.int (iI (b01 ((rv || rb_28) = true))))), (3, (.int (iI (b01 (rb_28 = true))))), (0, (.ref 164)), (1, (.int (iI (b01 (lb = true)))))]) dX11_testOf_45 rfl (by decide) rfl ?_
                  refine r_goto (pc := 46) (tgt := 6) dX11_testOf_46 (by decide) ?_
                  refine r_sub (L2 := [(2, (.int (iI (b01 ((rv || rb_28) = true))))), (0, (.ref 164)), (1, (.int (iI (b01 (lb = true)))))]) [0, 2, 3] rfl ?_
                  have hlv : false = (lb && !rv) := by rw [c_16, c_20]; rfl
                  exact ih (m - 1) (by omega) _ (.add acc t_) j_ l_ (rv || rb_28) hR_ (by rw [← mT_add (rv := rv) hv1, ← hlv]; exact hG_28) (mV_add hv1 (by rw [← hlv]; exact hv_28)) (by have := hmono _ _ _ _ _ ht_; omega)
            · replace c_20 := b01_z c_20
              refine r_iconst (pc := 23) dX11_testOf_23 ?_
              refine r_goto (pc := 24) (tgt := 28) dX11_testOf_24 (by decide) ?_
              refine r_eqI (y := b01 (true = true)) (rfl) ?_
              refine r_callV (pc := 28) (As := [(.int (iI (b01 (true = true))))]) (S := []) dX11_testOf_28 cv_X11_259 hM.k rfl (Nat.le_of_ble_eq_true rfl) (hsub _ (by omega) _ _ _ _ true _ _ _ ht_ hG_8) (Nat.zero_le _) (Nat.zero_le _) (fun r_28 g_28 f_28 q_28 => ?_)
              obtain ⟨rb_28, rfl, rfl, hG_28, hv_28⟩ := q_28
              refine r_istore_n (pc := 31) (L2 := [(3, (.int (iI (b01 (rb_28 = true))))), (2, (.int (iI (b01 (rv = true))))), (0, (.ref 164)), (1, (.int (iI (b01 (lb = true)))))]) dX11_testOf_31 rfl (by decide) rfl ?_
              refine r_iload_n (pc := 32) 1 dX11_testOf_32 rfl rfl ?_
              refine r_if_ne (pc := 33) (tgt := 40) dX11_testOf_33 (by decide) (b01_r) (fun c_33 => ?_) (fun c_33 => ?_)
              · replace c_33 := b01_nz c_33
                refine r_iconst (pc := 40) dX11_testOf_40 ?_
                refine r_goto (pc := 41) (tgt := 45) dX11_testOf_41 (by decide) ?_
                refine r_eqI (y := b01 ((rv || rb_28) = true)) (by rw [c_33]; cases rb_28 <;> rfl) ?_
                refine r_istore_n (pc := 45) (L2 := [(2, (.int (iI (b01 ((rv || rb_28) = true))))), (3, (.int (iI (b01 (rb_28 = true))))), (0, (.ref 164)), (1, (.int (iI (b01 (lb = true)))))]) dX11_testOf_45 rfl (by decide) rfl ?_
                refine r_goto (pc := 46) (tgt := 6) dX11_testOf_46 (by decide) ?_
                refine r_sub (L2 := [(2, (.int (iI (b01 ((rv || rb_28) = true))))), (0, (.ref 164)), (1, (.int (iI (b01 (lb = true)))))]) [0, 2, 3] rfl ?_
                have hlv : true = (lb && !rv) := by rw [c_16, Bool.eq_false_iff.mpr c_20]; rfl
                exact ih (m - 1) (by omega) _ (.add acc t_) j_ l_ (rv || rb_28) hR_ (by rw [← mT_add (rv := rv) hv1, ← hlv]; exact hG_28) (mV_add hv1 (by rw [← hlv]; exact hv_28)) (by have := hmono _ _ _ _ _ ht_; omega)
              · replace c_33 := b01_z c_33
                refine r_iload_n (pc := 36) 0 dX11_testOf_36 rfl rfl ?_
                refine r_if_eq (pc := 37) (tgt := 44) dX11_testOf_37 (by decide) (b01_r) (fun c_37 => ?_) (fun c_37 => ?_)
                · replace c_37 := b01_z c_37
                  refine r_iconst (pc := 44) dX11_testOf_44 ?_
                  refine r_eqI (y := b01 ((rv || rb_28) = true)) (by rw [Bool.eq_false_iff.mpr c_33]; rw [Bool.eq_false_iff.mpr c_37]; rfl) ?_
                  refine r_istore_n (pc := 45) (L2 := [(2, (.int (iI (b01 ((rv || rb_28) = true))))), (3, (.int (iI (b01 (rb_28 = true))))), (0, (.ref 164)), (1, (.int (iI (b01 (lb = true)))))]) dX11_testOf_45 rfl (by decide) rfl ?_
                  refine r_goto (pc := 46) (tgt := 6) dX11_testOf_46 (by decide) ?_
                  refine r_sub (L2 := [(2, (.int (iI (b01 ((rv || rb_28) = true))))), (0, (.ref 164)), (1, (.int (iI (b01 (lb = true)))))]) [0, 2, 3] rfl ?_
                  have hlv : true = (lb && !rv) := by rw [c_16, Bool.eq_false_iff.mpr c_20]; rfl
                  exact ih (m - 1) (by omega) _ (.add acc t_) j_ l_ (rv || rb_28) hR_ (by rw [← mT_add (rv := rv) hv1, ← hlv]; exact hG_28) (mV_add hv1 (by rw [← hlv]; exact hv_28)) (by have := hmono _ _ _ _ _ ht_; omega)
                · replace c_37 := b01_nz c_37
                  refine r_iconst (pc := 40) dX11_testOf_40 ?_
                  refine r_goto (pc := 41) (tgt := 45) dX11_testOf_41 (by decide) ?_
                  refine r_eqI (y := b01 ((rv || rb_28) = true)) (by rw [Bool.eq_false_iff.mpr c_33]; rw [c_37]; rfl) ?_
                  refine r_istore_n (pc := 45) (L2 := [(2, (.int (iI (b01 ((rv || rb_28) = true))))), (3, (.int (iI (b01 (rb_28 = true))))), (0, (.ref 164)), (1, (.int (iI (b01 (lb = true)))))]) dX11_testOf_45 rfl (by decide) rfl ?_
                  refine r_goto (pc := 46) (tgt := 6) dX11_testOf_46 (by decide) ?_
                  refine r_sub (L2 := [(2, (.int (iI (b01 ((rv || rb_28) = true))))), (0, (.ref 164)), (1, (.int (iI (b01 (lb = true)))))]) [0, 2, 3] rfl ?_
                  have hlv : true = (lb && !rv) := by rw [c_16, Bool.eq_false_iff.mpr c_20]; rfl
                  exact ih (m - 1) (by omega) _ (.add acc t_) j_ l_ (rv || rb_28) hR_ (by rw [← mT_add (rv := rv) hv1, ← hlv]; exact hG_28) (mV_add hv1 (by rw [← hlv]; exact hv_28)) (by have := hmono _ _ _ _ _ ht_; omega)
      · refine r_if_eq (pc := 11) (tgt := 49) dX11_testOf_11 (by decide) (by omega) (fun c_11 => ?_) (fun c_11 => ?_)
        · refine r_iload_n (pc := 49) 0 dX11_testOf_49 rfl rfl ?_
          obtain ⟨q1, q3, q4, q5⟩ : ¬ c j2 = 4 ∧ tr = acc ∧ j1 = j2 ∧ l1 = l2 := by rcases hok with h | h; exact h; exact absurd h.1 hc_8
          subst q3; subst q4
          exact r_iret (pc := 50) dX11_testOf_50 rfl b01_nar ⟨rv, rfl, rfl, hG1, hv1⟩
        · exact absurd c_11 (by decide)
  refine r_aload_n (pc := 0) 0 dX11_testOf_0 rfl rfl ?_
  refine r_iload_n (pc := 1) 1 dX11_testOf_1 rfl rfl ?_
  refine r_callV (pc := 2) (As := [(.int (iI (b01 (lb = true))))]) (S := []) dX11_testOf_2 cv_X11_259 hM.k rfl (Nat.le_of_ble_eq_true rfl) (hsub _ (by omega) _ _ _ _ lb _ _ _ h0 hG) (Nat.zero_le _) (Nat.zero_le _) (fun r_2 g_2 f_2 q_2 => ?_)
  obtain ⟨rb_2, rfl, rfl, hG_2, hv_2⟩ := q_2
  refine r_istore_n (pc := 5) (L2 := [(2, (.int (iI (b01 (rb_2 = true))))), (0, (.ref 164)), (1, (.int (iI (b01 (lb = true)))))]) dX11_testOf_5 rfl (by decide) rfl ?_
  refine r_sub (L2 := [(2, (.int (iI (b01 (rb_2 = true))))), (0, (.ref 164)), (1, (.int (iI (b01 (lb = true)))))]) [0, 1, 2] rfl ?_
  exact loop 400 _ t0 j0 l0 rb_2 h0r hG_2 hv_2 (by have := hG_2.r; omega)

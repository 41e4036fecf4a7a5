def EvMS (l : Launch) (z : Zv) (g : Gm) (f0 : Fm) (e : Nat → Int) (base T : Nat) (k : PMd) (F : Nat → Nat → PR) (H : Nat) : Prop := ∀ D, H ≤ D → ∀ (f : Fm) (j lv : Nat) (bk lb : Bool) (tr : Term) (j1 l1 : Nat), F j lv = .ok (tr, j1, l1) → EG f0 f base T j bk → PM l z D k [.ref 164, .int (iI (b01 (lb = true)))] g f 0 0 (fun r g' f' => g = g' ∧ r = some (.long (lI (mS e lb bk tr).1)) ∧ EG f0 f' base T j1 (mS e lb bk tr).2 ∧ (-1000000000 ≤ (mS e lb bk tr).1 ∧ (mS e lb bk tr).1 ≤ 1000000000))
def EvMT (l : Launch) (z : Zv) (g : Gm) (f0 : Fm) (e : Nat → Int) (base T : Nat) (k : PMd) (F : Nat → Nat → PR) (H : Nat) : Prop := ∀ D, H ≤ D → ∀ (f : Fm) (j lv : Nat) (bk lb : Bool) (tr : Term) (j1 l1 : Nat), F j lv = .ok (tr, j1, l1) → EG f0 f base T j bk → PM l z D k [.ref 164, .int (iI (b01 (lb = true)))] g f 0 0 (fun r g' f' => ∃ rb : Bool, g = g' ∧ r = some (.int (iI (b01 (rb = true)))) ∧ EG f0 f' base T j1 (mT e lb bk tr) ∧ (lb = true → bk = false → ∀ w, evT e tr = some w → rb = w))
theorem bnd_ok {r : PR} {h : Term → Nat → Nat → PR} {q : Term × Nat × Nat} (hb : bndP r h = .ok q) : ∃ t j l, r = .ok (t, j, l) ∧ h t j l = .ok q := by
  match r, hb with
  | .ok (t, j, l), hb => exact ⟨t, j, l, rfl, hb⟩
theorem sPart_ok {c v : Nat → Int} {sum : Nat → Nat → PR} {e j lv j1 l1 : Nat} {tr : Term} (h : sPart c v sum e j lv = .ok (tr, j1, l1)) : (c j = 191 ∧ e ≠ 0 ∧ ∃ j0, sum (j + 1) lv = .ok (tr, j0, l1) ∧ c j0 = 193 ∧ j1 = j0 + 1) ∨ (¬ c j = 191 ∧ c j = 50 ∧ v j ≤ 1000 ∧ tr = .arg (v j).toNat ∧ j1 = j + 1) ∨ (¬ c j = 191 ∧ ¬ c j = 50 ∧ 7 ≤ c j ∧ c j ≤ 14 ∧ tr = .index (c j - 7).toNat ∧ j1 = j + 1) := by
  unfold sPart at h
  by_cases h1 : c j = 191
  · rw [if_pos h1] at h
    by_cases h2 : e = 0
    · rw [if_pos h2] at h; cases h
    · rw [if_neg h2] at h
      obtain ⟨t, j0, l0, h3, h4⟩ := bnd_ok h
      by_cases h5 : c j0 = 193
      · rw [if_pos h5] at h4; cases h4; exact Or.inl ⟨h1, h2, j0, h3, h5, rfl⟩
      · rw [if_neg h5] at h4; cases h4
  · rw [if_neg h1] at h
    by_cases h2 : c j = 50 ∧ v j ≤ 1000
    · rw [if_pos h2] at h
      split at h
      · cases h
      · cases h; exact Or.inr (Or.inl ⟨h1, h2.1, h2.2, rfl, rfl⟩)
    · rw [if_neg h2] at h
      split at h
      · rename_i h3
        split at h
        · cases h
        · cases h; exact Or.inr (Or.inr ⟨h1, by omega, h3.1, h3.2, rfl, rfl⟩)
      · cases h

theorem sTermR_ok {c : Nat → Int} {part : Nat → Nat → PR} {m : Nat} {acc tr : Term} {j lv j1 l1 : Nat} (h : sTermR c part m acc j lv = .ok (tr, j1, l1)) (hm : c j = 142 ∨ c j = 147 → 0 < m) : (¬ c j = 142 ∧ ¬ c j = 147 ∧ tr = acc ∧ j1 = j ∧ l1 = lv) ∨ (c j = 142 ∧ ∃ t j0 l0, part (j + 1) lv = .ok (t, j0, l0) ∧ sTermR c part (m - 1) (.mul acc t) j0 l0 = .ok (tr, j1, l1)) ∨ (¬ c j = 142 ∧ c j = 147 ∧ ∃ t j0 l0, part (j + 1) lv = .ok (t, j0, l0) ∧ sTermR c part (m - 1) (.div acc t) j0 l0 = .ok (tr, j1, l1)) := by
  cases m with
  | zero => cases h; exact Or.inl ⟨fun q => absurd (hm (Or.inl q)) (by omega), fun q => absurd (hm (Or.inr q)) (by omega), rfl, rfl, rfl⟩
  | succ m =>
    rw [sTermR] at h
    by_cases h1 : c j = 142
    · rw [if_pos h1] at h
      obtain ⟨t, j0, l0, h3, h4⟩ := bnd_ok h
      exact Or.inr (Or.inl ⟨h1, t, j0, l0, h3, h4⟩)
    · rw [if_neg h1] at h
      by_cases h2 : c j = 147
      · rw [if_pos h2] at h
        obtain ⟨t, j0, l0, h3, h4⟩ := bnd_ok h
        exact Or.inr (Or.inr ⟨h1, h2, t, j0, l0, h3, h4⟩)
      · rw [if_neg h2] at h; cases h; exact Or.inl ⟨h1, h2, rfl, rfl, rfl⟩

theorem sSumR_ok {c : Nat → Int} {part : Nat → Nat → PR} {m : Nat} {acc tr : Term} {j lv j1 l1 : Nat} (h : sSumR c part m acc j lv = .ok (tr, j1, l1)) (hm : c j = 143 ∨ c j = 145 → 0 < m) : (¬ c j = 143 ∧ ¬ c j = 145 ∧ tr = acc ∧ j1 = j ∧ l1 = lv) ∨ (c j = 143 ∧ ∃ t j0 l0, part (j + 1) lv = .ok (t, j0, l0) ∧ sSumR c part (m - 1) (.add acc t) j0 l0 = .ok (tr, j1, l1)) ∨ (¬ c j = 143 ∧ c j = 145 ∧ ∃ t j0 l0, part (j + 1) lv = .ok (t, j0, l0) ∧ sSumR c part (m - 1) (.sub acc t) j0 l0 = .ok (tr, j1, l1)) := by
  cases m with
  | zero => cases h; exact Or.inl ⟨fun q => absurd (hm (Or.inl q)) (by omega), fun q => absurd (hm (Or.inr q)) (by omega), rfl, rfl, rfl⟩
  | succ m =>
    rw [sSumR] at h
    by_cases h1 : c j = 143
    · rw [if_pos h1] at h
      obtain ⟨t, j0, l0, h3, h4⟩ := bnd_ok h
      exact Or.inr (Or.inl ⟨h1, t, j0, l0, h3, h4⟩)
    · rw [if_neg h1] at h
      by_cases h2 : c j = 145
      · rw [if_pos h2] at h
        obtain ⟨t, j0, l0, h3, h4⟩ := bnd_ok h
        exact Or.inr (Or.inr ⟨h1, h2, t, j0, l0, h3, h4⟩)
      · rw [if_neg h2] at h; cases h; exact Or.inl ⟨h1, h2, rfl, rfl, rfl⟩

theorem sBothR_ok {c : Nat → Int} {part : Nat → Nat → PR} {m : Nat} {acc tr : Term} {j lv j1 l1 : Nat} (h : sBothR c part m acc j lv = .ok (tr, j1, l1)) (hm : c j = 5 → 0 < m) : (¬ c j = 5 ∧ tr = acc ∧ j1 = j ∧ l1 = lv) ∨ (c j = 5 ∧ ∃ t j0 l0, part (j + 1) lv = .ok (t, j0, l0) ∧ sBothR c part (m - 1) (.mul acc t) j0 l0 = .ok (tr, j1, l1)) := by
  cases m with
  | zero => cases h; exact Or.inl ⟨fun q => absurd (hm q) (by omega), rfl, rfl, rfl⟩
  | succ m =>
    rw [sBothR] at h
    by_cases h1 : c j = 5
    · rw [if_pos h1] at h
      obtain ⟨t, j0, l0, h3, h4⟩ := bnd_ok h
      exact Or.inr ⟨h1, t, j0, l0, h3, h4⟩
    · rw [if_neg h1] at h; cases h; exact Or.inl ⟨h1, rfl, rfl, rfl⟩

theorem sTestR_ok {c : Nat → Int} {part : Nat → Nat → PR} {m : Nat} {acc tr : Term} {j lv j1 l1 : Nat} (h : sTestR c part m acc j lv = .ok (tr, j1, l1)) (hm : c j = 4 → 0 < m) : (¬ c j = 4 ∧ tr = acc ∧ j1 = j ∧ l1 = lv) ∨ (c j = 4 ∧ ∃ t j0 l0, part (j + 1) lv = .ok (t, j0, l0) ∧ sTestR c part (m - 1) (.add acc t) j0 l0 = .ok (tr, j1, l1)) := by
  cases m with
  | zero => cases h; exact Or.inl ⟨fun q => absurd (hm q) (by omega), rfl, rfl, rfl⟩
  | succ m =>
    rw [sTestR] at h
    by_cases h1 : c j = 4
    · rw [if_pos h1] at h
      obtain ⟨t, j0, l0, h3, h4⟩ := bnd_ok h
      exact Or.inr ⟨h1, t, j0, l0, h3, h4⟩
    · rw [if_neg h1] at h; cases h; exact Or.inl ⟨h1, rfl, rfl, rfl⟩

set_option maxRecDepth 100000 in
set_option maxHeartbeats 4000000 in
theorem m_partOf (l : Launch) (z : Zv) {g : Gm} {f0 : Fm} {c v e : Nat → Int} {base T : Nat} (hM : ML g) (hE : ET f0 c v e base T) {e0 H : Nat} {sum : Nat → Nat → PR} (hsub : e0 ≠ 0 → EvMS l z g f0 e base T mX11_sumOf sum H) : EvMS l z g f0 e base T mX11_partOf (sPart c v sum e0) (H + 4) := by
  have hr0 := hE.r
  intro D hD f j lv bk lb tr j1 l1 hF hG
  obtain ⟨d, rfl⟩ : ∃ d, D = d + 4 := ⟨D - 4, by omega⟩
  refine PM.of (by decide +kernel) (Nat.le_of_ble_eq_true rfl) ?_
  have hok := sPart_ok hF
  refine r_aload_n (pc := 0) 0 dX11_partOf_0 rfl rfl ?_
  refine r_bipush (pc := 1) dX11_partOf_1 (by decide) ?_
  refine r_callS (pc := 3) (As := [(.int (iI (91)))]) (S := [(.ref 164)]) dX11_partOf_3 cs_X11_203 rfl (Nat.le_of_ble_eq_true rfl) (m_sign l z _ (91)) (Nat.zero_le _) (Nat.zero_le _) (fun r_3 g_3 f_3 q_3 => ?_)
  obtain ⟨rfl, rfl, rfl⟩ := q_3
  refine r_eqI (y := 191) (by decide) ?_
  refine r_callV (pc := 6) (As := [(.int (iI (191)))]) (S := []) dX11_partOf_6 cv_X11_253 hM.k rfl (Nat.le_of_ble_eq_true rfl) (m_pass l z _ hM hE hG (by decide) (by decide)) (Nat.zero_le _) (Nat.zero_le _) (fun r_6 g_6 f_6 q_6 => ?_)
  obtain ⟨rfl, ⟨hc_6, rfl, hG_6⟩ | ⟨hc_6, rfl, rfl⟩⟩ := q_6
  · refine r_if_eq (pc := 9) (tgt := 30) dX11_partOf_9 (by decide) (by omega) (fun c_9 => ?_) (fun c_9 => ?_)
    · exact absurd c_9 (by decide)
    · obtain ⟨he0, j0, hs, h193, hj1⟩ : e0 ≠ 0 ∧ ∃ j0, sum (j + 1) lv = .ok (tr, j0, l1) ∧ c j0 = 193 ∧ j1 = j0 + 1 := by rcases hok with h | h | h; exact h.2; omega; omega
      refine r_aload_n (pc := 12) 0 dX11_partOf_12 rfl rfl ?_
      refine r_iload_n (pc := 13) 1 dX11_partOf_13 rfl rfl ?_
      refine r_callV (pc := 14) (As := [(.int (iI (b01 (lb = true))))]) (S := []) dX11_partOf_14 cv_X11_256 hM.k rfl (Nat.le_of_ble_eq_true rfl) ((hsub he0) _ (by omega) _ _ _ _ lb _ _ _ hs hG_6) (Nat.zero_le _) (Nat.zero_le _) (fun r_14 g_14 f_14 q_14 => ?_)
      obtain ⟨rfl, rfl, hG_14, hr_14⟩ := q_14
      refine r_lstore_n (pc := 17) (L2 := [(2, (.long (lI ((mS e lb bk tr).1)))), (0, (.ref 164)), (1, (.int (iI (b01 (lb = true)))))]) dX11_partOf_17 rfl (by decide) rfl ?_
      refine r_aload_n (pc := 18) 1 dX11_partOf_18 rfl rfl ?_
      refine r_dup (pc := 19) dX11_partOf_19 rfl ?_
      refine r_getIv (pc := 20) (x := ((base + j0 : Nat) : Int)) dX11_partOf_20 fl_X11_228 rfl hM.k (hG_14.xg) ?_
      refine r_iconst (pc := 23) dX11_partOf_23 ?_
      refine r_iadd (pc := 24) dX11_partOf_24 ?_
      refine r_eqI (y := ((base + j0 + 1 : Nat) : Int)) (Int.natCast_add _ _ |>.symm) ?_
      refine r_putI (pc := 25) dX11_partOf_25 fl_X11_228 rfl rfl hM.k ?_
      refine r_lload_n (pc := 28) 0 dX11_partOf_28 rfl rfl ?_
      exact r_lret (pc := 29) dX11_partOf_29 rfl ⟨rfl, rfl, by rw [hj1]; exact hG_14.next (by have := hE.lt (i := j0) (by omega); omega), hr_14⟩
  · refine r_if_eq (pc := 9) (tgt := 30) dX11_partOf_9 (by decide) (by omega) (fun c_9 => ?_) (fun c_9 => ?_)
    · have hok2 : (c j = 50 ∧ v j ≤ 1000 ∧ tr = .arg (v j).toNat ∧ j1 = j + 1) ∨ (¬ c j = 50 ∧ 7 ≤ c j ∧ c j ≤ 14 ∧ tr = .index (c j - 7).toNat ∧ j1 = j + 1) := by rcases hok with h | h | h; exact absurd h.1 hc_6; exact Or.inl h.2; exact Or.inr h.2
      have hjT : j + 1 ≤ T := hE.lt (by omega)
      have hj1 : j1 = j + 1 := by omega
      refine r_aload_n (pc := 30) 0 dX11_partOf_30 rfl rfl ?_
      refine r_aload_n (pc := 31) 0 dX11_partOf_31 rfl rfl ?_
      refine r_getIv (pc := 32) (x := ((base + j : Nat) : Int)) dX11_partOf_32 fl_X11_228 rfl hM.k (hG.xg) ?_
      refine r_callV (pc := 35) (As := [(.int (iI (((base + j : Nat) : Int))))]) (S := []) dX11_partOf_35 cv_X11_231 hM.k rfl (Nat.le_of_ble_eq_true rfl) (m_codeAt (j := j) l z _ hM hE hG) (Nat.zero_le _) (Nat.zero_le _) (fun r_35 g_35 f_35 q_35 => ?_)
      obtain ⟨rfl, rfl, rfl⟩ := q_35
      have hcr_35 := hE.cr j
      refine r_istore_n (pc := 38) (L2 := [(2, (.int (iI (c j)))), (0, (.ref 164)), (1, (.int (iI (b01 (lb = true)))))]) dX11_partOf_38 rfl (by decide) rfl ?_
      refine r_aload_n (pc := 39) 1 dX11_partOf_39 rfl rfl ?_
      refine r_dup (pc := 40) dX11_partOf_40 rfl ?_
      refine r_getIv (pc := 41) (x := ((base + j : Nat) : Int)) dX11_partOf_41 fl_X11_228 rfl hM.k (hG.xg) ?_
      refine r_iconst (pc := 44) dX11_partOf_44 ?_
      refine r_iadd (pc := 45) dX11_partOf_45 ?_
      refine r_eqI (y := ((base + j + 1 : Nat) : Int)) (Int.natCast_add _ _ |>.symm) ?_
      refine r_putI (pc := 46) dX11_partOf_46 fl_X11_228 rfl rfl hM.k ?_
      refine r_iload_n (pc := 49) 2 dX11_partOf_49 rfl rfl ?_
      refine r_if_eq (pc := 50) (tgt := 60) dX11_partOf_50 (by decide) (b01_r) (fun c_50 => ?_) (fun c_50 => ?_)
      · replace c_50 := b01_z c_50
        refine r_lconst (pc := 60) (x := 0) dX11_partOf_60 (by decide) ?_
        have hms : mS e lb bk tr = (0, bk) := by rw [Bool.eq_false_iff.mpr c_50]; rfl
        exact r_lret (pc := 61) dX11_partOf_61 rfl ⟨rfl, by rw [hms], by rw [hms]; rw [hj1]; exact hG.next (by omega), by rw [hms]; dsimp only; omega⟩
      · replace c_50 := b01_nz c_50
        refine r_aload_n (pc := 53) 1 dX11_partOf_53 rfl rfl ?_
        refine r_getIv (pc := 54) (x := b01 (bk = true)) dX11_partOf_54 fl_X11_238 rfl hM.k (rdi (by decide) (hG.xb)) ?_
        refine r_if_eq (pc := 57) (tgt := 62) dX11_partOf_57 (by decide) (b01_r) (fun c_57 => ?_) (fun c_57 => ?_)
        · replace c_57 := b01_z c_57
          refine r_iload_n (pc := 62) 0 dX11_partOf_62 rfl rfl ?_
          refine r_bipush (pc := 63) dX11_partOf_63 (by decide) ?_
          refine r_icmp_ne (pc := 65) (tgt := 87) dX11_partOf_65 (by decide) (by omega) (by omega) (fun c_65 => ?_) (fun c_65 => ?_)
          · have htr : tr = .index (c j - 7).toNat := by rcases hok2 with h | h; exact absurd h.1 c_65; exact h.2.2.2.1
            have hce := hE.er (c j - 7).toNat (by omega)
            refine r_aload_n (pc := 87) 1 dX11_partOf_87 rfl rfl ?_
            refine r_getR (pc := 88) (b := 175) dX11_partOf_88 fl_X11_49 rfl hM.k hM.r21 ?_
            refine r_iload_n (pc := 91) 0 dX11_partOf_91 rfl rfl ?_
            refine r_bipush (pc := 92) dX11_partOf_92 (by decide) ?_
            refine r_isub (pc := 94) dX11_partOf_94 ?_
            refine r_eqI (y := (((c j - 7).toNat : Nat) : Int)) (by omega) ?_
            refine r_ialdv (pc := 95) (w := e (c j - 7).toNat) dX11_partOf_95 hM.a21 (by omega) (by decide) (rdn (by decide) ((congrFun (hG.o (by decide)) _).trans (hE.w (by omega)))) ?_
            refine r_i2l (pc := 96) dX11_partOf_96 (iI_l (by omega)) ?_
            have hms : mS e lb bk tr = (e (c j - 7).toNat, bk) := by
              rw [c_50, Bool.eq_false_iff.mpr c_57, htr]
              exact mS_s rfl
            exact r_lret (pc := 97) dX11_partOf_97 rfl ⟨rfl, by rw [hms], by rw [hms]; rw [hj1]; exact hG.next (by omega), by rw [hms]; dsimp only; omega⟩
          · have hvv := hE.xv (i := j) (by omega)
            have htr : tr = .arg (v j).toNat := by rcases hok2 with h | h; exact h.2.2.1; exact absurd c_65 h.1
            refine r_aload_n (pc := 68) 1 dX11_partOf_68 rfl rfl ?_
            refine r_getR (pc := 69) (b := 166) dX11_partOf_69 fl_X11_17 rfl hM.k hM.r2 ?_
            refine r_sipush (pc := 72) dX11_partOf_72 (by decide) ?_
            refine r_aload_n (pc := 75) 1 dX11_partOf_75 rfl rfl ?_
            refine r_getIv (pc := 76) (x := ((base + j + 1 : Nat) : Int)) dX11_partOf_76 fl_X11_228 rfl hM.k (stF_s _ _ _ _) ?_
            refine r_iadd (pc := 79) dX11_partOf_79 ?_
            refine r_eqI (y := ((2488 + (base + j + 1) : Nat) : Int)) (Int.natCast_add _ _ |>.symm) ?_
            refine r_iconst (pc := 80) dX11_partOf_80 ?_
            refine r_isub (pc := 81) dX11_partOf_81 ?_
            refine r_eqI (y := ((2488 + (base + j) : Nat) : Int)) (by omega) ?_
            refine r_ialdv (pc := 82) (w := f0 166 (2488 + (base + j))) dX11_partOf_82 hM.a2 (by omega) (by decide) (rdn (by decide) (congrFun (hG.o (by decide)) _)) ?_
            refine r_i2l (pc := 83) dX11_partOf_83 (iI_l (by omega)) ?_
            refine r_goto (pc := 84) (tgt := 97) dX11_partOf_84 (by decide) ?_
            have hms : mS e lb bk tr = (f0 166 (2488 + (base + j)), bk) := by
              rw [c_50, Bool.eq_false_iff.mpr c_57, htr]
              rw [mS_s (x := f0 166 (2488 + (base + j))) (by simp only [evS]; congr 1; omega)]
            exact r_lret (pc := 97) dX11_partOf_97 rfl ⟨rfl, by rw [hms], by rw [hms]; rw [hj1]; exact hG.next (by omega), by rw [hms]; dsimp only; omega⟩
        · replace c_57 := b01_nz c_57
          refine r_lconst (pc := 60) (x := 0) dX11_partOf_60 (by decide) ?_
          have hms : mS e lb bk tr = (0, bk) := by rw [c_50, c_57]; rfl
          exact r_lret (pc := 61) dX11_partOf_61 rfl ⟨rfl, by rw [hms], by rw [hms]; rw [hj1]; exact hG.next (by omega), by rw [hms]; dsimp only; omega⟩
    · exact absurd c_9 (by decide)

theorem mS_rr {e : Nat → Int} {lb bk : Bool} {t : Term} (h : ∀ x, evS e t = some x → -1000000000 ≤ x ∧ x ≤ 1000000000) : -1000000000 ≤ (mS e lb bk t).1 ∧ (mS e lb bk t).1 ≤ 1000000000 := by
  cases lb with
  | false => rw [mS_f]; dsimp only; omega
  | true =>
    cases bk with
    | true => rw [mS_b]; decide
    | false =>
      rcases ht : evS e t with _ | x
      · rw [mS_n ht]; decide
      · rw [mS_s ht]; exact h x ht
theorem evS_addr {e : Nat → Int} {a b : Term} {x : Int} (h : evS e (.add a b) = some x) : -1000000000 ≤ x ∧ x ≤ 1000000000 := by
  simp only [evS] at h
  split at h
  · obtain ⟨rfl, r⟩ := bnd_in h; exact r
  · cases h
theorem evS_subr {e : Nat → Int} {a b : Term} {x : Int} (h : evS e (.sub a b) = some x) : -1000000000 ≤ x ∧ x ≤ 1000000000 := by
  simp only [evS] at h
  split at h
  · obtain ⟨rfl, r⟩ := bnd_in h; exact r
  · cases h
theorem evS_mulr {e : Nat → Int} {a b : Term} {x : Int} (h : evS e (.mul a b) = some x) : -1000000000 ≤ x ∧ x ≤ 1000000000 := by
  simp only [evS] at h
  split at h
  · obtain ⟨rfl, r⟩ := bnd_in h; exact r
  · cases h
theorem evS_divr {e : Nat → Int} {a b : Term} {x : Int} (h : evS e (.div a b) = some x) : -1000000000 ≤ x ∧ x ≤ 1000000000 := by
  simp only [evS] at h
  split at h
  · split at h
    · cases h
    · obtain ⟨rfl, r⟩ := bnd_in h; exact r
  · cases h
theorem mS_div1 {e : Nat → Int} {lb bk : Bool} {a b : Term} (hw : ¬ (mS e lb (mS e lb bk a).2 b).1 = 0) : bdV lb (mS e lb (mS e lb bk a).2 b).2 ((mS e lb bk a).1.tdiv (mS e lb (mS e lb bk a).2 b).1) = mS e lb bk (.div a b) := by
  cases lb with
  | false => exact absurd rfl hw
  | true =>
    cases bk with
    | true => exact absurd rfl hw
    | false =>
      rcases ha : evS e a with _ | x
      · rw [mS_n ha] at hw; exact absurd rfl hw
      · rw [mS_s ha] at hw ⊢
        dsimp only at hw ⊢
        rcases hb : evS e b with _ | y
        · rw [mS_n hb] at hw; exact absurd rfl hw
        · rw [mS_s hb] at hw ⊢
          dsimp only at hw ⊢
          have ht : evS e (.div a b) = bnd (x.tdiv y) := by simp only [evS, ha, hb]; rw [if_neg hw]
          by_cases hr : x.tdiv y < -1000000000 ∨ 1000000000 < x.tdiv y
          · rw [mS_n (by rw [ht]; exact bnd_n hr)]; unfold bdV bdB; simp [hr]
          · rw [mS_s (by rw [ht]; exact bnd_o2 hr)]; unfold bdV bdB; simp [hr]
theorem mS_div0 {e : Nat → Int} {lb bk fl : Bool} {a b : Term} (hw : (mS e lb (mS e lb bk a).2 b).1 = 0) (hfl : fl = ((mS e lb (mS e lb bk a).2 b).2 || lb)) : bdV lb fl ((mS e lb bk a).1.tdiv 1) = mS e lb bk (.div a b) := by
  subst hfl
  cases lb with
  | false => simp only [mS_f]; unfold bdV bdB; cases bk <;> simp
  | true =>
    have e1 : ∀ x : Int, bdV true ((mS e true (mS e true bk a).2 b).2 || true) x = (0, true) := fun x => by unfold bdV bdB; simp
    rw [e1]
    cases bk with
    | true => rfl
    | false =>
      rcases ha : evS e a with _ | x
      · rw [mS_n (by simp only [evS, ha])]
      · rw [mS_s ha] at hw
        dsimp only at hw
        rcases hb : evS e b with _ | y
        · rw [mS_n (by simp only [evS, ha, hb])]
        · rw [mS_s hb] at hw
          dsimp only at hw
          rw [mS_n (by simp only [evS, ha, hb]; rw [if_pos hw])]

set_option maxRecDepth 100000 in
set_option maxHeartbeats 4000000 in
theorem m_termOf (l : Launch) (z : Zv) {g : Gm} {f0 : Fm} {c v e : Nat → Int} {base T : Nat} (hM : ML g) (hE : ET f0 c v e base T) {H : Nat} {part : Nat → Nat → PR} (hmono : ∀ j lv tr j1 l1, part j lv = .ok (tr, j1, l1) → j < j1) (hsub : EvMS l z g f0 e base T mX11_partOf part H) : EvMS l z g f0 e base T mX11_termOf (sTerm c part) (H + 4) := by
  have hr0 := hE.r
  intro D hD f j lv bk lb tr j1 l1 hF hG
  obtain ⟨d, rfl⟩ : ∃ d, D = d + 4 := ⟨D - 4, by omega⟩
  refine PM.of (by decide +kernel) (Nat.le_of_ble_eq_true rfl) ?_
  obtain ⟨t0, j0, l0, h0, h0r⟩ := bnd_ok hF
  have loop : ∀ (m : Nat) (f1 : Fm) (acc : Term) (j2 l2 : Nat), sTermR c part m acc j2 l2 = .ok (tr, j1, l1) → EG f0 f1 base T j2 (mS e lb bk acc).2 → (-1000000000 ≤ (mS e lb bk acc).1 ∧ (mS e lb bk acc).1 ≤ 1000000000) → T ≤ j2 + m → PW l z (d + 4) mX11_termOf 0 0 (fun r g' f' => g = g' ∧ r = some (.long (lI (mS e lb bk tr).1)) ∧ EG f0 f' base T j1 (mS e lb bk tr).2 ∧ (-1000000000 ≤ (mS e lb bk tr).1 ∧ (mS e lb bk tr).1 ≤ 1000000000)) 6 [(2, (.long (lI ((mS e lb bk acc).1)))), (0, (.ref 164)), (1, (.int (iI (b01 (lb = true)))))] [] g f1 0 0 := by
    intro m
    induction m using Nat.strongRecOn with
    | _ m ih =>
      intro f1 acc j2 l2 hR hG1 hv1 hfu
      have hj2 := hG1.r
      have hok := sTermR_ok hR (fun q => by have := hE.lt (i := j2) (by omega); omega)
      refine r_aload_n (pc := 6) 1 dX11_termOf_6 rfl rfl ?_
      refine r_aload_n (pc := 7) 1 dX11_termOf_7 rfl rfl ?_
      refine r_getIv (pc := 8) (x := ((base + j2 : Nat) : Int)) dX11_termOf_8 fl_X11_228 rfl hM.k (hG1.xg) ?_
      refine r_callV (pc := 11) (As := [(.int (iI (((base + j2 : Nat) : Int))))]) (S := []) dX11_termOf_11 cv_X11_231 hM.k rfl (Nat.le_of_ble_eq_true rfl) (m_codeAt (j := j2) l z _ hM hE hG1) (Nat.zero_le _) (Nat.zero_le _) (fun r_11 g_11 f_11 q_11 => ?_)
      obtain ⟨rfl, rfl, rfl⟩ := q_11
      have hcr_11 := hE.cr j2
      refine r_bipush (pc := 14) dX11_termOf_14 (by decide) ?_
      refine r_callS (pc := 16) (As := [(.int (iI (42)))]) (S := [(.int (iI (c j2)))]) dX11_termOf_16 cs_X11_203 rfl (Nat.le_of_ble_eq_true rfl) (m_sign l z _ (42)) (Nat.zero_le _) (Nat.zero_le _) (fun r_16 g_16 f_16 q_16 => ?_)
      obtain ⟨rfl, rfl, rfl⟩ := q_16
      refine r_eqI (y := 142) (by decide) ?_
      refine r_icmp_eq (pc := 19) (tgt := 38) dX11_termOf_19 (by decide) (by omega) (by omega) (fun c_19 => ?_) (fun c_19 => ?_)
      · refine r_aload_n (pc := 38) 1 dX11_termOf_38 rfl rfl ?_
        refine r_aload_n (pc := 39) 1 dX11_termOf_39 rfl rfl ?_
        refine r_getIv (pc := 40) (x := ((base + j2 : Nat) : Int)) dX11_termOf_40 fl_X11_228 rfl hM.k (hG1.xg) ?_
        refine r_callV (pc := 43) (As := [(.int (iI (((base + j2 : Nat) : Int))))]) (S := []) dX11_termOf_43 cv_X11_231 hM.k rfl (Nat.le_of_ble_eq_true rfl) (m_codeAt (j := j2) l z _ hM hE hG1) (Nat.zero_le _) (Nat.zero_le _) (fun r_43 g_43 f_43 q_43 => ?_)
        obtain ⟨rfl, rfl, rfl⟩ := q_43
        have hcr_43 := hE.cr j2
        refine r_bipush (pc := 46) dX11_termOf_46 (by decide) ?_
        refine r_callS (pc := 48) (As := [(.int (iI (42)))]) (S := [(.int (iI (c j2)))]) dX11_termOf_48 cs_X11_203 rfl (Nat.le_of_ble_eq_true rfl) (m_sign l z _ (42)) (Nat.zero_le _) (Nat.zero_le _) (fun r_48 g_48 f_48 q_48 => ?_)
        obtain ⟨rfl, rfl, rfl⟩ := q_48
        refine r_eqI (y := 142) (by decide) ?_
        refine r_icmp_ne (pc := 51) (tgt := 58) dX11_termOf_51 (by decide) (by omega) (by omega) (fun c_51 => ?_) (fun c_51 => ?_)
        · exfalso; omega
        · refine r_iconst (pc := 54) dX11_termOf_54 ?_
          refine r_goto (pc := 55) (tgt := 59) dX11_termOf_55 (by decide) ?_
          refine r_istore (pc := 59) (L2 := [(4, (.int (iI (1)))), (2, (.long (lI ((mS e lb bk acc).1)))), (0, (.ref 164)), (1, (.int (iI (b01 (lb = true)))))]) dX11_termOf_59 (by decide) rfl ?_
          obtain ⟨t_, j_, l_, ht_, hR_⟩ : ∃ t j0 l0, part (j2 + 1) l2 = .ok (t, j0, l0) ∧ sTermR c part (m - 1) (.mul acc t) j0 l0 = .ok (tr, j1, l1) := by rcases hok with h | h | h; exact absurd h.1 (by omega); exact h.2; exact absurd h.2.1 (by omega)
          have hjT : j2 + 1 ≤ T := hE.lt (by omega)
          refine r_aload_n (pc := 61) 2 dX11_termOf_61 rfl rfl ?_
          refine r_dup (pc := 62) dX11_termOf_62 rfl ?_
          refine r_getIv (pc := 63) (x := ((base + j2 : Nat) : Int)) dX11_termOf_63 fl_X11_228 rfl hM.k (hG1.xg) ?_
          refine r_iconst (pc := 66) dX11_termOf_66 ?_
          refine r_iadd (pc := 67) dX11_termOf_67 ?_
          refine r_eqI (y := ((base + j2 + 1 : Nat) : Int)) (Int.natCast_add _ _ |>.symm) ?_
          refine r_putI (pc := 68) dX11_termOf_68 fl_X11_228 rfl rfl hM.k ?_
          refine r_aload_n (pc := 71) 2 dX11_termOf_71 rfl rfl ?_
          refine r_iload_n (pc := 72) 3 dX11_termOf_72 rfl rfl ?_
          refine r_callV (pc := 73) (As := [(.int (iI (b01 (lb = true))))]) (S := []) dX11_termOf_73 cv_X11_250 hM.k rfl (Nat.le_of_ble_eq_true rfl) (hsub _ (by omega) _ _ _ _ lb _ _ _ ht_ (hG1.next (by have := hE.lt (i := j2) (by omega); omega))) (Nat.zero_le _) (Nat.zero_le _) (fun r_73 g_73 f_73 q_73 => ?_)
          obtain ⟨rfl, rfl, hG_73, hr_73⟩ := q_73
          refine r_lstore (pc := 76) (L2 := [(5, (.long (lI ((mS e lb ((mS e lb bk acc).2) t_).1)))), (4, (.int (iI (1)))), (2, (.long (lI ((mS e lb bk acc).1)))), (0, (.ref 164)), (1, (.int (iI (b01 (lb = true)))))]) dX11_termOf_76 (by decide) rfl ?_
          refine r_iload (pc := 78) 1 dX11_termOf_78 rfl ?_
          refine r_if_ne (pc := 80) (tgt := 113) dX11_termOf_80 (by decide) (by omega) (fun c_80 => ?_) (fun c_80 => ?_)
          · refine r_aload_n (pc := 113) 3 dX11_termOf_113 rfl rfl ?_
            refine r_iload (pc := 114) 1 dX11_termOf_114 rfl ?_
            refine r_if_eq (pc := 116) (tgt := 126) dX11_termOf_116 (by decide) (by omega) (fun c_116 => ?_) (fun c_116 => ?_)
            · exact absurd c_116 (by decide)
            · refine r_lload_n (pc := 119) 2 dX11_termOf_119 rfl rfl ?_
              refine r_lload (pc := 120) 0 dX11_termOf_120 rfl ?_
              refine r_lmul (pc := 122) dX11_termOf_122 ?_
              refine r_goto (pc := 123) (tgt := 130) dX11_termOf_123 (by decide) ?_
              refine r_iload_n (pc := 130) 4 dX11_termOf_130 rfl rfl ?_
              refine r_callV (pc := 131) (As := [(.long (lI (((mS e lb bk acc).1) * ((mS e lb ((mS e lb bk acc).2) t_).1)))), (.int (iI (b01 (lb = true))))]) (S := []) dX11_termOf_131 cv_X11_246 hM.k rfl (Nat.le_of_ble_eq_true rfl) (m_bounded (x := ((mS e lb bk acc).1) * ((mS e lb ((mS e lb bk acc).2) t_).1)) (lb := lb) l z _ hM hE hG_73 (by have := mul_r hv1 hr_73; omega)) (Nat.zero_le _) (Nat.zero_le _) (fun r_131 g_131 f_131 q_131 => ?_)
              obtain ⟨rfl, rfl, hG_131⟩ := q_131
              have hop : bdV lb ((mS e lb ((mS e lb bk acc).2) t_).2) (((mS e lb bk acc).1) * ((mS e lb ((mS e lb bk acc).2) t_).1)) = mS e lb bk (.mul acc t_) := mS_op (op := fun x y => x * y) (fun x y ha hb => by simp only [evS, ha, hb]) (fun h => by simp only [evS, h]) (fun h => by simp only [evS, h]; split <;> simp_all) (by decide)
              rw [hop] at hG_131 ⊢
              refine r_lstore_n (pc := 134) (L2 := [(2, (.long (lI ((mS e lb bk (.mul acc t_)).1)))), (5, (.long (lI ((mS e lb ((mS e lb bk acc).2) t_).1)))), (4, (.int (iI (1)))), (0, (.ref 164)), (1, (.int (iI (b01 (lb = true)))))]) dX11_termOf_134 rfl (by decide) rfl ?_
              refine r_goto (pc := 135) (tgt := 6) dX11_termOf_135 (by decide) ?_
              refine r_sub (L2 := [(2, (.long (lI ((mS e lb bk (.mul acc t_)).1)))), (0, (.ref 164)), (1, (.int (iI (b01 (lb = true)))))]) [0, 3, 4] rfl ?_
              exact ih (m - 1) (by omega) _ (.mul acc t_) j_ l_ hR_ hG_131 (mS_rr (fun x hx => evS_mulr hx)) (by have := hmono _ _ _ _ _ ht_; omega)
          · exact absurd c_80 (by decide)
      · refine r_aload_n (pc := 22) 1 dX11_termOf_22 rfl rfl ?_
        refine r_aload_n (pc := 23) 1 dX11_termOf_23 rfl rfl ?_
        refine r_getIv (pc := 24) (x := ((base + j2 : Nat) : Int)) dX11_termOf_24 fl_X11_228 rfl hM.k (hG1.xg) ?_
        refine r_callV (pc := 27) (As := [(.int (iI (((base + j2 : Nat) : Int))))]) (S := []) dX11_termOf_27 cv_X11_231 hM.k rfl (Nat.le_of_ble_eq_true rfl) (m_codeAt (j := j2) l z _ hM hE hG1) (Nat.zero_le _) (Nat.zero_le _) (fun r_27 g_27 f_27 q_27 => ?_)
        obtain ⟨rfl, rfl, rfl⟩ := q_27
        have hcr_27 := hE.cr j2
        refine r_bipush (pc := 30) dX11_termOf_30 (by decide) ?_
        refine r_callS (pc := 32) (As := [(.int (iI (47)))]) (S := [(.int (iI (c j2)))]) dX11_termOf_32 cs_X11_203 rfl (Nat.le_of_ble_eq_true rfl) (m_sign l z _ (47)) (Nat.zero_le _) (Nat.zero_le _) (fun r_32 g_32 f_32 q_32 => ?_)
        obtain ⟨rfl, rfl, rfl⟩ := q_32
        refine r_eqI (y := 147) (by decide) ?_
        refine r_icmp_ne (pc := 35) (tgt := 138) dX11_termOf_35 (by decide) (by omega) (by omega) (fun c_35 => ?_) (fun c_35 => ?_)
        · refine r_lload_n (pc := 138) 0 dX11_termOf_138 rfl rfl ?_
          obtain ⟨q1, q2, q3, q4, q5⟩ : ¬ c j2 = 142 ∧ ¬ c j2 = 147 ∧ tr = acc ∧ j1 = j2 ∧ l1 = l2 := by rcases hok with h | h | h; exact h; exact absurd h.1 (by omega); exact absurd h.2.1 (by omega)
          subst q3; subst q4
          exact r_lret (pc := 139) dX11_termOf_139 rfl ⟨rfl, rfl, hG1, hv1⟩
        · refine r_aload_n (pc := 38) 1 dX11_termOf_38 rfl rfl ?_
          refine r_aload_n (pc := 39) 1 dX11_termOf_39 rfl rfl ?_
          refine r_getIv (pc := 40) (x := ((base + j2 : Nat) : Int)) dX11_termOf_40 fl_X11_228 rfl hM.k (hG1.xg) ?_
          refine r_callV (pc := 43) (As := [(.int (iI (((base + j2 : Nat) : Int))))]) (S := []) dX11_termOf_43 cv_X11_231 hM.k rfl (Nat.le_of_ble_eq_true rfl) (m_codeAt (j := j2) l z _ hM hE hG1) (Nat.zero_le _) (Nat.zero_le _) (fun r_43 g_43 f_43 q_43 => ?_)
          obtain ⟨rfl, rfl, rfl⟩ := q_43
          have hcr_43 := hE.cr j2
          refine r_bipush (pc := 46) dX11_termOf_46 (by decide) ?_
          refine r_callS (pc := 48) (As := [(.int (iI (42)))]) (S := [(.int (iI (c j2)))]) dX11_termOf_48 cs_X11_203 rfl (Nat.le_of_ble_eq_true rfl) (m_sign l z _ (42)) (Nat.zero_le _) (Nat.zero_le _) (fun r_48 g_48 f_48 q_48 => ?_)
          obtain ⟨rfl, rfl, rfl⟩ := q_48
          refine r_eqI (y := 142) (by decide) ?_
          refine r_icmp_ne (pc := 51) (tgt := 58) dX11_termOf_51 (by decide) (by omega) (by omega) (fun c_51 => ?_) (fun c_51 => ?_)
          · refine r_iconst (pc := 58) dX11_termOf_58 ?_
            refine r_istore (pc := 59) (L2 := [(4, (.int (iI (0)))), (2, (.long (lI ((mS e lb bk acc).1)))), (0, (.ref 164)), (1, (.int (iI (b01 (lb = true)))))]) dX11_termOf_59 (by decide) rfl ?_
            obtain ⟨t_, j_, l_, ht_, hR_⟩ : ∃ t j0 l0, part (j2 + 1) l2 = .ok (t, j0, l0) ∧ sTermR c part (m - 1) (.div acc t) j0 l0 = .ok (tr, j1, l1) := by rcases hok with h | h | h; exact absurd h.1 (by omega); exact absurd h.1 (by omega); exact h.2.2
            have hjT : j2 + 1 ≤ T := hE.lt (by omega)
            refine r_aload_n (pc := 61) 2 dX11_termOf_61 rfl rfl ?_
            refine r_dup (pc := 62) dX11_termOf_62 rfl ?_
            refine r_getIv (pc := 63) (x := ((base + j2 : Nat) : Int)) dX11_termOf_63 fl_X11_228 rfl hM.k (hG1.xg) ?_
            refine r_iconst (pc := 66) dX11_termOf_66 ?_
            refine r_iadd (pc := 67) dX11_termOf_67 ?_
            refine r_eqI (y := ((base + j2 + 1 : Nat) : Int)) (Int.natCast_add _ _ |>.symm) ?_
            refine r_putI (pc := 68) dX11_termOf_68 fl_X11_228 rfl rfl hM.k ?_
            refine r_aload_n (pc := 71) 2 dX11_termOf_71 rfl rfl ?_
            refine r_iload_n (pc := 72) 3 dX11_termOf_72 rfl rfl ?_
            refine r_callV (pc := 73) (As := [(.int (iI (b01 (lb = true))))]) (S := []) dX11_termOf_73 cv_X11_250 hM.k rfl (Nat.le_of_ble_eq_true rfl) (hsub _ (by omega) _ _ _ _ lb _ _ _ ht_ (hG1.next (by have := hE.lt (i := j2) (by omega); omega))) (Nat.zero_le _) (Nat.zero_le _) (fun r_73 g_73 f_73 q_73 => ?_)
            obtain ⟨rfl, rfl, hG_73, hr_73⟩ := q_73
            refine r_lstore (pc := 76) (L2 := [(5, (.long (lI ((mS e lb ((mS e lb bk acc).2) t_).1)))), (4, (.int (iI (0)))), (2, (.long (lI ((mS e lb bk acc).1)))), (0, (.ref 164)), (1, (.int (iI (b01 (lb = true)))))]) dX11_termOf_76 (by decide) rfl ?_
            refine r_iload (pc := 78) 1 dX11_termOf_78 rfl ?_
            refine r_if_ne (pc := 80) (tgt := 113) dX11_termOf_80 (by decide) (by omega) (fun c_80 => ?_) (fun c_80 => ?_)
            · exact absurd c_80 (by decide)
            · refine r_lload (pc := 83) 0 dX11_termOf_83 rfl ?_
              refine r_lconst (pc := 85) (x := 0) dX11_termOf_85 (by decide) ?_
              refine r_lcmp (pc := 86) (w := cmpZ ((mS e lb ((mS e lb bk acc).2) t_).1) (0)) dX11_termOf_86  (cmp_z (by omega) (by omega)) ?_
              refine r_if_ne (pc := 87) (tgt := 113) dX11_termOf_87 (by decide) (cmpZ_r) (fun c_87 => ?_) (fun c_87 => ?_)
              · replace c_87 := (not_congr cmpZ_eq).mp c_87
                refine r_aload_n (pc := 113) 3 dX11_termOf_113 rfl rfl ?_
                refine r_iload (pc := 114) 1 dX11_termOf_114 rfl ?_
                refine r_if_eq (pc := 116) (tgt := 126) dX11_termOf_116 (by decide) (by omega) (fun c_116 => ?_) (fun c_116 => ?_)
                · refine r_lload_n (pc := 126) 2 dX11_termOf_126 rfl rfl ?_
                  refine r_lload (pc := 127) 0 dX11_termOf_127 rfl ?_
                  refine r_ldiv (pc := 129) (w := ((mS e lb bk acc).1).tdiv ((mS e lb ((mS e lb bk acc).2) t_).1)) dX11_termOf_129 (by first | decide | exact fun h => c_87 ((lI_eq (by omega) (by omega)).mp h)) (lI_div hv1 hr_73) ?_
                  refine r_iload_n (pc := 130) 4 dX11_termOf_130 rfl rfl ?_
                  refine r_callV (pc := 131) (As := [(.long (lI (((mS e lb bk acc).1).tdiv ((mS e lb ((mS e lb bk acc).2) t_).1)))), (.int (iI (b01 (lb = true))))]) (S := []) dX11_termOf_131 cv_X11_246 hM.k rfl (Nat.le_of_ble_eq_true rfl) (m_bounded (x := ((mS e lb bk acc).1).tdiv ((mS e lb ((mS e lb bk acc).2) t_).1)) (lb := lb) l z _ hM hE hG_73 (by have := tdiv_r (b := (mS e lb (mS e lb bk acc).2 t_).1) hv1; omega)) (Nat.zero_le _) (Nat.zero_le _) (fun r_131 g_131 f_131 q_131 => ?_)
                  obtain ⟨rfl, rfl, hG_131⟩ := q_131
                  have hop : bdV lb ((mS e lb ((mS e lb bk acc).2) t_).2) (((mS e lb bk acc).1).tdiv ((mS e lb ((mS e lb bk acc).2) t_).1)) = mS e lb bk (.div acc t_) := mS_div1 c_87
                  rw [hop] at hG_131 ⊢
                  refine r_lstore_n (pc := 134) (L2 := [(2, (.long (lI ((mS e lb bk (.div acc t_)).1)))), (5, (.long (lI ((mS e lb ((mS e lb bk acc).2) t_).1)))), (4, (.int (iI (0)))), (0, (.ref 164)), (1, (.int (iI (b01 (lb = true)))))]) dX11_termOf_134 rfl (by decide) rfl ?_
                  refine r_goto (pc := 135) (tgt := 6) dX11_termOf_135 (by decide) ?_
                  refine r_sub (L2 := [(2, (.long (lI ((mS e lb bk (.div acc t_)).1)))), (0, (.ref 164)), (1, (.int (iI (b01 (lb = true)))))]) [0, 3, 4] rfl ?_
                  exact ih (m - 1) (by omega) _ (.div acc t_) j_ l_ hR_ hG_131 (mS_rr (fun x hx => evS_divr hx)) (by have := hmono _ _ _ _ _ ht_; omega)
                · exact absurd c_116 (by decide)
              · replace c_87 := cmpZ_eq.mp c_87
                refine r_aload_n (pc := 90) 3 dX11_termOf_90 rfl rfl ?_
                refine r_aload_n (pc := 91) 3 dX11_termOf_91 rfl rfl ?_
                refine r_getIv (pc := 92) (x := b01 ((mS e lb ((mS e lb bk acc).2) t_).2 = true)) dX11_termOf_92 fl_X11_238 rfl hM.k (hG_73.xb) ?_
                refine r_if_ne (pc := 95) (tgt := 102) dX11_termOf_95 (by decide) (b01_r) (fun c_95 => ?_) (fun c_95 => ?_)
                · replace c_95 := b01_nz c_95
                  refine r_iconst (pc := 102) dX11_termOf_102 ?_
                  refine r_goto (pc := 103) (tgt := 107) dX11_termOf_103 (by decide) ?_
                  refine r_putB (pc := 107) dX11_termOf_107 fl_X11_238 rfl rfl (by omega) hM.k ?_
                  refine r_lconst (pc := 110) (x := 1) dX11_termOf_110 (by decide) ?_
                  refine r_lstore (pc := 111) (L2 := [(5, (.long (lI (1)))), (4, (.int (iI (0)))), (2, (.long (lI ((mS e lb bk acc).1)))), (0, (.ref 164)), (1, (.int (iI (b01 (lb = true)))))]) dX11_termOf_111 (by decide) rfl ?_
                  refine r_aload_n (pc := 113) 3 dX11_termOf_113 rfl rfl ?_
                  refine r_iload (pc := 114) 1 dX11_termOf_114 rfl ?_
                  refine r_if_eq (pc := 116) (tgt := 126) dX11_termOf_116 (by decide) (by omega) (fun c_116 => ?_) (fun c_116 => ?_)
                  · refine r_lload_n (pc := 126) 2 dX11_termOf_126 rfl rfl ?_
                    refine r_lload (pc := 127) 0 dX11_termOf_127 rfl ?_
                    refine r_ldiv (pc := 129) (w := ((mS e lb bk acc).1).tdiv (1)) dX11_termOf_129 (by first | decide | exact fun h => c_87 ((lI_eq (by omega) (by omega)).mp h)) (lI_div hv1 (by decide)) ?_
                    refine r_iload_n (pc := 130) 4 dX11_termOf_130 rfl rfl ?_
                    refine r_callV (pc := 131) (As := [(.long (lI (((mS e lb bk acc).1).tdiv (1)))), (.int (iI (b01 (lb = true))))]) (S := []) dX11_termOf_131 cv_X11_246 hM.k rfl (Nat.le_of_ble_eq_true rfl) (m_bounded (x := ((mS e lb bk acc).1).tdiv (1)) (lb := lb) l z _ hM hE (hG_73.br (b := true) rfl) (by have := tdiv_r (b := 1) hv1; omega)) (Nat.zero_le _) (Nat.zero_le _) (fun r_131 g_131 f_131 q_131 => ?_)
                    obtain ⟨rfl, rfl, hG_131⟩ := q_131
                    have hop : bdV lb true (((mS e lb bk acc).1).tdiv (1)) = mS e lb bk (.div acc t_) := mS_div0 c_87 (by rw [c_95]; rfl)
                    rw [hop] at hG_131 ⊢
                    refine r_lstore_n (pc := 134) (L2 := [(2, (.long (lI ((mS e lb bk (.div acc t_)).1)))), (5, (.long (lI (1)))), (4, (.int (iI (0)))), (0, (.ref 164)), (1, (.int (iI (b01 (lb = true)))))]) dX11_termOf_134 rfl (by decide) rfl ?_
                    refine r_goto (pc := 135) (tgt := 6) dX11_termOf_135 (by decide) ?_
                    refine r_sub (L2 := [(2, (.long (lI ((mS e lb bk (.div acc t_)).1)))), (0, (.ref 164)), (1, (.int (iI (b01 (lb = true)))))]) [0, 3, 4] rfl ?_
                    exact ih (m - 1) (by omega) _ (.div acc t_) j_ l_ hR_ hG_131 (mS_rr (fun x hx => evS_divr hx)) (by have := hmono _ _ _ _ _ ht_; omega)
                  · exact absurd c_116 (by decide)
                · replace c_95 := b01_z c_95
                  refine r_iload_n (pc := 98) 4 dX11_termOf_98 rfl rfl ?_
                  refine r_if_eq (pc := 99) (tgt := 106) dX11_termOf_99 (by decide) (b01_r) (fun c_99 => ?_) (fun c_99 => ?_)
                  · replace c_99 := b01_z c_99
                    refine r_iconst (pc := 106) dX11_termOf_106 ?_
                    refine r_putB (pc := 107) dX11_termOf_107 fl_X11_238 rfl rfl (by omega) hM.k ?_
                    refine r_lconst (pc := 110) (x := 1) dX11_termOf_110 (by decide) ?_
                    refine r_lstore (pc := 111) (L2 := [(5, (.long (lI (1)))), (4, (.int (iI (0)))), (2, (.long (lI ((mS e lb bk acc).1)))), (0, (.ref 164)), (1, (.int (iI (b01 (lb = true)))))]) dX11_termOf_111 (by decide) rfl ?_
                    refine r_aload_n (pc := 113) 3 dX11_termOf_113 rfl rfl ?_
                    refine r_iload (pc := 114) 1 dX11_termOf_114 rfl ?_
                    refine r_if_eq (pc := 116) (tgt := 126) dX11_termOf_116 (by decide) (by omega) (fun c_116 => ?_) (fun c_116 => ?_)
                    · refine r_lload_n (pc := 126) 2 dX11_termOf_126 rfl rfl ?_
                      refine r_lload (pc := 127) 0 dX11_termOf_127 rfl ?_
                      refine r_ldiv (pc := 129) (w := ((mS e lb bk acc).1).tdiv (1)) dX11_termOf_129 (by first | decide | exact fun h => c_87 ((lI_eq (by omega) (by omega)).mp h)) (lI_div hv1 (by decide)) ?_
                      refine r_iload_n (pc := 130) 4 dX11_termOf_130 rfl rfl ?_
                      refine r_callV (pc := 131) (As := [(.long (lI (((mS e lb bk acc).1).tdiv (1)))), (.int (iI (b01 (lb = true))))]) (S := []) dX11_termOf_131 cv_X11_246 hM.k rfl (Nat.le_of_ble_eq_true rfl) (m_bounded (x := ((mS e lb bk acc).1).tdiv (1)) (lb := lb) l z _ hM hE (hG_73.br (b := false) rfl) (by have := tdiv_r (b := 1) hv1; omega)) (Nat.zero_le _) (Nat.zero_le _) (fun r_131 g_131 f_131 q_131 => ?_)
                      obtain ⟨rfl, rfl, hG_131⟩ := q_131
                      have hop : bdV lb false (((mS e lb bk acc).1).tdiv (1)) = mS e lb bk (.div acc t_) := mS_div0 c_87 (by rw [Bool.eq_false_iff.mpr c_95, Bool.eq_false_iff.mpr c_99]; rfl)
                      rw [hop] at hG_131 ⊢
                      refine r_lstore_n (pc := 134) (L2 := [(2, (.long (lI ((mS e lb bk (.div acc t_)).1)))), (5, (.long (lI (1)))), (4, (.int (iI (0)))), (0, (.ref 164)), (1, (.int (iI (b01 (lb = true)))))]) dX11_termOf_134 rfl (by decide) rfl ?_
                      refine r_goto (pc := 135) (tgt := 6) dX11_termOf_135 (by decide) ?_
                      refine r_sub (L2 := [(2, (.long (lI ((mS e lb bk (.div acc t_)).1)))), (0, (.ref 164)), (1, (.int (iI (b01 (lb = true)))))]) [0, 3, 4] rfl ?_
                      exact ih (m - 1) (by omega) _ (.div acc t_) j_ l_ hR_ hG_131 (mS_rr (fun x hx => evS_divr hx)) (by have := hmono _ _ _ _ _ ht_; omega)
                    · exact absurd c_116 (by decide)
                  · replace c_99 := b01_nz c_99
                    refine r_iconst (pc := 102) dX11_termOf_102 ?_
                    refine r_goto (pc := 103) (tgt := 107) dX11_termOf_103 (by decide) ?_
                    refine r_putB (pc := 107) dX11_termOf_107 fl_X11_238 rfl rfl (by omega) hM.k ?_
                    refine r_lconst (pc := 110) (x := 1) dX11_termOf_110 (by decide) ?_
                    refine r_lstore (pc := 111) (L2 := [(5, (.long (lI (1)))), (4, (.int (iI (0)))), (2, (.long (lI ((mS e lb bk acc).1)))), (0, (.ref 164)), (1, (.int (iI (b01 (lb = true)))))]) dX11_termOf_111 (by decide) rfl ?_
                    refine r_aload_n (pc := 113) 3 dX11_termOf_113 rfl rfl ?_
                    refine r_iload (pc := 114) 1 dX11_termOf_114 rfl ?_
                    refine r_if_eq (pc := 116) (tgt := 126) dX11_termOf_116 (by decide) (by omega) (fun c_116 => ?_) (fun c_116 => ?_)
                    · refine r_lload_n (pc := 126) 2 dX11_termOf_126 rfl rfl ?_
                      refine r_lload (pc := 127) 0 dX11_termOf_127 rfl ?_
                      refine r_ldiv (pc := 129) (w := ((mS e lb bk acc).1).tdiv (1)) dX11_termOf_129 (by first | decide | exact fun h => c_87 ((lI_eq (by omega) (by omega)).mp h)) (lI_div hv1 (by decide)) ?_
                      refine r_iload_n (pc := 130) 4 dX11_termOf_130 rfl rfl ?_
                      refine r_callV (pc := 131) (As := [(.long (lI (((mS e lb bk acc).1).tdiv (1)))), (.int (iI (b01 (lb = true))))]) (S := []) dX11_termOf_131 cv_X11_246 hM.k rfl (Nat.le_of_ble_eq_true rfl) (m_bounded (x := ((mS e lb bk acc).1).tdiv (1)) (lb := lb) l z _ hM hE (hG_73.br (b := true) rfl) (by have := tdiv_r (b := 1) hv1; omega)) (Nat.zero_le _) (Nat.zero_le _) (fun r_131 g_131 f_131 q_131 => ?_)
                      obtain ⟨rfl, rfl, hG_131⟩ := q_131
                      have hop : bdV lb true (((mS e lb bk acc).1).tdiv (1)) = mS e lb bk (.div acc t_) := mS_div0 c_87 (by rw [Bool.eq_false_iff.mpr c_95, c_99]; rfl)
                      rw [hop] at hG_131 ⊢
                      refine r_lstore_n (pc := 134) (L2 := [(2, (.long (lI ((mS e lb bk (.div acc t_)).1)))), (5, (.long (lI (1)))), (4, (.int (iI (0)))), (0, (.ref 164)), (1, (.int (iI (b01 (lb = true)))))]) dX11_termOf_134 rfl (by decide) rfl ?_
                      refine r_goto (pc := 135) (tgt := 6) dX11_termOf_135 (by decide) ?_
                      refine r_sub (L2 := [(2, (.long (lI ((mS e lb bk (.div acc t_)).1)))), (0, (.ref 164)), (1, (.int (iI (b01 (lb = true)))))]) [0, 3, 4] rfl ?_
                      exact ih (m - 1) (by omega) _ (.div acc t_) j_ l_ hR_ hG_131 (mS_rr (fun x hx => evS_divr hx)) (by have := hmono _ _ _ _ _ ht_; omega)
                    · exact absurd c_116 (by decide)
          · exfalso; omega
  refine r_aload_n (pc := 0) 0 dX11_termOf_0 rfl rfl ?_
  refine r_iload_n (pc := 1) 1 dX11_termOf_1 rfl rfl ?_
  refine r_callV (pc := 2) (As := [(.int (iI (b01 (lb = true))))]) (S := []) dX11_termOf_2 cv_X11_250 hM.k rfl (Nat.le_of_ble_eq_true rfl) (hsub _ (by omega) _ _ _ _ lb _ _ _ h0 hG) (Nat.zero_le _) (Nat.zero_le _) (fun r_2 g_2 f_2 q_2 => ?_)
  obtain ⟨rfl, rfl, hG_2, hr_2⟩ := q_2
  refine r_lstore_n (pc := 5) (L2 := [(2, (.long (lI ((mS e lb bk t0).1)))), (0, (.ref 164)), (1, (.int (iI (b01 (lb = true)))))]) dX11_termOf_5 rfl (by decide) rfl ?_
  refine r_sub (L2 := [(2, (.long (lI ((mS e lb bk t0).1)))), (0, (.ref 164)), (1, (.int (iI (b01 (lb = true)))))]) [0, 1, 2] rfl ?_
  exact loop 400 _ t0 j0 l0 h0r hG_2 hr_2 (by have := hG_2.r; omega)

set_option maxRecDepth 100000 in
set_option maxHeartbeats 4000000 in
theorem m_sumOf (l : Launch) (z : Zv) {g : Gm} {f0 : Fm} {c v e : Nat → Int} {base T : Nat} (hM : ML g) (hE : ET f0 c v e base T) {H : Nat} {term : Nat → Nat → PR} (hmono : ∀ j lv tr j1 l1, term j lv = .ok (tr, j1, l1) → j < j1) (hsub : EvMS l z g f0 e base T mX11_termOf term H) : EvMS l z g f0 e base T mX11_sumOf (sSum c term) (H + 4) := by
  have hr0 := hE.r
  intro D hD f j lv bk lb tr j1 l1 hF hG
  obtain ⟨d, rfl⟩ : ∃ d, D = d + 4 := ⟨D - 4, by omega⟩
  refine PM.of (by decide +kernel) (Nat.le_of_ble_eq_true rfl) ?_
  obtain ⟨t0, j0, l0, h0, h0r⟩ := bnd_ok hF
  have loop : ∀ (m : Nat) (f1 : Fm) (acc : Term) (j2 l2 : Nat), sSumR c term m acc j2 l2 = .ok (tr, j1, l1) → EG f0 f1 base T j2 (mS e lb bk acc).2 → (-1000000000 ≤ (mS e lb bk acc).1 ∧ (mS e lb bk acc).1 ≤ 1000000000) → T ≤ j2 + m → PW l z (d + 4) mX11_sumOf 0 0 (fun r g' f' => g = g' ∧ r = some (.long (lI (mS e lb bk tr).1)) ∧ EG f0 f' base T j1 (mS e lb bk tr).2 ∧ (-1000000000 ≤ (mS e lb bk tr).1 ∧ (mS e lb bk tr).1 ≤ 1000000000)) 6 [(2, (.long (lI ((mS e lb bk acc).1)))), (0, (.ref 164)), (1, (.int (iI (b01 (lb = true)))))] [] g f1 0 0 := by
    intro m
    induction m using Nat.strongRecOn with
    | _ m ih =>
      intro f1 acc j2 l2 hR hG1 hv1 hfu
      have hj2 := hG1.r
      have hok := sSumR_ok hR (fun q => by have := hE.lt (i := j2) (by omega); omega)
      refine r_aload_n (pc := 6) 1 dX11_sumOf_6 rfl rfl ?_
      refine r_aload_n (pc := 7) 1 dX11_sumOf_7 rfl rfl ?_
      refine r_getIv (pc := 8) (x := ((base + j2 : Nat) : Int)) dX11_sumOf_8 fl_X11_228 rfl hM.k (hG1.xg) ?_
      refine r_callV (pc := 11) (As := [(.int (iI (((base + j2 : Nat) : Int))))]) (S := []) dX11_sumOf_11 cv_X11_231 hM.k rfl (Nat.le_of_ble_eq_true rfl) (m_codeAt (j := j2) l z _ hM hE hG1) (Nat.zero_le _) (Nat.zero_le _) (fun r_11 g_11 f_11 q_11 => ?_)
      obtain ⟨rfl, rfl, rfl⟩ := q_11
      have hcr_11 := hE.cr j2
      refine r_bipush (pc := 14) dX11_sumOf_14 (by decide) ?_
      refine r_callS (pc := 16) (As := [(.int (iI (43)))]) (S := [(.int (iI (c j2)))]) dX11_sumOf_16 cs_X11_203 rfl (Nat.le_of_ble_eq_true rfl) (m_sign l z _ (43)) (Nat.zero_le _) (Nat.zero_le _) (fun r_16 g_16 f_16 q_16 => ?_)
      obtain ⟨rfl, rfl, rfl⟩ := q_16
      refine r_eqI (y := 143) (by decide) ?_
      refine r_icmp_eq (pc := 19) (tgt := 38) dX11_sumOf_19 (by decide) (by omega) (by omega) (fun c_19 => ?_) (fun c_19 => ?_)
      · refine r_aload_n (pc := 38) 1 dX11_sumOf_38 rfl rfl ?_
        refine r_aload_n (pc := 39) 1 dX11_sumOf_39 rfl rfl ?_
        refine r_getIv (pc := 40) (x := ((base + j2 : Nat) : Int)) dX11_sumOf_40 fl_X11_228 rfl hM.k (hG1.xg) ?_
        refine r_callV (pc := 43) (As := [(.int (iI (((base + j2 : Nat) : Int))))]) (S := []) dX11_sumOf_43 cv_X11_231 hM.k rfl (Nat.le_of_ble_eq_true rfl) (m_codeAt (j := j2) l z _ hM hE hG1) (Nat.zero_le _) (Nat.zero_le _) (fun r_43 g_43 f_43 q_43 => ?_)
        obtain ⟨rfl, rfl, rfl⟩ := q_43
        have hcr_43 := hE.cr j2
        refine r_bipush (pc := 46) dX11_sumOf_46 (by decide) ?_
        refine r_callS (pc := 48) (As := [(.int (iI (43)))]) (S := [(.int (iI (c j2)))]) dX11_sumOf_48 cs_X11_203 rfl (Nat.le_of_ble_eq_true rfl) (m_sign l z _ (43)) (Nat.zero_le _) (Nat.zero_le _) (fun r_48 g_48 f_48 q_48 => ?_)
        obtain ⟨rfl, rfl, rfl⟩ := q_48
        refine r_eqI (y := 143) (by decide) ?_
        refine r_icmp_ne (pc := 51) (tgt := 58) dX11_sumOf_51 (by decide) (by omega) (by omega) (fun c_51 => ?_) (fun c_51 => ?_)
        · exfalso; omega
        · refine r_iconst (pc := 54) dX11_sumOf_54 ?_
          refine r_goto (pc := 55) (tgt := 59) dX11_sumOf_55 (by decide) ?_
          refine r_istore (pc := 59) (L2 := [(4, (.int (iI (1)))), (2, (.long (lI ((mS e lb bk acc).1)))), (0, (.ref 164)), (1, (.int (iI (b01 (lb = true)))))]) dX11_sumOf_59 (by decide) rfl ?_
          obtain ⟨t_, j_, l_, ht_, hR_⟩ : ∃ t j0 l0, term (j2 + 1) l2 = .ok (t, j0, l0) ∧ sSumR c term (m - 1) (.add acc t) j0 l0 = .ok (tr, j1, l1) := by rcases hok with h | h | h; exact absurd h.1 (by omega); exact h.2; exact absurd h.2.1 (by omega)
          have hjT : j2 + 1 ≤ T := hE.lt (by omega)
          refine r_aload_n (pc := 61) 2 dX11_sumOf_61 rfl rfl ?_
          refine r_dup (pc := 62) dX11_sumOf_62 rfl ?_
          refine r_getIv (pc := 63) (x := ((base + j2 : Nat) : Int)) dX11_sumOf_63 fl_X11_228 rfl hM.k (hG1.xg) ?_
          refine r_iconst (pc := 66) dX11_sumOf_66 ?_
          refine r_iadd (pc := 67) dX11_sumOf_67 ?_
          refine r_eqI (y := ((base + j2 + 1 : Nat) : Int)) (Int.natCast_add _ _ |>.symm) ?_
          refine r_putI (pc := 68) dX11_sumOf_68 fl_X11_228 rfl rfl hM.k ?_
          refine r_aload_n (pc := 71) 2 dX11_sumOf_71 rfl rfl ?_
          refine r_iload_n (pc := 72) 3 dX11_sumOf_72 rfl rfl ?_
          refine r_callV (pc := 73) (As := [(.int (iI (b01 (lb = true))))]) (S := []) dX11_sumOf_73 cv_X11_242 hM.k rfl (Nat.le_of_ble_eq_true rfl) (hsub _ (by omega) _ _ _ _ lb _ _ _ ht_ (hG1.next (by have := hE.lt (i := j2) (by omega); omega))) (Nat.zero_le _) (Nat.zero_le _) (fun r_73 g_73 f_73 q_73 => ?_)
          obtain ⟨rfl, rfl, hG_73, hr_73⟩ := q_73
          refine r_lstore (pc := 76) (L2 := [(5, (.long (lI ((mS e lb ((mS e lb bk acc).2) t_).1)))), (4, (.int (iI (1)))), (2, (.long (lI ((mS e lb bk acc).1)))), (0, (.ref 164)), (1, (.int (iI (b01 (lb = true)))))]) dX11_sumOf_76 (by decide) rfl ?_
          refine r_aload_n (pc := 78) 3 dX11_sumOf_78 rfl rfl ?_
          refine r_iload (pc := 79) 1 dX11_sumOf_79 rfl ?_
          refine r_if_eq (pc := 81) (tgt := 91) dX11_sumOf_81 (by decide) (by omega) (fun c_81 => ?_) (fun c_81 => ?_)
          · exact absurd c_81 (by decide)
          · refine r_lload_n (pc := 84) 2 dX11_sumOf_84 rfl rfl ?_
            refine r_lload (pc := 85) 0 dX11_sumOf_85 rfl ?_
            refine r_ladd (pc := 87) dX11_sumOf_87 ?_
            refine r_goto (pc := 88) (tgt := 95) dX11_sumOf_88 (by decide) ?_
            refine r_iload_n (pc := 95) 4 dX11_sumOf_95 rfl rfl ?_
            refine r_callV (pc := 96) (As := [(.long (lI (((mS e lb bk acc).1) + ((mS e lb ((mS e lb bk acc).2) t_).1)))), (.int (iI (b01 (lb = true))))]) (S := []) dX11_sumOf_96 cv_X11_246 hM.k rfl (Nat.le_of_ble_eq_true rfl) (m_bounded (x := ((mS e lb bk acc).1) + ((mS e lb ((mS e lb bk acc).2) t_).1)) (lb := lb) l z _ hM hE hG_73 (by omega)) (Nat.zero_le _) (Nat.zero_le _) (fun r_96 g_96 f_96 q_96 => ?_)
            obtain ⟨rfl, rfl, hG_96⟩ := q_96
            have hop : bdV lb ((mS e lb ((mS e lb bk acc).2) t_).2) (((mS e lb bk acc).1) + ((mS e lb ((mS e lb bk acc).2) t_).1)) = mS e lb bk (.add acc t_) := mS_op (op := fun x y => x + y) (fun x y ha hb => by simp only [evS, ha, hb]) (fun h => by simp only [evS, h]) (fun h => by simp only [evS, h]; split <;> simp_all) (by decide)
            rw [hop] at hG_96 ⊢
            refine r_lstore_n (pc := 99) (L2 := [(2, (.long (lI ((mS e lb bk (.add acc t_)).1)))), (5, (.long (lI ((mS e lb ((mS e lb bk acc).2) t_).1)))), (4, (.int (iI (1)))), (0, (.ref 164)), (1, (.int (iI (b01 (lb = true)))))]) dX11_sumOf_99 rfl (by decide) rfl ?_
            refine r_goto (pc := 100) (tgt := 6) dX11_sumOf_100 (by decide) ?_
            refine r_sub (L2 := [(2, (.long (lI ((mS e lb bk (.add acc t_)).1)))), (0, (.ref 164)), (1, (.int (iI (b01 (lb = true)))))]) [0, 3, 4] rfl ?_
            exact ih (m - 1) (by omega) _ (.add acc t_) j_ l_ hR_ hG_96 (mS_rr (fun x hx => evS_addr hx)) (by have := hmono _ _ _ _ _ ht_; omega)
      · refine r_aload_n (pc := 22) 1 dX11_sumOf_22 rfl rfl ?_
        refine r_aload_n (pc := 23) 1 dX11_sumOf_23 rfl rfl ?_
        refine r_getIv (pc := 24) (x := ((base + j2 : Nat) : Int)) dX11_sumOf_24 fl_X11_228 rfl hM.k (hG1.xg) ?_
        refine r_callV (pc := 27) (As := [(.int (iI (((base + j2 : Nat) : Int))))]) (S := []) dX11_sumOf_27 cv_X11_231 hM.k rfl (Nat.le_of_ble_eq_true rfl) (m_codeAt (j := j2) l z _ hM hE hG1) (Nat.zero_le _) (Nat.zero_le _) (fun r_27 g_27 f_27 q_27 => ?_)
        obtain ⟨rfl, rfl, rfl⟩ := q_27
        have hcr_27 := hE.cr j2
        refine r_bipush (pc := 30) dX11_sumOf_30 (by decide) ?_
        refine r_callS (pc := 32) (As := [(.int (iI (45)))]) (S := [(.int (iI (c j2)))]) dX11_sumOf_32 cs_X11_203 rfl (Nat.le_of_ble_eq_true rfl) (m_sign l z _ (45)) (Nat.zero_le _) (Nat.zero_le _) (fun r_32 g_32 f_32 q_32 => ?_)
        obtain ⟨rfl, rfl, rfl⟩ := q_32
        refine r_eqI (y := 145) (by decide) ?_
        refine r_icmp_ne (pc := 35) (tgt := 103) dX11_sumOf_35 (by decide) (by omega) (by omega) (fun c_35 => ?_) (fun c_35 => ?_)
        · refine r_lload_n (pc := 103) 0 dX11_sumOf_103 rfl rfl ?_
          obtain ⟨q1, q2, q3, q4, q5⟩ : ¬ c j2 = 143 ∧ ¬ c j2 = 145 ∧ tr = acc ∧ j1 = j2 ∧ l1 = l2 := by rcases hok with h | h | h; exact h; exact absurd h.1 (by omega); exact absurd h.2.1 (by omega)
          subst q3; subst q4
          exact r_lret (pc := 104) dX11_sumOf_104 rfl ⟨rfl, rfl, hG1, hv1⟩
        · refine r_aload_n (pc := 38) 1 dX11_sumOf_38 rfl rfl ?_
          refine r_aload_n (pc := 39) 1 dX11_sumOf_39 rfl rfl ?_
          refine r_getIv (pc := 40) (x := ((base + j2 : Nat) : Int)) dX11_sumOf_40 fl_X11_228 rfl hM.k (hG1.xg) ?_
          refine r_callV (pc := 43) (As := [(.int (iI (((base + j2 : Nat) : Int))))]) (S := []) dX11_sumOf_43 cv_X11_231 hM.k rfl (Nat.le_of_ble_eq_true rfl) (m_codeAt (j := j2) l z _ hM hE hG1) (Nat.zero_le _) (Nat.zero_le _) (fun r_43 g_43 f_43 q_43 => ?_)
          obtain ⟨rfl, rfl, rfl⟩ := q_43
          have hcr_43 := hE.cr j2
          refine r_bipush (pc := 46) dX11_sumOf_46 (by decide) ?_
          refine r_callS (pc := 48) (As := [(.int (iI (43)))]) (S := [(.int (iI (c j2)))]) dX11_sumOf_48 cs_X11_203 rfl (Nat.le_of_ble_eq_true rfl) (m_sign l z _ (43)) (Nat.zero_le _) (Nat.zero_le _) (fun r_48 g_48 f_48 q_48 => ?_)
          obtain ⟨rfl, rfl, rfl⟩ := q_48
          refine r_eqI (y := 143) (by decide) ?_
          refine r_icmp_ne (pc := 51) (tgt := 58) dX11_sumOf_51 (by decide) (by omega) (by omega) (fun c_51 => ?_) (fun c_51 => ?_)
          · refine r_iconst (pc := 58) dX11_sumOf_58 ?_
            refine r_istore (pc := 59) (L2 := [(4, (.int (iI (0)))), (2, (.long (lI ((mS e lb bk acc).1)))), (0, (.ref 164)), (1, (.int (iI (b01 (lb = true)))))]) dX11_sumOf_59 (by decide) rfl ?_
            obtain ⟨t_, j_, l_, ht_, hR_⟩ : ∃ t j0 l0, term (j2 + 1) l2 = .ok (t, j0, l0) ∧ sSumR c term (m - 1) (.sub acc t) j0 l0 = .ok (tr, j1, l1) := by rcases hok with h | h | h; exact absurd h.1 (by omega); exact absurd h.1 (by omega); exact h.2.2
            have hjT : j2 + 1 ≤ T := hE.lt (by omega)
            refine r_aload_n (pc := 61) 2 dX11_sumOf_61 rfl rfl ?_
            refine r_dup (pc := 62) dX11_sumOf_62 rfl ?_
            refine r_getIv (pc := 63) (x := ((base + j2 : Nat) : Int)) dX11_sumOf_63 fl_X11_228 rfl hM.k (hG1.xg) ?_
            refine r_iconst (pc := 66) dX11_sumOf_66 ?_
            refine r_iadd (pc := 67) dX11_sumOf_67 ?_
            refine r_eqI (y := ((base + j2 + 1 : Nat) : Int)) (Int.natCast_add _ _ |>.symm) ?_
            refine r_putI (pc := 68) dX11_sumOf_68 fl_X11_228 rfl rfl hM.k ?_
            refine r_aload_n (pc := 71) 2 dX11_sumOf_71 rfl rfl ?_
            refine r_iload_n (pc := 72) 3 dX11_sumOf_72 rfl rfl ?_
            refine r_callV (pc := 73) (As := [(.int (iI (b01 (lb = true))))]) (S := []) dX11_sumOf_73 cv_X11_242 hM.k rfl (Nat.le_of_ble_eq_true rfl) (hsub _ (by omega) _ _ _ _ lb _ _ _ ht_ (hG1.next (by have := hE.lt (i := j2) (by omega); omega))) (Nat.zero_le _) (Nat.zero_le _) (fun r_73 g_73 f_73 q_73 => ?_)
            obtain ⟨rfl, rfl, hG_73, hr_73⟩ := q_73
            refine r_lstore (pc := 76) (L2 := [(5, (.long (lI ((mS e lb ((mS e lb bk acc).2) t_).1)))), (4, (.int (iI (0)))), (2, (.long (lI ((mS e lb bk acc).1)))), (0, (.ref 164)), (1, (.int (iI (b01 (lb = true)))))]) dX11_sumOf_76 (by decide) rfl ?_
            refine r_aload_n (pc := 78) 3 dX11_sumOf_78 rfl rfl ?_
            refine r_iload (pc := 79) 1 dX11_sumOf_79 rfl ?_
            refine r_if_eq (pc := 81) (tgt := 91) dX11_sumOf_81 (by decide) (by omega) (fun c_81 => ?_) (fun c_81 => ?_)
            · refine r_lload_n (pc := 91) 2 dX11_sumOf_91 rfl rfl ?_
              refine r_lload (pc := 92) 0 dX11_sumOf_92 rfl ?_
              refine r_lsub (pc := 94) dX11_sumOf_94 ?_
              refine r_iload_n (pc := 95) 4 dX11_sumOf_95 rfl rfl ?_
              refine r_callV (pc := 96) (As := [(.long (lI (((mS e lb bk acc).1) - ((mS e lb ((mS e lb bk acc).2) t_).1)))), (.int (iI (b01 (lb = true))))]) (S := []) dX11_sumOf_96 cv_X11_246 hM.k rfl (Nat.le_of_ble_eq_true rfl) (m_bounded (x := ((mS e lb bk acc).1) - ((mS e lb ((mS e lb bk acc).2) t_).1)) (lb := lb) l z _ hM hE hG_73 (by omega)) (Nat.zero_le _) (Nat.zero_le _) (fun r_96 g_96 f_96 q_96 => ?_)
              obtain ⟨rfl, rfl, hG_96⟩ := q_96
              have hop : bdV lb ((mS e lb ((mS e lb bk acc).2) t_).2) (((mS e lb bk acc).1) - ((mS e lb ((mS e lb bk acc).2) t_).1)) = mS e lb bk (.sub acc t_) := mS_op (op := fun x y => x - y) (fun x y ha hb => by simp only [evS, ha, hb]) (fun h => by simp only [evS, h]) (fun h => by simp only [evS, h]; split <;> simp_all) (by decide)
              rw [hop] at hG_96 ⊢
              refine r_lstore_n (pc := 99) (L2 := [(2, (.long (lI ((mS e lb bk (.sub acc t_)).1)))), (5, (.long (lI ((mS e lb ((mS e lb bk acc).2) t_).1)))), (4, (.int (iI (0)))), (0, (.ref 164)), (1, (.int (iI (b01 (lb = true)))))]) dX11_sumOf_99 rfl (by decide) rfl ?_
              refine r_goto (pc := 100) (tgt := 6) dX11_sumOf_100 (by decide) ?_
              refine r_sub (L2 := [(2, (.long (lI ((mS e lb bk (.sub acc t_)).1)))), (0, (.ref 164)), (1, (.int (iI (b01 (lb = true)))))]) [0, 3, 4] rfl ?_
              exact ih (m - 1) (by omega) _ (.sub acc t_) j_ l_ hR_ hG_96 (mS_rr (fun x hx => evS_subr hx)) (by have := hmono _ _ _ _ _ ht_; omega)
            · exact absurd c_81 (by decide)
          · exfalso; omega
  refine r_aload_n (pc := 0) 0 dX11_sumOf_0 rfl rfl ?_
  refine r_iload_n (pc := 1) 1 dX11_sumOf_1 rfl rfl ?_
  refine r_callV (pc := 2) (As := [(.int (iI (b01 (lb = true))))]) (S := []) dX11_sumOf_2 cv_X11_242 hM.k rfl (Nat.le_of_ble_eq_true rfl) (hsub _ (by omega) _ _ _ _ lb _ _ _ h0 hG) (Nat.zero_le _) (Nat.zero_le _) (fun r_2 g_2 f_2 q_2 => ?_)
  obtain ⟨rfl, rfl, hG_2, hr_2⟩ := q_2
  refine r_lstore_n (pc := 5) (L2 := [(2, (.long (lI ((mS e lb bk t0).1)))), (0, (.ref 164)), (1, (.int (iI (b01 (lb = true)))))]) dX11_sumOf_5 rfl (by decide) rfl ?_
  refine r_sub (L2 := [(2, (.long (lI ((mS e lb bk t0).1)))), (0, (.ref 164)), (1, (.int (iI (b01 (lb = true)))))]) [0, 1, 2] rfl ?_
  exact loop 400 _ t0 j0 l0 h0r hG_2 hr_2 (by have := hG_2.r; omega)

/-! the bond at the start -/
theorem i_XL : XL gX2 := by
  unfold XL BL SL TL DL AL EL YL OL isK isA
  and_intros <;> decide +kernel
theorem i_ML : ML gX2 := by
  unfold ML isK isA
  and_intros <;> decide +kernel
set_option maxRecDepth 1000000 in
theorem i_tx : (∀ i, grm gX2 68 i = none) ∧ (∀ i, grm gX2 78 i = none) ∧ (∀ i, grm gX2 89 i = none) ∧ (∀ i, grm gX2 99 i = none) := ⟨fun _ => rfl, fun _ => rfl, fun _ => rfl, fun _ => rfl⟩
set_option maxRecDepth 1000000 in
theorem i_by : (∀ i, fX2 108 i = 0) ∧ (∀ i, fX2 170 i = 0) := ⟨fun _ => rfl, fun _ => rfl⟩
theorem i_wd : ∀ k, k < 66 → fX2 169 k = wdl.getD k 0 := by decide +kernel
theorem i_K0 : (0 ≤ fX2 166 77 ∧ fX2 166 77 ≤ 8) ∧ (2 ≤ fX2 166 40 ∧ fX2 166 40 ≤ 20) ∧ (0 ≤ fX2 166 41 ∧ fX2 166 41 ≤ 9) ∧ (0 ≤ fX2 166 42 ∧ fX2 166 42 ≤ 9999) ∧ (0 ≤ fX2 166 43 ∧ fX2 166 43 ≤ 999999) ∧ (0 ≤ fX2 166 44 ∧ fX2 166 44 ≤ 999999) ∧ fX2 166 78 = 0 ∧ fX2 166 79 = 0 ∧ fX2 166 80 = 0 ∧ (-1 ≤ fX2 166 81 ∧ fX2 166 81 < fX2 166 80) := by and_intros <;> decide +kernel
theorem i_Kf : ∀ c, c < 8 → (0 ≤ fX2 166 (5 * c) ∧ fX2 166 (5 * c) ≤ 40) ∧ (0 ≤ fX2 166 (5 * c + 1) ∧ fX2 166 (5 * c + 1) ≤ 9) ∧ (0 ≤ fX2 166 (5 * c + 2) ∧ fX2 166 (5 * c + 2) ≤ 1) ∧ (0 ≤ fX2 166 (5 * c + 3) ∧ fX2 166 (5 * c + 3) ≤ 9999) ∧ (0 ≤ fX2 166 (5 * c + 4) ∧ fX2 166 (5 * c + 4) ≤ 999999) := by decide +kernel
theorem i_KO : KO (fX2 166) 9999 999999 := by
  obtain ⟨h1, h2, h3, h4, h5, h6, h7, h8, h9, h10⟩ := i_K0
  exact ⟨h1, i_Kf, h2, h3, h4, h5, h6, by rw [h7]; decide, by rw [h8]; decide, fun i hi => by rw [h7] at hi; omega, fun i hi => by rw [h8] at hi; omega, by rw [h9]; decide, h10, fun i hi => by rw [h9] at hi; omega⟩
theorem i_tr : ∀ w, w < 5 → ∀ c, c < 8 → fX2 (65 + 1) (8 * w + c) = fX2 166 (5 * c + w) := by decide +kernel
theorem i_te : ∀ t, t < 5 → fX2 (65 + 2) t = fX2 166 (40 + t) := by decide +kernel
theorem i_si : ∀ i, i < 8 → fX2 (65 + 5) i = fX2 166 (45 + 2 * i) ∧ fX2 (65 + 6) i = fX2 166 (46 + 2 * i) := by decide +kernel
theorem i_ci : ∀ i, i < 8 → fX2 (65 + 8) i = fX2 166 (61 + 2 * i) ∧ fX2 (65 + 9) i = fX2 166 (62 + 2 * i) := by decide +kernel
theorem i_b0 : fX2 65 5 = fX2 166 77 ∧ fX2 65 6 = fX2 166 80 ∧ fX2 65 7 = fX2 166 81 ∧ fX2 (65 + 4) 2 = fX2 166 78 ∧ fX2 (65 + 7) 2 = fX2 166 79 := by and_intros <;> decide +kernel
theorem i_BK : BK gX2 fX2 65 (fX2 166) := by
  obtain ⟨b1, b2, b3, b4, b5⟩ := i_b0
  refine ⟨b1, b2, b3, fun w c hw hc => i_tr w hw c hc, i_te, b4, i_si, b5, i_ci, fun i hi => ?_, fun i p hp => ?_⟩
  · rw [i_K0.2.2.2.2.2.2.2.2.1] at hi; omega
  · have := i_tx.1 i
    have hp2 : grm gX2 68 i = some p := hp
    rw [this] at hp2; cases hp2
theorem i_rest : (fX2 106 0 = 0 ∧ fX2 106 1 = 0 ∧ fX2 168 0 = 0 ∧ fX2 168 1 = 0) ∧ IR fX2 ∧ IS fX2 ∧ (fX2 107 4 = 0 ∧ fX2 164 9 = 0 ∧ fX2 107 3 = fX2 164 10) ∧ (fX2 157 3 = 0 ∧ fX2 164 43 = 0) ∧ fX2 164 20 = 0 ∧ (fX2 111 9 = 0 ∧ fX2 111 10 = 0 ∧ fX2 135 4 = 0 ∧ fX2 140 4 = 0 ∧ fX2 145 4 = 0 ∧ fX2 150 6 = 0) := by
  unfold IR IS
  and_intros <;> decide +kernel
theorem inv_start : Inv gX2 fX2 := by
  obtain ⟨⟨a1, a2, a3, a4⟩, r, s, ⟨t1, t2, t3⟩, ⟨d1, d2⟩, w, c1, c2, c3, c4, c5, c6⟩ := i_rest
  refine ⟨⟨i_XL, i_ML, by decide +kernel, fun i p hp => ?_, fun i p hp => ?_, fun i p hp => ?_⟩, ⟨i_KO, i_BK⟩, fun k hk => ?_, r, s, ⟨by rw [t1, t2], by rw [t2]; decide, t3, fun i => ?_⟩, ⟨by rw [d1, d2], by rw [d2]; decide, fun c hc => by rw [d2] at hc; omega⟩, ⟨i_wd, false, by rw [w]; rfl⟩, IC.dr c1 c2 c3 c4 c5 c6⟩
  · rw [i_tx.2.1 i] at hp; cases hp
  · rw [i_tx.2.2.1 i] at hp; cases hp
  · rw [i_tx.2.2.2 i] at hp; cases hp
  · rcases (show k = 0 ∨ k = 1 by omega) with rfl | rfl
    · exact ⟨by rw [a1, a3], Or.inl a3⟩
    · exact ⟨by rw [a2, a4], Or.inl a4⟩
  · rw [i_by.1, i_by.2]; decide
theorem ops_all (l : Launch) (z : Zv) : Ops l z Inv := ⟨fun g f h => h.X.k, op_customer l z, op_put l z, op_of l z, op_owed l z, op_terms l z, op_feed l z, op_end l z, op_row l z, op_crumbs l z, op_law l z, op_fault l z, op_force l z, op_waits l z, op_blessed l z, op_served l z, op_orders l z, op_best l z, op_fairest l z, op_year l z, op_chances l z, op_never l z, op_sight l z, op_counts l z, op_claim l z, op_wrong l z, op_forget l z, op_bake l z, op_queues l z, op_drawn l z, op_image l z, op_back l z, op_count l z, op_status l z⟩

/-! The class's gain is the model's getsOf. -/
theorem lv_st {ov wa : Nat → Nat} {s c m n : Nat} (hm : ∀ k, k < n → m.testBit k = decide (ov k = ov c)) : ∀ j, j ≤ n → ((lvN wa (s &&& m) j : Nat) : Int) = sumN j (stT ov wa s c)
  | 0, _ => rfl
  | j + 1, h => by
    have ih := lv_st (wa := wa) (s := s) hm j (by omega)
    rw [lvN_s]
    simp only [sumN]
    rw [← ih]
    have hb : (s &&& m).testBit j = (s.testBit j && decide (ov j = ov c)) := by rw [Nat.testBit_and, hm j (by omega)]
    rw [hb]
    unfold stT
    by_cases h1 : s.testBit j = true
    · by_cases h2 : ov j = ov c
      · simp [h1, h2]
      · simp [h1, h2]
    · simp [h1]
theorem lv_or {wa : Nat → Nat} {s c m : Nat} (hs : ¬ s.testBit c = true) (hmc : m.testBit c = true) : ∀ j, lvN wa ((s ||| 2 ^ c) &&& m) j = lvN wa (s &&& m) j + if c < j then wa c else 0
  | 0 => by simp [lvN]
  | j + 1 => by
    have ih := lv_or (wa := wa) hs hmc j
    rw [lvN_s, lvN_s, ih]
    by_cases hj : j = c
    · subst hj
      have h1 : ((s ||| 2 ^ j) &&& m).testBit j = true := by rw [Nat.testBit_and, Nat.testBit_or, Nat.testBit_two_pow_self, hmc]; simp
      have h2 : ¬ (s &&& m).testBit j = true := by rw [Nat.testBit_and]; simp [hs]
      rw [if_pos h1, if_neg h2, if_neg (Nat.lt_irrefl _), if_pos (Nat.lt_succ_self _)]
    · have h1 : ((s ||| 2 ^ c) &&& m).testBit j = (s &&& m).testBit j := by
        rw [Nat.testBit_and, Nat.testBit_and, Nat.testBit_or, Nat.testBit_two_pow_of_ne (Ne.symm hj)]; simp
      rw [h1]
      by_cases hc : c < j
      · rw [if_pos hc, if_pos (show c < j + 1 by omega)]; omega
      · rw [if_neg hc, if_neg (show ¬ c < j + 1 by omega)]; omega
theorem gn_ge {ov wa bk : Nat → Nat} {dz lp : Int} {n a2 s c : Nat} (hov : ∀ k, k < n → ov k ≤ 1) (ha : ∀ k, k < n → a2.testBit k = decide (ov k ≠ 0)) (hc : c < n) (hs : ¬ s.testBit c = true) : gnV dz lp (bk 0) (bk 1) wa n a2 s c = geV dz lp n ov wa bk s c := by
  have key : ∀ m : Nat, (∀ k, k < n → m.testBit k = decide (ov k = ov c)) → blM dz lp (bk (ov c)) wa n m (s ||| 2 ^ c) - blM dz lp (bk (ov c)) wa n m s = geV dz lp n ov wa bk s c := fun m hm => by
    have h1 := lv_st (wa := wa) (s := s) hm n (Nat.le_refl _)
    have h2 := lv_or (wa := wa) (s := s) (c := c) (m := m) hs (by rw [hm c hc]; simp) n
    rw [if_pos hc] at h2
    have e1 : stV n ov wa bk s c = ((bk (ov c) + lvN wa (s &&& m) n : Nat) : Int) := by unfold stV; rw [← h1]; omega
    unfold blM geV
    rw [e1, h2]
    congr 2
    omega
  unfold gnV
  have h0 := hov c hc
  rcases (show ov c = 0 ∨ ov c = 1 by omega) with h | h
  · rw [if_neg (by rw [ha c hc, h]; decide), ← key (m1K n a2) (fun k hk => by
      rw [m1_bit, ha k hk, h, decide_eq_true hk]
      by_cases hk0 : ov k = 0 <;> simp [hk0]), h]
  · rw [if_pos (by rw [ha c hc, h]; decide), ← key a2 (fun k hk => by
      rw [ha k hk, h]
      have := hov k hk
      rcases (show ov k = 0 ∨ ov k = 1 by omega) with q | q <;> simp [q]), h]
theorem nx_may {wt : Nat → Nat} {n s i : Nat} (hi : i < n) : (nxM wt n s).testBit i = true ↔ mayP wt s i := by
  unfold nxM
  rw [wmk_bit, decide_eq_true hi]
  unfold nxP mayP
  simp

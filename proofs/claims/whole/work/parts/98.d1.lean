/-! Draws: who comes next by a draw among a set. -/
def lcg (s : Nat) : Nat := (s * 1103 + 12345) % 1000003
theorem lcg_r (s : Nat) : lcg s ≤ 1000002 := by unfold lcg; have := Nat.mod_lt (s * 1103 + 12345) (show 0 < 1000003 by decide); omega
theorem bc_s (s k : Nat) : bc s (k + 1) = bc s k + if s.testBit k = true then 1 else 0 := rfl
theorem bc_mono (s : Nat) {j : Nat} : ∀ k, j ≤ k → bc s j ≤ bc s k
  | 0, h => by rw [show j = 0 by omega]; exact Nat.le_refl _
  | k + 1, h => by
    rcases (show j ≤ k ∨ j = k + 1 by omega) with q | q
    · have := bc_mono s k q
      rw [bc_s]; omega
    · rw [q]; exact Nat.le_refl _
theorem bc_ex {s r : Nat} : ∀ n, r < bc s n → ∃ c, c < n ∧ s.testBit c = true ∧ bc s c = r
  | 0, h => absurd h (Nat.not_lt_zero _)
  | n + 1, h => by
    rw [bc_s] at h
    rcases (show r < bc s n ∨ bc s n ≤ r by omega) with q | q
    · obtain ⟨c, h1, h2, h3⟩ := bc_ex n q
      exact ⟨c, by omega, h2, h3⟩
    · by_cases hb : s.testBit n = true
      · rw [if_pos hb] at h
        exact ⟨n, by omega, hb, by omega⟩
      · rw [if_neg hb] at h; omega
theorem bc_hi {s n : Nat} (hs : s < 2 ^ n) : ∀ k, n ≤ k → bc s k = bc s n
  | 0, h => by rw [show n = 0 by omega]
  | k + 1, h => by
    rcases (show n ≤ k ∨ n = k + 1 by omega) with q | q
    · rw [bc_s, bc_hi hs k q, if_neg (by rw [Nat.testBit_lt_two_pow (Nat.lt_of_lt_of_le hs (Nat.pow_le_pow_right (by decide) q))]; decide)]; rfl
    · rw [q]
def drw (s r : Nat) : Nat := fsU (fun c => s.testBit c && decide (bc s c = r)) 8 8
theorem drw_at {s r c : Nat} (hc : c < 8) (hb : s.testBit c = true) (hr : bc s c = r) : drw s r = c := by
  unfold drw
  refine fsU_y hc (by simp [hb, hr]) (fun j hj => ?_) 8 (Nat.le_refl _) (by omega)
  intro e
  simp only [Bool.and_eq_true, decide_eq_true_eq] at e
  have h1 := bc_mono s (j := j + 1) c (by omega)
  rw [bc_s, if_pos e.1] at h1
  omega
theorem drw_ok {s r : Nat} (hr : r < bc s 8) : drw s r < 8 ∧ s.testBit (drw s r) = true ∧ bc s (drw s r) = r := by
  obtain ⟨c, h1, h2, h3⟩ := bc_ex 8 hr
  rw [drw_at h1 h2 h3]
  exact ⟨h1, h2, h3⟩
/-- whom a draw is made among, when s is served -/
def pkS (wt : Nat → Nat) (n s : Nat) : Nat := if nxM wt n s = 0 then ndf (2 ^ n - 1) s else nxM wt n s
theorem pkS_bit {wt : Nat → Nat} {n s c : Nat} (h : (pkS wt n s).testBit c = true) : c < n ∧ ¬ s.testBit c = true := by
  unfold pkS at h
  split at h
  · rw [ndf_bit, Nat.testBit_two_pow_sub_one] at h
    simp at h
    exact ⟨h.1, by simp [h.2]⟩
  · refine ⟨?_, nx_out2 h⟩
    unfold nxM at h
    rw [wmk_bit] at h
    simp at h
    exact h.1
theorem pkS_lt {wt : Nat → Nat} {n s : Nat} : pkS wt n s < 2 ^ n := by
  unfold pkS
  split
  · have := ndf_le (2 ^ n - 1) s
    have := Nat.two_pow_pos n
    omega
  · exact wmk_lt _ n
theorem pkS_pos {wt : Nat → Nat} {n s : Nat} (hn : n ≤ 8) (hs : s < 2 ^ n) (hb : bc s n < n) : 0 < bc (pkS wt n s) 8 ∧ bc (pkS wt n s) 8 ≤ 8 := by
  have hp := pow8 hn
  refine ⟨bc_pos 8 (Nat.lt_of_lt_of_le pkS_lt (by omega)) ?_, bc_le _ 8⟩
  unfold pkS
  split
  · intro e
    have : ∀ c, c < n → s.testBit c = true := by
      intro c hc
      have h := congrArg (fun x => x.testBit c) e
      simp only [ndf_bit, Nat.testBit_two_pow_sub_one, decide_eq_true hc, Nat.zero_testBit] at h
      simpa using h
    have h2 : s = 2 ^ n - 1 := by
      apply Nat.eq_of_testBit_eq
      intro i
      rw [Nat.testBit_two_pow_sub_one]
      by_cases hi : i < n
      · rw [this i hi, decide_eq_true hi]
      · rw [decide_eq_false hi]
        exact Nat.testBit_lt_two_pow (Nat.lt_of_lt_of_le hs (Nat.pow_le_pow_right (by decide) (by omega)))
    rw [h2, bc_all] at hb
    omega
  · rename_i h; exact h
/-- the row of a day by draws: who is served, and the latest draw -/
def qR (wt : Nat → Nat) (n s0 : Nat) : Nat → Nat × Nat
  | 0 => (0, s0)
  | k + 1 => ((qR wt n s0 k).1 ||| 2 ^ drw (pkS wt n (qR wt n s0 k).1) (lcg (qR wt n s0 k).2 % bc (pkS wt n (qR wt n s0 k).1) 8), lcg (qR wt n s0 k).2)
def qO (wt : Nat → Nat) (n s0 k : Nat) : Nat := drw (pkS wt n (qR wt n s0 k).1) (lcg (qR wt n s0 k).2 % bc (pkS wt n (qR wt n s0 k).1) 8)
theorem qR_s (wt : Nat → Nat) (n s0 k : Nat) : qR wt n s0 (k + 1) = ((qR wt n s0 k).1 ||| 2 ^ qO wt n s0 k, lcg (qR wt n s0 k).2) := rfl
theorem qR_sd (wt : Nat → Nat) (n : Nat) {s0 : Nat} (h : s0 ≤ 1000002) : ∀ k, (qR wt n s0 k).2 ≤ 1000002
  | 0 => h
  | k + 1 => lcg_r _
theorem q_step {wt : Nat → Nat} {n s0 k : Nat} (hn : n ≤ 8) (hs : (qR wt n s0 k).1 < 2 ^ n) (hb : bc (qR wt n s0 k).1 n < n) : qO wt n s0 k < n ∧ ¬ (qR wt n s0 k).1.testBit (qO wt n s0 k) = true := by
  have hp := (pkS_pos (wt := wt) hn hs hb).1
  exact pkS_bit (drw_ok (Nat.mod_lt _ hp)).2.1
theorem q_inv {wt : Nat → Nat} {n s0 : Nat} (hn : n ≤ 8) : ∀ k, k ≤ n → (qR wt n s0 k).1 < 2 ^ n ∧ bc (qR wt n s0 k).1 n = k
  | 0, _ => ⟨Nat.two_pow_pos n, bc_0 n⟩
  | k + 1, h => by
    obtain ⟨h1, h2⟩ := q_inv hn k (by omega)
    have h3 := q_step hn h1 (by omega)
    rw [qR_s]
    exact ⟨or_lt h1 h3.1, by rw [bc_or h3.2 h3.1, h2]⟩
theorem sO_q {wt : Nat → Nat} {n s0 : Nat} : ∀ k, sO (qO wt n s0) k = (qR wt n s0 k).1
  | 0 => rfl
  | k + 1 => by rw [sO_s, sO_q k, qR_s]
theorem okO_q {wt : Nat → Nat} {n s0 : Nat} (hn : n ≤ 8) : okO (qO wt n s0) n := by
  intro i hi
  obtain ⟨h1, h2⟩ := q_inv (wt := wt) (s0 := s0) hn i (by omega)
  rw [sO_q]
  exact q_step hn h1 (by omega)
/-- how many bits a byte has, as the library counts them -/
def bB1 (s : Nat) : Nat := s - (s / 2 ^ 1 &&& 1431655765)
def bB2 (s : Nat) : Nat := (bB1 s &&& 858993459) + (bB1 s / 2 ^ 2 &&& 858993459)
def bB3 (s : Nat) : Nat := (bB2 s + bB2 s / 2 ^ 4) &&& 252645135
def bB4 (s : Nat) : Nat := bB3 s + bB3 s / 2 ^ 8
def bB5 (s : Nat) : Nat := bB4 s + bB4 s / 2 ^ 16
theorem bB_all : ∀ s, s < 256 → bB1 s < 256 ∧ bB2 s < 256 ∧ bB3 s < 256 ∧ bB4 s < 256 ∧ bB5 s < 256 ∧ (bB5 s &&& 63) = bc s 8 := by decide +kernel
theorem ush_1 : ∀ a, a < 256 → ((iI ((a : Nat) : Int)).toUInt32 >>> ((iI 1).toUInt32 &&& Int32.toUInt32 31)).toInt32 = iI ((a / 2 ^ 1 : Nat) : Int) := by decide +kernel
theorem ush_2 : ∀ a, a < 256 → ((iI ((a : Nat) : Int)).toUInt32 >>> ((iI 2).toUInt32 &&& Int32.toUInt32 31)).toInt32 = iI ((a / 2 ^ 2 : Nat) : Int) := by decide +kernel
theorem ush_4 : ∀ a, a < 256 → ((iI ((a : Nat) : Int)).toUInt32 >>> ((iI 4).toUInt32 &&& Int32.toUInt32 31)).toInt32 = iI ((a / 2 ^ 4 : Nat) : Int) := by decide +kernel
theorem ush_8 : ∀ a, a < 256 → ((iI ((a : Nat) : Int)).toUInt32 >>> ((iI 8).toUInt32 &&& Int32.toUInt32 31)).toInt32 = iI ((a / 2 ^ 8 : Nat) : Int) := by decide +kernel
theorem ush_16 : ∀ a, a < 256 → ((iI ((a : Nat) : Int)).toUInt32 >>> ((iI 16).toUInt32 &&& Int32.toUInt32 31)).toInt32 = iI ((a / 2 ^ 16 : Nat) : Int) := by decide +kernel

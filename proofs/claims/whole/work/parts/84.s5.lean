theorem lkF_ex {may : Nat → Nat → Bool} {co : Nat → Nat → Int} {bg : Bool} {Lt : Nat → Int} {Wt : Nat → Nat} {s : Nat} : ∀ k, 0 < (lkF may co bg Lt Wt s k).2 → ∃ i, i < k ∧ may s i = true ∧ 0 < Wt (s ||| 2 ^ i) ∧ jnB bg (co s i) (Lt (s ||| 2 ^ i)) = (lkF may co bg Lt Wt s k).1
  | 0, h => by rw [lkF] at h; exact absurd h (Nat.lt_irrefl 0)
  | k + 1, h => by
    by_cases hq : may s k = true ∧ 0 < Wt (s ||| 2 ^ k)
    · rw [lkF_y hq] at h ⊢
      unfold lkS at h ⊢
      by_cases h1 : jnB bg (co s k) (Lt (s ||| 2 ^ k)) < (lkF may co bg Lt Wt s k).1
      · rw [if_pos h1]; exact ⟨k, Nat.lt_succ_self k, hq.1, hq.2, rfl⟩
      · rw [if_neg h1] at h ⊢
        by_cases h2 : jnB bg (co s k) (Lt (s ||| 2 ^ k)) = (lkF may co bg Lt Wt s k).1
        · rw [if_pos h2]; exact ⟨k, Nat.lt_succ_self k, hq.1, hq.2, h2⟩
        · rw [if_neg h2] at h ⊢
          obtain ⟨i, hi, hr⟩ := lkF_ex k h
          exact ⟨i, Nat.lt_succ_of_lt hi, hr⟩
    · rw [lkF_n hq] at h ⊢
      obtain ⟨i, hi, hr⟩ := lkF_ex k h
      exact ⟨i, Nat.lt_succ_of_lt hi, hr⟩
def fwB (may : Nat → Nat → Bool) (co : Nat → Nat → Int) (bg : Bool) (Lt : Nat → Int) (Wt : Nat → Nat) (s : Nat) (lim : Int) (i : Nat) : Bool := may s i && decide (0 < Wt (s ||| 2 ^ i)) && decide (jnB bg (co s i) (Lt (s ||| 2 ^ i)) ≤ lim)
theorem fwB_P {may : Nat → Nat → Bool} {co : Nat → Nat → Int} {bg : Bool} {Lt : Nat → Int} {Wt : Nat → Nat} {s : Nat} {lim : Int} {i : Nat} : fwB may co bg Lt Wt s lim i = true ↔ fwP may co bg Lt Wt s lim i := by
  unfold fwB fwP
  rw [Bool.and_eq_true, Bool.and_eq_true, decide_eq_true_iff, decide_eq_true_iff, and_assoc]
/-- the first number below n with P, or n -/
def fsU (P : Nat → Bool) (n : Nat) : Nat → Nat
  | 0 => n
  | m + 1 => if P (n - (m + 1)) = true then n - (m + 1) else fsU P n m
theorem fsU_y {P : Nat → Bool} {n k : Nat} (hk : k < n) (hp : P k = true) (hj : ∀ j, j < k → ¬ P j = true) : ∀ m, m ≤ n → n - m ≤ k → fsU P n m = k
  | 0, _, h => by omega
  | m + 1, hm, h => by
    rw [fsU]
    by_cases e : n - (m + 1) = k
    · rw [e, if_pos hp]
    · rw [if_neg (hj _ (by omega))]
      exact fsU_y hk hp hj m (by omega) (by omega)

/-- what is still to come of a table T, weighed by W, from the set t on -/
def pot (N t : Nat) (T W : Nat → Nat) : Nat := sN N (fun s => if t ≤ s then T s * W s else 0)
theorem pot_next {N t : Nat} {T W : Nat → Nat} (ht : t < N) : pot N t T W = pot N (t + 1) T W + T t * W t := by
  unfold pot
  have h := sN_one (F := fun s => if t + 1 ≤ s then T s * W s else 0) (G := fun s => if t ≤ s then T s * W s else 0) (u := t) (d := T t * W t) (by
    rw [if_pos (Nat.le_refl _), if_neg (by omega), Nat.zero_add]) (fun i hi => by
    by_cases h1 : t ≤ i
    · rw [if_pos h1, if_pos (by omega)]
    · rw [if_neg h1, if_neg (by omega)]) N
  rw [h, if_pos ht]
theorem pot_add {N t u d : Nat} {T T' W : Nat → Nat} (hu : t ≤ u) (huN : u < N) (h1 : T' u = T u + d) (h2 : ∀ i, i ≠ u → T' i = T i) : pot N t T' W = pot N t T W + d * W u := by
  unfold pot
  have h := sN_one (F := fun s => if t ≤ s then T s * W s else 0) (G := fun s => if t ≤ s then T' s * W s else 0) (u := u) (d := d * W u) (by
    rw [if_pos hu, if_pos hu, h1, Nat.add_mul]) (fun i hi => by rw [h2 i hi]) N
  rw [h, if_pos huN]
theorem pot_at {N t s : Nat} {T W : Nat → Nat} (ht : t ≤ s) (hs : s < N) : T s * W s ≤ pot N t T W := by
  have h := sN_at (F := fun s => if t ≤ s then T s * W s else 0) N hs
  rw [if_pos ht] at h
  exact h
theorem pot_end {N t : Nat} {T W : Nat → Nat} (ht : N ≤ t) : pot N t T W = 0 := by
  unfold pot
  have : ∀ k, k ≤ N → sN k (fun s => if t ≤ s then T s * W s else 0) = 0 := by
    intro k
    induction k with
    | zero => intro _; rfl
    | succ k ih => intro hk; rw [sN_s, ih (by omega), if_neg (by omega)]
  exact this N (Nat.le_refl _)
theorem pot_0 {N : Nat} {W : Nat → Nat} (hN : 0 < N) : pot N 0 (fun s => if s = 0 then 1 else 0) W = W 0 := by
  unfold pot
  have : ∀ k, sN (k + 1) (fun s => if 0 ≤ s then (if s = 0 then 1 else 0) * W s else 0) = W 0 := by
    intro k
    induction k with
    | zero => simp [sN]
    | succ k ih => rw [sN_s, ih]; simp
  obtain ⟨k, rfl⟩ : ∃ k, N = k + 1 := ⟨N - 1, by omega⟩
  exact this k
theorem sN_cst {F : Nat → Nat} {c : Nat} : ∀ k, (∀ i, i < k → F i ≤ c) → sN k F ≤ k * c
  | 0, _ => by simp [sN]
  | k + 1, h => by
    have h1 := sN_cst (F := F) (c := c) k (fun i hi => h i (by omega))
    have h2 := h k (by omega)
    rw [sN_s, Nat.succ_mul]; omega
/-- a weight that is never too small -/
def vW (n s : Nat) : Nat := 8 ^ (n - bc s n)
theorem vW_step {al : Nat → Nat → Bool} {n s : Nat} (hn : n ≤ 8) (hal : ∀ i, al s i = true → ¬ s.testBit i = true) (hs : s < 2 ^ n - 1) : sN n (fun i => if al s i = true then vW n (s ||| 2 ^ i) else 0) ≤ vW n s := by
  have h1 := bc_lt hs
  have h2 : vW n s = 8 * 8 ^ (n - bc s n - 1) := by
    unfold vW
    rw [show n - bc s n = (n - bc s n - 1) + 1 by omega, Nat.pow_succ, Nat.mul_comm]
    simp
  have h3 := sN_cst (F := fun i => if al s i = true then vW n (s ||| 2 ^ i) else 0) (c := 8 ^ (n - bc s n - 1)) n (fun i hi => by
    by_cases ha : al s i = true
    · rw [if_pos ha]
      unfold vW
      rw [bc_or (hal i ha) hi, show n - (bc s n + 1) = n - bc s n - 1 by omega]
      exact Nat.le_refl _
    · rw [if_neg ha]; exact Nat.zero_le _)
  have h4 : n * 8 ^ (n - bc s n - 1) ≤ 8 * 8 ^ (n - bc s n - 1) := Nat.mul_le_mul_right _ hn
  omega
theorem vW_1 (n s : Nat) : 1 ≤ vW n s := Nat.one_le_pow _ _ (by decide)
theorem vW_0 {n : Nat} (h : n ≤ 8) : vW n 0 ≤ 16777216 := by
  unfold vW
  have h1 : 8 ^ (n - bc 0 n) ≤ 8 ^ 8 := Nat.pow_le_pow_right (by decide) (by omega)
  omega

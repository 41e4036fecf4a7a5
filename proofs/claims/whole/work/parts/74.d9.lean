set_option maxRecDepth 100000 in
set_option maxHeartbeats 4000000 in
theorem s_fill (l : Launch) (z : Zv) (d : Nat) {g : Gm} {f : Fm} {a n : Nat} {v : Int} (hA : isA g a 11 n) (hn : n ≤ 1000000) : PM l z d mJ7_fill_53178 [.ref a, .int (iI v)] g f 0 0 (fun r g' f' => r = none ∧ g = g' ∧ (∀ b, b ≠ a → f' b = f b) ∧ ∀ i, i < n → f' a i = v) := by
  refine PM.ofF (by decide +kernel) (Nat.le_of_ble_eq_true rfl) ?_
  have loop : ∀ m i : Nat, m = n - i → i ≤ n → ∀ f1 : Fm, (∀ b, b ≠ a → f1 b = f b) → (∀ q, q < i → f1 a q = v) → PW l z d mJ7_fill_53178 0 0 (fun r g' f' => r = none ∧ g = g' ∧ (∀ b, b ≠ a → f' b = f b) ∧ ∀ i, i < n → f' a i = v) 5 [(2, (.int (iI (((i : Nat) : Int))))), (3, (.int (iI (((n : Nat) : Int))))), (0, (.ref a)), (1, (.int (iI (v))))] [] g f1 0 0 := by
    intro m
    induction m using Nat.strongRecOn with
    | _ m ih =>
      intro i hm hi f1 h1 h2
      refine r_iload_n (pc := 5) 0 dJ7_fill_53178_5 rfl rfl ?_
      refine r_iload_n (pc := 6) 1 dJ7_fill_53178_6 rfl rfl ?_
      refine r_icmp_ge (pc := 7) (tgt := 20) dJ7_fill_53178_7 (by decide) (by omega) (by omega) (fun c_7 => ?_) (fun c_7 => ?_)
      · have hin : i = n := by omega
        subst hin
        exact r_vret (pc := 20) dJ7_fill_53178_20 rfl ⟨rfl, rfl, h1, h2⟩
      · refine r_aload_n (pc := 10) 2 dJ7_fill_53178_10 rfl rfl ?_
        refine r_iload_n (pc := 11) 0 dJ7_fill_53178_11 rfl rfl ?_
        refine r_iload_n (pc := 12) 3 dJ7_fill_53178_12 rfl rfl ?_
        refine r_iastv (pc := 13) (i := i) dJ7_fill_53178_13 hA (by omega) (by omega) rfl ?_
        refine r_iincv (pc := 14) (y := ((i + 1 : Nat) : Int)) (L2 := [(2, (.int (iI (((i + 1 : Nat) : Int))))), (3, (.int (iI (((n : Nat) : Int))))), (0, (.ref a)), (1, (.int (iI (v))))]) 0 dJ7_fill_53178_14 rfl (by omega) (by decide) rfl ?_
        refine r_goto (pc := 17) (tgt := 5) dJ7_fill_53178_17 (by decide) ?_
        refine r_sub (L2 := [(2, (.int (iI (((i + 1 : Nat) : Int))))), (3, (.int (iI (((n : Nat) : Int))))), (0, (.ref a)), (1, (.int (iI (v))))]) [0, 1, 2, 3] rfl ?_
        exact ih (n - (i + 1)) (by omega) (i + 1) (by omega) (by omega) _ (fun b hb => by rw [stF_n _ _ _ hb]; exact h1 b hb) (fun q hq => by rcases (show q < i ∨ q = i by omega) with h | rfl; exact rdi (by omega) (h2 q h); exact stF_s _ _ _ _)
  refine r_iconst (pc := 0) dJ7_fill_53178_0 ?_
  refine r_istore_n (pc := 1) (L2 := [(2, (.int (iI (0)))), (0, (.ref a)), (1, (.int (iI (v))))]) dJ7_fill_53178_1 rfl (by decide) rfl ?_
  refine r_aload_n (pc := 2) 1 dJ7_fill_53178_2 rfl rfl ?_
  refine r_alen (pc := 3) (n := n) dJ7_fill_53178_3 hA (Or.inl rfl) ?_
  refine r_istore_n (pc := 4) (L2 := [(3, (.int (iI (((n : Nat) : Int))))), (2, (.int (iI (0)))), (0, (.ref a)), (1, (.int (iI (v))))]) dJ7_fill_53178_4 rfl (by decide) rfl ?_
  refine r_sub (L2 := [(2, (.int (iI (((0 : Nat) : Int))))), (3, (.int (iI (((n : Nat) : Int))))), (0, (.ref a)), (1, (.int (iI (v))))]) [1, 0, 2, 3] rfl ?_
  exact loop n 0 (by omega) (by omega) f (fun _ _ => rfl) (fun i hi => absurd hi (by omega))

/-! Sums, sets of bits, and in how many ways a set can be made full step by step. -/
def sN : Nat → (Nat → Nat) → Nat
  | 0, _ => 0
  | k + 1, F => sN k F + F k
theorem sN_s (k : Nat) (F : Nat → Nat) : sN (k + 1) F = sN k F + F k := rfl
theorem sN_congr {F G : Nat → Nat} : ∀ k, (∀ i, i < k → F i = G i) → sN k F = sN k G
  | 0, _ => rfl
  | k + 1, h => by rw [sN_s, sN_s, sN_congr k (fun i hi => h i (by omega)), h k (by omega)]
theorem sN_le {F G : Nat → Nat} : ∀ k, (∀ i, i < k → F i ≤ G i) → sN k F ≤ sN k G
  | 0, _ => Nat.le_refl _
  | k + 1, h => by
    have h1 := sN_le k (fun i hi => h i (by omega))
    have h2 := h k (by omega)
    rw [sN_s, sN_s]; omega
theorem sN_at {F : Nat → Nat} {i : Nat} : ∀ k, i < k → F i ≤ sN k F
  | 0, h => absurd h (by omega)
  | k + 1, h => by
    rw [sN_s]
    rcases (show i < k ∨ i = k by omega) with q | rfl
    · have := sN_at (F := F) k q
      omega
    · omega
/-- one place of a sum is d more -/
theorem sN_one {F G : Nat → Nat} {u d : Nat} (hu : G u = F u + d) (ho : ∀ i, i ≠ u → G i = F i) : ∀ k, sN k G = sN k F + if u < k then d else 0
  | 0 => by simp [sN]
  | k + 1 => by
    rw [sN_s, sN_s, sN_one hu ho k]
    by_cases h : k = u
    · subst h
      rw [hu, if_neg (Nat.lt_irrefl _), if_pos (Nat.lt_succ_self _)]; omega
    · rw [ho k h]
      by_cases h2 : u < k
      · rw [if_pos h2, if_pos (show u < k + 1 by omega)]; omega
      · rw [if_neg h2, if_neg (show ¬ u < k + 1 by omega)]; omega
def bc (s n : Nat) : Nat := lvN (fun _ => 1) s n
theorem lv_or1 {wa : Nat → Nat} {s c : Nat} (hs : ¬ s.testBit c = true) : ∀ j, lvN wa (s ||| 2 ^ c) j = lvN wa s j + if c < j then wa c else 0
  | 0 => by simp [lvN]
  | j + 1 => by
    have ih := lv_or1 (wa := wa) hs j
    rw [lvN_s, lvN_s, ih]
    by_cases hj : j = c
    · subst hj
      have h1 : (s ||| 2 ^ j).testBit j = true := by rw [Nat.testBit_or, Nat.testBit_two_pow_self]; simp
      rw [if_pos h1, if_neg hs, if_neg (Nat.lt_irrefl _), if_pos (Nat.lt_succ_self _)]
    · have h1 : (s ||| 2 ^ c).testBit j = s.testBit j := by rw [Nat.testBit_or, Nat.testBit_two_pow_of_ne (Ne.symm hj)]; simp
      rw [h1]
      by_cases hc : c < j
      · rw [if_pos hc, if_pos (show c < j + 1 by omega)]; omega
      · rw [if_neg hc, if_neg (show ¬ c < j + 1 by omega)]; omega
theorem bc_or {s c n : Nat} (hs : ¬ s.testBit c = true) (hc : c < n) : bc (s ||| 2 ^ c) n = bc s n + 1 := by
  unfold bc
  rw [lv_or1 hs, if_pos hc]
theorem bc_le (s : Nat) : ∀ n, bc s n ≤ n
  | 0 => Nat.le_refl _
  | n + 1 => by
    have := bc_le s n
    unfold bc at this ⊢
    rw [lvN_s]
    split <;> omega
theorem bc_full {s : Nat} : ∀ n, bc s n = n → ∀ k, k < n → s.testBit k = true
  | 0, _, k, hk => absurd hk (by omega)
  | n + 1, h, k, hk => by
    have h1 := bc_le s n
    unfold bc at h h1
    rw [lvN_s] at h
    split at h
    · rename_i hb
      rcases (show k < n ∨ k = n by omega) with q | rfl
      · exact bc_full n (by unfold bc; omega) k q
      · exact hb
    · omega
theorem bc_lt {s n : Nat} (hs : s < 2 ^ n - 1) : bc s n < n := by
  have h1 := bc_le s n
  rcases (show bc s n < n ∨ bc s n = n by omega) with q | q
  · exact q
  · exfalso
    have h2 := bc_full n q
    have h3 : s = 2 ^ n - 1 := by
      apply Nat.eq_of_testBit_eq
      intro i
      rw [Nat.testBit_two_pow_sub_one]
      by_cases hi : i < n
      · rw [h2 i hi, decide_eq_true hi]
      · rw [decide_eq_false hi]
        exact Nat.testBit_lt_two_pow (Nat.lt_of_lt_of_le (show s < 2 ^ n by omega) (Nat.pow_le_pow_right (by decide) (by omega)))
    omega
theorem bc_all (n : Nat) : bc (2 ^ n - 1) n = n := by
  have h : ∀ j, j ≤ n → bc (2 ^ n - 1) j = j := by
    intro j
    induction j with
    | zero => intro _; rfl
    | succ j ih =>
      intro hj
      have := ih (by omega)
      unfold bc at this ⊢
      rw [lvN_s, this, if_pos (by rw [Nat.testBit_two_pow_sub_one, decide_eq_true (by omega)])]
  exact h n (Nat.le_refl _)
/-- in how many ways k steps more can be made from s -/
def cn (al : Nat → Nat → Bool) (n : Nat) : Nat → Nat → Nat
  | 0, _ => 1
  | k + 1, s => sN n (fun i => if al s i = true then cn al n k (s ||| 2 ^ i) else 0)
/-- in how many ways s can be made full -/
def cW (al : Nat → Nat → Bool) (n s : Nat) : Nat := cn al n (n - bc s n) s
theorem cW_all (al : Nat → Nat → Bool) (n : Nat) : cW al n (2 ^ n - 1) = 1 := by
  unfold cW
  rw [bc_all, Nat.sub_self]
  rfl
theorem cW_step {al : Nat → Nat → Bool} {n s : Nat} (hal : ∀ i, al s i = true → ¬ s.testBit i = true) (hs : s < 2 ^ n - 1) : cW al n s = sN n (fun i => if al s i = true then cW al n (s ||| 2 ^ i) else 0) := by
  have h1 := bc_lt hs
  unfold cW
  rw [show n - bc s n = (n - bc s n - 1) + 1 by omega, cn]
  apply sN_congr
  intro i hi
  by_cases ha : al s i = true
  · rw [if_pos ha, if_pos ha, bc_or (hal i ha) hi]
    congr 1
  · rw [if_neg ha, if_neg ha]

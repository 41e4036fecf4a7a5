/-! Sums over the parts of a set, and back. -/
def zZ (σ : Int) (i : Nat) (u : Nat → Int) (s : Nat) : Int := u s + (if s.testBit i = true then σ * u (xb s i) else 0)
def zT (σ : Int) (u : Nat → Int) : Nat → Nat → Int
  | 0 => u
  | i + 1 => zZ σ i (zT σ u i)
theorem zT_s (σ : Int) (u : Nat → Int) (i : Nat) : zT σ u (i + 1) = zZ σ i (zT σ u i) := rfl
theorem xb_ne {s i j : Nat} (h : i ≠ j) : (xb s i).testBit j = s.testBit j := by rw [xb_bit]; simp [h]
theorem xb_comm (s i j : Nat) : xb (xb s i) j = xb (xb s j) i := by
  apply Nat.eq_of_testBit_eq
  intro k
  rw [xb_bit, xb_bit, xb_bit, xb_bit]
  cases s.testBit k <;> cases decide (i = k) <;> cases decide (j = k) <;> rfl
theorem xb_xb (s i : Nat) : xb (xb s i) i = s := by
  apply Nat.eq_of_testBit_eq
  intro k
  rw [xb_bit, xb_bit]
  cases s.testBit k <;> cases decide (i = k) <;> rfl
theorem zZ_comm {σ τ : Int} {i j : Nat} (h : i ≠ j) (u : Nat → Int) : zZ σ i (zZ τ j u) = zZ τ j (zZ σ i u) := by
  funext s
  unfold zZ
  rw [xb_ne h, xb_ne (Ne.symm h), xb_comm s i j]
  by_cases h1 : s.testBit i = true
  · by_cases h2 : s.testBit j = true
    · simp only [if_pos h1, if_pos h2]
      have e : σ * (τ * u (xb (xb s j) i)) = τ * (σ * u (xb (xb s j) i)) := by rw [← Int.mul_assoc, ← Int.mul_assoc, Int.mul_comm σ τ]
      rw [Int.mul_add, Int.mul_add, e]
      omega
    · simp only [if_pos h1, if_neg h2, Int.add_zero]
  · by_cases h2 : s.testBit j = true
    · simp only [if_neg h1, if_pos h2, Int.add_zero]
    · simp only [if_neg h1, if_neg h2]
theorem zZ_inv (i : Nat) (u : Nat → Int) : zZ (-1) i (zZ 1 i u) = u := by
  funext s
  unfold zZ
  by_cases h1 : s.testBit i = true
  · have h2 : ¬ (xb s i).testBit i = true := xb_n h1
    rw [if_pos h1, if_pos h1, if_neg h2]
    omega
  · rw [if_neg h1, if_neg h1]
    omega
theorem zT_comm {σ τ : Int} {j : Nat} (u : Nat → Int) : ∀ i, i ≤ j → zZ τ j (zT σ u i) = zT σ (zZ τ j u) i
  | 0, _ => rfl
  | i + 1, h => by rw [zT_s, zT_s, ← zT_comm u i (by omega), zZ_comm (by omega)]
theorem zT_out {σ τ : Int} {i : Nat} (u : Nat → Int) : ∀ n, n ≤ i → zT σ (zZ τ i u) n = zZ τ i (zT σ u n) := fun n h => (zT_comm u n h).symm
theorem zT_inv (u : Nat → Int) : ∀ n, zT (-1) (zT 1 u n) n = u
  | 0 => rfl
  | n + 1 => by
    rw [zT_s, zT_s, ← zT_comm (zT 1 u n) n (Nat.le_refl _), zZ_inv]
    exact zT_inv u n
/-- t is a part of s -/
def subB (t s : Nat) : Bool := decide (t ||| s = s)
theorem subB_iff {t s : Nat} : subB t s = true ↔ ∀ k, t.testBit k = true → s.testBit k = true := by
  unfold subB
  rw [decide_eq_true_iff]
  constructor
  · intro h k hk
    rw [← h, Nat.testBit_or, hk]; rfl
  · intro h
    apply Nat.eq_of_testBit_eq
    intro k
    rw [Nat.testBit_or]
    by_cases hk : t.testBit k = true
    · rw [hk, h k hk]; rfl
    · simp [hk]
def iS (n : Nat) (F : Nat → Int) : Int := sumN (2 ^ n) F
theorem sumN_split (F : Nat → Int) (a : Nat) : ∀ b, sumN (a + b) F = sumN a F + sumN b (fun i => F (a + i))
  | 0 => by simp only [sumN]; rw [Int.add_zero]; rfl
  | b + 1 => by rw [← Nat.add_assoc]; simp only [sumN]; rw [sumN_split F a b]; omega
theorem sumN_z {F : Nat → Int} : ∀ k, (∀ i, i < k → F i = 0) → sumN k F = 0
  | 0, _ => rfl
  | k + 1, h => by simp only [sumN]; rw [sumN_z k (fun i hi => h i (by omega)), h k (by omega)]; rfl
theorem zT_hi {σ : Int} {u : Nat → Int} {n : Nat} : ∀ i, i ≤ n → ∀ s, s < 2 ^ n → zT σ u i (2 ^ n + s) = zT σ (fun t => u (2 ^ n + t)) i s
  | 0, _, _, _ => rfl
  | i + 1, h, s, hs => by
    rw [zT_s, zT_s]
    unfold zZ
    rw [pow_bit hs (by omega), pow_xb hs (by omega), zT_hi i (by omega) s hs, zT_hi i (by omega) (xb s i) (xb_lt hs (by omega))]
theorem sub_lo {n t s : Nat} (ht : t < 2 ^ n) (hs : s < 2 ^ n) : subB t (2 ^ n + s) = subB t s := by
  rw [Bool.eq_iff_iff, subB_iff, subB_iff]
  constructor
  · intro h k hk
    have hkn : k < n := by
      rcases (show k < n ∨ n ≤ k by omega) with q | q
      · exact q
      · rw [Nat.testBit_lt_two_pow (Nat.lt_of_lt_of_le ht (Nat.pow_le_pow_right (by decide) q))] at hk; exact absurd hk (by decide)
    have := h k hk
    rw [pow_bit hs hkn] at this
    exact this
  · intro h k hk
    have hkn : k < n := by
      rcases (show k < n ∨ n ≤ k by omega) with q | q
      · exact q
      · rw [Nat.testBit_lt_two_pow (Nat.lt_of_lt_of_le ht (Nat.pow_le_pow_right (by decide) q))] at hk; exact absurd hk (by decide)
    rw [pow_bit hs hkn]
    exact h k hk
theorem sub_hh {n t s : Nat} (ht : t < 2 ^ n) (hs : s < 2 ^ n) : subB (2 ^ n + t) (2 ^ n + s) = subB t s := by
  rw [Bool.eq_iff_iff, subB_iff, subB_iff]
  constructor
  · intro h k hk
    have hkn : k < n := by
      rcases (show k < n ∨ n ≤ k by omega) with q | q
      · exact q
      · rw [Nat.testBit_lt_two_pow (Nat.lt_of_lt_of_le ht (Nat.pow_le_pow_right (by decide) q))] at hk; exact absurd hk (by decide)
    have := h k (by rw [pow_bit ht hkn]; exact hk)
    rw [pow_bit hs hkn] at this
    exact this
  · intro h k hk
    rcases (show k < n ∨ k = n ∨ n < k by omega) with q | q | q
    · rw [pow_bit hs q]; rw [pow_bit ht q] at hk; exact h k hk
    · rw [q]; exact pow_top hs
    · exfalso
      rw [Nat.testBit_lt_two_pow (Nat.lt_of_lt_of_le (show 2 ^ n + t < 2 ^ (n + 1) by rw [Nat.pow_succ]; omega) (Nat.pow_le_pow_right (by decide) q))] at hk
      exact absurd hk (by decide)
theorem sub_hl {n t s : Nat} (ht : t < 2 ^ n) (hs : s < 2 ^ n) : ¬ subB (2 ^ n + t) s = true := by
  intro h
  have := (subB_iff.mp h) n (pow_top ht)
  rw [Nat.testBit_lt_two_pow hs] at this
  exact absurd this (by decide)
theorem zT_sum : ∀ n (u : Nat → Int) s, s < 2 ^ n → zT 1 u n s = iS n (fun t => if subB t s = true then u t else 0)
  | 0, u, s, hs => by
    rw [show s = 0 by rw [Nat.pow_zero] at hs; omega]
    unfold iS
    simp only [Nat.pow_zero, sumN]
    rw [if_pos (by decide), Int.zero_add]
    rfl
  | n + 1, u, s, hs => by
    have e2 : 2 ^ (n + 1) = 2 ^ n + 2 ^ n := by rw [Nat.pow_succ]; omega
    unfold iS
    rw [e2, sumN_split, zT_s]
    unfold zZ
    rcases (show s < 2 ^ n ∨ 2 ^ n ≤ s by omega) with q | q
    · rw [if_neg (by rw [Nat.testBit_lt_two_pow q]; decide), Int.add_zero, zT_sum n u s q]
      have z : sumN (2 ^ n) (fun i => if subB (2 ^ n + i) s = true then u (2 ^ n + i) else 0) = 0 := sumN_z _ (fun t ht => if_neg (sub_hl ht q))
      rw [z, Int.add_zero]
      rfl
    · obtain ⟨s', rfl⟩ : ∃ s', s = 2 ^ n + s' := ⟨s - 2 ^ n, by omega⟩
      have hs' : s' < 2 ^ n := by omega
      rw [if_pos (pow_top hs'), pow_xt hs', zT_hi n (Nat.le_refl _) s' hs', zT_sum n _ s' hs', zT_sum n u s' hs', Int.one_mul, Int.add_comm]
      unfold iS
      congr 1
      · exact sumN_c _ (fun t ht => by rw [sub_lo ht hs'])
      · exact sumN_c _ (fun t ht => by show _ = if subB (2 ^ n + t) (2 ^ n + s') = true then u (2 ^ n + t) else 0; rw [sub_hh ht hs'])
theorem sumN_mul (F : Nat → Int) (c : Int) : ∀ k, sumN k (fun i => c * F i) = c * sumN k F
  | 0 => by simp only [sumN]; rw [Int.mul_zero]
  | k + 1 => by simp only [sumN]; rw [sumN_mul F c k, Int.mul_add]
theorem sumN_mulr (F : Nat → Int) (c : Int) : ∀ k, sumN k (fun i => F i * c) = sumN k F * c
  | 0 => by simp only [sumN]; rw [Int.zero_mul]
  | k + 1 => by simp only [sumN]; rw [sumN_mulr F c k, Int.add_mul]
/-- in how many ways s is a union -/
def cvP (n : Nat) (u v : Nat → Int) (s : Nat) : Int := iS n (fun t1 => iS n (fun t2 => if t1 ||| t2 = s then u t1 * v t2 else 0))
theorem sub_or {a b s : Nat} : subB (a ||| b) s = (subB a s && subB b s) := by
  rw [Bool.eq_iff_iff, Bool.and_eq_true, subB_iff, subB_iff, subB_iff]
  constructor
  · intro h
    exact ⟨fun k hk => h k (by rw [Nat.testBit_or, hk]; rfl), fun k hk => h k (by rw [Nat.testBit_or, hk]; simp)⟩
  · rintro ⟨h1, h2⟩ k hk
    rw [Nat.testBit_or, Bool.or_eq_true] at hk
    rcases hk with hk | hk
    · exact h1 k hk
    · exact h2 k hk
theorem zT_cv {n : Nat} (u v : Nat → Int) {s : Nat} (hs : s < 2 ^ n) : zT 1 (cvP n u v) n s = zT 1 u n s * zT 1 v n s := by
  rw [zT_sum n _ s hs, zT_sum n u s hs, zT_sum n v s hs]
  unfold cvP iS
  rw [← sumN_mulr]
  have e1 : ∀ w, w < 2 ^ n → (if subB w s = true then sumN (2 ^ n) (fun t1 => sumN (2 ^ n) (fun t2 => if t1 ||| t2 = w then u t1 * v t2 else 0)) else 0) = sumN (2 ^ n) (fun t1 => sumN (2 ^ n) (fun t2 => if t1 ||| t2 = w then (if subB (t1 ||| t2) s = true then u t1 * v t2 else 0) else 0)) := by
    intro w _
    by_cases h : subB w s = true
    · rw [if_pos h]
      refine sumN_c _ (fun t1 _ => sumN_c _ (fun t2 _ => ?_))
      by_cases e : t1 ||| t2 = w
      · rw [if_pos e, if_pos e, e, if_pos h]
      · rw [if_neg e, if_neg e]
    · rw [if_neg h]
      have z : ∀ t1, sumN (2 ^ n) (fun t2 => if t1 ||| t2 = w then (if subB (t1 ||| t2) s = true then u t1 * v t2 else 0) else 0) = 0 := by
        intro t1
        refine sumN_z _ (fun t2 _ => ?_)
        by_cases e : t1 ||| t2 = w
        · rw [if_pos e, e, if_neg h]
        · rw [if_neg e]
      exact (sumN_z _ (fun t1 _ => z t1)).symm
  rw [sumN_c _ e1, sumN_swap (fun w t1 => sumN (2 ^ n) (fun t2 => if t1 ||| t2 = w then (if subB (t1 ||| t2) s = true then u t1 * v t2 else 0) else 0)) (2 ^ n) (2 ^ n)]
  refine sumN_c _ (fun t1 h1 => ?_)
  rw [sumN_swap (fun w t2 => if t1 ||| t2 = w then (if subB (t1 ||| t2) s = true then u t1 * v t2 else 0) else 0) (2 ^ n) (2 ^ n), ← sumN_mul]
  refine sumN_c _ (fun t2 h2 => ?_)
  rw [sumN_one (2 ^ n), if_pos (Nat.or_lt_two_pow h1 h2), sub_or]
  by_cases a : subB t1 s = true
  · by_cases b : subB t2 s = true
    · simp [a, b]
    · rw [if_neg (by simp [b]), if_neg b, Int.mul_zero]
  · rw [if_neg (by simp [a]), if_neg a, Int.zero_mul]
theorem zT_c {σ : Int} {u v : Nat → Int} {n : Nat} (h : ∀ s, s < 2 ^ n → u s = v s) : ∀ i, i ≤ n → ∀ s, s < 2 ^ n → zT σ u i s = zT σ v i s
  | 0, _, s, hs => h s hs
  | i + 1, hi, s, hs => by
    rw [zT_s, zT_s]
    unfold zZ
    rw [zT_c h i (by omega) s hs, zT_c h i (by omega) _ (xb_lt hs (by omega))]
/-- the pairs of parts multiplied, and back: the unions -/
theorem zT_uni {n : Nat} (u v : Nat → Int) {s : Nat} (hs : s < 2 ^ n) : zT (-1) (fun t => zT 1 u n t * zT 1 v n t) n s = cvP n u v s := by
  rw [zT_c (v := zT 1 (cvP n u v) n) (fun t ht => (zT_cv u v ht).symm) n (Nat.le_refl _) s hs, zT_inv]
theorem sumN_nn {F : Nat → Int} : ∀ k, (∀ i, i < k → 0 ≤ F i) → 0 ≤ sumN k F
  | 0, _ => Int.le_refl _
  | k + 1, h => by
    have := sumN_nn k (fun i hi => h i (by omega))
    have := h k (by omega)
    simp only [sumN]
    omega
theorem sumN_nz {F : Nat → Int} : ∀ k, (∀ i, i < k → 0 ≤ F i) → (sumN k F ≠ 0 ↔ ∃ i, i < k ∧ F i ≠ 0)
  | 0, _ => by simp only [sumN]; constructor; (intro h; exact absurd rfl h); (rintro ⟨i, hi, _⟩; exact absurd hi (by omega))
  | k + 1, h => by
    have h1 := sumN_nn k (fun i hi => h i (by omega))
    have h2 := h k (by omega)
    have ih := sumN_nz k (fun i hi => h i (by omega))
    simp only [sumN]
    constructor
    · intro e
      by_cases hk : F k = 0
      · obtain ⟨i, hi, hf⟩ := ih.mp (by omega)
        exact ⟨i, by omega, hf⟩
      · exact ⟨k, by omega, hk⟩
    · rintro ⟨i, hi, hf⟩
      rcases (show i < k ∨ i = k by omega) with q | q
      · have := ih.mpr ⟨i, q, hf⟩; omega
      · subst q; omega
theorem sumN_le {F : Nat → Int} {c : Int} : ∀ k, (∀ i, i < k → F i ≤ c) → sumN k F ≤ (k : Int) * c
  | 0, _ => by simp only [sumN]; omega
  | k + 1, h => by
    have h1 := sumN_le k (fun i hi => h i (by omega))
    have h2 := h k (by omega)
    simp only [sumN]
    have e : ((k + 1 : Nat) : Int) * c = (k : Int) * c + c := by rw [Int.natCast_add, Int.add_mul]; omega
    omega
/-- families of sets as 0 and 1 -/
def fI (U : Nat → Bool) (s : Nat) : Int := if U s = true then 1 else 0
theorem cvP_nz {n : Nat} {U V : Nat → Bool} {s : Nat} : cvP n (fI U) (fI V) s ≠ 0 ↔ ∃ t1, t1 < 2 ^ n ∧ ∃ t2, t2 < 2 ^ n ∧ U t1 = true ∧ V t2 = true ∧ t1 ||| t2 = s := by
  have nn : ∀ t1 t2, 0 ≤ (if t1 ||| t2 = s then fI U t1 * fI V t2 else 0) := by
    intro t1 t2
    unfold fI
    split
    · cases U t1 <;> cases V t2 <;> decide
    · decide
  unfold cvP iS
  rw [sumN_nz _ (fun t1 _ => sumN_nn _ (fun t2 _ => nn t1 t2))]
  constructor
  · rintro ⟨t1, h1, h2⟩
    rw [sumN_nz _ (fun t2 _ => nn t1 t2)] at h2
    obtain ⟨t2, h3, h4⟩ := h2
    refine ⟨t1, h1, t2, h3, ?_⟩
    by_cases e : t1 ||| t2 = s
    · rw [if_pos e] at h4
      unfold fI at h4
      by_cases a : U t1 = true
      · by_cases b : V t2 = true
        · exact ⟨a, b, e⟩
        · rw [if_neg b, Int.mul_zero] at h4; exact absurd rfl h4
      · rw [if_neg a, Int.zero_mul] at h4; exact absurd rfl h4
    · rw [if_neg e] at h4; exact absurd rfl h4
  · rintro ⟨t1, h1, t2, h2, a, b, e⟩
    refine ⟨t1, h1, ?_⟩
    rw [sumN_nz _ (fun t2 _ => nn t1 t2)]
    refine ⟨t2, h2, ?_⟩
    unfold fI
    rw [if_pos e, if_pos a, if_pos b]
    decide
theorem cvP_r {n : Nat} {U V : Nat → Bool} {s : Nat} (hn : n ≤ 8) : 0 ≤ cvP n (fI U) (fI V) s ∧ cvP n (fI U) (fI V) s ≤ 65536 := by
  have nn : ∀ t1 t2, 0 ≤ (if t1 ||| t2 = s then fI U t1 * fI V t2 else 0) ∧ (if t1 ||| t2 = s then fI U t1 * fI V t2 else 0) ≤ 1 := by
    intro t1 t2
    unfold fI
    split
    · cases U t1 <;> cases V t2 <;> decide
    · decide
  have hp := pow8 hn
  unfold cvP iS
  refine ⟨sumN_nn _ (fun t1 _ => sumN_nn _ (fun t2 _ => (nn t1 t2).1)), ?_⟩
  have h1 := sumN_le (F := fun t1 => sumN (2 ^ n) (fun t2 => if t1 ||| t2 = s then fI U t1 * fI V t2 else 0)) (c := 256) (2 ^ n) (fun t1 _ => by
    have := sumN_le (F := fun t2 => if t1 ||| t2 = s then fI U t1 * fI V t2 else 0) (c := 1) (2 ^ n) (fun t2 _ => (nn t1 t2).2)
    show sumN (2 ^ n) (fun t2 => if t1 ||| t2 = s then fI U t1 * fI V t2 else 0) ≤ 256
    omega)
  omega

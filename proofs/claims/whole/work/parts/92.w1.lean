/-! Paths through the sets: how many lead to a set (aW), how many lead on from it (cW), and those with one step of a kind. -/
def xb (s i : Nat) : Nat := s ^^^ 2 ^ i
theorem xb_bit (s i j : Nat) : (xb s i).testBit j = (s.testBit j ^^ decide (i = j)) := by
  unfold xb
  rw [Nat.testBit_xor, Nat.testBit_two_pow]
theorem xb_or {s i : Nat} (h : s.testBit i = true) : xb s i ||| 2 ^ i = s := by
  apply Nat.eq_of_testBit_eq
  intro j
  rw [Nat.testBit_or, xb_bit, Nat.testBit_two_pow]
  by_cases e : i = j
  · subst e; simp [h]
  · simp [e]
theorem or_xb {s i : Nat} (h : ¬ s.testBit i = true) : xb (s ||| 2 ^ i) i = s := by
  apply Nat.eq_of_testBit_eq
  intro j
  rw [xb_bit, Nat.testBit_or, Nat.testBit_two_pow]
  by_cases e : i = j
  · subst e; simp [h]
  · simp [e]
theorem xb_n {s i : Nat} (h : s.testBit i = true) : ¬ (xb s i).testBit i = true := by
  rw [xb_bit]; simp [h]
theorem xb_lt {s i n : Nat} (hs : s < 2 ^ n) (hi : i < n) : xb s i < 2 ^ n := Nat.xor_lt_two_pow hs (Nat.pow_lt_pow_right (by decide) hi)
theorem xb_ndf {s i : Nat} (h : s.testBit i = true) : ndf s (2 ^ i) = xb s i := by
  apply Nat.eq_of_testBit_eq
  intro j
  rw [ndf_bit, xb_bit, Nat.testBit_two_pow]
  by_cases e : i = j
  · subst e; simp [h]
  · simp [e]
theorem xb_bc {s i n : Nat} (h : s.testBit i = true) (hi : i < n) : bc s n = bc (xb s i) n + 1 := by
  have := bc_or (n := n) (xb_n h) hi
  rw [xb_or h] at this
  exact this
theorem bc_0 : ∀ n, bc 0 n = 0
  | 0 => rfl
  | n + 1 => by have := bc_0 n; unfold bc at this ⊢; rw [lvN_s, this, if_neg (by simp)]
theorem bc_pos {s : Nat} : ∀ n, s < 2 ^ n → s ≠ 0 → 0 < bc s n := by
  intro n hs h0
  rcases Nat.eq_zero_or_pos (bc s n) with q | q
  · exfalso
    apply h0
    have : ∀ m, m ≤ n → bc s m = 0 → ∀ i, i < m → ¬ s.testBit i = true := by
      intro m
      induction m with
      | zero => intro _ _ i hi; exact absurd hi (by omega)
      | succ m ih =>
        intro hm hb i hi
        unfold bc at hb
        rw [lvN_s] at hb
        rcases (show i < m ∨ i = m by omega) with q | q
        · exact ih (by omega) (by unfold bc; omega) i q
        · subst q
          intro hb2
          rw [if_pos hb2] at hb
          omega
    apply Nat.eq_of_testBit_eq
    intro i
    rw [Nat.zero_testBit]
    by_cases hi : i < n
    · exact Bool.eq_false_iff.mpr (this n (Nat.le_refl _) q i hi)
    · exact Nat.testBit_lt_two_pow (Nat.lt_of_lt_of_le hs (Nat.pow_le_pow_right (by decide) (by omega)))
  · exact q
/-- the term of one step into s -/
def anT (may : Nat → Nat → Bool) (A : Nat → Nat) (s i : Nat) : Nat := if s.testBit i = true ∧ may (xb s i) i = true then A (xb s i) else 0
def an (may : Nat → Nat → Bool) (n : Nat) : Nat → Nat → Nat
  | 0, _ => 1
  | k + 1, s => sN n (anT may (an may n k) s)
def aW (may : Nat → Nat → Bool) (n s : Nat) : Nat := an may n (bc s n) s
theorem sN_0 {F : Nat → Nat} : ∀ k, (∀ i, i < k → F i = 0) → sN k F = 0
  | 0, _ => rfl
  | k + 1, h => by rw [sN_s, sN_0 k (fun i hi => h i (by omega)), h k (by omega)]
theorem aW_rec (may : Nat → Nat → Bool) {n s : Nat} (hs : s < 2 ^ n) : aW may n s = (if s = 0 then 1 else 0) + sN n (anT may (aW may n) s) := by
  by_cases h0 : s = 0
  · subst h0
    rw [if_pos rfl, sN_0 n (fun i _ => by unfold anT; rw [if_neg (by simp)])]
    unfold aW
    rw [bc_0]
    rfl
  · rw [if_neg h0, Nat.zero_add]
    have hp := bc_pos n hs h0
    unfold aW
    rw [show bc s n = (bc s n - 1) + 1 by omega, an]
    apply sN_congr
    intro i hi
    unfold anT
    by_cases hq : s.testBit i = true ∧ may (xb s i) i = true
    · rw [if_pos hq, if_pos hq, show bc s n - 1 = bc (xb s i) n by have := xb_bc (n := n) hq.1 hi; omega]
    · rw [if_neg hq, if_neg hq]
theorem an_r {may : Nat → Nat → Bool} {n : Nat} (hn : n ≤ 8) : ∀ k s, an may n k s ≤ 8 ^ k
  | 0, _ => Nat.le_refl _
  | k + 1, s => by
    rw [an]
    have h := sN_cst (F := anT may (an may n k) s) (c := 8 ^ k) n (fun i _ => by
      unfold anT
      split
      · exact an_r hn k _
      · exact Nat.zero_le _)
    rw [Nat.pow_succ, Nat.mul_comm]
    exact Nat.le_trans h (Nat.mul_le_mul_right _ hn)
theorem cn_r {al : Nat → Nat → Bool} {n : Nat} (hn : n ≤ 8) : ∀ k s, cn al n k s ≤ 8 ^ k
  | 0, _ => Nat.le_refl _
  | k + 1, s => by
    rw [cn]
    have h := sN_cst (F := fun i => if al s i = true then cn al n k (s ||| 2 ^ i) else 0) (c := 8 ^ k) n (fun i _ => by
      show (if al s i = true then cn al n k (s ||| 2 ^ i) else 0) ≤ 8 ^ k
      split
      · exact cn_r hn k _
      · exact Nat.zero_le _)
    rw [Nat.pow_succ, Nat.mul_comm]
    exact Nat.le_trans h (Nat.mul_le_mul_right _ hn)
theorem sN_add (F G : Nat → Nat) : ∀ k, sN k (fun i => F i + G i) = sN k F + sN k G
  | 0 => rfl
  | k + 1 => by rw [sN_s, sN_s, sN_s, sN_add F G k]; omega
theorem sN_mul (F : Nat → Nat) (c : Nat) : ∀ k, sN k (fun i => c * F i) = c * sN k F
  | 0 => rfl
  | k + 1 => by rw [sN_s, sN_s, sN_mul F c k, Nat.mul_add]
theorem sN_mulr (F : Nat → Nat) (c : Nat) : ∀ k, sN k (fun i => F i * c) = sN k F * c
  | 0 => by simp [sN]
  | k + 1 => by rw [sN_s, sN_s, sN_mulr F c k, Nat.add_mul]
theorem sN_swap (F : Nat → Nat → Nat) (m : Nat) : ∀ k, sN k (fun s => sN m (fun i => F s i)) = sN m (fun i => sN k (fun s => F s i))
  | 0 => by rw [sN, sN_0]; intro i _; rfl
  | k + 1 => by
    rw [sN_s, sN_swap F m k, ← sN_add]
    rfl
theorem sN_split (F : Nat → Nat) (a : Nat) : ∀ b, sN (a + b) F = sN a F + sN b (fun i => F (a + i))
  | 0 => rfl
  | b + 1 => by rw [← Nat.add_assoc, sN_s, sN_split F a b, sN_s]; omega
theorem pow_bit {n s i : Nat} (hs : s < 2 ^ n) (hi : i < n) : (2 ^ n + s).testBit i = s.testBit i := by
  rw [Nat.testBit_two_pow_add_gt hi]
theorem pow_top {n s : Nat} (hs : s < 2 ^ n) : (2 ^ n + s).testBit n = true := by
  rw [Nat.testBit_two_pow_add_eq, Nat.testBit_lt_two_pow hs]; rfl
theorem pow_or {n s : Nat} (hs : s < 2 ^ n) : 2 ^ n + s = 2 ^ n ||| s := by
  have h := Nat.two_pow_add_eq_or_of_lt hs 1
  rwa [Nat.mul_one] at h
theorem pow_xb {n s i : Nat} (hs : s < 2 ^ n) (hi : i < n) : xb (2 ^ n + s) i = 2 ^ n + xb s i := by
  rw [pow_or hs, pow_or (xb_lt hs hi)]
  apply Nat.eq_of_testBit_eq
  intro j
  rw [xb_bit, Nat.testBit_or, Nat.testBit_or, xb_bit, Nat.testBit_two_pow]
  by_cases e : i = j
  · subst e
    simp [show ¬ n = i by omega]
  · simp [e]
theorem pow_xt {n s : Nat} (hs : s < 2 ^ n) : xb (2 ^ n + s) n = s := by
  rw [pow_or hs, Nat.or_comm]
  exact or_xb (by rw [Nat.testBit_lt_two_pow hs]; decide)
/-- the sets with i, each without i: the sets without i -/
theorem sN_re {i : Nat} : ∀ n, i < n → ∀ φ : Nat → Nat, sN (2 ^ n) (fun s => if s.testBit i = true then φ (xb s i) else 0) = sN (2 ^ n) (fun s => if s.testBit i = true then 0 else φ s)
  | 0, h, _ => absurd h (by omega)
  | n + 1, h, φ => by
    rw [show 2 ^ (n + 1) = 2 ^ n + 2 ^ n by rw [Nat.pow_succ]; omega, sN_split, sN_split]
    rcases (show i < n ∨ i = n by omega) with q | q
    · rw [sN_re n q φ]
      congr 1
      have := sN_re n q (fun s => φ (2 ^ n + s))
      refine Eq.trans (sN_congr _ (fun s hs => ?_)) (Eq.trans this (sN_congr _ (fun s hs => ?_)))
      · show (if (2 ^ n + s).testBit i = true then φ (xb (2 ^ n + s) i) else 0) = if s.testBit i = true then φ (2 ^ n + xb s i) else 0
        rw [pow_bit hs q, pow_xb hs q]
      · show (if s.testBit i = true then 0 else φ (2 ^ n + s)) = if (2 ^ n + s).testBit i = true then 0 else φ (2 ^ n + s)
        rw [pow_bit hs q]
    · subst q
      rw [sN_0 (F := fun s => if s.testBit i = true then φ (xb s i) else 0) (2 ^ i) (fun s hs => by rw [if_neg (by rw [Nat.testBit_lt_two_pow hs]; decide)])]
      rw [sN_0 (F := fun j => if (2 ^ i + j).testBit i = true then 0 else φ (2 ^ i + j)) (2 ^ i) (fun s hs => by rw [if_pos (pow_top hs)])]
      rw [Nat.zero_add, Nat.add_zero]
      apply sN_congr
      intro s hs
      rw [if_pos (pow_top hs), pow_xt hs, if_neg (by rw [Nat.testBit_lt_two_pow hs]; decide)]
/-- a flow that is used up on its way: all that is used up is what began -/
theorem flow {may : Nat → Nat → Bool} {n : Nat} (hm : ∀ s i, i < n → may s i = true → ¬ s.testBit i = true) {G w : Nat → Nat} (hG : ∀ s, s < 2 ^ n → G s = w s + sN n (fun i => if may s i = true then G (s ||| 2 ^ i) else 0)) : sN (2 ^ n) (fun s => aW may n s * w s) = G 0 := by
  have e1 : sN (2 ^ n) (fun s => aW may n s * G s) = G 0 + sN (2 ^ n) (fun s => sN n (fun i => anT may (aW may n) s i * G s)) := by
    have h1 : sN (2 ^ n) (fun s => aW may n s * G s) = sN (2 ^ n) (fun s => (if s = 0 then 1 else 0) * G s + sN n (fun i => anT may (aW may n) s i * G s)) := by
      apply sN_congr
      intro s hs
      rw [aW_rec may hs, Nat.add_mul, sN_mulr]
    rw [h1, sN_add]
    congr 1
    have h2 : ∀ k, sN (k + 1) (fun s => (if s = 0 then 1 else 0) * G s) = G 0 := by
      intro k
      induction k with
      | zero => simp [sN]
      | succ k ih => rw [sN_s, ih]; simp
    have h3 : 0 < 2 ^ n := Nat.two_pow_pos n
    have := h2 (2 ^ n - 1)
    rw [show 2 ^ n - 1 + 1 = 2 ^ n by omega] at this
    exact this
  have e2 : sN (2 ^ n) (fun s => sN n (fun i => anT may (aW may n) s i * G s)) = sN (2 ^ n) (fun s => sN n (fun i => aW may n s * (if may s i = true then G (s ||| 2 ^ i) else 0))) := by
    rw [sN_swap (fun s i => anT may (aW may n) s i * G s) n (2 ^ n), sN_swap (fun s i => aW may n s * (if may s i = true then G (s ||| 2 ^ i) else 0)) n (2 ^ n)]
    apply sN_congr
    intro i hi
    have h := sN_re n hi (fun s => if may s i = true then aW may n s * G (s ||| 2 ^ i) else 0)
    refine Eq.trans (sN_congr _ (fun s hs => ?_)) (Eq.trans h (sN_congr _ (fun s hs => ?_)))
    · show anT may (aW may n) s i * G s = if s.testBit i = true then (if may (xb s i) i = true then aW may n (xb s i) * G (xb s i ||| 2 ^ i) else 0) else 0
      unfold anT
      by_cases h1 : s.testBit i = true
      · rw [if_pos h1, xb_or h1]
        by_cases h2 : may (xb s i) i = true
        · rw [if_pos ⟨h1, h2⟩, if_pos h2]
        · rw [if_neg (fun q => h2 q.2), if_neg h2, Nat.zero_mul]
      · rw [if_neg h1, if_neg (fun q => h1 q.1), Nat.zero_mul]
    · show (if s.testBit i = true then 0 else (if may s i = true then aW may n s * G (s ||| 2 ^ i) else 0)) = aW may n s * (if may s i = true then G (s ||| 2 ^ i) else 0)
      by_cases h2 : may s i = true
      · rw [if_neg (hm s i hi h2), if_pos h2, if_pos h2]
      · rw [if_neg h2, if_neg h2, Nat.mul_zero]
        split <;> rfl
  have e3 : sN (2 ^ n) (fun s => aW may n s * G s) = sN (2 ^ n) (fun s => aW may n s * w s) + sN (2 ^ n) (fun s => sN n (fun i => aW may n s * (if may s i = true then G (s ||| 2 ^ i) else 0))) := by
    rw [← sN_add]
    apply sN_congr
    intro s hs
    rw [hG s hs, Nat.mul_add, sN_mul]
  omega
theorem cn_congr {al al' : Nat → Nat → Bool} {n : Nat} (h : ∀ s i, i < n → al s i = al' s i) : ∀ k s, cn al n k s = cn al' n k s
  | 0, _ => rfl
  | k + 1, s => by
    rw [cn, cn]
    apply sN_congr
    intro i hi
    rw [h s i hi, cn_congr h k]
theorem cW_congr {al al' : Nat → Nat → Bool} {n : Nat} (h : ∀ s i, i < n → al s i = al' s i) (s : Nat) : cW al n s = cW al' n s := cn_congr h _ _
theorem cn_in {may : Nat → Nat → Bool} {P : Nat → Bool} {n c : Nat} (hm : ∀ s i, may s i = true → ¬ s.testBit i = true) : ∀ k u, u.testBit c = true → cn (fun s i => may s i && (decide (i ≠ c) || P s)) n k u = cn may n k u
  | 0, _, _ => rfl
  | k + 1, u, hu => by
    rw [cn, cn]
    apply sN_congr
    intro i hi
    by_cases h1 : may u i = true
    · have h2 : i ≠ c := fun e => hm u i h1 (by rw [e]; exact hu)
      have h3 : (u ||| 2 ^ i).testBit c = true := by rw [Nat.testBit_or, hu]; rfl
      rw [if_pos h1, if_pos (by simp [h1, h2]), cn_in hm k _ h3]
    · rw [if_neg h1, if_neg (by simp [h1])]
/-- in how many orders the step of c is one with P -/
theorem path_one {may : Nat → Nat → Bool} {n c : Nat} (hm : ∀ s i, may s i = true → ¬ s.testBit i = true) (hc : c < n) (P : Nat → Bool) : cW (fun s i => may s i && (decide (i ≠ c) || P s)) n 0 = sN (2 ^ n) (fun s => aW may n s * (if may s c = true ∧ P s = true then cW may n (s ||| 2 ^ c) else 0)) := by
  have h := flow (n := n) (may := may) (fun s i _ => hm s i) (G := fun s => if s.testBit c = true then 0 else cW (fun s i => may s i && (decide (i ≠ c) || P s)) n s) (w := fun s => if may s c = true ∧ P s = true then cW may n (s ||| 2 ^ c) else 0) (fun s hs => by
    show (if s.testBit c = true then 0 else cW (fun s i => may s i && (decide (i ≠ c) || P s)) n s) = (if may s c = true ∧ P s = true then cW may n (s ||| 2 ^ c) else 0) + sN n (fun i => if may s i = true then (if (s ||| 2 ^ i).testBit c = true then 0 else cW (fun s i => may s i && (decide (i ≠ c) || P s)) n (s ||| 2 ^ i)) else 0)
    by_cases hb : s.testBit c = true
    · rw [if_pos hb, if_neg (fun q => hm s c q.1 hb), sN_0]
      intro i _
      rw [if_pos (show (s ||| 2 ^ i).testBit c = true by rw [Nat.testBit_or, hb]; rfl)]
      split <;> rfl
    · rw [if_neg hb]
      have hne : s < 2 ^ n - 1 := by
        rcases (show s < 2 ^ n - 1 ∨ s = 2 ^ n - 1 by omega) with q | q
        · exact q
        · exact absurd (by rw [q, Nat.testBit_two_pow_sub_one, decide_eq_true hc]) hb
      rw [cW_step (fun i hi => hm s i (by simp at hi; exact hi.1)) hne]
      have h1 := sN_one (u := c) (d := if may s c = true ∧ P s = true then cW may n (s ||| 2 ^ c) else 0) (F := fun i => if may s i = true then (if (s ||| 2 ^ i).testBit c = true then 0 else cW (fun s i => may s i && (decide (i ≠ c) || P s)) n (s ||| 2 ^ i)) else 0) (G := fun i => if (may s i && (decide (i ≠ c) || P s)) = true then cW (fun s i => may s i && (decide (i ≠ c) || P s)) n (s ||| 2 ^ i) else 0) (by
        have hcb : (s ||| 2 ^ c).testBit c = true := by rw [Nat.testBit_or, Nat.testBit_two_pow_self]; simp
        have hin : cW (fun s i => may s i && (decide (i ≠ c) || P s)) n (s ||| 2 ^ c) = cW may n (s ||| 2 ^ c) := cn_in hm _ _ hcb
        show (if (may s c && (decide (c ≠ c) || P s)) = true then cW (fun s i => may s i && (decide (i ≠ c) || P s)) n (s ||| 2 ^ c) else 0) = (if may s c = true then (if (s ||| 2 ^ c).testBit c = true then 0 else cW (fun s i => may s i && (decide (i ≠ c) || P s)) n (s ||| 2 ^ c)) else 0) + (if may s c = true ∧ P s = true then cW may n (s ||| 2 ^ c) else 0)
        rw [hin, if_pos hcb]
        by_cases h1 : may s c = true
        · by_cases h2 : P s = true
          · simp [h1, h2]
          · simp [h1, h2]
        · simp [h1]) (fun i hi => by
        show (if (may s i && (decide (i ≠ c) || P s)) = true then cW (fun s i => may s i && (decide (i ≠ c) || P s)) n (s ||| 2 ^ i) else 0) = (if may s i = true then (if (s ||| 2 ^ i).testBit c = true then 0 else cW (fun s i => may s i && (decide (i ≠ c) || P s)) n (s ||| 2 ^ i)) else 0)
        have hcb : ¬ (s ||| 2 ^ i).testBit c = true := by rw [Nat.testBit_or, Nat.testBit_two_pow_of_ne hi]; simp [hb]
        rw [if_neg hcb]
        by_cases h1 : may s i = true
        · simp [h1, hi]
        · simp [h1]) n
      rw [if_pos hc] at h1
      rw [h1, Nat.add_comm])
  rw [h]
  show _ = if (0 : Nat).testBit c = true then 0 else _
  rw [if_neg (by simp)]

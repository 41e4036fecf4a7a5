/-! Who can have a blessed loaf on a day: by the sets that were served. -/
def anyN : Nat → (Nat → Bool) → Bool
  | 0, _ => false
  | k + 1, P => anyN k P || P k
theorem anyN_iff {P : Nat → Bool} : ∀ k, anyN k P = true ↔ ∃ i, i < k ∧ P i = true
  | 0 => by
    constructor
    · intro h; simp [anyN] at h
    · rintro ⟨i, hi, _⟩; exact absurd hi (by omega)
  | k + 1 => by
    rw [anyN, Bool.or_eq_true, anyN_iff k]
    constructor
    · rintro (⟨i, hi, h⟩ | h)
      · exact ⟨i, by omega, h⟩
      · exact ⟨k, by omega, h⟩
    · rintro ⟨i, hi, h⟩
      rcases (show i < k ∨ i = k by omega) with q | q
      · exact Or.inl ⟨i, q, h⟩
      · subst q; exact Or.inr h
/-- he who comes last of t is i: the winners g are so by R -/
def stp (may lk : Nat → Nat → Bool) (R : Nat → Nat → Bool) (t g i : Nat) : Bool := t.testBit i && may (xb t i) i && (if lk (xb t i) i = true then g.testBit i && R (xb t i) (xb g i) else R (xb t i) g)
def rF (may lk : Nat → Nat → Bool) (n : Nat) : Nat → Nat → Nat → Bool
  | 0 => fun _ g => decide (g = 0)
  | k + 1 => fun t g => anyN n (stp may lk (rF may lk n k) t g)
def rW (may lk : Nat → Nat → Bool) (n t g : Nat) : Bool := rF may lk n (bc t n) t g
theorem rW_0 (may lk : Nat → Nat → Bool) (n g : Nat) : rW may lk n 0 g = decide (g = 0) := by unfold rW; rw [bc_0]; rfl
theorem rW_s {may lk : Nat → Nat → Bool} {n t g : Nat} (ht : t < 2 ^ n) (h0 : t ≠ 0) : rW may lk n t g = true ↔ ∃ i, i < n ∧ stp may lk (rW may lk n) t g i = true := by
  have hp := bc_pos n ht h0
  have e : ∀ i, i < n → stp may lk (rF may lk n (bc t n - 1)) t g i = stp may lk (rW may lk n) t g i := by
    intro i hi
    unfold stp
    by_cases hb : t.testBit i = true
    · have : bc t n - 1 = bc (xb t i) n := by have := xb_bc (n := n) hb hi; omega
      unfold rW
      rw [this]
    · rw [Bool.eq_false_iff.mpr hb]; rfl
  unfold rW
  rw [show bc t n = (bc t n - 1) + 1 by omega]
  show anyN n (stp may lk (rF may lk n (bc t n - 1)) t g) = true ↔ _
  rw [anyN_iff]
  constructor
  · rintro ⟨i, hi, h⟩
    exact ⟨i, hi, by have h2 := e i hi; rw [h] at h2; exact h2.symm⟩
  · rintro ⟨i, hi, h⟩
    exact ⟨i, hi, by rw [e i hi]; exact h⟩
/-- winners are served -/
theorem rW_sub {may lk : Nat → Nat → Bool} {n : Nat} : ∀ k t g, bc t n = k → t < 2 ^ n → rW may lk n t g = true → ∀ j, g.testBit j = true → t.testBit j = true
  | 0, t, g, hk, ht, h, j, hj => by
    have h0 : t = 0 := by
      rcases Nat.eq_zero_or_pos t with q | q
      · exact q
      · have := bc_pos n ht (by omega); omega
    subst h0
    rw [rW_0] at h
    rw [of_decide_eq_true h] at hj
    simp at hj
  | k + 1, t, g, hk, ht, h, j, hj => by
    have h0 : t ≠ 0 := fun e => by rw [e, bc_0] at hk; omega
    obtain ⟨i, hi, hs⟩ := (rW_s ht h0).mp h
    unfold stp at hs
    rw [Bool.and_eq_true, Bool.and_eq_true] at hs
    obtain ⟨⟨hb, _⟩, hr⟩ := hs
    have hbc := xb_bc (n := n) hb hi
    by_cases e : j = i
    · rw [e]; exact hb
    · have hx : (xb t i).testBit j = true → t.testBit j = true := fun q => by rw [xb_ne (Ne.symm e)] at q; exact q
      apply hx
      by_cases hl : lk (xb t i) i = true
      · rw [if_pos hl, Bool.and_eq_true] at hr
        exact rW_sub k (xb t i) (xb g i) (by omega) (xb_lt ht hi) hr.2 j (by rw [xb_ne (Ne.symm e)]; exact hj)
      · rw [if_neg hl] at hr
        exact rW_sub k (xb t i) g (by omega) (xb_lt ht hi) hr j hj
/-- what has been entered when the sets below s are gone through, and of s the customers below i -/
def ptP (may lk : Nat → Nat → Bool) (n s i t g : Nat) : Prop := (t = 0 ∧ g = 0) ∨ ∃ j, j < n ∧ (xb t j < s ∨ (xb t j = s ∧ j < i)) ∧ stp may lk (rW may lk n) t g j = true
theorem stp_bit {may lk : Nat → Nat → Bool} {R : Nat → Nat → Bool} {t g j : Nat} (h : stp may lk R t g j = true) : t.testBit j = true := by
  unfold stp at h
  rw [Bool.and_eq_true, Bool.and_eq_true] at h
  exact h.1.1
theorem ptP_full {may lk : Nat → Nat → Bool} {n s t g : Nat} (ht : t < 2 ^ n) (hs : t ≤ s) : ptP may lk n s 0 t g ↔ rW may lk n t g = true := by
  unfold ptP
  by_cases h0 : t = 0
  · subst h0
    rw [rW_0, decide_eq_true_iff]
    constructor
    · rintro (⟨_, h⟩ | ⟨j, _, _, h⟩)
      · exact h
      · have := stp_bit h; simp at this
    · intro h; exact Or.inl ⟨rfl, h⟩
  · rw [rW_s ht h0]
    constructor
    · rintro (⟨h, _⟩ | ⟨j, hj, _, h⟩)
      · exact absurd h h0
      · exact ⟨j, hj, h⟩
    · rintro ⟨j, hj, h⟩
      exact Or.inr ⟨j, hj, Or.inl (by have := xb_l (stp_bit h); omega), h⟩
theorem ptP_next {may lk : Nat → Nat → Bool} {n s t g : Nat} : ptP may lk n s n t g ↔ ptP may lk n (s + 1) 0 t g := by
  unfold ptP
  constructor
  · rintro (h | ⟨j, hj, h1, h2⟩)
    · exact Or.inl h
    · exact Or.inr ⟨j, hj, Or.inl (by omega), h2⟩
  · rintro (h | ⟨j, hj, h1, h2⟩)
    · exact Or.inl h
    · exact Or.inr ⟨j, hj, by omega, h2⟩
theorem ptP_skip {may lk : Nat → Nat → Bool} {n s i t g : Nat} (hm : ¬ (¬ s.testBit i = true ∧ may s i = true)) : ptP may lk n s (i + 1) t g ↔ ptP may lk n s i t g := by
  unfold ptP
  constructor
  · rintro (h | ⟨j, hj, h1, h2⟩)
    · exact Or.inl h
    · refine Or.inr ⟨j, hj, ?_, h2⟩
      rcases h1 with h1 | ⟨h1, h3⟩
      · exact Or.inl h1
      · rcases (show j < i ∨ j = i by omega) with q | q
        · exact Or.inr ⟨h1, q⟩
        · exfalso
          subst q
          apply hm
          have hb := stp_bit h2
          refine ⟨by rw [← h1]; exact xb_n hb, ?_⟩
          unfold stp at h2
          rw [Bool.and_eq_true, Bool.and_eq_true, h1] at h2
          exact h2.1.2
  · rintro (h | ⟨j, hj, h1, h2⟩)
    · exact Or.inl h
    · exact Or.inr ⟨j, hj, by omega, h2⟩
/-- he comes next: what is entered at the set with him -/
theorem ptP_step {may lk : Nat → Nat → Bool} {n s i t g : Nat} (hi : i < n) (hb : ¬ s.testBit i = true) (hm : may s i = true) : ptP may lk n s (i + 1) t g ↔ (ptP may lk n s i t g ∨ (t = s ||| 2 ^ i ∧ (if lk s i = true then g.testBit i && rW may lk n s (xb g i) else rW may lk n s g) = true)) := by
  unfold ptP
  constructor
  · rintro (h | ⟨j, hj, h1, h2⟩)
    · exact Or.inl (Or.inl h)
    · rcases (show (xb t j < s ∨ (xb t j = s ∧ j < i)) ∨ (xb t j = s ∧ j = i) by omega) with q | ⟨q, rfl⟩
      · exact Or.inl (Or.inr ⟨j, hj, q, h2⟩)
      · refine Or.inr ⟨by rw [← q, xb_or (stp_bit h2)], ?_⟩
        unfold stp at h2
        rw [Bool.and_eq_true, Bool.and_eq_true, q] at h2
        exact h2.2
  · rintro ((h | ⟨j, hj, h1, h2⟩) | ⟨rfl, h⟩)
    · exact Or.inl h
    · exact Or.inr ⟨j, hj, by omega, h2⟩
    · refine Or.inr ⟨i, hi, Or.inr ⟨or_xb hb, by omega⟩, ?_⟩
      unfold stp
      rw [or_xb hb, hm, h]
      simp [Nat.testBit_or]
theorem mv_all : ∀ i, i < 8 → ∀ g, g < 256 → (g.testBit i = true → 2 ^ i ≤ g ∧ g - 2 ^ i = xb g i) ∧ (g.testBit i = false → 2 ^ i ≤ g → (g - 2 ^ i).testBit i = true) := by decide +kernel
/-- the longs of a set moved on: as he is in none of its sets, each has him then -/
theorem mv_bit {F : Nat → Bool} {n i g : Nat} (hn : n ≤ 8) (hi : i < n) (hg : g < 256) (hF : ∀ q, q < 256 → F q = true → ¬ q.testBit i = true ∧ q < 2 ^ n) : (decide (2 ^ i ≤ g) && F (g - 2 ^ i)) = (g.testBit i && F (xb g i)) := by
  have ha := mv_all i (by omega) g hg
  by_cases hb : g.testBit i = true
  · obtain ⟨h1, h2⟩ := ha.1 hb
    rw [decide_eq_true h1, hb, h2]
  · have hb' := Bool.eq_false_iff.mpr hb
    rw [hb', Bool.false_and]
    by_cases h1 : 2 ^ i ≤ g
    · rw [decide_eq_true h1, Bool.true_and]
      apply Bool.eq_false_iff.mpr
      intro q
      exact (hF _ (Nat.lt_of_le_of_lt (Nat.sub_le _ _) hg) q).1 (ha.2 hb' h1)
    · rw [decide_eq_false h1, Bool.false_and]

/-! Parts of a set, from the highest on. -/
def subP (g s : Nat) : Prop := ∀ k, g.testBit k = true → s.testBit k = true
theorem subP_h {g s : Nat} (h : subP g s) : subP (g / 2) (s / 2) := by
  intro k hk
  rw [Nat.testBit_div_two] at hk ⊢
  exact h (k + 1) hk
theorem subP_0 {g s : Nat} (h : subP g s) (hg : g % 2 = 1) : s % 2 = 1 := by
  have := h 0 (by rw [Nat.testBit_zero]; exact decide_eq_true hg)
  rw [Nat.testBit_zero] at this
  exact of_decide_eq_true this
theorem and_par (x y : Nat) : (x &&& y) % 2 = if x % 2 = 1 ∧ y % 2 = 1 then 1 else 0 := by
  have h : (x &&& y).testBit 0 = (x.testBit 0 && y.testBit 0) := Nat.testBit_and x y 0
  rw [Nat.testBit_zero, Nat.testBit_zero, Nat.testBit_zero] at h
  by_cases h1 : x % 2 = 1
  · by_cases h2 : y % 2 = 1
    · rw [if_pos ⟨h1, h2⟩]
      rw [decide_eq_true h1, decide_eq_true h2] at h
      exact of_decide_eq_true h
    · rw [if_neg (fun q => h2 q.2)]
      rw [decide_eq_false h2, Bool.and_false] at h
      have := of_decide_eq_false h
      omega
  · rw [if_neg (fun q => h1 q.1)]
    rw [decide_eq_false h1, Bool.false_and] at h
    have := of_decide_eq_false h
    omega
/-- the part of s next below g -/
theorem sub_pred : ∀ (g s x : Nat), subP g s → subP x s → x < g → x ≤ ((g - 1) &&& s) := by
  intro g
  induction g using Nat.strongRecOn with
  | _ g ih =>
    intro s x hg hx hlt
    have hs2 := Nat.and_div_two (a := g - 1) (b := s)
    have hm := and_par (g - 1) s
    by_cases hodd : g % 2 = 1
    · have e1 : (g - 1) / 2 = g / 2 := by omega
      have e2 : g / 2 &&& s / 2 = g / 2 := by
        apply Nat.eq_of_testBit_eq
        intro k
        rw [Nat.testBit_and]
        by_cases hk : (g / 2).testBit k = true
        · rw [hk, subP_h hg k hk]; rfl
        · rw [Bool.eq_false_iff.mpr hk]; rfl
      rw [e1, e2] at hs2
      omega
    · have hih := ih (g / 2) (by omega) (s / 2) (x / 2) (subP_h hg) (subP_h hx) (by omega)
      rw [show (g - 1) / 2 = g / 2 - 1 by omega] at hs2
      rw [← hs2] at hih
      by_cases hxo : x % 2 = 1
      · have hso := subP_0 hx hxo
        rw [if_pos ⟨by omega, hso⟩] at hm
        omega
      · omega
theorem subP_and (g s : Nat) : subP (g &&& s) s := fun k hk => by
  rw [Nat.testBit_and, Bool.and_eq_true] at hk
  exact hk.2
theorem subP_le {g s : Nat} (h : subP g s) : g ≤ s := sub_le h
/-- what the model has entered: the sets below s, and of s the winners above g and, with g, the customers below c -/
def ptG (may lk : Nat → Nat → Bool) (n s : Nat) (Q : Nat → Nat → Prop) (t x : Nat) : Prop := ptP may lk n s 0 t x ∨ ∃ w c, c < n ∧ Q w c ∧ rW may lk n s w = true ∧ may s c = true ∧ t = s ||| 2 ^ c ∧ x = (if lk s c = true then w ||| 2 ^ c else w)
theorem ptG_all {may lk : Nat → Nat → Bool} {n s t x : Nat} (hm : ∀ i, may s i = true → ¬ s.testBit i = true) (hs : s < 2 ^ n) : ptG may lk n s (fun _ _ => True) t x ↔ ptP may lk n (s + 1) 0 t x := by
  unfold ptG
  constructor
  · rintro (h | ⟨w, c, hc, _, hr, hmc, rfl, rfl⟩)
    · unfold ptP at h ⊢
      rcases h with h | ⟨j, hj, h1, h2⟩
      · exact Or.inl h
      · exact Or.inr ⟨j, hj, by omega, h2⟩
    · have hb := hm c hmc
      have hw : ¬ w.testBit c = true := fun q => hb (rW_sub (bc s n) s w rfl hs hr c q)
      unfold ptP
      refine Or.inr ⟨c, hc, Or.inl (by rw [or_xb hb]; omega), ?_⟩
      unfold stp
      rw [or_xb hb, hmc]
      have ht : (s ||| 2 ^ c).testBit c = true := by rw [Nat.testBit_or, Nat.testBit_two_pow_self]; simp
      rw [ht]
      by_cases hl : lk s c = true
      · rw [if_pos hl, if_pos hl, or_xb hw, hr]
        have ht2 : (w ||| 2 ^ c).testBit c = true := by rw [Nat.testBit_or, Nat.testBit_two_pow_self]; simp
        rw [ht2]; rfl
      · rw [if_neg hl, if_neg hl, hr]; rfl
  · intro h
    unfold ptP at h
    rcases h with h | ⟨j, hj, h1, h2⟩
    · exact Or.inl (Or.inl h)
    · rcases (show xb t j < s ∨ xb t j = s by omega) with q | q
      · exact Or.inl (Or.inr ⟨j, hj, Or.inl q, h2⟩)
      · refine Or.inr ?_
        have hbt := stp_bit h2
        have het : t = s ||| 2 ^ j := by rw [← q, xb_or hbt]
        unfold stp at h2
        rw [Bool.and_eq_true, Bool.and_eq_true, q] at h2
        obtain ⟨⟨_, hmj⟩, hr⟩ := h2
        by_cases hl : lk s j = true
        · rw [if_pos hl, Bool.and_eq_true] at hr
          exact ⟨xb x j, j, hj, trivial, hr.2, hmj, het, by rw [if_pos hl, xb_or hr.1]⟩
        · rw [if_neg hl] at hr
          exact ⟨x, j, hj, trivial, hr, hmj, het, by rw [if_neg hl]⟩
theorem ptG_c {may lk : Nat → Nat → Bool} {n s : Nat} {Q Q' : Nat → Nat → Prop} (h : ∀ w c, c < n → rW may lk n s w = true → may s c = true → (Q w c ↔ Q' w c)) (t x : Nat) : ptG may lk n s Q t x ↔ ptG may lk n s Q' t x := by
  unfold ptG
  constructor
  · rintro (q | ⟨w, c, hc, a, b, m, e⟩)
    · exact Or.inl q
    · exact Or.inr ⟨w, c, hc, (h w c hc b m).mp a, b, m, e⟩
  · rintro (q | ⟨w, c, hc, a, b, m, e⟩)
    · exact Or.inl q
    · exact Or.inr ⟨w, c, hc, (h w c hc b m).mpr a, b, m, e⟩
theorem ptG_none {may lk : Nat → Nat → Bool} {n s t x : Nat} {Q : Nat → Nat → Prop} (h : ∀ w c, rW may lk n s w = true → ¬ Q w c) : ptG may lk n s Q t x ↔ ptP may lk n s 0 t x := by
  unfold ptG
  constructor
  · rintro (q | ⟨w, c, _, a, b, _⟩)
    · exact q
    · exact absurd a (h w c b)
  · intro q; exact Or.inl q
theorem ptG_self {may lk : Nat → Nat → Bool} {n s x : Nat} {Q : Nat → Nat → Prop} (hm : ∀ i, may s i = true → ¬ s.testBit i = true) (hs : s < 2 ^ n) : ptG may lk n s Q s x ↔ rW may lk n s x = true := by
  rw [← ptP_full hs (Nat.le_refl s)]
  unfold ptG
  constructor
  · rintro (q | ⟨w, c, _, _, _, hmc, e, _⟩)
    · exact q
    · exfalso
      have := or_gt (hm c hmc)
      omega
  · intro q; exact Or.inl q
theorem ptG_add {may lk : Nat → Nat → Bool} {n s t x g c : Nat} {Q : Nat → Nat → Prop} (hc : c < n) (hr : rW may lk n s g = true) (hmc : may s c = true) : ptG may lk n s (fun w d => Q w d ∨ (w = g ∧ d = c)) t x ↔ (ptG may lk n s Q t x ∨ (t = s ||| 2 ^ c ∧ x = (if lk s c = true then g ||| 2 ^ c else g))) := by
  unfold ptG
  constructor
  · rintro (q | ⟨w, d, hd, a | ⟨rfl, rfl⟩, b, m, e⟩)
    · exact Or.inl (Or.inl q)
    · exact Or.inl (Or.inr ⟨w, d, hd, a, b, m, e⟩)
    · exact Or.inr e
  · rintro ((q | ⟨w, d, hd, a, b, m, e⟩) | e)
    · exact Or.inl q
    · exact Or.inr ⟨w, d, hd, Or.inl a, b, m, e⟩
    · exact Or.inr ⟨g, c, hc, Or.inr ⟨rfl, rfl⟩, hr, hmc, e⟩

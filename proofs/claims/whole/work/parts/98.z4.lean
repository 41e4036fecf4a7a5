/-! The model's way of a year, and the class's. -/
def dnS (n : Nat) (F : Nat → Nat → Bool) (D : Nat) : Nat → Nat → Bool
  | 0 => fun k => decide (k = 2 ^ n - 1)
  | j + 1 => fun k => anyN (2 ^ n) (fun g => F (D - (j + 1)) g && dnS n F D j (k ||| g))
theorem dnS_iff {n : Nat} {F : Nat → Nat → Bool} {D j k : Nat} : dnS n F D (j + 1) k = true ↔ ∃ g, g < 2 ^ n ∧ F (D - (j + 1)) g = true ∧ dnS n F D j (k ||| g) = true := by
  show anyN (2 ^ n) (fun g => F (D - (j + 1)) g && dnS n F D j (k ||| g)) = true ↔ _
  rw [anyN_iff]
  constructor
  · rintro ⟨g, hg, h⟩; rw [Bool.and_eq_true] at h; exact ⟨g, hg, h.1, h.2⟩
  · rintro ⟨g, hg, h1, h2⟩; exact ⟨g, hg, by rw [Bool.and_eq_true]; exact ⟨h1, h2⟩⟩
theorem dCn_iff {U : Nat → Bool} {n s : Nat} (hs : s < 2 ^ n) : dC U n s = true ↔ ∃ t, t < 2 ^ n ∧ U t = true ∧ subP s t := by
  rw [dC_iff n (Nat.le_refl _) s hs]
  constructor
  · rintro ⟨t, h1, h2, h3, h4⟩
    refine ⟨t, h1, h2, fun k hk => ?_⟩
    rcases (show k < n ∨ n ≤ k by omega) with q | q
    · exact h3 k q hk
    · rw [h4 k q]; exact hk
  · rintro ⟨t, h1, h2, h3⟩
    refine ⟨t, h1, h2, fun k _ hk => h3 k hk, fun k hk => ?_⟩
    rw [Nat.testBit_lt_two_pow (Nat.lt_of_lt_of_le h1 (Nat.pow_le_pow_right (by decide) hk)), Nat.testBit_lt_two_pow (Nat.lt_of_lt_of_le hs (Nat.pow_le_pow_right (by decide) hk))]
theorem subP_z {x : Nat} (h : subP x 0) : x = 0 := by
  apply Nat.eq_of_testBit_eq
  intro k
  rw [Nat.zero_testBit]
  apply Bool.eq_false_iff.mpr
  intro q
  have := h k q
  simp at this
theorem bkF_down {n : Nat} {F : Nat → Nat → Bool} {D : Nat} : ∀ j a b, a < 2 ^ n → b < 2 ^ n → subP b a → bkF n F D j a = true → bkF n F D j b = true
  | 0, a, b, _, _, hs, h => by
    have ha : a = 0 := of_decide_eq_true h
    subst ha
    rw [subP_z hs]; rfl
  | j + 1, a, b, ha, hb, hs, h => by
    have h1 : dC (unB n (bkF n F D j) (F (D - (j + 1)))) n a = true := h
    rw [dCn_iff ha] at h1
    obtain ⟨t, ht, hu, hsub⟩ := h1
    show dC (unB n (bkF n F D j) (F (D - (j + 1)))) n b = true
    rw [dCn_iff hb]
    exact ⟨t, ht, hu, fun k hk => hsub k (hs k hk)⟩
theorem nd_lt {n k : Nat} : ndf (2 ^ n - 1) k < 2 ^ n := by have := ndf_le (2 ^ n - 1) k; have := Nat.two_pow_pos n; omega
theorem nd_bit {n k j : Nat} : (ndf (2 ^ n - 1) k).testBit j = true ↔ j < n ∧ ¬ k.testBit j = true := by
  rw [ndf_bit, Nat.testBit_two_pow_sub_one]
  simp
theorem dn_bk {n : Nat} {F : Nat → Nat → Bool} {D : Nat} : ∀ j k, k < 2 ^ n → (dnS n F D j k = true ↔ bkF n F D j (ndf (2 ^ n - 1) k) = true)
  | 0, k, hk => by
    show decide (k = 2 ^ n - 1) = true ↔ decide (ndf (2 ^ n - 1) k = 0) = true
    rw [decide_eq_true_iff, decide_eq_true_iff]
    constructor
    · intro h
      apply Nat.eq_of_testBit_eq
      intro j
      rw [h, ndf_bit, Nat.zero_testBit]
      cases (2 ^ n - 1).testBit j <;> rfl
    · intro h
      apply Nat.eq_of_testBit_eq
      intro j
      rw [Nat.testBit_two_pow_sub_one]
      by_cases hj : j < n
      · rw [decide_eq_true hj]
        have h2 := congrArg (fun x => x.testBit j) h
        simp only [ndf_bit, Nat.testBit_two_pow_sub_one, decide_eq_true hj, Nat.zero_testBit] at h2
        simpa using h2
      · rw [decide_eq_false hj]
        exact Nat.testBit_lt_two_pow (Nat.lt_of_lt_of_le hk (Nat.pow_le_pow_right (by decide) (by omega)))
  | j + 1, k, hk => by
    rw [dnS_iff]
    show _ ↔ dC (unB n (bkF n F D j) (F (D - (j + 1)))) n (ndf (2 ^ n - 1) k) = true
    rw [dCn_iff nd_lt]
    constructor
    · rintro ⟨b, hb, hf, hd⟩
      have h1 := (dn_bk j (k ||| b) (Nat.or_lt_two_pow hk hb)).mp hd
      refine ⟨ndf (2 ^ n - 1) (k ||| b) ||| b, Nat.or_lt_two_pow nd_lt hb, unB_iff.mpr ⟨_, nd_lt, b, hb, h1, hf, rfl⟩, fun i hi => ?_⟩
      have hi2 := nd_bit.mp hi
      rw [Nat.testBit_or, Bool.or_eq_true, nd_bit, Nat.testBit_or]
      by_cases q : b.testBit i = true
      · exact Or.inr q
      · exact Or.inl ⟨hi2.1, by simp [q, hi2.2]⟩
    · rintro ⟨t, ht, hu, hsub⟩
      obtain ⟨a, ha, b, hb, h1, h2, h3⟩ := unB_iff.mp hu
      refine ⟨b, hb, h2, (dn_bk j (k ||| b) (Nat.or_lt_two_pow hk hb)).mpr (bkF_down j a _ ha nd_lt (fun i hi => ?_) h1)⟩
      have hi2 := nd_bit.mp hi
      rw [Nat.testBit_or] at hi2
      have hk2 : ¬ k.testBit i = true := fun q => hi2.2 (by rw [q]; rfl)
      have hb2 : ¬ b.testBit i = true := fun q => hi2.2 (by rw [q]; simp)
      have h4 := hsub i (nd_bit.mpr ⟨hi2.1, hk2⟩)
      rw [← h3, Nat.testBit_or, Bool.or_eq_true] at h4
      rcases h4 with q | q
      · exact q
      · exact absurd q hb2
theorem lwF_char {n h : Nat} {A B : Nat → Bool} (hh : h < 2 ^ n) : ∀ s, s ≤ 2 ^ n → (∀ g, g < s → A g = true → B (ndf (2 ^ n - 1) (h ||| g)) = true → lwF n h A B s ≤ h ||| g) ∧ (lwF n h A B s = 2 ^ n - 1 ∨ ∃ g, g < s ∧ A g = true ∧ B (ndf (2 ^ n - 1) (h ||| g)) = true ∧ lwF n h A B s = h ||| g)
  | 0, _ => ⟨fun g hg => absurd hg (by omega), Or.inl rfl⟩
  | s + 1, hs => by
    obtain ⟨h1, h2⟩ := lwF_char (A := A) (B := B) hh s (by omega)
    rw [lwF]
    by_cases q : (h ||| s < lwF n h A B s ∧ A s = true) ∧ B (ndf (2 ^ n - 1) (h ||| s)) = true
    · rw [if_pos q]
      refine ⟨fun g hg ha hb => ?_, Or.inr ⟨s, by omega, q.1.2, q.2, rfl⟩⟩
      rcases (show g < s ∨ g = s by omega) with w | w
      · have := h1 g w ha hb; omega
      · rw [w]; exact Nat.le_refl _
    · rw [if_neg q]
      refine ⟨fun g hg ha hb => ?_, ?_⟩
      · rcases (show g < s ∨ g = s by omega) with w | w
        · exact h1 g w ha hb
        · subst w
          rcases (show h ||| g < lwF n h A B g ∨ lwF n h A B g ≤ h ||| g by omega) with v | v
          · exact absurd ⟨⟨v, ha⟩, hb⟩ q
          · exact v
      · rcases h2 with h2 | ⟨g, hg, r⟩
        · exact Or.inl h2
        · exact Or.inr ⟨g, by omega, r⟩
/-- a next set that leads on -/
def nxY (n : Nat) (F : Nat → Nat → Bool) (D d h x : Nat) : Prop := dnS n F D (D - (d + 1)) x = true ∧ ∃ g, g ≤ x ∧ F d g = true ∧ h ||| g = x
theorem bkD_dn {n : Nat} {F : Nat → Nat → Bool} {D d k : Nat} (hk : k < 2 ^ n) : bkD n F D (d + 1) (ndf (2 ^ n - 1) k) = true ↔ dnS n F D (D - (d + 1)) k = true := by
  unfold bkD
  rw [decide_eq_true nd_lt, Bool.true_and, dn_bk _ k hk]
theorem wy_next {n : Nat} {F : Nat → Nat → Bool} {D d : Nat} (hn : n ≤ 8) (hd : d < D) (h : dnS n F D (D - d) (wyH n F D d) = true) : nxY n F D d (wyH n F D d) (wyH n F D (d + 1)) ∧ ∀ x, x < wyH n F D (d + 1) → ¬ nxY n F D d (wyH n F D d) x := by
  have hh := wyH_r (n := n) (D := D) (A := F) hn d
  rw [show D - d = (D - (d + 1)) + 1 by omega, dnS_iff] at h
  obtain ⟨g0, hg0, hf0, hd0⟩ := h
  rw [show D - (D - (d + 1) + 1) = d by omega] at hf0
  obtain ⟨c1, c2⟩ := lwF_char (n := n) (h := wyH n F D d) (A := F d) (B := bkD n F D (d + 1)) hh (2 ^ n) (Nat.le_refl _)
  have e : wyH n F D (d + 1) = lwF n (wyH n F D d) (F d) (bkD n F D (d + 1)) (2 ^ n) := rfl
  have hx0 := Nat.or_lt_two_pow hh hg0
  have hle := c1 g0 hg0 hf0 ((bkD_dn hx0).mpr hd0)
  have feas : ∀ g, g < 2 ^ n → F d g = true → bkD n F D (d + 1) (ndf (2 ^ n - 1) (wyH n F D d ||| g)) = true → nxY n F D d (wyH n F D d) (wyH n F D d ||| g) := fun g hg hf hb => ⟨(bkD_dn (Nat.or_lt_two_pow hh hg)).mp hb, g, Nat.right_le_or, hf, rfl⟩
  refine ⟨?_, fun x hx hq => ?_⟩
  · rw [e]
    rcases c2 with c2 | ⟨g, hg, a, b, r⟩
    · have hxe : wyH n F D d ||| g0 = 2 ^ n - 1 := by omega
      rw [c2, ← hxe]
      exact feas g0 hg0 hf0 ((bkD_dn hx0).mpr hd0)
    · rw [r]; exact feas g hg a b
  · obtain ⟨q1, g, hg, hf, hx2⟩ := hq
    have hlt := lwF_r (n := n) (h := wyH n F D d) (A := F d) (B := bkD n F D (d + 1)) hn (2 ^ n)
    have hxl : x < 2 ^ n := by rw [e] at hx; omega
    have := c1 g (by omega) hf (by rw [hx2]; exact (bkD_dn hxl).mpr q1)
    rw [e] at hx
    omega
theorem wy_dn {n : Nat} {F : Nat → Nat → Bool} {D : Nat} (hn : n ≤ 8) (h0 : dnS n F D D 0 = true) : ∀ d, d ≤ D → dnS n F D (D - d) (wyH n F D d) = true
  | 0, _ => h0
  | d + 1, hd => (wy_next hn (by omega) (wy_dn hn h0 d (by omega))).1.1
theorem hd_dn {n : Nat} {F : Nat → Nat → Bool} {D : Nat} (h : hdF F n D (2 ^ n - 1) = true) : ∀ k, k ≤ D → ∃ s, s < 2 ^ n ∧ hdF F n (D - k) s = true ∧ dnS n F D k s = true
  | 0, _ => ⟨2 ^ n - 1, by have := Nat.two_pow_pos n; omega, h, decide_eq_true rfl⟩
  | k + 1, hk => by
    obtain ⟨s, hs, h1, h2⟩ := hd_dn h k (by omega)
    rw [show D - k = (D - (k + 1)) + 1 by omega] at h1
    obtain ⟨a, ha, b, hb, ua, vb, e⟩ := unB_iff.mp h1
    exact ⟨a, ha, ua, dnS_iff.mpr ⟨b, hb, vb, by rw [e]; exact h2⟩⟩
theorem yD_hd {F : Nat → Nat → Bool} {n : Nat} (h : 0 < yDn F n) : hdF F n (yDn F n) (2 ^ n - 1) = true := by
  unfold yDn at h ⊢
  by_cases h0 : n = 0
  · rw [if_pos h0] at h; exact absurd h (by omega)
  · rw [if_neg h0] at h ⊢
    by_cases h1 : fsU (fun t => hdF F n (t + 1) (2 ^ n - 1)) 30 30 < 30
    · rw [if_pos h1]
      have hx : ∃ i, i < 30 ∧ (fun t => hdF F n (t + 1) (2 ^ n - 1)) i = true := Decidable.byContradiction fun q => by
        have := fsU_no (P := fun t => hdF F n (t + 1) (2 ^ n - 1)) (n := 30) (fun i hi w => q ⟨i, hi, w⟩) 30 (Nat.le_refl _)
        omega
      exact (fsU_ex hx 30 (Nat.le_refl _) (fun j hj => absurd hj (by omega))).2.1
    · rw [if_neg h1] at h; exact absurd h (by omega)
theorem yD_dn {F : Nat → Nat → Bool} {n : Nat} (h : 0 < yDn F n) : dnS n F (yDn F n) (yDn F n) 0 = true := by
  obtain ⟨s, _, h1, h2⟩ := hd_dn (yD_hd h) (yDn F n) (Nat.le_refl _)
  rw [Nat.sub_self] at h1
  have : s = 0 := of_decide_eq_true h1
  rw [this] at h2
  exact h2

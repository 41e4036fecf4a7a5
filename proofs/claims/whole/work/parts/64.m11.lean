theorem sPart_mono {c v : Nat → Int} {sum : Nat → Nat → PR} {e : Nat} (hs : e ≠ 0 → ∀ j lv tr j1 l1, sum j lv = .ok (tr, j1, l1) → j < j1) : ∀ j lv tr j1 l1, sPart c v sum e j lv = .ok (tr, j1, l1) → j < j1 := by
  intro j lv tr j1 l1 h
  rcases sPart_ok h with ⟨_, he, j0, h1, _, h2⟩ | ⟨_, _, _, _, h2⟩ | ⟨_, _, _, _, _, h2⟩
  · have := hs he _ _ _ _ _ h1
    omega
  · omega
  · omega

theorem sTermR_mono {c : Nat → Int} {part : Nat → Nat → PR} (hp : ∀ j lv tr j1 l1, part j lv = .ok (tr, j1, l1) → j < j1) : ∀ (m : Nat) {acc tr : Term} {j lv j1 l1 : Nat}, sTermR c part m acc j lv = .ok (tr, j1, l1) → j ≤ j1
  | 0, acc, tr, j, lv, j1, l1, h => by cases h; omega
  | m + 1, acc, tr, j, lv, j1, l1, h => by
    rw [sTermR] at h
    by_cases h0 : c j = 142
    · rw [if_pos h0] at h
      obtain ⟨t, j0, l0, h3, h4⟩ := bnd_ok h
      have := hp _ _ _ _ _ h3
      have := sTermR_mono hp m h4
      omega
    · rw [if_neg h0] at h
      by_cases h1 : c j = 147
      · rw [if_pos h1] at h
        obtain ⟨t, j0, l0, h3, h4⟩ := bnd_ok h
        have := hp _ _ _ _ _ h3
        have := sTermR_mono hp m h4
        omega
      · rw [if_neg h1] at h
        cases h; omega
theorem sTerm_mono {c : Nat → Int} {part : Nat → Nat → PR} (hp : ∀ j lv tr j1 l1, part j lv = .ok (tr, j1, l1) → j < j1) : ∀ j lv tr j1 l1, sTerm c part j lv = .ok (tr, j1, l1) → j < j1 := by
  intro j lv tr j1 l1 h
  obtain ⟨t, j0, l0, h3, h4⟩ := bnd_ok h
  have := hp _ _ _ _ _ h3
  have := sTermR_mono hp 400 h4
  omega

theorem sSumR_mono {c : Nat → Int} {term : Nat → Nat → PR} (hp : ∀ j lv tr j1 l1, term j lv = .ok (tr, j1, l1) → j < j1) : ∀ (m : Nat) {acc tr : Term} {j lv j1 l1 : Nat}, sSumR c term m acc j lv = .ok (tr, j1, l1) → j ≤ j1
  | 0, acc, tr, j, lv, j1, l1, h => by cases h; omega
  | m + 1, acc, tr, j, lv, j1, l1, h => by
    rw [sSumR] at h
    by_cases h0 : c j = 143
    · rw [if_pos h0] at h
      obtain ⟨t, j0, l0, h3, h4⟩ := bnd_ok h
      have := hp _ _ _ _ _ h3
      have := sSumR_mono hp m h4
      omega
    · rw [if_neg h0] at h
      by_cases h1 : c j = 145
      · rw [if_pos h1] at h
        obtain ⟨t, j0, l0, h3, h4⟩ := bnd_ok h
        have := hp _ _ _ _ _ h3
        have := sSumR_mono hp m h4
        omega
      · rw [if_neg h1] at h
        cases h; omega
theorem sSum_mono {c : Nat → Int} {term : Nat → Nat → PR} (hp : ∀ j lv tr j1 l1, term j lv = .ok (tr, j1, l1) → j < j1) : ∀ j lv tr j1 l1, sSum c term j lv = .ok (tr, j1, l1) → j < j1 := by
  intro j lv tr j1 l1 h
  obtain ⟨t, j0, l0, h3, h4⟩ := bnd_ok h
  have := hp _ _ _ _ _ h3
  have := sSumR_mono hp 400 h4
  omega

theorem sBothR_mono {c : Nat → Int} {plain : Nat → Nat → PR} (hp : ∀ j lv tr j1 l1, plain j lv = .ok (tr, j1, l1) → j < j1) : ∀ (m : Nat) {acc tr : Term} {j lv j1 l1 : Nat}, sBothR c plain m acc j lv = .ok (tr, j1, l1) → j ≤ j1
  | 0, acc, tr, j, lv, j1, l1, h => by cases h; omega
  | m + 1, acc, tr, j, lv, j1, l1, h => by
    rw [sBothR] at h
    by_cases h0 : c j = 5
    · rw [if_pos h0] at h
      obtain ⟨t, j0, l0, h3, h4⟩ := bnd_ok h
      have := hp _ _ _ _ _ h3
      have := sBothR_mono hp m h4
      omega
    · rw [if_neg h0] at h
      cases h; omega
theorem sBoth_mono {c : Nat → Int} {plain : Nat → Nat → PR} (hp : ∀ j lv tr j1 l1, plain j lv = .ok (tr, j1, l1) → j < j1) : ∀ j lv tr j1 l1, sBoth c plain j lv = .ok (tr, j1, l1) → j < j1 := by
  intro j lv tr j1 l1 h
  obtain ⟨t, j0, l0, h3, h4⟩ := bnd_ok h
  have := hp _ _ _ _ _ h3
  have := sBothR_mono hp 400 h4
  omega

theorem sTestR_mono {c : Nat → Int} {both : Nat → Nat → PR} (hp : ∀ j lv tr j1 l1, both j lv = .ok (tr, j1, l1) → j < j1) : ∀ (m : Nat) {acc tr : Term} {j lv j1 l1 : Nat}, sTestR c both m acc j lv = .ok (tr, j1, l1) → j ≤ j1
  | 0, acc, tr, j, lv, j1, l1, h => by cases h; omega
  | m + 1, acc, tr, j, lv, j1, l1, h => by
    rw [sTestR] at h
    by_cases h0 : c j = 4
    · rw [if_pos h0] at h
      obtain ⟨t, j0, l0, h3, h4⟩ := bnd_ok h
      have := hp _ _ _ _ _ h3
      have := sTestR_mono hp m h4
      omega
    · rw [if_neg h0] at h
      cases h; omega
theorem sTest_mono {c : Nat → Int} {both : Nat → Nat → PR} (hp : ∀ j lv tr j1 l1, both j lv = .ok (tr, j1, l1) → j < j1) : ∀ j lv tr j1 l1, sTest c both j lv = .ok (tr, j1, l1) → j < j1 := by
  intro j lv tr j1 l1 h
  obtain ⟨t, j0, l0, h3, h4⟩ := bnd_ok h
  have := hp _ _ _ _ _ h3
  have := sTestR_mono hp 400 h4
  omega

theorem sNot_mono {c : Nat → Int} : ∀ (m : Nat) (b : Bool) (j : Nat), j ≤ (sNot c m b j).2
  | 0, b, j => Nat.le_refl _
  | m + 1, b, j => by
    rw [sNot]
    split
    · have := sNot_mono (c := c) m (!b) (j + 1)
      omega
    · exact Nat.le_refl _
theorem sPlain_mono {c : Nat → Int} {sum test : Nat → Nat → PR} {e : Nat} (hs : ∀ j lv tr j1 l1, sum j lv = .ok (tr, j1, l1) → j < j1) (ht : e ≠ 0 → ∀ j lv tr j1 l1, test j lv = .ok (tr, j1, l1) → j < j1) : ∀ j lv tr j1 l1, sPlain c sum test e j lv = .ok (tr, j1, l1) → j < j1 := by
  intro j lv tr j1 l1 h
  obtain ⟨t, j0, l0, h3, h4⟩ := bnd_ok h
  have h5 := sNot_mono (c := c) 400 false j
  have h6 : (sNot c 400 false j).2 < j0 := by
    rcases sPos_ok h3 with ⟨_, he, j2, h1, _, h2⟩ | ⟨_, h1⟩
    · have := ht he _ _ _ _ _ h1
      omega
    · obtain ⟨a, b, j2, l2, q1, q2, _⟩ := sCmp_ok h1
      have := hs _ _ _ _ _ q1
      have := hs _ _ _ _ _ q2
      omega
  cases h4
  omega
theorem lvS_mono {c v : Nat → Int} {sum : Nat → Nat → PR} {e : Nat} (hs : e ≠ 0 → ∀ j lv tr j1 l1, sum j lv = .ok (tr, j1, l1) → j < j1) : ∀ j lv tr j1 l1, lvS c v sum e j lv = .ok (tr, j1, l1) → j < j1 := sSum_mono (sTerm_mono (sPart_mono hs))
theorem lvT_mono {c v : Nat → Int} {sum test : Nat → Nat → PR} {e : Nat} (hs : e ≠ 0 → ∀ j lv tr j1 l1, sum j lv = .ok (tr, j1, l1) → j < j1) (ht : e ≠ 0 → ∀ j lv tr j1 l1, test j lv = .ok (tr, j1, l1) → j < j1) : ∀ j lv tr j1 l1, lvT c v sum test e j lv = .ok (tr, j1, l1) → j < j1 := sTest_mono (sBoth_mono (sPlain_mono (lvS_mono hs) ht))
theorem lev_mono {c v : Nat → Int} : ∀ e : Nat, (∀ j lv tr j1 l1, (lev c v e).1 j lv = .ok (tr, j1, l1) → j < j1) ∧ ∀ j lv tr j1 l1, (lev c v e).2 j lv = .ok (tr, j1, l1) → j < j1
  | 0 => ⟨lvS_mono (fun h => absurd rfl h), lvT_mono (fun h => absurd rfl h) (fun h => absurd rfl h)⟩
  | e + 1 => by
    obtain ⟨h1, h2⟩ := lev_mono (c := c) (v := v) e
    exact ⟨lvS_mono (fun _ => h1), lvT_mono (fun _ => h1) (fun _ => h2)⟩
theorem EvMS.up {l : Launch} {z : Zv} {g : Gm} {f0 : Fm} {e : Nat → Int} {base T : Nat} {k : PMd} {F : Nat → Nat → PR} {H H' : Nat} (h : EvMS l z g f0 e base T k F H) (hH : H ≤ H') : EvMS l z g f0 e base T k F H' := fun D hD => h D (by omega)
theorem EvMT.up {l : Launch} {z : Zv} {g : Gm} {f0 : Fm} {e : Nat → Int} {base T : Nat} {k : PMd} {F : Nat → Nat → PR} {H H' : Nat} (h : EvMT l z g f0 e base T k F H) (hH : H ≤ H') : EvMT l z g f0 e base T k F H' := fun D hD => h D (by omega)

theorem m_evS (l : Launch) (z : Zv) {g : Gm} {f0 : Fm} {c v e : Nat → Int} {base T : Nat} (hM : ML g) (hE : ET f0 c v e base T) {e0 H : Nat} {sum : Nat → Nat → PR} (hm : e0 ≠ 0 → ∀ j lv tr j1 l1, sum j lv = .ok (tr, j1, l1) → j < j1) (hsub : e0 ≠ 0 → EvMS l z g f0 e base T mX11_sumOf sum H) : EvMS l z g f0 e base T mX11_sumOf (lvS c v sum e0) (H + 12) :=
  m_sumOf l z hM hE (sTerm_mono (sPart_mono hm)) (m_termOf l z hM hE (sPart_mono hm) (m_partOf l z hM hE hsub))
theorem m_evT (l : Launch) (z : Zv) {g : Gm} {f0 : Fm} {c v e : Nat → Int} {base T : Nat} (hM : ML g) (hE : ET f0 c v e base T) {e0 H : Nat} {sum test : Nat → Nat → PR} (hm : e0 ≠ 0 → ∀ j lv tr j1 l1, sum j lv = .ok (tr, j1, l1) → j < j1) (hmt : e0 ≠ 0 → ∀ j lv tr j1 l1, test j lv = .ok (tr, j1, l1) → j < j1) (hsub : e0 ≠ 0 → EvMS l z g f0 e base T mX11_sumOf sum H) (hsubT : e0 ≠ 0 → EvMT l z g f0 e base T mX11_testOf test H) : EvMT l z g f0 e base T mX11_testOf (lvT c v sum test e0) (H + 28) :=
  m_testOf l z hM hE (sBoth_mono (sPlain_mono (lvS_mono hm) hmt)) (m_bothOf l z hM hE (sPlain_mono (lvS_mono hm) hmt) (m_plainOf l z hM hE (m_positiveOf l z hM hE (H := H + 12) (m_evS l z hM hE hm hsub) (fun h => (hsubT h).up (by omega)))))
theorem m_evl (l : Launch) (z : Zv) {g : Gm} {f0 : Fm} {c v e : Nat → Int} {base T : Nat} (hM : ML g) (hE : ET f0 c v e base T) : ∀ e0 : Nat, EvMS l z g f0 e base T mX11_sumOf (lev c v e0).1 (28 * e0 + 28) ∧ EvMT l z g f0 e base T mX11_testOf (lev c v e0).2 (28 * e0 + 28)
  | 0 => ⟨(m_evS l z hM hE (H := 0) (fun h => absurd rfl h) (fun h => absurd rfl h)).up (by omega), (m_evT l z hM hE (H := 0) (fun h => absurd rfl h) (fun h => absurd rfl h) (fun h => absurd rfl h) (fun h => absurd rfl h)).up (by omega)⟩
  | e0 + 1 => by
    obtain ⟨h1, h2⟩ := m_evl l z hM hE e0
    obtain ⟨q1, q2⟩ := lev_mono (c := c) (v := v) e0
    exact ⟨(m_evS l z hM hE (fun _ => q1) (fun _ => h1)).up (by omega), (m_evT l z hM hE (fun _ => q1) (fun _ => q2) (fun _ => h1) (fun _ => h2)).up (by omega)⟩
theorem m_sumE (l : Launch) (z : Zv) {g : Gm} {f0 : Fm} {c v e : Nat → Int} {base T : Nat} (hM : ML g) (hE : ET f0 c v e base T) : EvMS l z g f0 e base T mX11_sumOf (sSumT c v) 252 := by
  have h := (m_evl l z hM hE 8).1
  unfold sSumT
  exact h
theorem m_testE (l : Launch) (z : Zv) {g : Gm} {f0 : Fm} {c v e : Nat → Int} {base T : Nat} (hM : ML g) (hE : ET f0 c v e base T) : EvMT l z g f0 e base T mX11_testOf (sTestT c v) 252 := by
  have h := (m_evl l z hM hE 8).2
  unfold sTestT
  exact h
theorem sSumT_mono {c v : Nat → Int} : ∀ j lv tr j1 l1, sSumT c v j lv = .ok (tr, j1, l1) → j < j1 := by
  have h := (lev_mono (c := c) (v := v) 8).1
  unfold sSumT
  exact h
theorem sTestT_mono {c v : Nat → Int} : ∀ j lv tr j1 l1, sTestT c v j lv = .ok (tr, j1, l1) → j < j1 := by
  have h := (lev_mono (c := c) (v := v) 8).2
  unfold sTestT
  exact h
/-- how a clause was read -/
theorem sCl_ok {c v : Nat → Int} {j lv j1 l1 : Nat} {cl : Cl} (h : sCl c v j lv = .ok (cl, j1, l1)) : ∃ tr j0 l0, ((c j = 1 ∧ cl.1 = true ∧ sSumT c v (j + 1) lv = .ok (tr, j0, l0)) ∨ (c j = 2 ∧ cl.1 = false ∧ tr = .null ∧ j0 = j + 1)) ∧ cl.2.1 = tr ∧ ((¬ c j0 = 3 ∧ cl.2.2 = none ∧ j1 = j0) ∨ (c j0 = 3 ∧ ∃ t2, cl.2.2 = some t2 ∧ sTestT c v (j0 + 1) l0 = .ok (t2, j1, l1))) := by
  unfold sCl at h
  by_cases h1 : c j = 1
  · rw [if_pos h1] at h
    match hs : sSumT c v (j + 1) lv, h with
    | .ok (tr, j0, l0), h =>
      dsimp only at h
      by_cases h3 : c j0 = 3
      · rw [if_pos h3] at h
        match ht : sTestT c v (j0 + 1) l0, h with
        | .ok (t2, j2, l2), h => cases h; exact ⟨_, _, _, Or.inl ⟨h1, decide_eq_true h1, rfl⟩, rfl, Or.inr ⟨h3, _, rfl, ht⟩⟩
      · rw [if_neg h3] at h; cases h; exact ⟨_, _, _, Or.inl ⟨h1, decide_eq_true h1, rfl⟩, rfl, Or.inl ⟨h3, rfl, rfl⟩⟩
  · rw [if_neg h1] at h
    by_cases h2 : c j = 2
    · rw [if_pos h2] at h
      dsimp only at h
      by_cases h3 : c (j + 1) = 3
      · rw [if_pos h3] at h
        match ht : sTestT c v (j + 1 + 1) lv, h with
        | .ok (t2, j2, l2), h => cases h; exact ⟨.null, j + 1, lv, Or.inr ⟨h2, decide_eq_false h1, rfl, rfl⟩, rfl, Or.inr ⟨h3, t2, rfl, ht⟩⟩
      · rw [if_neg h3] at h; cases h; exact ⟨.null, j + 1, lv, Or.inr ⟨h2, decide_eq_false h1, rfl, rfl⟩, rfl, Or.inl ⟨h3, rfl, rfl⟩⟩
    · rw [if_neg h2] at h; cases h

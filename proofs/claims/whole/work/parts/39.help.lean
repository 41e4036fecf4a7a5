theorem rdn {f : Fm} {a b i j : Nat} {x v : Int} (h : b ≠ a) (hv : f b i = v) : stF f a j x b i = v := by rw [stF_n _ _ _ h]; exact hv
theorem rdi {f : Fm} {a i j : Nat} {x v : Int} (h : i ≠ j) (hv : f a i = v) : stF f a j x a i = v := by rw [stF_i _ _ _ h]; exact hv
section HELP
variable {l : Launch} {z : Zv} {d : Nat} {k : PMd} {mc ms : Nat} {post : Po} {pc : Nat} {L : List (Nat × Value)} {S : List Value} {g : Gm} {f : Fm} {cb sb : Nat}
theorem r_zastv {a n i : Nat} {x v : Int} (hd : decode k.2.1 pc = .ok (.bastore, 1)) (hA : isA g a 13 n) (hx : 0 ≤ x ∧ x < n) (hn : n ≤ 2147483647) (hv : narrow .boolean (.int (iI v)) = .int (iI v)) (hi : x.toNat = i) (h : PW l z d k mc ms post (pc + 1) L S g (stF f a i v) cb sb) : PW l z d k mc ms post pc L (.int (iI v) :: .int (iI x) :: .ref a :: S) g f cb sb := by
  subst hi; exact r_zast hd hA hx hn hv h
theorem r_mem {f2 : Fm} (hf : f = f2) (h : PW l z d k mc ms post pc L S g f2 cb sb) : PW l z d k mc ms post pc L S g f cb sb := by
  subst hf; exact h
end HELP
/-! Tokens of a text. -/
def tkQ (B : Nat → Int) (t : Nat) : Nat → Nat
  | 0 => 0
  | j + 1 => tkE B t (tkP B t (tkQ B t j))
def pl (B : Nat → Int) (t j : Nat) : Nat := tkP B t (tkQ B t j)
def tC (B : Nat → Int) (t p : Nat) : Int := if t ≤ p then 0 else if ltB B p = true then wnC B p (tkE B t p) - 258 else if dgB B p = true then 50 else 100 + B p
def cj (B : Nat → Int) (t j : Nat) : Int := tC B t (pl B t j)
def kj (B : Nat → Int) (t j : Nat) : Int := tkK B t (pl B t j)
def vj (B : Nat → Int) (t j : Nat) : Int := if kj B t j = 257 then nuV B (pl B t j) (tkE B t (pl B t j) - pl B t j) else 0
theorem ite_r {p : Prop} [Decidable p] {a b x y : Int} (h1 : a ≤ x ∧ x ≤ b) (h2 : a ≤ y ∧ y ≤ b) : a ≤ (if p then x else y) ∧ (if p then x else y) ≤ b := by split <;> assumption
theorem wnC_r (B : Nat → Int) (p e : Nat) : 258 ≤ wnC B p e ∧ wnC B p e ≤ 272 := by
  unfold wnC
  iterate 14 refine ite_r ⟨by decide, by decide⟩ ?_
  exact ⟨by decide, by decide⟩
theorem tkP_r {B : Nat → Int} {t q : Nat} (h : q ≤ t) : q ≤ tkP B t q ∧ tkP B t q ≤ t := adv_r _ _ h
theorem tkE_r {B : Nat → Int} {t p : Nat} (h : p ≤ t) : p ≤ tkE B t p ∧ tkE B t p ≤ t := by
  unfold tkE
  split
  · omega
  · split
    · exact adv_r _ _ h
    · split
      · exact adv_r _ _ h
      · omega
theorem adv_1 {P : Nat → Bool} {t p : Nat} (h : p < t) (h2 : P p = true) : p + 1 ≤ adv P t (t - p) p := by
  rw [show t - p = (t - p - 1) + 1 by omega, adv_on h h2]
  exact (adv_r _ _ (by omega)).1
theorem tkE_1 {B : Nat → Int} {t p : Nat} (h : p < t) : p + 1 ≤ tkE B t p := by
  unfold tkE
  rw [if_neg (by omega)]
  split
  · rename_i h2; exact adv_1 h h2
  · split
    · rename_i h2; exact adv_1 h h2
    · omega
theorem tkQ_r {B : Nat → Int} {t : Nat} : ∀ j, tkQ B t j ≤ t
  | 0 => Nat.zero_le _
  | j + 1 => by
    rw [tkQ]
    exact (tkE_r (tkP_r (tkQ_r j)).2).2
theorem pl_r {B : Nat → Int} {t : Nat} (j : Nat) : tkQ B t j ≤ pl B t j ∧ pl B t j ≤ t := tkP_r (tkQ_r j)
theorem kc_j {B : Nat → Int} {t : Nat} (hby : ∀ i, 0 ≤ B i ∧ B i ≤ 255) (j : Nat) : (kj B t j = 256 ∧ cj B t j = 0 ∧ t ≤ pl B t j) ∨ (258 ≤ kj B t j ∧ kj B t j ≤ 272 ∧ cj B t j = kj B t j - 258 ∧ pl B t j < t) ∨ (kj B t j = 257 ∧ cj B t j = 50 ∧ pl B t j < t) ∨ (0 ≤ kj B t j ∧ kj B t j ≤ 255 ∧ cj B t j = 100 + kj B t j ∧ pl B t j < t) := by
  unfold kj cj tkK tC
  by_cases h1 : t ≤ pl B t j
  · rw [if_pos h1, if_pos h1]; exact Or.inl ⟨rfl, rfl, h1⟩
  · rw [if_neg h1, if_neg h1]
    have h1' : pl B t j < t := by omega
    by_cases h2 : ltB B (pl B t j) = true
    · rw [if_pos h2, if_pos h2]
      have := wnC_r B (pl B t j) (tkE B t (pl B t j))
      omega
    · rw [if_neg h2, if_neg h2]
      by_cases h3 : dgB B (pl B t j) = true
      · rw [if_pos h3, if_pos h3]; omega
      · rw [if_neg h3, if_neg h3]
        have := hby (pl B t j)
        omega
theorem q_next {B : Nat → Int} {t j : Nat} (h : pl B t j < t) (hj : j ≤ tkQ B t j) : j + 1 ≤ tkQ B t (j + 1) := by
  have h1 := tkE_1 (B := B) h
  have h2 := (pl_r (B := B) (t := t) j).1
  have h3 : tkQ B t (j + 1) = tkE B t (pl B t j) := rfl
  omega
theorem kj_257 {B : Nat → Int} {t j : Nat} (hby : ∀ i, 0 ≤ B i ∧ B i ≤ 255) (h : kj B t j = 257) : ¬ t ≤ pl B t j ∧ ¬ ltB B (pl B t j) = true ∧ dgB B (pl B t j) = true := by
  unfold kj tkK at h
  by_cases h1 : t ≤ pl B t j
  · rw [if_pos h1] at h; omega
  · rw [if_neg h1] at h
    by_cases h2 : ltB B (pl B t j) = true
    · rw [if_pos h2] at h
      have := wnC_r B (pl B t j) (tkE B t (pl B t j))
      omega
    · rw [if_neg h2] at h
      by_cases h3 : dgB B (pl B t j) = true
      · exact ⟨h1, h2, h3⟩
      · rw [if_neg h3] at h
        have := hby (pl B t j)
        omega

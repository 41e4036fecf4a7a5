/-! What is kept (the model's row 166), as a function of places; what the law in force says of it. -/
def kT (K : Nat → Int) (i : Nat) : Nat := (K (82 + i)).toNat
def kC (K : Nat → Int) (i j : Nat) : Int := if j < kT K i then K (88 + 400 * i + j) else 0
def kV (K : Nat → Int) (i j : Nat) : Int := if j < kT K i then min (K (2488 + 400 * i + j)) 1001 else 0
def kE (K : Nat → Int) (i j : Nat) : Bool := decide (kT K i ≤ j)
def lawR (K : Nat → Int) (i : Nat) : Except Nat (List Cl) := sLaw (kC K i) (kV K i) (kE K i) 12 0 0 []
def lawK (K : Nat → Int) (i : Nat) : List Cl := match lawR K i with
  | .ok cls => cls
  | .error _ => []
def eK (K : Nat → Int) (day had : Int) (c : Nat) (oth : Int) (k : Nat) : Int := if k = 0 then (c : Int) else if k = 1 then K (5 * c) else if k = 2 then K (5 * c + 1) else if k = 3 then K (5 * c + 2) else if k = 4 then had else if k = 5 then day else if k = 6 then oth else if oth = -1 then -1 else K (5 * oth.toNat + 1)
def wantK (K : Nat → Int) (day had : Int) (c : Nat) : Int := if K 81 = -1 then K (5 * c) else wantsL (eK K day had c (-1)) (K (5 * c)) (lawK K (K 81).toNat)
def waitK (K : Nat → Int) (day had : Int) (c o : Nat) : Bool := if K 81 = -1 then false else waitsL (eK K day had c (o : Int)) (lawK K (K 81).toNat)
/-- what can be kept; D, M: the most of days and of baked loaves -/
def KO (K : Nat → Int) (D M : Int) : Prop := (0 ≤ K 77 ∧ K 77 ≤ 8) ∧ (∀ c, c < 8 → (0 ≤ K (5 * c) ∧ K (5 * c) ≤ 40) ∧ (0 ≤ K (5 * c + 1) ∧ K (5 * c + 1) ≤ 9) ∧ (0 ≤ K (5 * c + 2) ∧ K (5 * c + 2) ≤ 1) ∧ (0 ≤ K (5 * c + 3) ∧ K (5 * c + 3) ≤ 9999) ∧ (0 ≤ K (5 * c + 4) ∧ K (5 * c + 4) ≤ 999999)) ∧ (2 ≤ K 40 ∧ K 40 ≤ 20) ∧ (0 ≤ K 41 ∧ K 41 ≤ 9) ∧ (0 ≤ K 42 ∧ K 42 ≤ D) ∧ (0 ≤ K 43 ∧ K 43 ≤ M) ∧ (0 ≤ K 44 ∧ K 44 ≤ M) ∧ (0 ≤ K 78 ∧ K 78 ≤ 8) ∧ (0 ≤ K 79 ∧ K 79 ≤ 8) ∧ (∀ i : Nat, (i : Int) < K 78 → (0 ≤ K (45 + 2 * i) ∧ K (45 + 2 * i) < K 77) ∧ (0 ≤ K (46 + 2 * i) ∧ K (46 + 2 * i) ≤ 20)) ∧ (∀ i : Nat, (i : Int) < K 79 → (0 ≤ K (61 + 2 * i) ∧ K (61 + 2 * i) < K 77) ∧ (0 ≤ K (62 + 2 * i) ∧ K (62 + 2 * i) ≤ 20)) ∧ (0 ≤ K 80 ∧ K 80 ≤ 6) ∧ (-1 ≤ K 81 ∧ K 81 < K 80) ∧ ∀ i : Nat, (i : Int) < K 80 → (1 ≤ K (82 + i) ∧ K (82 + i) ≤ 400) ∧ (∃ cls, lawR K i = .ok cls) ∧ ∀ j : Nat, (j : Int) < K (82 + i) → (0 ≤ K (88 + 400 * i + j) ∧ K (88 + 400 * i + j) ≤ 355) ∧ (0 ≤ K (2488 + 400 * i + j) ∧ K (2488 + 400 * i + j) ≤ 10000009)
section KOS
variable {K : Nat → Int} {D M : Int}
theorem KO.n (h : KO K D M) : 0 ≤ K 77 ∧ K 77 ≤ 8 := h.1
theorem KO.f (h : KO K D M) {c : Nat} (hc : c < 8) : (0 ≤ K (5 * c) ∧ K (5 * c) ≤ 40) ∧ (0 ≤ K (5 * c + 1) ∧ K (5 * c + 1) ≤ 9) ∧ (0 ≤ K (5 * c + 2) ∧ K (5 * c + 2) ≤ 1) ∧ (0 ≤ K (5 * c + 3) ∧ K (5 * c + 3) ≤ 9999) ∧ (0 ≤ K (5 * c + 4) ∧ K (5 * c + 4) ≤ 999999) := h.2.1 c hc
theorem KO.dz (h : KO K D M) : 2 ≤ K 40 ∧ K 40 ≤ 20 := h.2.2.1
theorem KO.lp (h : KO K D M) : 0 ≤ K 41 ∧ K 41 ≤ 9 := h.2.2.2.1
theorem KO.dy (h : KO K D M) : 0 ≤ K 42 ∧ K 42 ≤ D := h.2.2.2.2.1
theorem KO.b0 (h : KO K D M) : 0 ≤ K 43 ∧ K 43 ≤ M := h.2.2.2.2.2.1
theorem KO.b1 (h : KO K D M) : 0 ≤ K 44 ∧ K 44 ≤ M := h.2.2.2.2.2.2.1
theorem KO.sm (h : KO K D M) : 0 ≤ K 78 ∧ K 78 ≤ 8 := h.2.2.2.2.2.2.2.1
theorem KO.cm (h : KO K D M) : 0 ≤ K 79 ∧ K 79 ≤ 8 := h.2.2.2.2.2.2.2.2.1
theorem KO.si (h : KO K D M) (i : Nat) (hi : (i : Int) < K 78) : (0 ≤ K (45 + 2 * i) ∧ K (45 + 2 * i) < K 77) ∧ (0 ≤ K (46 + 2 * i) ∧ K (46 + 2 * i) ≤ 20) := h.2.2.2.2.2.2.2.2.2.1 i hi
theorem KO.ci (h : KO K D M) (i : Nat) (hi : (i : Int) < K 79) : (0 ≤ K (61 + 2 * i) ∧ K (61 + 2 * i) < K 77) ∧ (0 ≤ K (62 + 2 * i) ∧ K (62 + 2 * i) ≤ 20) := h.2.2.2.2.2.2.2.2.2.2.1 i hi
theorem KO.nl (h : KO K D M) : 0 ≤ K 80 ∧ K 80 ≤ 6 := h.2.2.2.2.2.2.2.2.2.2.2.1
theorem KO.fo (h : KO K D M) : -1 ≤ K 81 ∧ K 81 < K 80 := h.2.2.2.2.2.2.2.2.2.2.2.2.1
theorem KO.lw (h : KO K D M) (i : Nat) (hi : (i : Int) < K 80) : (1 ≤ K (82 + i) ∧ K (82 + i) ≤ 400) ∧ (∃ cls, lawR K i = .ok cls) ∧ ∀ j : Nat, (j : Int) < K (82 + i) → (0 ≤ K (88 + 400 * i + j) ∧ K (88 + 400 * i + j) ≤ 355) ∧ (0 ≤ K (2488 + 400 * i + j) ∧ K (2488 + 400 * i + j) ≤ 10000009) := h.2.2.2.2.2.2.2.2.2.2.2.2.2 i hi
theorem KO.up (h : KO K D M) {D' M' : Int} (h1 : D ≤ D') (h2 : M ≤ M') : KO K D' M' := by
  obtain ⟨a1, a2, a3, a4, a5, a6, a7, a8⟩ := h
  exact ⟨a1, a2, a3, a4, by omega, by omega, by omega, a8⟩
end KOS
theorem eK_r {K : Nat → Int} {D M : Int} (h : KO K D M) {day had oth : Int} {c : Nat} (hc : c < 8) (hd : -1000000000 ≤ day ∧ day ≤ 1000000000) (hh : -1000000000 ≤ had ∧ had ≤ 1000000000) (ho : -1 ≤ oth ∧ oth < 8) : ∀ k, k < 8 → -1000000000 ≤ eK K day had c oth k ∧ eK K day had c oth k ≤ 1000000000 := by
  intro k hk
  have h1 := h.f hc
  unfold eK
  have h2 : ¬ oth = -1 → -1000000000 ≤ K (5 * oth.toNat + 1) ∧ K (5 * oth.toNat + 1) ≤ 1000000000 := fun q => by
    have := h.f (c := oth.toNat) (by omega)
    omega
  generalize K (5 * oth.toNat + 1) = X at h2 ⊢
  repeat' split
  all_goals omega
/-- the Bakery at b stands for K -/
def BK (g : Gm) (f : Fm) (b : Nat) (K : Nat → Int) : Prop := f b 5 = K 77 ∧ f b 6 = K 80 ∧ f b 7 = K 81 ∧ (∀ w c, w < 5 → c < 8 → f (b + 1) (8 * w + c) = K (5 * c + w)) ∧ (∀ t, t < 5 → f (b + 2) t = K (40 + t)) ∧ f (b + 4) 2 = K 78 ∧ (∀ i, i < 8 → f (b + 5) i = K (45 + 2 * i) ∧ f (b + 6) i = K (46 + 2 * i)) ∧ f (b + 7) 2 = K 79 ∧ (∀ i, i < 8 → f (b + 8) i = K (61 + 2 * i) ∧ f (b + 9) i = K (62 + 2 * i)) ∧ (∀ i : Nat, (i : Int) < K 80 → ∃ q, grm g (b + 3) i = some (q + 2) ∧ LawAt g f q (lawK K i)) ∧ ∀ i p, grm g (b + 3) i = some p → isK g p 3
section BKS
variable {g : Gm} {f : Fm} {b : Nat} {K : Nat → Int}
theorem BK.n (h : BK g f b K) : f b 5 = K 77 := h.1
theorem BK.nl (h : BK g f b K) : f b 6 = K 80 := h.2.1
theorem BK.fo (h : BK g f b K) : f b 7 = K 81 := h.2.2.1
theorem BK.tr (h : BK g f b K) {w c : Nat} (hw : w < 5) (hc : c < 8) : f (b + 1) (8 * w + c) = K (5 * c + w) := h.2.2.2.1 w c hw hc
theorem BK.te (h : BK g f b K) {t : Nat} (ht : t < 5) : f (b + 2) t = K (40 + t) := h.2.2.2.2.1 t ht
theorem BK.sm (h : BK g f b K) : f (b + 4) 2 = K 78 := h.2.2.2.2.2.1
theorem BK.si (h : BK g f b K) {i : Nat} (hi : i < 8) : f (b + 5) i = K (45 + 2 * i) ∧ f (b + 6) i = K (46 + 2 * i) := h.2.2.2.2.2.2.1 i hi
theorem BK.cm (h : BK g f b K) : f (b + 7) 2 = K 79 := h.2.2.2.2.2.2.2.1
theorem BK.ci (h : BK g f b K) {i : Nat} (hi : i < 8) : f (b + 8) i = K (61 + 2 * i) ∧ f (b + 9) i = K (62 + 2 * i) := h.2.2.2.2.2.2.2.2.1 i hi
theorem BK.lw (h : BK g f b K) (i : Nat) (hi : (i : Int) < K 80) : ∃ q, grm g (b + 3) i = some (q + 2) ∧ LawAt g f q (lawK K i) := h.2.2.2.2.2.2.2.2.2.1 i hi
theorem BK.lk (h : BK g f b K) : ∀ i p, grm g (b + 3) i = some p → isK g p 3 := h.2.2.2.2.2.2.2.2.2.2
/-- rows of others have changed -/
theorem BK.mem {f' : Fm} (h : BK g f b K) (hf : ∀ q, (b ≤ q ∧ q < b + 10) ∨ (195 ≤ q ∧ q < gnx g) → f' q = f q) : BK g f' b K := by
  have e : ∀ i, i < 10 → f' (b + i) = f (b + i) := fun i hi => hf _ (Or.inl (by omega))
  have e0 : f' b = f b := e 0 (by decide)
  refine ⟨by rw [e0]; exact h.n, by rw [e0]; exact h.nl, by rw [e0]; exact h.fo, fun w c hw hc => by rw [e 1 (by decide)]; exact h.tr hw hc, fun t ht => by rw [e 2 (by decide)]; exact h.te ht, by rw [e 4 (by decide)]; exact h.sm, fun i hi => by rw [e 5 (by decide), e 6 (by decide)]; exact h.si hi, by rw [e 7 (by decide)]; exact h.cm, fun i hi => by rw [e 8 (by decide), e 9 (by decide)]; exact h.ci hi, fun i hi => ?_, h.lk⟩
  obtain ⟨q, h1, h2⟩ := h.lw i hi
  exact ⟨q, h1, h2.mem (gx.rf g) (fun a h3 h4 => hf a (Or.inr ⟨h3, h4⟩))⟩
end BKS
theorem LawAt.k {g : Gm} {f : Fm} {q : Nat} {cls : List Cl} (h : LawAt g f q cls) : isK g (q + 2) 3 := h.2.1
theorem LawAt.r0 {g : Gm} {f : Fm} {q : Nat} {cls : List Cl} (h : LawAt g f q cls) : grm g (q + 2) 0 = some q := h.2.2.1
theorem LawAt.r1 {g : Gm} {f : Fm} {q : Nat} {cls : List Cl} (h : LawAt g f q cls) : grm g (q + 2) 1 = some (q + 1) := h.2.2.2.1
theorem LawAt.cn {g : Gm} {f : Fm} {q : Nat} {cls : List Cl} (h : LawAt g f q cls) : f (q + 2) 2 = ((cls.length : Nat) : Int) := h.2.2.2.2.1
theorem LawAt.ad {g : Gm} {f : Fm} {q : Nat} {cls : List Cl} (h : LawAt g f q cls) : f (q + 2) 3 = dyL 0 cls := h.2.2.2.2.2.1
theorem LawAt.a1 {g : Gm} {f : Fm} {q : Nat} {cls : List Cl} (h : LawAt g f q cls) : isA g (q + 1) 11 (cls.length * 4) := h.2.2.2.2.2.2.2.2.1
theorem lwc_at {A M : Nat → Int} : ∀ (cls : List Cl) (k0 s n k : Nat) (hk : k < cls.length), lwc A M cls k0 s n → ∃ s1 s2, clc A M (k0 + k) (cls[k]) s1 s2 ∧ s1 ≤ s2 ∧ s2 ≤ n
  | [], k0, s, n, k, hk, h => absurd hk (Nat.not_lt_zero _)
  | cl :: rest, k0, s, n, 0, hk, h => by
    obtain ⟨m, h1, h2, h3⟩ := h
    exact ⟨s, m, h1, h2, lwc_le _ _ _ _ h3⟩
  | cl :: rest, k0, s, n, k + 1, hk, h => by
    obtain ⟨m, h1, h2, h3⟩ := h
    obtain ⟨s1, s2, q1, q2, q3⟩ := lwc_at rest (k0 + 1) m n k (by simpa using hk) h3
    exact ⟨s1, s2, by rw [show k0 + (k + 1) = k0 + 1 + k by omega]; exact q1, q2, q3⟩
theorem evS_r {e : Nat → Int} (he : ∀ k, k < 8 → -1000000000 ≤ e k ∧ e k ≤ 1000000000) {A : Nat → Int} : ∀ {t : Term} {s s' : Nat} {v : Int}, cdS A t s s' → evS e t = some v → -1000000000 ≤ v ∧ v ≤ 1000000000 := by
  intro t
  cases t <;> intro s s' v h h2 <;> simp only [cdS] at h <;> first | exact h.elim | skip
  case arg n => simp only [evS] at h2; cases h2; omega
  case index n => simp only [evS] at h2; cases h2; exact he n h.2.1
  case div a b =>
    simp only [evS] at h2
    split at h2
    · split at h2
      · cases h2
      · obtain ⟨rfl, r⟩ := bnd_in h2; exact r
    · cases h2
  all_goals
    simp only [evS] at h2
    split at h2
    · obtain ⟨rfl, r⟩ := bnd_in h2; exact r
    · cases h2
theorem ite_some {p : Prop} [Decidable p] {x : Option Int} {v : Int} (h : (if p then x else none) = some v) : p ∧ x = some v := by
  by_cases hp : p
  · rw [if_pos hp] at h; exact ⟨hp, h⟩
  · rw [if_neg hp] at h; cases h
/-- what a clause tells is within bounds -/
theorem clV_r {e : Nat → Int} (he : ∀ k, k < 8 → -1000000000 ≤ e k ∧ e k ≤ 1000000000) {A M : Nat → Int} {cl : Cl} {k s s' : Nat} {v : Int} (h : clc A M k cl s s') (h2 : clV e cl = some v) : -1000000000 ≤ v ∧ v ≤ 1000000000 := by
  obtain ⟨-, -, -, m, -, h5, -, -⟩ := h
  unfold clV at h2
  obtain ⟨-, h3⟩ := ite_some h2
  by_cases hc : cl.1 = true
  · rw [if_pos hc] at h5 h3
    exact evS_r he h5 h3
  · rw [if_neg hc] at h3
    cases h3; omega

/-! The grammar, bracket level by bracket level (e: how many more may open). -/
abbrev PR : Type := Except Nat (Term × Nat × Nat)
def bndP (r : PR) (h : Term → Nat → Nat → PR) : PR := match r with
  | .error e => .error e
  | .ok q => h q.1 q.2.1 q.2.2
theorem bnd_e {r : PR} {h : Term → Nat → Nat → PR} {x : Nat} (hr : r = .error x) : bndP r h = .error x := by rw [hr]; rfl
theorem bnd_o {r : PR} {h : Term → Nat → Nat → PR} {t : Term} {j lv : Nat} (hr : r = .ok (t, j, lv)) : bndP r h = h t j lv := by rw [hr]; rfl
section GRAM
variable (c v : Nat → Int)
def sPart (sum : Nat → Nat → PR) (e j lv : Nat) : PR :=
  if c j = 191 then (if e = 0 then .error j else bndP (sum (j + 1) lv) (fun t j1 l1 => if c j1 = 193 then .ok (t, j1 + 1, l1) else .error j1))
  else if c j = 50 ∧ v j ≤ 1000 then (if lv = 50 then .error j else .ok (.arg (v j).toNat, j + 1, lv + 1))
  else if 7 ≤ c j ∧ c j ≤ 14 then (if lv = 50 then .error j else .ok (.index (c j - 7).toNat, j + 1, lv + 1)) else .error j
def sTermR (part : Nat → Nat → PR) : Nat → Term → Nat → Nat → PR
  | 0, acc, j, lv => .ok (acc, j, lv)
  | k + 1, acc, j, lv => if c j = 142 then bndP (part (j + 1) lv) (fun t j1 l1 => sTermR part k (.mul acc t) j1 l1)
    else if c j = 147 then bndP (part (j + 1) lv) (fun t j1 l1 => sTermR part k (.div acc t) j1 l1) else .ok (acc, j, lv)
def sTerm (part : Nat → Nat → PR) (j lv : Nat) : PR := bndP (part j lv) (fun t j1 l1 => sTermR c part 400 t j1 l1)
def sSumR (term : Nat → Nat → PR) : Nat → Term → Nat → Nat → PR
  | 0, acc, j, lv => .ok (acc, j, lv)
  | k + 1, acc, j, lv => if c j = 143 then bndP (term (j + 1) lv) (fun t j1 l1 => sSumR term k (.add acc t) j1 l1)
    else if c j = 145 then bndP (term (j + 1) lv) (fun t j1 l1 => sSumR term k (.sub acc t) j1 l1) else .ok (acc, j, lv)
def sSum (term : Nat → Nat → PR) (j lv : Nat) : PR := bndP (term j lv) (fun t j1 l1 => sSumR c term 400 t j1 l1)
def sNot : Nat → Bool → Nat → Bool × Nat
  | 0, b, j => (b, j)
  | k + 1, b, j => if c j = 6 then sNot k (!b) (j + 1) else (b, j)
def sCmp (sum : Nat → Nat → PR) (j lv : Nat) : PR := bndP (sum j lv) (fun a j1 l1 =>
  if c j1 = 160 then bndP (sum (j1 + 1) l1) (fun b j2 l2 => .ok (.sub a b, j2, l2))
  else if c j1 = 162 then bndP (sum (j1 + 1) l1) (fun b j2 l2 => .ok (.div a b, j2, l2))
  else if c j1 = 161 then bndP (sum (j1 + 1) l1) (fun b j2 l2 => .ok (.rem a b, j2, l2)) else .error j1)
def sPos (sum test : Nat → Nat → PR) (e j lv : Nat) : PR :=
  if c j = 140 then (if e = 0 then .error j else bndP (test (j + 1) lv) (fun t j1 l1 => if c j1 = 141 then .ok (t, j1 + 1, l1) else .error j1))
  else sCmp c sum j lv
def sPlain (sum test : Nat → Nat → PR) (e j lv : Nat) : PR :=
  bndP (sPos c sum test e (sNot c 400 false j).2 lv) (fun t j1 l1 => .ok (if (sNot c 400 false j).1 = true then .sum t else t, j1, l1))
def sBothR (plain : Nat → Nat → PR) : Nat → Term → Nat → Nat → PR
  | 0, acc, j, lv => .ok (acc, j, lv)
  | k + 1, acc, j, lv => if c j = 5 then bndP (plain (j + 1) lv) (fun t j1 l1 => sBothR plain k (.mul acc t) j1 l1) else .ok (acc, j, lv)
def sBoth (plain : Nat → Nat → PR) (j lv : Nat) : PR := bndP (plain j lv) (fun t j1 l1 => sBothR c plain 400 t j1 l1)
def sTestR (both : Nat → Nat → PR) : Nat → Term → Nat → Nat → PR
  | 0, acc, j, lv => .ok (acc, j, lv)
  | k + 1, acc, j, lv => if c j = 4 then bndP (both (j + 1) lv) (fun t j1 l1 => sTestR both k (.add acc t) j1 l1) else .ok (acc, j, lv)
def sTest (both : Nat → Nat → PR) (j lv : Nat) : PR := bndP (both j lv) (fun t j1 l1 => sTestR c both 400 t j1 l1)
/-- the SUM and the TEST of a level out of those one level deeper -/
def lvP (sum : Nat → Nat → PR) (e : Nat) : Nat → Nat → PR := sPart c v sum e
def lvS (sum : Nat → Nat → PR) (e : Nat) : Nat → Nat → PR := sSum c (sTerm c (sPart c v sum e))
def lvT (sum test : Nat → Nat → PR) (e : Nat) : Nat → Nat → PR := sTest c (sBoth c (sPlain c (lvS c v sum e) test e))
def lev : Nat → (Nat → Nat → PR) × (Nat → Nat → PR)
  | 0 => (lvS c v (fun j _ => .error j) 0, lvT c v (fun j _ => .error j) (fun j _ => .error j) 0)
  | e + 1 => (lvS c v (lev e).1 (e + 1), lvT c v (lev e).1 (lev e).2 (e + 1))
def sSumT : Nat → Nat → PR := (lev c v 8).1
def sTestT : Nat → Nat → PR := (lev c v 8).2
/-- a clause -/
def sCl (j lv : Nat) : Except Nat (Cl × Nat × Nat) :=
  match (if c j = 1 then sSumT c v (j + 1) lv else if c j = 2 then .ok (.null, j + 1, lv) else .error j : PR) with
  | .error e => .error e
  | .ok q => if c q.2.1 = 3 then (match sTestT c v (q.2.1 + 1) q.2.2 with
      | .error e => .error e
      | .ok q2 => .ok ((decide (c j = 1), q.1, some q2.1), q2.2.1, q2.2.2)) else .ok ((decide (c j = 1), q.1, none), q.2.1, q.2.2)
/-- clauses from the token j on, m more at most; en: the end is there -/
def sLaw (en : Nat → Bool) : Nat → Nat → Nat → List Cl → Except Nat (List Cl)
  | 0, j, _, _ => .error j
  | m + 1, j, lv, acc => match sCl c v j lv with
    | .error e => .error e
    | .ok q => if en q.2.1 = true then .ok (acc ++ [q.1]) else if c q.2.1 = 159 then sLaw en m (q.2.1 + 1) q.2.2 (acc ++ [q.1]) else .error q.2.1
end GRAM
def lvs : Term → Nat
  | .arg _ => 1
  | .index _ => 1
  | .add a b => lvs a + lvs b
  | .sub a b => lvs a + lvs b
  | .mul a b => lvs a + lvs b
  | .div a b => lvs a + lvs b
  | .rem a b => lvs a + lvs b
  | .sum a => lvs a
  | _ => 0
def hasDay : Term → Bool
  | .index k => decide (k = 5)
  | .add a b => hasDay a || hasDay b
  | .sub a b => hasDay a || hasDay b
  | .mul a b => hasDay a || hasDay b
  | .div a b => hasDay a || hasDay b
  | .rem a b => hasDay a || hasDay b
  | .sum a => hasDay a
  | _ => false
def dyO (dy : Int) (t : Term) : Int := if hasDay t = true then 1 else dy
/-- the steps of a SUM stand at s .. s' - 1 -/
def cdS (A : Nat → Int) : Term → Nat → Nat → Prop
  | .arg n, s, s' => A s = 16 * (n : Int) ∧ n ≤ 1000 ∧ s' = s + 1
  | .index k, s, s' => A s = 1 + 16 * (k : Int) ∧ k < 8 ∧ s' = s + 1
  | .add a b, s, s' => ∃ m m', cdS A a s m ∧ cdS A b m m' ∧ A m' = 2 ∧ s' = m' + 1
  | .sub a b, s, s' => ∃ m m', cdS A a s m ∧ cdS A b m m' ∧ A m' = 3 ∧ s' = m' + 1
  | .mul a b, s, s' => ∃ m m', cdS A a s m ∧ cdS A b m m' ∧ A m' = 4 ∧ s' = m' + 1
  | .div a b, s, s' => ∃ m m', cdS A a s m ∧ cdS A b m m' ∧ A m' = 5 ∧ s' = m' + 1
  | _, _, _ => False
/-- the steps of a TEST -/
def cdT (A : Nat → Int) : Term → Nat → Nat → Prop
  | .sub a b, s, s' => ∃ m m', cdS A a s m ∧ cdS A b m m' ∧ A m' = 6 ∧ s' = m' + 1
  | .div a b, s, s' => ∃ m m', cdS A a s m ∧ cdS A b m m' ∧ A m' = 7 ∧ s' = m' + 1
  | .rem a b, s, s' => ∃ m m', cdS A a s m ∧ cdS A b m m' ∧ A m' = 8 ∧ s' = m' + 1
  | .sum a, s, s' => ∃ m, cdT A a s m ∧ A m = 9 ∧ s' = m + 1
  | .add a b, s, s' => ∃ m, cdT A a s m ∧ A m = 10 + 16 * (s' : Int) ∧ cdT A b (m + 1) s'
  | .mul a b, s, s' => ∃ m, cdT A a s m ∧ A m = 11 + 16 * (s' : Int) ∧ cdT A b (m + 1) s'
  | _, _, _ => False
theorem cdS_lt {A : Nat → Int} : ∀ {t : Term} {s s' : Nat}, cdS A t s s' → s < s' := by
  intro t
  induction t <;> intro s s' h <;> simp only [cdS] at h <;> first | exact h.elim | omega | skip
  all_goals
    rename_i iha ihb
    obtain ⟨m, m', h1, h2, -, rfl⟩ := h
    have := iha h1
    have := ihb h2
    omega
theorem cdT_lt {A : Nat → Int} : ∀ {t : Term} {s s' : Nat}, cdT A t s s' → s < s' := by
  intro t
  induction t <;> intro s s' h <;> simp only [cdT] at h <;> first | exact h.elim | skip
  case sub | div | rem =>
    obtain ⟨m, m', h1, h2, -, rfl⟩ := h
    have := cdS_lt h1
    have := cdS_lt h2
    omega
  case add | mul =>
    rename_i iha ihb
    obtain ⟨m, h1, -, h2⟩ := h
    have := iha h1
    have := ihb h2
    omega
  case sum =>
    rename_i iha
    obtain ⟨m, h1, -, rfl⟩ := h
    have := iha h1
    omega
theorem cdS_congr {A A' : Nat → Int} : ∀ {t : Term} {s s' : Nat}, (∀ i, s ≤ i → i < s' → A' i = A i) → cdS A t s s' → cdS A' t s s' := by
  intro t
  induction t <;> intro s s' hA h <;> simp only [cdS] at h ⊢ <;> first | exact h | skip
  case arg | index => obtain ⟨h1, h2, rfl⟩ := h; exact ⟨by rw [hA s (by omega) (by omega)]; exact h1, h2, rfl⟩
  all_goals
    rename_i iha ihb
    obtain ⟨m, m', h1, h2, h3, rfl⟩ := h
    have l1 := cdS_lt h1
    have l2 := cdS_lt h2
    exact ⟨m, m', iha (fun i q1 q2 => hA i (by omega) (by omega)) h1, ihb (fun i q1 q2 => hA i (by omega) (by omega)) h2, by rw [hA m' (by omega) (by omega)]; exact h3, rfl⟩
theorem cdT_congr {A A' : Nat → Int} : ∀ {t : Term} {s s' : Nat}, (∀ i, s ≤ i → i < s' → A' i = A i) → cdT A t s s' → cdT A' t s s' := by
  intro t
  induction t <;> intro s s' hA h <;> simp only [cdT] at h ⊢ <;> first | exact h | skip
  case sub | div | rem =>
    obtain ⟨m, m', h1, h2, h3, rfl⟩ := h
    have l1 := cdS_lt h1
    have l2 := cdS_lt h2
    exact ⟨m, m', cdS_congr (fun i q1 q2 => hA i (by omega) (by omega)) h1, cdS_congr (fun i q1 q2 => hA i (by omega) (by omega)) h2, by rw [hA m' (by omega) (by omega)]; exact h3, rfl⟩
  case add | mul =>
    rename_i iha ihb
    obtain ⟨m, h1, h2, h3⟩ := h
    have l1 := cdT_lt h1
    have l2 := cdT_lt h3
    exact ⟨m, iha (fun i q1 q2 => hA i (by omega) (by omega)) h1, by rw [hA m (by omega) (by omega)]; exact h2, ihb (fun i q1 q2 => hA i (by omega) (by omega)) h3⟩
  case sum =>
    rename_i iha
    obtain ⟨m, h1, h2, rfl⟩ := h
    have l1 := cdT_lt h1
    exact ⟨m, iha (fun i q1 q2 => hA i (by omega) (by omega)) h1, by rw [hA m (by omega) (by omega)]; exact h2, rfl⟩

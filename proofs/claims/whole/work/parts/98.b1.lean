/-! A row of customers: who is served before place i, what each gets. -/
def sO (od : Nat → Nat) : Nat → Nat
  | 0 => 0
  | i + 1 => sO od i ||| 2 ^ od i
theorem sO_s (od : Nat → Nat) (i : Nat) : sO od (i + 1) = sO od i ||| 2 ^ od i := rfl
def okO (od : Nat → Nat) (n : Nat) : Prop := ∀ i, i < n → od i < n ∧ ¬ (sO od i).testBit (od i) = true
theorem sO_bit (od : Nat → Nat) : ∀ i c, (sO od i).testBit c = true ↔ ∃ j, j < i ∧ od j = c
  | 0, c => by
    constructor
    · intro h; simp [sO] at h
    · rintro ⟨j, hj, _⟩; exact absurd hj (by omega)
  | i + 1, c => by
    rw [sO_s, Nat.testBit_or, Nat.testBit_two_pow, Bool.or_eq_true, sO_bit od i c]
    constructor
    · rintro (⟨j, hj, e⟩ | h)
      · exact ⟨j, by omega, e⟩
      · exact ⟨i, by omega, of_decide_eq_true h⟩
    · rintro ⟨j, hj, e⟩
      rcases (show j < i ∨ j = i by omega) with q | q
      · exact Or.inl ⟨j, q, e⟩
      · subst q; exact Or.inr (decide_eq_true e)
theorem okO_ne {od : Nat → Nat} {n i j : Nat} (h : okO od n) (hi : i < n) (hj : j < i) : od j ≠ od i := fun e => (h i hi).2 ((sO_bit od i _).mpr ⟨j, hj, e⟩)
theorem sO_lt {od : Nat → Nat} {n : Nat} (h : okO od n) : ∀ i, i ≤ n → sO od i < 2 ^ n
  | 0, _ => Nat.two_pow_pos n
  | i + 1, hi => or_lt (sO_lt h i (by omega)) (h i (by omega)).1
theorem sO_bc {od : Nat → Nat} {n : Nat} (h : okO od n) : ∀ i, i ≤ n → bc (sO od i) n = i
  | 0, _ => bc_0 n
  | i + 1, hi => by rw [sO_s, bc_or (h i (by omega)).2 (h i (by omega)).1, sO_bc h i (by omega)]
theorem okO_sur {od : Nat → Nat} {n c : Nat} (h : okO od n) (hc : c < n) : ∃ j, j < n ∧ od j = c := (sO_bit od n c).mp (bc_full n (sO_bc h n (Nat.le_refl _)) c hc)
theorem okO_id (n : Nat) : okO (fun i => i) n := by
  intro i hi
  refine ⟨hi, fun e => ?_⟩
  obtain ⟨j, hj, e2⟩ := (sO_bit _ i i).mp e
  omega
/-- how many loaves the oven o has baked when the set s was served -/
def stO (ov wa bk : Nat → Nat) (n o s : Nat) : Nat := bk o + lvN (fun k => if ov k = o then wa k else 0) s n
theorem stO_0 (ov wa bk : Nat → Nat) (n o : Nat) : stO ov wa bk n o 0 = bk o := by
  unfold stO
  have : ∀ k, lvN (fun k => if ov k = o then wa k else 0) 0 k = 0 := by
    intro k
    induction k with
    | zero => rfl
    | succ k ih => rw [lvN_s, ih, if_neg (by simp)]
  rw [this n]; rfl
theorem stO_s {ov wa bk : Nat → Nat} {n o s c : Nat} (hc : c < n) (hs : ¬ s.testBit c = true) : stO ov wa bk n o (s ||| 2 ^ c) = stO ov wa bk n o s + if ov c = o then wa c else 0 := by
  unfold stO
  rw [lv_or1 hs, if_pos hc, Nat.add_assoc]
theorem stV_O {ov wa bk : Nat → Nat} {n s c : Nat} : stV n ov wa bk s c = ((stO ov wa bk n (ov c) s : Nat) : Int) := by
  unfold stV stO
  have : ∀ j, sumN j (stT ov wa s c) = ((lvN (fun k => if ov k = ov c then wa k else 0) s j : Nat) : Int) := by
    intro j
    induction j with
    | zero => rfl
    | succ j ih =>
      simp only [sumN]
      rw [ih, lvN_s]
      unfold stT
      by_cases h1 : s.testBit j = true
      · by_cases h2 : ov j = ov c
        · rw [if_pos ⟨h1, h2⟩, if_pos h1, if_pos h2]; omega
        · rw [if_neg (fun q => h2 q.2), if_pos h1, if_neg h2]; omega
      · rw [if_neg (fun q => h1 q.1), if_neg h1]; omega
  rw [this n]
  omega
theorem stO_full {ov wa bk : Nat → Nat} {n o s : Nat} (hs : ∀ k, k < n → s.testBit k = true) : stO ov wa bk n o s = bk o + swN ov wa o n := by
  unfold stO
  congr 1
  have : ∀ j, j ≤ n → lvN (fun k => if ov k = o then wa k else 0) s j = swN ov wa o j := by
    intro j
    induction j with
    | zero => intro _; rfl
    | succ j ih => intro hj; rw [lvN_s, swN_s, ih (by omega), if_pos (hs j (by omega))]
  exact this n (Nat.le_refl _)
/-! What a day by a row does to what is kept. -/
def gsK (K : Nat → Int) (n : Nat) (od : Nat → Nat) (i : Nat) : Int := geV (K 40) (K 41) n (ovK K) (waK K (K 42) (hdK K)) (bkK K) (sO od i) (od i)
def gcK (K : Nat → Int) (n : Nat) (od : Nat → Nat) (c : Nat) : Int := sumN n (fun i => if od i = c then gsK K n od i else 0)
def alK (K : Nat → Int) (n : Nat) (od : Nat → Nat) (i : Nat) : Int := sumN i (gsK K n od)
theorem gcK_at {K : Nat → Int} {n : Nat} {od : Nat → Nat} (h : okO od n) {i : Nat} (hi : i < n) : gcK K n od (od i) = gsK K n od i := by
  unfold gcK
  have : ∀ m, m ≤ n → sumN m (fun j => if od j = od i then gsK K n od j else 0) = if i < m then gsK K n od i else 0 := by
    intro m
    induction m with
    | zero => intro _; rfl
    | succ m ih =>
      intro hm
      simp only [sumN]
      rw [ih (by omega)]
      rcases (show m < i ∨ m = i ∨ i < m by omega) with q | q | q
      · rw [if_neg (show ¬ i < m by omega), if_neg (okO_ne h hi q), if_neg (show ¬ i < m + 1 by omega)]; rfl
      · subst q; rw [if_neg (show ¬ m < m by omega), if_pos rfl, if_pos (show m < m + 1 by omega), Int.zero_add]
      · rw [if_pos q, if_neg (Ne.symm (okO_ne h (by omega) q)), if_pos (show i < m + 1 by omega), Int.add_zero]
  rw [this n (Nat.le_refl _), if_pos hi]
theorem gsK_r {K : Nat → Int} {D M : Int} {n : Nat} {od : Nat → Nat} (hO : KO K D M) (hn : n ≤ 8) (i : Nat) (hi : od i < n) : 0 ≤ gsK K n od i ∧ gsK K n od i ≤ 20 := by
  unfold gsK geV
  rw [stV_O]
  exact blA_20 hO.dz.1 hO.lp (by omega) (waK_r hO (by omega))
theorem alK_r {K : Nat → Int} {D M : Int} {n : Nat} {od : Nat → Nat} (hO : KO K D M) (hn : n ≤ 8) (h : okO od n) : ∀ i, i ≤ n → 0 ≤ alK K n od i ∧ alK K n od i ≤ 20 * (i : Int)
  | 0, _ => by unfold alK; simp [sumN]
  | i + 1, hi => by
    have h1 := alK_r hO hn h i (by omega)
    have h2 := gsK_r (od := od) hO hn i (h i (by omega)).1
    unfold alK at h1 ⊢
    simp only [sumN]
    omega
theorem gcK_r {K : Nat → Int} {D M : Int} {n : Nat} {od : Nat → Nat} (hO : KO K D M) (hn : n ≤ 8) (h : okO od n) {c : Nat} (hc : c < n) : 0 ≤ gcK K n od c ∧ gcK K n od c ≤ 20 := by
  obtain ⟨j, hj, rfl⟩ := okO_sur h hc
  rw [gcK_at h hj]
  exact gsK_r hO hn j (h j hj).1
/-- the day fits, as far as the first i of the row are looked at -/
def ftB (K : Nat → Int) (n : Nat) (od : Nat → Nat) : Nat → Bool
  | 0 => decide (K 42 < 9999)
  | i + 1 => ftB K n od i && (decide (K (5 * od i + 3) + gsK K n od i ≤ 9999) && decide (K (5 * od i + 4) + ((waK K (K 42) (hdK K) (od i) : Nat) : Int) ≤ 999999))
theorem ftB_s (K : Nat → Int) (n : Nat) (od : Nat → Nat) (i : Nat) : ftB K n od (i + 1) = (ftB K n od i && (decide (K (5 * od i + 3) + gsK K n od i ≤ 9999) && decide (K (5 * od i + 4) + ((waK K (K 42) (hdK K) (od i) : Nat) : Int) ≤ 999999))) := rfl
theorem ftB_y {K : Nat → Int} {n : Nat} {od : Nat → Nat} {i : Nat} (h : ftB K n od i = true) (h1 : K (5 * od i + 3) + gsK K n od i ≤ 9999) (h2 : K (5 * od i + 4) + ((waK K (K 42) (hdK K) (od i) : Nat) : Int) ≤ 999999) : ftB K n od (i + 1) = true := by rw [ftB_s, h, decide_eq_true h1, decide_eq_true h2]; rfl
theorem ftB_n {K : Nat → Int} {n : Nat} {od : Nat → Nat} {i : Nat} (h : ¬ (ftB K n od i = true ∧ K (5 * od i + 3) + gsK K n od i ≤ 9999 ∧ K (5 * od i + 4) + ((waK K (K 42) (hdK K) (od i) : Nat) : Int) ≤ 999999)) : ¬ ftB K n od (i + 1) = true := by
  rw [ftB_s]
  intro e
  simp only [Bool.and_eq_true, decide_eq_true_eq] at e
  exact h ⟨e.1, e.2.1, e.2.2⟩
def fitP (K : Nat → Int) (n : Nat) (od : Nat → Nat) : Prop := K 42 < 9999 ∧ (∀ c, c < n → K (5 * c + 3) + gcK K n od c ≤ 9999 ∧ K (5 * c + 4) + ((waK K (K 42) (hdK K) c : Nat) : Int) ≤ 999999) ∧ bkK K 0 + swN (ovK K) (waK K (K 42) (hdK K)) 0 n ≤ 999999 ∧ bkK K 1 + swN (ovK K) (waK K (K 42) (hdK K)) 1 n ≤ 999999
theorem ftB_iff {K : Nat → Int} {n : Nat} {od : Nat → Nat} (h : okO od n) : ftB K n od n = true ↔ (K 42 < 9999 ∧ ∀ c, c < n → K (5 * c + 3) + gcK K n od c ≤ 9999 ∧ K (5 * c + 4) + ((waK K (K 42) (hdK K) c : Nat) : Int) ≤ 999999) := by
  have hf : ∀ m, m ≤ n → (ftB K n od m = true ↔ (K 42 < 9999 ∧ ∀ i, i < m → K (5 * od i + 3) + gsK K n od i ≤ 9999 ∧ K (5 * od i + 4) + ((waK K (K 42) (hdK K) (od i) : Nat) : Int) ≤ 999999)) := by
    intro m
    induction m with
    | zero => intro _; simp [ftB]
    | succ m ih =>
      intro hm
      rw [ftB_s, Bool.and_eq_true, Bool.and_eq_true, decide_eq_true_iff, decide_eq_true_iff, ih (by omega)]
      constructor
      · rintro ⟨⟨a, b⟩, c⟩
        refine ⟨a, fun i hi => ?_⟩
        rcases (show i < m ∨ i = m by omega) with q | q
        · exact b i q
        · subst q; exact c
      · rintro ⟨a, b⟩
        exact ⟨⟨a, fun i hi => b i (by omega)⟩, b m (by omega)⟩
  rw [hf n (Nat.le_refl _)]
  constructor
  · rintro ⟨a, b⟩
    refine ⟨a, fun c hc => ?_⟩
    obtain ⟨j, hj, rfl⟩ := okO_sur h hc
    rw [gcK_at h hj]
    exact b j hj
  · rintro ⟨a, b⟩
    refine ⟨a, fun i hi => ?_⟩
    have := b (od i) (h i hi).1
    rw [gcK_at h hi] at this
    exact this
def goK (K : Nat → Int) (n : Nat) (od : Nat → Nat) : Nat → Int := fun j => if j = 42 then K 42 + 1 else if j = 43 then K 43 + ((swN (ovK K) (waK K (K 42) (hdK K)) 0 n : Nat) : Int) else if j = 44 then K 44 + ((swN (ovK K) (waK K (K 42) (hdK K)) 1 n : Nat) : Int) else if j < 5 * n ∧ j % 5 = 3 then K j + gcK K n od (j / 5) else if j < 5 * n ∧ j % 5 = 4 then K j + ((waK K (K 42) (hdK K) (j / 5) : Nat) : Int) else K j
theorem goK_42 (K : Nat → Int) (n : Nat) (od : Nat → Nat) : goK K n od 42 = K 42 + 1 := by unfold goK; rw [if_pos rfl]
theorem goK_43 (K : Nat → Int) (n : Nat) (od : Nat → Nat) : goK K n od 43 = K 43 + ((swN (ovK K) (waK K (K 42) (hdK K)) 0 n : Nat) : Int) := by unfold goK; rw [if_neg (by decide), if_pos rfl]
theorem goK_44 (K : Nat → Int) (n : Nat) (od : Nat → Nat) : goK K n od 44 = K 44 + ((swN (ovK K) (waK K (K 42) (hdK K)) 1 n : Nat) : Int) := by unfold goK; rw [if_neg (by decide), if_neg (by decide), if_pos rfl]
theorem goK_3 (K : Nat → Int) {n : Nat} (od : Nat → Nat) {c : Nat} (hn : n ≤ 8) (hc : c < n) : goK K n od (5 * c + 3) = K (5 * c + 3) + gcK K n od c := by
  unfold goK
  rw [if_neg (by omega), if_neg (by omega), if_neg (by omega), if_pos (by omega), show (5 * c + 3) / 5 = c by omega]
theorem goK_4 (K : Nat → Int) {n : Nat} (od : Nat → Nat) {c : Nat} (hn : n ≤ 8) (hc : c < n) : goK K n od (5 * c + 4) = K (5 * c + 4) + ((waK K (K 42) (hdK K) c : Nat) : Int) := by
  unfold goK
  rw [if_neg (by omega), if_neg (by omega), if_neg (by omega), if_neg (by omega), if_pos (by omega), show (5 * c + 4) / 5 = c by omega]
theorem goK_o (K : Nat → Int) {n : Nat} (od : Nat → Nat) {j : Nat} (h : (j < 42 ∧ (5 * n ≤ j ∨ j % 5 < 3)) ∨ 44 < j) (hn : n ≤ 8) : goK K n od j = K j := by
  unfold goK
  rw [if_neg (by omega), if_neg (by omega), if_neg (by omega), if_neg (by omega), if_neg (by omega)]

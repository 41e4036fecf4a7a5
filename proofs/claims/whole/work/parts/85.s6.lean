/-! Least costs and ways, as tables by how many are still to come. -/
def tb (may : Nat → Nat → Bool) (co : Nat → Nat → Int) (bg : Bool) (n : Nat) : Nat → Nat → Int × Nat
  | 0, _ => (0, 1)
  | k + 1, s => lkF may co bg (fun u => (tb may co bg n k u).1) (fun u => (tb may co bg n k u).2) s n
def tbL (may : Nat → Nat → Bool) (co : Nat → Nat → Int) (bg : Bool) (n s : Nat) : Int := (tb may co bg n (n - bc s n) s).1
def tbW (may : Nat → Nat → Bool) (co : Nat → Nat → Int) (bg : Bool) (n s : Nat) : Nat := (tb may co bg n (n - bc s n) s).2
theorem lkF_congr {may : Nat → Nat → Bool} {co : Nat → Nat → Int} {bg : Bool} {L1 L2 : Nat → Int} {W1 W2 : Nat → Nat} {s : Nat} : ∀ k, (∀ i, i < k → may s i = true → L1 (s ||| 2 ^ i) = L2 (s ||| 2 ^ i) ∧ W1 (s ||| 2 ^ i) = W2 (s ||| 2 ^ i)) → lkF may co bg L1 W1 s k = lkF may co bg L2 W2 s k
  | 0, _ => rfl
  | k + 1, h => by
    have ih := lkF_congr (co := co) (bg := bg) k (fun i hi => h i (by omega))
    by_cases hm : may s k = true
    · obtain ⟨e1, e2⟩ := h k (Nat.lt_succ_self k) hm
      rw [lkF, lkF, e1, e2, ih]
    · rw [lkF_n (fun q => hm q.1), lkF_n (fun q => hm q.1), ih]
theorem tb_rec {may : Nat → Nat → Bool} {co : Nat → Nat → Int} {bg : Bool} {n s : Nat} (hm : ∀ i, i < n → may s i = true → ¬ s.testBit i = true) (hs : s < 2 ^ n - 1) : lkF may co bg (tbL may co bg n) (tbW may co bg n) s n = (tbL may co bg n s, tbW may co bg n s) := by
  have h1 := bc_lt hs
  unfold tbL tbW
  rw [show n - bc s n = (n - bc s n - 1) + 1 by omega]
  rw [show (tb may co bg n (n - bc s n - 1 + 1) s) = lkF may co bg (fun u => (tb may co bg n (n - bc s n - 1) u).1) (fun u => (tb may co bg n (n - bc s n - 1) u).2) s n from rfl]
  apply lkF_congr
  intro i hi hq
  rw [bc_or (hm i hi hq) hi, show n - (bc s n + 1) = n - bc s n - 1 by omega]
  exact ⟨rfl, rfl⟩
theorem tb_all {may : Nat → Nat → Bool} {co : Nat → Nat → Int} {bg : Bool} {n : Nat} : tbL may co bg n (2 ^ n - 1) = 0 ∧ tbW may co bg n (2 ^ n - 1) = 1 := by
  unfold tbL tbW
  rw [bc_all, Nat.sub_self]
  exact ⟨rfl, rfl⟩
theorem lkF_w {may : Nat → Nat → Bool} {co : Nat → Nat → Int} {bg : Bool} {Lt : Nat → Int} {Wt : Nat → Nat} {s B : Nat} (hB : ∀ i, Wt (s ||| 2 ^ i) ≤ B) : ∀ k, (lkF may co bg Lt Wt s k).2 ≤ k * B
  | 0 => by rw [lkF]; exact Nat.zero_le _
  | k + 1 => by
    have ih := lkF_w (may := may) (co := co) (bg := bg) (Lt := Lt) hB k
    have hb := hB k
    rw [Nat.succ_mul]
    rw [lkF]
    split
    · unfold lkS
      split
      · exact Nat.le_trans hb (Nat.le_add_left _ _)
      · split
        · exact Nat.add_le_add ih hb
        · exact Nat.le_trans ih (Nat.le_add_right _ _)
    · exact Nat.le_trans ih (Nat.le_add_right _ _)
theorem tb_w {may : Nat → Nat → Bool} {co : Nat → Nat → Int} {bg : Bool} {n : Nat} (hn : n ≤ 8) : ∀ k s, (tb may co bg n k s).2 ≤ 8 ^ k
  | 0, _ => by rw [tb]; decide
  | k + 1, s => by
    have ih := tb_w (may := may) (co := co) (bg := bg) hn k
    rw [tb]
    refine Nat.le_trans (lkF_w (B := 8 ^ k) (fun i => ih _) n) ?_
    rw [Nat.pow_succ, Nat.mul_comm]
    exact Nat.mul_le_mul_left _ hn
theorem tbW_r {may : Nat → Nat → Bool} {co : Nat → Nat → Int} {bg : Bool} {n : Nat} (hn : n ≤ 8) (s : Nat) : tbW may co bg n s ≤ 16777216 := by
  unfold tbW
  refine Nat.le_trans (tb_w hn _ s) (Nat.le_trans (Nat.pow_le_pow_right (by decide) (show n - bc s n ≤ 8 by omega)) (by decide))
theorem tb_l {may : Nat → Nat → Bool} {co : Nat → Nat → Int} {bg : Bool} {n : Nat} (hc : ∀ s i, i < n → -50000000 ≤ co s i ∧ co s i ≤ 50000000) : ∀ k s, 0 < (tb may co bg n k s).2 → -50000000 * (k : Int) ≤ (tb may co bg n k s).1 ∧ (tb may co bg n k s).1 ≤ 50000000 * (k : Int)
  | 0, _, _ => by rw [tb]; decide
  | k + 1, s, h => by
    have ih := tb_l (may := may) (bg := bg) hc k
    rw [tb] at h ⊢
    obtain ⟨i, hi, _, hw, hj⟩ := lkF_ex n h
    rw [← hj]
    have h1 := ih _ hw
    have h2 := hc s i hi
    unfold jnB
    split <;> omega
theorem tbL_r {may : Nat → Nat → Bool} {co : Nat → Nat → Int} {bg : Bool} {n : Nat} (hn : n ≤ 8) (hc : ∀ s i, i < n → -50000000 ≤ co s i ∧ co s i ≤ 50000000) {s : Nat} (hw : 0 < tbW may co bg n s) : -400000000 ≤ tbL may co bg n s ∧ tbL may co bg n s ≤ 400000000 := by
  unfold tbW at hw
  unfold tbL
  have h := tb_l hc _ s hw
  omega
theorem lkF_min {may : Nat → Nat → Bool} {co : Nat → Nat → Int} {bg : Bool} {Lt : Nat → Int} {Wt : Nat → Nat} {s : Nat} : ∀ k i, i < k → may s i = true → 0 < Wt (s ||| 2 ^ i) → (lkF may co bg Lt Wt s k).1 ≤ jnB bg (co s i) (Lt (s ||| 2 ^ i))
  | 0, i, h, _, _ => absurd h (Nat.not_lt_zero _)
  | k + 1, i, h, hm, hw => by
    rcases (show i < k ∨ i = k by omega) with q | rfl
    · have ih := lkF_min (bg := bg) (co := co) (Lt := Lt) k i q hm hw
      rw [lkF]
      split
      · unfold lkS
        split
        · omega
        · split <;> exact ih
      · exact ih
    · rw [lkF_y ⟨hm, hw⟩]
      unfold lkS
      split
      · exact Int.le_refl _
      · split
        · rename_i h1 h2; exact Int.le_of_eq h2.symm
        · rename_i h1 h2; exact Int.not_lt.mp h1
theorem fsU_ex {P : Nat → Bool} {n : Nat} (hx : ∃ i, i < n ∧ P i = true) : ∀ m, m ≤ n → (∀ j, j < n - m → ¬ P j = true) → fsU P n m < n ∧ P (fsU P n m) = true ∧ ∀ j, j < fsU P n m → ¬ P j = true
  | 0, _, h => by
    obtain ⟨i, hi, hp⟩ := hx
    exact absurd hp (h i (by omega))
  | m + 1, hm, h => by
    rw [fsU]
    by_cases e : P (n - (m + 1)) = true
    · rw [if_pos e]
      exact ⟨by omega, e, h⟩
    · rw [if_neg e]
      refine fsU_ex hx m (by omega) (fun j hj => ?_)
      rcases (show j < n - (m + 1) ∨ j = n - (m + 1) by omega) with q | q
      · exact h j q
      · rw [q]; exact e
/-- the walk along the first order of least cost: who is served, and what may still be spent -/
def wkS (may : Nat → Nat → Bool) (co : Nat → Nat → Int) (bg : Bool) (n : Nat) : Nat → Nat × Int
  | 0 => (0, tbL may co bg n 0)
  | p + 1 => ((wkS may co bg n p).1 ||| 2 ^ (fsU (fwB may co bg (tbL may co bg n) (tbW may co bg n) (wkS may co bg n p).1 (wkS may co bg n p).2) n n), if bg = true then (wkS may co bg n p).2 else (wkS may co bg n p).2 - co (wkS may co bg n p).1 (fsU (fwB may co bg (tbL may co bg n) (tbW may co bg n) (wkS may co bg n p).1 (wkS may co bg n p).2) n n))
def wkC (may : Nat → Nat → Bool) (co : Nat → Nat → Int) (bg : Bool) (n p : Nat) : Nat := fsU (fwB may co bg (tbL may co bg n) (tbW may co bg n) (wkS may co bg n p).1 (wkS may co bg n p).2) n n
theorem wkS_s (may : Nat → Nat → Bool) (co : Nat → Nat → Int) (bg : Bool) (n p : Nat) : wkS may co bg n (p + 1) = ((wkS may co bg n p).1 ||| 2 ^ wkC may co bg n p, if bg = true then (wkS may co bg n p).2 else (wkS may co bg n p).2 - co (wkS may co bg n p).1 (wkC may co bg n p)) := rfl
def wkI (may : Nat → Nat → Bool) (co : Nat → Nat → Int) (bg : Bool) (n p : Nat) : Prop := (wkS may co bg n p).1 < 2 ^ n ∧ bc (wkS may co bg n p).1 n = p ∧ 0 < tbW may co bg n (wkS may co bg n p).1 ∧ tbL may co bg n (wkS may co bg n p).1 ≤ (wkS may co bg n p).2 ∧ (bg = true → (wkS may co bg n p).2 = tbL may co bg n 0) ∧ (¬ bg = true → (wkS may co bg n p).2 = tbL may co bg n (wkS may co bg n p).1)
theorem wk_first {may : Nat → Nat → Bool} {co : Nat → Nat → Int} {bg : Bool} {n p : Nat} (hm : ∀ s i, i < n → may s i = true → ¬ s.testBit i = true) (hp : p < n) (hI : wkI may co bg n p) : wkC may co bg n p < n ∧ fwP may co bg (tbL may co bg n) (tbW may co bg n) (wkS may co bg n p).1 (wkS may co bg n p).2 (wkC may co bg n p) ∧ ∀ j, j < wkC may co bg n p → ¬ fwP may co bg (tbL may co bg n) (tbW may co bg n) (wkS may co bg n p).1 (wkS may co bg n p).2 j := by
  obtain ⟨h1, h2, h3, h4, _, _⟩ := hI
  have hne : (wkS may co bg n p).1 < 2 ^ n - 1 := by
    rcases (show (wkS may co bg n p).1 < 2 ^ n - 1 ∨ (wkS may co bg n p).1 = 2 ^ n - 1 by omega) with q | q
    · exact q
    · rw [q, bc_all] at h2; omega
  have hr := tb_rec (co := co) (bg := bg) (fun i hi => hm (wkS may co bg n p).1 i hi) hne
  have hw : 0 < (lkF may co bg (tbL may co bg n) (tbW may co bg n) (wkS may co bg n p).1 n).2 := by rw [hr]; exact h3
  obtain ⟨i, hi, ha, hb, hc⟩ := lkF_ex n hw
  rw [hr] at hc
  obtain ⟨q1, q2, q3⟩ := fsU_ex (P := fwB may co bg (tbL may co bg n) (tbW may co bg n) (wkS may co bg n p).1 (wkS may co bg n p).2) (n := n) ⟨i, hi, fwB_P.mpr ⟨ha, hb, by rw [hc]; exact h4⟩⟩ n (Nat.le_refl _) (fun j hj => absurd hj (by omega))
  exact ⟨q1, fwB_P.mp q2, fun j hj hq => q3 j hj (fwB_P.mpr hq)⟩
theorem wk_inv {may : Nat → Nat → Bool} {co : Nat → Nat → Int} {bg : Bool} {n : Nat} (hm : ∀ s i, i < n → may s i = true → ¬ s.testBit i = true) (h0 : 0 < tbW may co bg n 0) : ∀ p, p ≤ n → wkI may co bg n p
  | 0, _ => by
    refine ⟨Nat.two_pow_pos n, ?_, h0, Int.le_refl _, fun _ => rfl, fun _ => rfl⟩
    have : ∀ j, bc 0 j = 0 := by
      intro j
      induction j with
      | zero => rfl
      | succ j ih => unfold bc at ih ⊢; rw [lvN_s, ih, if_neg (by simp)]
    exact this n
  | p + 1, hp => by
    have hI := wk_inv hm h0 p (by omega)
    obtain ⟨c1, c2, _⟩ := wk_first hm (by omega) hI
    obtain ⟨h1, h2, h3, h4, h5, h6⟩ := hI
    have hne : (wkS may co bg n p).1 < 2 ^ n - 1 := by
      rcases (show (wkS may co bg n p).1 < 2 ^ n - 1 ∨ (wkS may co bg n p).1 = 2 ^ n - 1 by omega) with q | q
      · exact q
      · rw [q, bc_all] at h2; omega
    have hr := tb_rec (co := co) (bg := bg) (fun i hi => hm (wkS may co bg n p).1 i hi) hne
    have hmin := lkF_min (bg := bg) (co := co) (Lt := tbL may co bg n) (Wt := tbW may co bg n) n _ c1 c2.1 c2.2.1
    rw [hr] at hmin
    have c3 := c2.2.2
    unfold wkI
    rw [wkS_s]
    by_cases hb : bg = true
    · rw [if_pos hb]
      refine ⟨or_lt h1 c1, by rw [bc_or (hm _ _ c1 c2.1) c1, h2], c2.2.1, ?_, h5, fun q => absurd hb q⟩
      unfold jnB at c3
      rw [if_pos hb] at c3
      show tbL may co bg n ((wkS may co bg n p).1 ||| 2 ^ wkC may co bg n p) ≤ (wkS may co bg n p).2
      omega
    · rw [if_neg hb]
      unfold jnB at c3 hmin
      rw [if_neg hb] at c3 hmin
      have h7 := h6 hb
      have e : (wkS may co bg n p).2 - co (wkS may co bg n p).1 (wkC may co bg n p) = tbL may co bg n ((wkS may co bg n p).1 ||| 2 ^ wkC may co bg n p) := by
        have hmin' : tbL may co bg n (wkS may co bg n p).1 ≤ co (wkS may co bg n p).1 (wkC may co bg n p) + tbL may co bg n ((wkS may co bg n p).1 ||| 2 ^ wkC may co bg n p) := hmin
        omega
      refine ⟨or_lt h1 c1, by rw [bc_or (hm _ _ c1 c2.1) c1, h2], c2.2.1, ?_, fun q => absurd q hb, fun _ => e⟩
      exact Int.le_of_eq e.symm
theorem DYo.mv {f f1 : Fm} {y n a2 : Nat} {wa wt : Nat → Nat} {dz lp : Int} {b0 b1 : Nat} (h : DYo f y n a2 wa wt dz lp b0 b1) (hf : ∀ q, y ≤ q → q ≤ y + 10 → f1 q = f q) : DYo f1 y n a2 wa wt dz lp b0 b1 := by
  unfold DYo DW at h ⊢
  rw [hf y (by omega) (by omega), hf (y + 4) (by omega) (by omega), hf (y + 6) (by omega) (by omega), hf (y + 7) (by omega) (by omega), hf (y + 8) (by omega) (by omega), hf (y + 9) (by omega) (by omega), hf (y + 10) (by omega) (by omega)]
  exact h

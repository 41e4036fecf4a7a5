/-- on while P holds, up to t -/
def adv (P : Nat → Bool) (t : Nat) : Nat → Nat → Nat
  | 0, p => p
  | k + 1, p => if p < t ∧ P p = true then adv P t k (p + 1) else p
def dgB (B : Nat → Int) : Nat → Bool := fun i => decide (48 ≤ B i ∧ B i ≤ 57)
def ltB (B : Nat → Int) : Nat → Bool := fun i => decide (97 ≤ B i ∧ B i ≤ 122)
def blB (B : Nat → Int) : Nat → Bool := fun i => decide (B i = 32)
theorem adv_on {P : Nat → Bool} {t k p : Nat} (h : p < t) (h2 : P p = true) : adv P t (k + 1) p = adv P t k (p + 1) := by rw [adv, if_pos ⟨h, h2⟩]
theorem adv_off {P : Nat → Bool} {t k p : Nat} (h : ¬ (p < t ∧ P p = true)) : adv P t k p = p := by
  cases k with
  | zero => rfl
  | succ k => rw [adv, if_neg h]
theorem adv_r {P : Nat → Bool} {t : Nat} : ∀ k p : Nat, p ≤ t → p ≤ adv P t k p ∧ adv P t k p ≤ t
  | 0, p, h => ⟨Nat.le_refl _, h⟩
  | k + 1, p, h => by
    rw [adv]
    split
    · rename_i q
      have := adv_r (P := P) (t := t) k (p + 1) (by omega)
      omega
    · omega
/-- the number that k digits from p on spell, 1001 at most -/
def nuV (B : Nat → Int) (p : Nat) : Nat → Int
  | 0 => 0
  | k + 1 => min (nuV B p k * 10 + B (p + k) - 48) 1001
def tmF (f : Fm) (b : Nat) (v : Int) (e : Nat) : Fm := stF (stF f b 11 v) b 10 ((e : Nat) : Int)
theorem tmF_o (f : Fm) (b : Nat) (v : Int) (e : Nat) {a : Nat} (h : a ≠ b) : tmF f b v e a = f a := by rw [tmF, stF_n _ _ _ h, stF_n _ _ _ h]
theorem tmF_i (f : Fm) (b : Nat) (v : Int) (e : Nat) {i : Nat} (h : i ≠ 11) (h2 : i ≠ 10) : tmF f b v e b i = f b i := by rw [tmF, stF_i _ _ _ h2, stF_i _ _ _ h]
theorem tmF_10 (f : Fm) (b : Nat) (v : Int) (e : Nat) : tmF f b v e b 10 = ((e : Nat) : Int) := stF_s _ _ _ _
theorem tmF_11 (f : Fm) (b : Nat) (v : Int) (e : Nat) : tmF f b v e b 11 = v := by rw [tmF, stF_i _ _ _ (by decide), stF_s]
theorem tmF_s (f : Fm) (b : Nat) (v v' : Int) (e e' : Nat) : stF (stF (tmF f b v e) b 11 v') b 10 ((e' : Nat) : Int) = tmF f b v' e' := by
  funext q i
  by_cases h : q = b
  · subst h
    by_cases h1 : i = 10
    · subst h1; simp [tmF, stF]
    · by_cases h2 : i = 11
      · subst h2; simp [tmF, stF]
      · simp [tmF, stF, h1, h2]
  · simp [tmF, stF, h]
theorem tmF_0 (f : Fm) (b : Nat) (v : Int) (e : Nat) (h : f b 10 = ((e : Nat) : Int)) : stF f b 11 v = tmF f b v e := by
  funext q i
  by_cases h0 : q = b
  · subst h0
    by_cases h1 : i = 10
    · subst h1; simp [tmF, stF, h]
    · simp [tmF, stF, h1]
  · simp [tmF, stF, h0]
theorem nuV_r {B : Nat → Int} {p : Nat} : ∀ k : Nat, (∀ i, i < k → 48 ≤ B (p + i) ∧ B (p + i) ≤ 57) → 0 ≤ nuV B p k ∧ nuV B p k ≤ 1001
  | 0, _ => by simp [nuV]
  | k + 1, h => by
    have h1 := nuV_r (B := B) (p := p) k (fun i hi => h i (by omega))
    have h2 := h k (by omega)
    simp only [nuV]
    omega

set_option maxRecDepth 100000 in
set_option maxHeartbeats 4000000 in
theorem x_takeNumber (l : Launch) (z : Zv) (d : Nat) {g : Gm} {f : Fm} {b p t : Nat} (hT : TL g b) (hp : f b 10 = ((p : Nat) : Int)) (ht : f b 4 = ((t : Nat) : Int)) (hpt : p ≤ t) (ht4 : t ≤ 400) (hby : ∀ i, 0 ≤ f (b + 1) i ∧ f (b + 1) i ≤ 255) : PM l z (d + 1) mX8_takeNumber [(.ref b)] g f 0 0 (fun r g' f' => r = none ∧ g = g' ∧ stF (tmF f b (nuV (f (b + 1)) p (adv (dgB (f (b + 1))) t (t - p) p - p)) (adv (dgB (f (b + 1))) t (t - p) p)) b 8 257 = f') := by
  refine PM.of (by decide +kernel) (Nat.le_of_ble_eq_true rfl) ?_
  have loop : ∀ m j : Nat, m = t - (p + j) → p + j ≤ t → (∀ i, i < j → 48 ≤ (f (b + 1)) (p + i) ∧ (f (b + 1)) (p + i) ≤ 57) → adv (dgB (f (b + 1))) t (t - (p + j)) (p + j) = adv (dgB (f (b + 1))) t (t - p) p → PW l z (d + 1) mX8_takeNumber 0 0 (fun r g' f' => r = none ∧ g = g' ∧ stF (tmF f b (nuV (f (b + 1)) p (adv (dgB (f (b + 1))) t (t - p) p - p)) (adv (dgB (f (b + 1))) t (t - p) p)) b 8 257 = f') 5 [(0, (.ref b))] [] g (tmF f b (nuV (f (b + 1)) p j) (p + j)) 0 0 := by
    intro m
    induction m using Nat.strongRecOn with
    | _ m ih =>
      intro j hm hj hdg hadv
      refine r_aload_n (pc := 5) 0 dX8_takeNumber_5 rfl rfl ?_
      refine r_getIv (pc := 6) (x := ((p + j : Nat) : Int)) dX8_takeNumber_6 fl_X8_40 rfl hT.k (tmF_10 _ _ _ _) ?_
      refine r_aload_n (pc := 9) 0 dX8_takeNumber_9 rfl rfl ?_
      refine r_getIv (pc := 10) (x := ((t : Nat) : Int)) dX8_takeNumber_10 fl_X8_27 rfl hT.k (by rw [tmF_i _ _ _ _ (by decide) (by decide)]; exact ht) ?_
      refine r_icmp_ge (pc := 13) (tgt := 74) dX8_takeNumber_13 (by decide) (by omega) (by omega) (fun c_13 => ?_) (fun c_13 => ?_)
      · refine r_aload_n (pc := 74) 0 dX8_takeNumber_74 rfl rfl ?_
        refine r_sipush (pc := 75) dX8_takeNumber_75 (by decide) ?_
        refine r_putI (pc := 78) dX8_takeNumber_78 fl_X8_63 rfl rfl hT.k ?_
        have he : adv (dgB (f (b + 1))) t (t - p) p = p + j := by rw [← hadv]; exact adv_off (by first | (intro h; omega) | (intro h; exact c_28 (by simpa [dgB] using h.2)))
        exact r_vret (pc := 81) dX8_takeNumber_81 rfl ⟨rfl, rfl, by rw [he, show p + j - p = j by omega]⟩
      · have hnr := nuV_r (B := f (b + 1)) (p := p) j hdg
        have hbj := hby (p + j)
        refine r_aload_n (pc := 16) 0 dX8_takeNumber_16 rfl rfl ?_
        refine r_getR (pc := 17) (b := (b + 1)) dX8_takeNumber_17 fl_X8_9 rfl hT.k hT.r0 ?_
        refine r_aload_n (pc := 20) 0 dX8_takeNumber_20 rfl rfl ?_
        refine r_getIv (pc := 21) (x := ((p + j : Nat) : Int)) dX8_takeNumber_21 fl_X8_40 rfl hT.k (tmF_10 _ _ _ _) ?_
        refine r_ialdv (pc := 24) (w := (f (b + 1)) (p + j)) dX8_takeNumber_24 hT.a0 (by omega) (by decide) (by rw [tmF_o _ _ _ _ (by omega)]; rfl) ?_
        refine r_callS (pc := 25) (As := [(.int (iI ((f (b + 1)) (p + j))))]) (S := []) dX8_takeNumber_25 cs_X8_117 rfl (Nat.le_of_ble_eq_true rfl) (x_digit l z _ (by have := hby (p + j); omega)) (Nat.zero_le _) (Nat.zero_le _) (fun r_25 g_25 f_25 q_25 => ?_)
        obtain ⟨rfl, rfl, rfl⟩ := q_25
        refine r_if_eq (pc := 28) (tgt := 74) dX8_takeNumber_28 (by decide) (b01_r) (fun c_28 => ?_) (fun c_28 => ?_)
        · replace c_28 := b01_z c_28
          refine r_aload_n (pc := 74) 0 dX8_takeNumber_74 rfl rfl ?_
          refine r_sipush (pc := 75) dX8_takeNumber_75 (by decide) ?_
          refine r_putI (pc := 78) dX8_takeNumber_78 fl_X8_63 rfl rfl hT.k ?_
          have he : adv (dgB (f (b + 1))) t (t - p) p = p + j := by rw [← hadv]; exact adv_off (by first | (intro h; omega) | (intro h; exact c_28 (by simpa [dgB] using h.2)))
          exact r_vret (pc := 81) dX8_takeNumber_81 rfl ⟨rfl, rfl, by rw [he, show p + j - p = j by omega]⟩
        · replace c_28 := b01_nz c_28
          refine r_aload_n (pc := 31) 0 dX8_takeNumber_31 rfl rfl ?_
          refine r_aload_n (pc := 32) 0 dX8_takeNumber_32 rfl rfl ?_
          refine r_getIv (pc := 33) (x := nuV (f (b + 1)) p j) dX8_takeNumber_33 fl_X8_105 rfl hT.k (tmF_11 _ _ _ _) ?_
          refine r_bipush (pc := 36) dX8_takeNumber_36 (by decide) ?_
          refine r_imul (pc := 38) dX8_takeNumber_38 ?_
          refine r_aload_n (pc := 39) 0 dX8_takeNumber_39 rfl rfl ?_
          refine r_getR (pc := 40) (b := (b + 1)) dX8_takeNumber_40 fl_X8_9 rfl hT.k hT.r0 ?_
          refine r_aload_n (pc := 43) 0 dX8_takeNumber_43 rfl rfl ?_
          refine r_getIv (pc := 44) (x := ((p + j : Nat) : Int)) dX8_takeNumber_44 fl_X8_40 rfl hT.k (tmF_10 _ _ _ _) ?_
          refine r_ialdv (pc := 47) (w := (f (b + 1)) (p + j)) dX8_takeNumber_47 hT.a0 (by omega) (by decide) (by rw [tmF_o _ _ _ _ (by omega)]; rfl) ?_
          refine r_iadd (pc := 48) dX8_takeNumber_48 ?_
          refine r_bipush (pc := 49) dX8_takeNumber_49 (by decide) ?_
          refine r_isub (pc := 51) dX8_takeNumber_51 ?_
          refine r_sipush (pc := 52) dX8_takeNumber_52 (by decide) ?_
          refine r_callS (pc := 55) (As := [(.int (iI ((((nuV (f (b + 1)) p j) * (10)) + ((f (b + 1)) (p + j))) - (48)))), (.int (iI (1001)))]) (S := [(.ref b)]) dX8_takeNumber_55 cs_X8_123 rfl (Nat.le_of_ble_eq_true rfl) (c_min l z _ g (tmF f b (nuV (f (b + 1)) p j) (p + j)) _ _ (by omega) (by omega)) (Nat.zero_le _) (Nat.zero_le _) (fun r_55 g_55 f_55 q_55 => ?_)
          obtain ⟨rfl, rfl, rfl⟩ := q_55
          refine r_eqI (y := nuV (f (b + 1)) p (j + 1)) (rfl) ?_
          refine r_putI (pc := 58) dX8_takeNumber_58 fl_X8_105 rfl rfl hT.k ?_
          refine r_aload_n (pc := 61) 0 dX8_takeNumber_61 rfl rfl ?_
          refine r_dup (pc := 62) dX8_takeNumber_62 rfl ?_
          refine r_getIv (pc := 63) (x := ((p + j : Nat) : Int)) dX8_takeNumber_63 fl_X8_40 rfl hT.k (by rw [stF_i _ _ _ (by decide)]; exact tmF_10 _ _ _ _) ?_
          refine r_iconst (pc := 66) dX8_takeNumber_66 ?_
          refine r_iadd (pc := 67) dX8_takeNumber_67 ?_
          refine r_eqI (y := ((p + (j + 1) : Nat) : Int)) (by omega) ?_
          refine r_putI (pc := 68) dX8_takeNumber_68 fl_X8_40 rfl rfl hT.k ?_
          refine r_goto (pc := 71) (tgt := 5) dX8_takeNumber_71 (by decide) ?_
          rw [tmF_s]
          exact ih (t - (p + (j + 1))) (by omega) (j + 1) rfl (by omega) (fun i hi => by rcases (show i < j ∨ i = j by omega) with q | rfl; exact hdg i q; exact c_28) (by rw [← hadv, show t - (p + j) = (t - (p + (j + 1))) + 1 by omega, adv_on (by omega) (by simp [dgB]; exact c_28)]; rfl)
  refine r_aload_n (pc := 0) 0 dX8_takeNumber_0 rfl rfl ?_
  refine r_iconst (pc := 1) dX8_takeNumber_1 ?_
  refine r_putI (pc := 2) dX8_takeNumber_2 fl_X8_105 rfl rfl hT.k ?_
  rw [tmF_0 f b 0 p hp]
  exact loop (t - p) 0 rfl (by omega) (fun i hi => absurd hi (by omega)) rfl

def unB (n : Nat) (U V : Nat → Bool) (s : Nat) : Bool := decide (cvP n (fI U) (fI V) s ≠ 0)
theorem unB_iff {n : Nat} {U V : Nat → Bool} {s : Nat} : unB n U V s = true ↔ ∃ t1, t1 < 2 ^ n ∧ ∃ t2, t2 < 2 ^ n ∧ U t1 = true ∧ V t2 = true ∧ t1 ||| t2 = s := by
  unfold unB
  rw [decide_eq_true_iff, cvP_nz]
/-- sets that are parts of one of a family, by the bits below i -/
def dC (U : Nat → Bool) : Nat → Nat → Bool
  | 0 => U
  | i + 1 => fun s => if s.testBit i = true then dC U i s else (dC U i s || dC U i (s ||| 2 ^ i))
theorem dC_s (U : Nat → Bool) (i s : Nat) : dC U (i + 1) s = if s.testBit i = true then dC U i s else (dC U i s || dC U i (s ||| 2 ^ i)) := rfl
theorem dC_iff {U : Nat → Bool} {n : Nat} : ∀ i, i ≤ n → ∀ s, s < 2 ^ n → (dC U i s = true ↔ ∃ t, t < 2 ^ n ∧ U t = true ∧ (∀ k, k < i → s.testBit k = true → t.testBit k = true) ∧ ∀ k, i ≤ k → t.testBit k = s.testBit k)
  | 0, _, s, hs => by
    constructor
    · intro h
      exact ⟨s, hs, h, fun k hk => absurd hk (by omega), fun _ _ => rfl⟩
    · rintro ⟨t, _, h, _, h2⟩
      rw [show t = s from Nat.eq_of_testBit_eq (fun k => h2 k (by omega))] at h
      exact h
  | i + 1, hi, s, hs => by
    have ih := dC_iff (U := U) (n := n) i (by omega)
    rw [dC_s]
    have hor := or_lt hs (show i < n by omega)
    by_cases hb : s.testBit i = true
    · rw [if_pos hb, ih s hs]
      constructor
      · rintro ⟨t, h1, h2, h3, h4⟩
        refine ⟨t, h1, h2, fun k hk hk2 => ?_, fun k hk => h4 k (by omega)⟩
        rcases (show k < i ∨ k = i by omega) with q | q
        · exact h3 k q hk2
        · rw [q, h4 i (by omega)]; exact hb
      · rintro ⟨t, h1, h2, h3, h4⟩
        refine ⟨t, h1, h2, fun k hk hk2 => h3 k (by omega) hk2, fun k hk => ?_⟩
        rcases (show k = i ∨ i + 1 ≤ k by omega) with q | q
        · rw [q, hb]; exact h3 i (by omega) hb
        · exact h4 k q
    · rw [if_neg hb, Bool.or_eq_true, ih s hs, ih _ hor]
      constructor
      · rintro (⟨t, h1, h2, h3, h4⟩ | ⟨t, h1, h2, h3, h4⟩)
        · refine ⟨t, h1, h2, fun k hk hk2 => ?_, fun k hk => h4 k (by omega)⟩
          rcases (show k < i ∨ k = i by omega) with q | q
          · exact h3 k q hk2
          · rw [q] at hk2; exact absurd hk2 hb
        · refine ⟨t, h1, h2, fun k hk hk2 => ?_, fun k hk => ?_⟩
          · rcases (show k < i ∨ k = i by omega) with q | q
            · exact h3 k q (by rw [Nat.testBit_or, hk2]; rfl)
            · rw [q] at hk2; exact absurd hk2 hb
          · rw [h4 k (by omega), Nat.testBit_or, Nat.testBit_two_pow_of_ne (by omega)]; simp
      · rintro ⟨t, h1, h2, h3, h4⟩
        by_cases ht : t.testBit i = true
        · refine Or.inr ⟨t, h1, h2, fun k hk hk2 => ?_, fun k hk => ?_⟩
          · rw [Nat.testBit_or, Nat.testBit_two_pow_of_ne (by omega)] at hk2
            exact h3 k (by omega) (by simpa using hk2)
          · rcases (show k = i ∨ i + 1 ≤ k by omega) with q | q
            · rw [q, ht, Nat.testBit_or, Nat.testBit_two_pow_self]; simp
            · rw [h4 k q, Nat.testBit_or, Nat.testBit_two_pow_of_ne (by omega)]; simp
        · refine Or.inl ⟨t, h1, h2, fun k hk hk2 => h3 k (by omega) hk2, fun k hk => ?_⟩
          rcases (show k = i ∨ i + 1 ≤ k by omega) with q | q
          · rw [q, Bool.eq_false_iff.mpr ht, Bool.eq_false_iff.mpr hb]
          · exact h4 k q
theorem fI_01 (U : Nat → Bool) (s : Nat) : fI U s = 0 ∨ fI U s = 1 := by unfold fI; split; exact Or.inr rfl; exact Or.inl rfl
theorem fI_t {U : Nat → Bool} {s : Nat} (h : U s = true) : fI U s = 1 := if_pos h
theorem fI_f {U : Nat → Bool} {s : Nat} (h : ¬ U s = true) : fI U s = 0 := if_neg h
theorem fI_nz {U : Nat → Bool} {s : Nat} (h : ¬ fI U s = 0) : U s = true := Decidable.byContradiction fun q => h (fI_f q)
theorem fI_z {U : Nat → Bool} {s : Nat} (h : fI U s = 0) : ¬ U s = true := fun q => by rw [fI_t q] at h; exact absurd h (by decide)
theorem and_bit {s i : Nat} : s &&& 2 ^ i = 0 ↔ ¬ s.testBit i = true := by
  constructor
  · intro h e
    have := congrArg (fun x => x.testBit i) h
    simp [e] at this
  · intro h
    apply Nat.eq_of_testBit_eq
    intro k
    rw [Nat.testBit_and, Nat.testBit_two_pow, Nat.zero_testBit]
    by_cases e : i = k
    · subst e; simp [h]
    · simp [e]

set_option maxRecDepth 100000 in
set_option maxHeartbeats 4000000 in
theorem x_holds (l : Launch) (z : Zv) (d : Nat) {g : Gm} {J : Nat → Nat → Int} {f : Fm} {a N dy s : Nat} (hA : isA (gwJ g J) a 12 N) (hN : N ≤ 2147483647) (hi : 4 * dy + s / 64 < N) (hd : dy ≤ 100) (hs : s < 256) : PM l z d mX9_holds [.ref a, .int (iI ((dy : Nat) : Int)), .int (iI ((s : Nat) : Int))] (gwJ g J) f 0 0 (rdQ (.int (iI (b01 (fmB J a dy s = true)))) (gwJ g J) f) := by
  refine PM.of (by decide +kernel) (Nat.le_of_ble_eq_true rfl) ?_
  refine r_aload_n (pc := 0) 0 dX9_holds_0 rfl rfl ?_
  refine r_iload_n (pc := 1) 1 dX9_holds_1 rfl rfl ?_
  refine r_iconst (pc := 2) dX9_holds_2 ?_
  refine r_imul (pc := 3) dX9_holds_3 ?_
  refine r_eqI (y := ((dy * 4 : Nat) : Int)) (Int.natCast_mul _ _ |>.symm) ?_
  refine r_iload_n (pc := 4) 2 dX9_holds_4 rfl rfl ?_
  refine r_bipush (pc := 5) dX9_holds_5 (by decide) ?_
  refine r_ishr (pc := 7) (w := ((s / 2 ^ 6 : Nat) : Int)) dX9_holds_7  (iI_shr (by omega) (by decide)) ?_
  refine r_iadd (pc := 8) dX9_holds_8 ?_
  refine r_eqI (y := ((4 * dy + s / 64 : Nat) : Int)) (by omega) ?_
  refine r_lald (pc := 9) dX9_holds_9 hA (by omega) hN ?_
  refine r_iload_n (pc := 10) 2 dX9_holds_10 rfl rfl ?_
  refine r_bipush (pc := 11) dX9_holds_11 (by decide) ?_
  refine r_iand (pc := 13) (w := ((s &&& 63 : Nat) : Int)) dX9_holds_13  (iI_and _ _) ?_
  refine r_eqI (y := ((s % 64 : Nat) : Int)) (by rw [show s &&& 63 = s % 2 ^ 6 from Nat.and_two_pow_sub_one_eq_mod s 6]) ?_
  refine r_lshr (pc := 14) (w := (lI (glm (gwJ g J) a (((4 * dy + s / 64 : Nat) : Int)).toNat) >>> ((iI ((s % 64 : Nat) : Int)).toInt64 &&& 63)).toInt) dX9_holds_14  ((lI_t _).symm) ?_
  refine r_lconst (pc := 15) (x := 1) dX9_holds_15 (by decide) ?_
  refine r_land (pc := 16) (w := (lI ((lI (glm (gwJ g J) a (((4 * dy + s / 64 : Nat) : Int)).toNat) >>> ((iI ((s % 64 : Nat) : Int)).toInt64 &&& 63)).toInt) &&& lI 1).toInt) dX9_holds_16  ((lI_t _).symm) ?_
  refine r_lconst (pc := 17) (x := 0) dX9_holds_17 (by decide) ?_
  refine r_lcmp (pc := 18) (w := b01 (fmB J a dy s = true)) dX9_holds_18  (by rw [lI_t, lI_t]; exact lB_cmp (by omega)) ?_
  refine r_if_eq (pc := 19) (tgt := 26) dX9_holds_19 (by decide) (b01_r) (fun c_19 => ?_) (fun c_19 => ?_)
  · replace c_19 := b01_z c_19
    refine r_iconst (pc := 26) dX9_holds_26 ?_
    exact r_iret (pc := 27) dX9_holds_27 rfl rfl ⟨by rw [b01_f c_19], rfl, rfl⟩
  · replace c_19 := b01_nz c_19
    refine r_iconst (pc := 22) dX9_holds_22 ?_
    refine r_goto (pc := 23) (tgt := 27) dX9_holds_23 (by decide) ?_
    exact r_iret (pc := 27) dX9_holds_27 rfl rfl ⟨by rw [b01_t c_19], rfl, rfl⟩

set_option maxRecDepth 100000 in
set_option maxHeartbeats 4000000 in
theorem x_startU (l : Launch) (z : Zv) (d : Nat) {g : Gm} {f : Fm} {p : Nat} (hP : YL g p) : PM l z (d + 1) mX9_startUnions [(.ref p)] g f 0 0 (fun r g' f' => r = none ∧ g = g' ∧ (∀ b, b ≠ p + 5 → f' b = f b) ∧ ∀ s, s < 256 → f' (p + 5) s = fI (fun s => decide (s = 0)) s) := by
  refine PM.of (by decide +kernel) (Nat.le_of_ble_eq_true rfl) ?_
  refine r_aload_n (pc := 0) 0 dX9_startUnions_0 rfl rfl ?_
  refine r_getR (pc := 1) (b := (p + 5)) dX9_startUnions_1 fl_X9_25 rfl hP.k hP.r4 ?_
  refine r_iconst (pc := 4) dX9_startUnions_4 ?_
  refine r_callS (pc := 5) (As := [(.ref (p + 5)), (.int (iI (0)))]) (S := []) dX9_startUnions_5 cs_X9_107 rfl (Nat.le_of_ble_eq_true rfl) (s_fill l z _ hP.a4 (by decide)) (Nat.zero_le _) (Nat.zero_le _) (fun r_5 g_5 f_5 q_5 => ?_)
  obtain ⟨rfl, rfl, hq1, hq2⟩ := q_5
  refine r_aload_n (pc := 8) 0 dX9_startUnions_8 rfl rfl ?_
  refine r_getR (pc := 9) (b := (p + 5)) dX9_startUnions_9 fl_X9_25 rfl hP.k hP.r4 ?_
  refine r_iconst (pc := 12) dX9_startUnions_12 ?_
  refine r_iconst (pc := 13) dX9_startUnions_13 ?_
  refine r_iastv (pc := 14) (i := 0) dX9_startUnions_14 hP.a4 (by decide) (by decide) rfl ?_
  exact r_vret (pc := 15) dX9_startUnions_15 rfl ⟨rfl, rfl, fun b hb => by rw [stF_n _ _ _ hb]; exact hq1 b hb, fun s hs => by
    by_cases h0 : s = 0
    · subst h0; rw [stF_s, fI_t (decide_eq_true rfl)]
    · rw [stF_i _ _ _ h0, hq2 s hs, fI_f (by simp [h0])]⟩

set_option maxRecDepth 100000 in
set_option maxHeartbeats 4000000 in
theorem x_sumOver (l : Launch) (z : Zv) (d : Nat) {g : Gm} {f : Fm} {p a n : Nat} {σ : Int} {u : Nat → Int} (hP : YL g p) (hA : isA g a 11 256) (hpa : p ≠ a) (hn8 : n ≤ 8) (h10 : f p 10 = ((n : Nat) : Int)) (h11 : f p 11 = ((2 ^ n - 1 : Nat) : Int)) (hu : ∀ s, s < 2 ^ n → f a s = u s) : PM l z d mX9_sumOverParts [.ref p, .ref a, .int (iI σ)] g f 0 0 (fun r g' f' => r = none ∧ g = g' ∧ (∀ b, b ≠ a → f' b = f b) ∧ ∀ s, s < 2 ^ n → f' a s = zT σ u n s) := by
  have hp8 := pow8 hn8
  refine PM.of (by decide +kernel) (Nat.le_of_ble_eq_true rfl) ?_
  have outer : ∀ m i : Nat, m = n - i → i ≤ n → ∀ f1 : Fm, (∀ b, b ≠ a → f1 b = f b) → (∀ s, s < 2 ^ n → f1 a s = zT σ u i s) → PW l z d mX9_sumOverParts 0 0 (fun r g' f' => r = none ∧ g = g' ∧ (∀ b, b ≠ a → f' b = f b) ∧ ∀ s, s < 2 ^ n → f' a s = zT σ u n s) 2 [(3, (.int (iI (((i : Nat) : Int))))), (0, (.ref p)), (1, (.ref a)), (2, (.int (iI (σ))))] [] g f1 0 0 := by
    intro m
    induction m using Nat.strongRecOn with
    | _ m ih =>
      intro i hm hi f1 hF1 hZ1
      refine r_iload_n (pc := 2) 0 dX9_sumOverParts_2 rfl rfl ?_
      refine r_aload_n (pc := 3) 1 dX9_sumOverParts_3 rfl rfl ?_
      refine r_getIv (pc := 4) (x := ((n : Nat) : Int)) dX9_sumOverParts_4 fl_X9_31 rfl hP.k ((congrFun (hF1 p hpa) _).trans h10) ?_
      refine r_icmp_ge (pc := 7) (tgt := 63) dX9_sumOverParts_7 (by decide) (by omega) (by omega) (fun c_7 => ?_) (fun c_7 => ?_)
      · have hin : i = n := by omega
        rw [hin] at hZ1
        exact r_vret (pc := 63) dX9_sumOverParts_63 rfl ⟨rfl, rfl, hF1, hZ1⟩
      · refine r_iconst (pc := 10) dX9_sumOverParts_10 ?_
        refine r_iload_n (pc := 11) 0 dX9_sumOverParts_11 rfl rfl ?_
        refine r_ishl (pc := 12) (w := ((2 ^ i : Nat) : Int)) dX9_sumOverParts_12  (iI_shl1 (by omega)) ?_
        refine r_istore (pc := 13) (L2 := [(4, (.int (iI (((2 ^ i : Nat) : Int))))), (3, (.int (iI (((i : Nat) : Int))))), (0, (.ref p)), (1, (.ref a)), (2, (.int (iI (σ))))]) dX9_sumOverParts_13 (by decide) rfl ?_
        refine r_iconst (pc := 15) dX9_sumOverParts_15 ?_
        refine r_istore (pc := 16) (L2 := [(5, (.int (iI (0)))), (4, (.int (iI (((2 ^ i : Nat) : Int))))), (3, (.int (iI (((i : Nat) : Int))))), (0, (.ref p)), (1, (.ref a)), (2, (.int (iI (σ))))]) dX9_sumOverParts_16 (by decide) rfl ?_
        have inner : ∀ m s : Nat, m = 2 ^ n - s → s ≤ 2 ^ n → ∀ f1 : Fm, (∀ b, b ≠ a → f1 b = f b) → (∀ q, q < 2 ^ n → f1 a q = if q < s ∧ q.testBit i = true then zT σ u (i + 1) q else zT σ u i q) → PW l z d mX9_sumOverParts 0 0 (fun r g' f' => r = none ∧ g = g' ∧ (∀ b, b ≠ a → f' b = f b) ∧ ∀ s, s < 2 ^ n → f' a s = zT σ u n s) 18 [(5, (.int (iI (((s : Nat) : Int))))), (4, (.int (iI (((2 ^ i : Nat) : Int))))), (3, (.int (iI (((i : Nat) : Int))))), (0, (.ref p)), (1, (.ref a)), (2, (.int (iI (σ))))] [] g f1 0 0 := by
          intro m
          induction m using Nat.strongRecOn with
          | _ m ih2 =>
            intro s hm hs0 f1 hF1 hR1
            refine r_iload (pc := 18) 0 dX9_sumOverParts_18 rfl ?_
            refine r_aload_n (pc := 20) 3 dX9_sumOverParts_20 rfl rfl ?_
            refine r_getIv (pc := 21) (x := ((2 ^ n - 1 : Nat) : Int)) dX9_sumOverParts_21 fl_X9_35 rfl hP.k ((congrFun (hF1 p hpa) _).trans h11) ?_
            refine r_icmp_gt (pc := 24) (tgt := 57) dX9_sumOverParts_24 (by decide) (by omega) (by omega) (fun c_24 => ?_) (fun c_24 => ?_)
            · refine r_iincv (pc := 57) (y := ((i + 1 : Nat) : Int)) (L2 := [(3, (.int (iI (((i + 1 : Nat) : Int))))), (5, (.int (iI (((s : Nat) : Int))))), (4, (.int (iI (((2 ^ i : Nat) : Int))))), (0, (.ref p)), (1, (.ref a)), (2, (.int (iI (σ))))]) 2 dX9_sumOverParts_57 rfl (by omega) (by decide) rfl ?_
              refine r_goto (pc := 60) (tgt := 2) dX9_sumOverParts_60 (by decide) ?_
              refine r_sub (L2 := [(3, (.int (iI (((i + 1 : Nat) : Int))))), (0, (.ref p)), (1, (.ref a)), (2, (.int (iI (σ))))]) [0, 3, 4, 5] rfl ?_
              exact ih (n - (i + 1)) (by omega) (i + 1) (by omega) (by omega) f1 hF1 (fun q hq => by
                rw [hR1 q hq]
                by_cases h : q.testBit i = true
                · rw [if_pos ⟨by omega, h⟩]
                · rw [if_neg (fun h2 => h h2.2), zT_s]; unfold zZ; rw [if_neg h, Int.add_zero])
            · have hs : s < 2 ^ n := by omega
              refine r_iload (pc := 27) 0 dX9_sumOverParts_27 rfl ?_
              refine r_iload (pc := 29) 1 dX9_sumOverParts_29 rfl ?_
              refine r_iand (pc := 31) (w := ((s &&& (2 ^ i) : Nat) : Int)) dX9_sumOverParts_31  (iI_and _ _) ?_
              refine r_if_eq (pc := 32) (tgt := 51) dX9_sumOverParts_32 (by decide) (by have h := Nat.and_le_left (n := s) (m := 2 ^ i); omega) (fun c_32 => ?_) (fun c_32 => ?_)
              · refine r_iincv (pc := 51) (y := ((s + 1 : Nat) : Int)) (L2 := [(5, (.int (iI (((s + 1 : Nat) : Int))))), (4, (.int (iI (((2 ^ i : Nat) : Int))))), (3, (.int (iI (((i : Nat) : Int))))), (0, (.ref p)), (1, (.ref a)), (2, (.int (iI (σ))))]) 0 dX9_sumOverParts_51 rfl (by omega) (by decide) rfl ?_
                refine r_goto (pc := 54) (tgt := 18) dX9_sumOverParts_54 (by decide) ?_
                refine r_sub (L2 := [(5, (.int (iI (((s + 1 : Nat) : Int))))), (4, (.int (iI (((2 ^ i : Nat) : Int))))), (3, (.int (iI (((i : Nat) : Int))))), (0, (.ref p)), (1, (.ref a)), (2, (.int (iI (σ))))]) [0, 1, 2, 3, 4, 5] rfl ?_
                exact ih2 (2 ^ n - (s + 1)) (by omega) (s + 1) (by omega) (by omega) f1 hF1 (fun q hq => by
                  rw [hR1 q hq]
                  by_cases e : q = s
                  · subst e; rw [if_neg (by omega), if_neg (fun h => (and_bit.mp (by omega)) h.2)]
                  · by_cases h : q < s ∧ q.testBit i = true
                    · rw [if_pos h, if_pos ⟨by omega, h.2⟩]
                    · rw [if_neg h, if_neg (fun h2 => h ⟨by omega, h2.2⟩)])
              · have hbt : s.testBit i = true := Decidable.byContradiction fun q => c_32 (by have := and_bit.mpr q; omega)
                have hxn := xb_n hbt
                refine r_aload_n (pc := 35) 4 dX9_sumOverParts_35 rfl rfl ?_
                refine r_iload (pc := 36) 0 dX9_sumOverParts_36 rfl ?_
                refine r_dup2 (pc := 38) dX9_sumOverParts_38 rfl rfl ?_
                refine r_ialdv (pc := 39) (w := zT σ u i s) dX9_sumOverParts_39 hA (by omega) (by decide) ((hR1 s hs).trans (if_neg (by omega))) ?_
                refine r_iload_n (pc := 40) 5 dX9_sumOverParts_40 rfl rfl ?_
                refine r_aload_n (pc := 41) 4 dX9_sumOverParts_41 rfl rfl ?_
                refine r_iload (pc := 42) 0 dX9_sumOverParts_42 rfl ?_
                refine r_iload (pc := 44) 1 dX9_sumOverParts_44 rfl ?_
                refine r_ixor (pc := 46) (w := ((s ^^^ (2 ^ i) : Nat) : Int)) dX9_sumOverParts_46  (iI_xor _ _) ?_
                refine r_ialdv (pc := 47) (w := zT σ u i (xb s i)) dX9_sumOverParts_47 hA (by have := xb_lt hs (show i < n by omega); show 0 ≤ ((xb s i : Nat) : Int) ∧ ((xb s i : Nat) : Int) < _; omega) (by decide) ((hR1 _ (xb_lt hs (by omega))).trans (if_neg (fun q => hxn q.2))) ?_
                refine r_imul (pc := 48) dX9_sumOverParts_48 ?_
                refine r_iadd (pc := 49) dX9_sumOverParts_49 ?_
                refine r_iastv (pc := 50) (i := s) dX9_sumOverParts_50 hA (by omega) (by decide) rfl ?_
                refine r_iincv (pc := 51) (y := ((s + 1 : Nat) : Int)) (L2 := [(5, (.int (iI (((s + 1 : Nat) : Int))))), (4, (.int (iI (((2 ^ i : Nat) : Int))))), (3, (.int (iI (((i : Nat) : Int))))), (0, (.ref p)), (1, (.ref a)), (2, (.int (iI (σ))))]) 0 dX9_sumOverParts_51 rfl (by omega) (by decide) rfl ?_
                refine r_goto (pc := 54) (tgt := 18) dX9_sumOverParts_54 (by decide) ?_
                refine r_sub (L2 := [(5, (.int (iI (((s + 1 : Nat) : Int))))), (4, (.int (iI (((2 ^ i : Nat) : Int))))), (3, (.int (iI (((i : Nat) : Int))))), (0, (.ref p)), (1, (.ref a)), (2, (.int (iI (σ))))]) [0, 1, 2, 3, 4, 5] rfl ?_
                exact ih2 (2 ^ n - (s + 1)) (by omega) (s + 1) (by omega) (by omega) _ (fun b hb => by rw [stF_n _ _ _ hb]; exact hF1 b hb) (fun q hq => by
                  by_cases e : q = s
                  · subst e; rw [stF_s, if_pos ⟨by omega, hbt⟩, zT_s]; unfold zZ; rw [if_pos hbt]
                  · rw [stF_i _ _ _ e, hR1 q hq]
                    by_cases h : q < s ∧ q.testBit i = true
                    · rw [if_pos h, if_pos ⟨by omega, h.2⟩]
                    · rw [if_neg h, if_neg (fun h2 => h ⟨by omega, h2.2⟩)])
        refine r_sub (L2 := [(5, (.int (iI (((0 : Nat) : Int))))), (4, (.int (iI (((2 ^ i : Nat) : Int))))), (3, (.int (iI (((i : Nat) : Int))))), (0, (.ref p)), (1, (.ref a)), (2, (.int (iI (σ))))]) [0, 1, 2, 3, 4, 5] rfl ?_
        exact inner (2 ^ n) 0 (by omega) (by omega) f1 hF1 (fun q hq => by rw [if_neg (by omega)]; exact hZ1 q hq)
  refine r_iconst (pc := 0) dX9_sumOverParts_0 ?_
  refine r_istore_n (pc := 1) (L2 := [(3, (.int (iI (0)))), (0, (.ref p)), (1, (.ref a)), (2, (.int (iI (σ))))]) dX9_sumOverParts_1 rfl (by decide) rfl ?_
  refine r_sub (L2 := [(3, (.int (iI (((0 : Nat) : Int))))), (0, (.ref p)), (1, (.ref a)), (2, (.int (iI (σ))))]) [0, 1, 2, 3] rfl ?_
  exact outer n 0 (by omega) (by omega) f (fun _ _ => rfl) hu

set_option maxRecDepth 100000 in
set_option maxHeartbeats 4000000 in
theorem x_addParts (l : Launch) (z : Zv) (d : Nat) {g : Gm} {f : Fm} {p n : Nat} {U : Nat → Bool} (hP : YL g p) (hn8 : n ≤ 8) (h10 : f p 10 = ((n : Nat) : Int)) (h11 : f p 11 = ((2 ^ n - 1 : Nat) : Int)) (hu : ∀ s, s < 2 ^ n → f (p + 5) s = fI U s) : PM l z d mX9_addParts [.ref p] g f 0 0 (fun r g' f' => r = none ∧ g = g' ∧ (∀ b, b ≠ p + 5 → f' b = f b) ∧ ∀ s, s < 2 ^ n → f' (p + 5) s = fI (dC U n) s) := by
  have hp8 := pow8 hn8
  refine PM.of (by decide +kernel) (Nat.le_of_ble_eq_true rfl) ?_
  have outer : ∀ m i : Nat, m = n - i → i ≤ n → ∀ f1 : Fm, (∀ b, b ≠ p + 5 → f1 b = f b) → (∀ s, s < 2 ^ n → f1 (p + 5) s = fI (dC U i) s) → PW l z d mX9_addParts 0 0 (fun r g' f' => r = none ∧ g = g' ∧ (∀ b, b ≠ p + 5 → f' b = f b) ∧ ∀ s, s < 2 ^ n → f' (p + 5) s = fI (dC U n) s) 2 [(1, (.int (iI (((i : Nat) : Int))))), (0, (.ref p))] [] g f1 0 0 := by
    intro m
    induction m using Nat.strongRecOn with
    | _ m ih =>
      intro i hm hi f1 hF1 hZ1
      refine r_iload_n (pc := 2) 0 dX9_addParts_2 rfl rfl ?_
      refine r_aload_n (pc := 3) 1 dX9_addParts_3 rfl rfl ?_
      refine r_getIv (pc := 4) (x := ((n : Nat) : Int)) dX9_addParts_4 fl_X9_31 rfl hP.k ((congrFun (hF1 p (by omega)) _).trans h10) ?_
      refine r_icmp_ge (pc := 7) (tgt := 59) dX9_addParts_7 (by decide) (by omega) (by omega) (fun c_7 => ?_) (fun c_7 => ?_)
      · have hin : i = n := by omega
        rw [hin] at hZ1
        exact r_vret (pc := 59) dX9_addParts_59 rfl ⟨rfl, rfl, hF1, hZ1⟩
      · refine r_iconst (pc := 10) dX9_addParts_10 ?_
        refine r_iload_n (pc := 11) 0 dX9_addParts_11 rfl rfl ?_
        refine r_ishl (pc := 12) (w := ((2 ^ i : Nat) : Int)) dX9_addParts_12  (iI_shl1 (by omega)) ?_
        refine r_istore_n (pc := 13) (L2 := [(2, (.int (iI (((2 ^ i : Nat) : Int))))), (1, (.int (iI (((i : Nat) : Int))))), (0, (.ref p))]) dX9_addParts_13 rfl (by decide) rfl ?_
        refine r_iconst (pc := 14) dX9_addParts_14 ?_
        refine r_istore_n (pc := 15) (L2 := [(3, (.int (iI (0)))), (2, (.int (iI (((2 ^ i : Nat) : Int))))), (1, (.int (iI (((i : Nat) : Int))))), (0, (.ref p))]) dX9_addParts_15 rfl (by decide) rfl ?_
        have inner : ∀ m s : Nat, m = 2 ^ n - s → s ≤ 2 ^ n → ∀ f1 : Fm, (∀ b, b ≠ p + 5 → f1 b = f b) → (∀ q, q < 2 ^ n → f1 (p + 5) q = if q < s ∧ ¬ q.testBit i = true then fI (dC U (i + 1)) q else fI (dC U i) q) → PW l z d mX9_addParts 0 0 (fun r g' f' => r = none ∧ g = g' ∧ (∀ b, b ≠ p + 5 → f' b = f b) ∧ ∀ s, s < 2 ^ n → f' (p + 5) s = fI (dC U n) s) 16 [(3, (.int (iI (((s : Nat) : Int))))), (2, (.int (iI (((2 ^ i : Nat) : Int))))), (1, (.int (iI (((i : Nat) : Int))))), (0, (.ref p))] [] g f1 0 0 := by
          intro m
          induction m using Nat.strongRecOn with
          | _ m ih2 =>
            intro s hm hs0 f1 hF1 hR1
            refine r_iload_n (pc := 16) 0 dX9_addParts_16 rfl rfl ?_
            refine r_aload_n (pc := 17) 3 dX9_addParts_17 rfl rfl ?_
            refine r_getIv (pc := 18) (x := ((2 ^ n - 1 : Nat) : Int)) dX9_addParts_18 fl_X9_35 rfl hP.k ((congrFun (hF1 p (by omega)) _).trans h11) ?_
            refine r_icmp_gt (pc := 21) (tgt := 53) dX9_addParts_21 (by decide) (by omega) (by omega) (fun c_21 => ?_) (fun c_21 => ?_)
            · refine r_iincv (pc := 53) (y := ((i + 1 : Nat) : Int)) (L2 := [(1, (.int (iI (((i + 1 : Nat) : Int))))), (3, (.int (iI (((s : Nat) : Int))))), (2, (.int (iI (((2 ^ i : Nat) : Int))))), (0, (.ref p))]) 2 dX9_addParts_53 rfl (by omega) (by decide) rfl ?_
              refine r_goto (pc := 56) (tgt := 2) dX9_addParts_56 (by decide) ?_
              refine r_sub (L2 := [(1, (.int (iI (((i + 1 : Nat) : Int))))), (0, (.ref p))]) [0, 3] rfl ?_
              exact ih (n - (i + 1)) (by omega) (i + 1) (by omega) (by omega) f1 hF1 (fun q hq => by
                rw [hR1 q hq]
                by_cases h : q.testBit i = true
                · rw [if_neg (fun h2 => h2.2 h)]; unfold fI; rw [dC_s, if_pos h]
                · rw [if_pos ⟨by omega, h⟩])
            · have hs : s < 2 ^ n := by omega
              refine r_iload_n (pc := 24) 0 dX9_addParts_24 rfl rfl ?_
              refine r_iload_n (pc := 25) 1 dX9_addParts_25 rfl rfl ?_
              refine r_iand (pc := 26) (w := ((s &&& (2 ^ i) : Nat) : Int)) dX9_addParts_26  (iI_and _ _) ?_
              refine r_if_ne (pc := 27) (tgt := 47) dX9_addParts_27 (by decide) (by have h := Nat.and_le_left (n := s) (m := 2 ^ i); omega) (fun c_27 => ?_) (fun c_27 => ?_)
              · refine r_iincv (pc := 47) (y := ((s + 1 : Nat) : Int)) (L2 := [(3, (.int (iI (((s + 1 : Nat) : Int))))), (2, (.int (iI (((2 ^ i : Nat) : Int))))), (1, (.int (iI (((i : Nat) : Int))))), (0, (.ref p))]) 0 dX9_addParts_47 rfl (by omega) (by decide) rfl ?_
                refine r_goto (pc := 50) (tgt := 16) dX9_addParts_50 (by decide) ?_
                refine r_sub (L2 := [(3, (.int (iI (((s + 1 : Nat) : Int))))), (2, (.int (iI (((2 ^ i : Nat) : Int))))), (1, (.int (iI (((i : Nat) : Int))))), (0, (.ref p))]) [0, 1, 2, 3] rfl ?_
                exact ih2 (2 ^ n - (s + 1)) (by omega) (s + 1) (by omega) (by omega) f1 hF1 (fun q hq => by
                  rw [hR1 q hq]
                  by_cases e : q = s
                  · subst e; rw [if_neg (by omega), if_neg (fun h => h.2 (Decidable.byContradiction fun w => c_27 (by have := and_bit.mpr w; omega)))]
                  · by_cases h : q < s ∧ ¬ q.testBit i = true
                    · rw [if_pos h, if_pos ⟨by omega, h.2⟩]
                    · rw [if_neg h, if_neg (fun h2 => h ⟨by omega, h2.2⟩)])
              · have hbt : ¬ s.testBit i = true := and_bit.mp (by omega)
                have hxb : ¬ ¬ (s ||| 2 ^ i).testBit i = true := fun q => q (by rw [Nat.testBit_or, Nat.testBit_two_pow_self]; simp)
                refine r_aload_n (pc := 30) 3 dX9_addParts_30 rfl rfl ?_
                refine r_getR (pc := 31) (b := (p + 5)) dX9_addParts_31 fl_X9_25 rfl hP.k hP.r4 ?_
                refine r_iload_n (pc := 34) 0 dX9_addParts_34 rfl rfl ?_
                refine r_dup2 (pc := 35) dX9_addParts_35 rfl rfl ?_
                refine r_ialdv (pc := 36) (w := (((fI (dC U i) s).toNat : Nat) : Int)) dX9_addParts_36 hP.a4 (by omega) (by decide) (((hR1 s hs).trans (if_neg (by omega))).trans (by have := fI_01 (dC U i) s; omega)) ?_
                refine r_aload_n (pc := 37) 3 dX9_addParts_37 rfl rfl ?_
                refine r_getR (pc := 38) (b := (p + 5)) dX9_addParts_38 fl_X9_25 rfl hP.k hP.r4 ?_
                refine r_iload_n (pc := 41) 0 dX9_addParts_41 rfl rfl ?_
                refine r_iload_n (pc := 42) 1 dX9_addParts_42 rfl rfl ?_
                refine r_ior (pc := 43) (w := ((s ||| (2 ^ i) : Nat) : Int)) dX9_addParts_43  (iI_or _ _) ?_
                refine r_ialdv (pc := 44) (w := (((fI (dC U i) (s ||| 2 ^ i)).toNat : Nat) : Int)) dX9_addParts_44 hP.a4 (by have := or_lt hs (show i < n by omega); omega) (by decide) (((hR1 _ (or_lt hs (by omega))).trans (if_neg (fun q => hxb q.2))).trans (by have := fI_01 (dC U i) (s ||| 2 ^ i); omega)) ?_
                refine r_ior (pc := 45) (w := ((((fI (dC U i) s).toNat) ||| ((fI (dC U i) (s ||| 2 ^ i)).toNat) : Nat) : Int)) dX9_addParts_45  (iI_or _ _) ?_
                refine r_iastv (pc := 46) (i := s) dX9_addParts_46 hP.a4 (by omega) (by decide) rfl ?_
                refine r_iincv (pc := 47) (y := ((s + 1 : Nat) : Int)) (L2 := [(3, (.int (iI (((s + 1 : Nat) : Int))))), (2, (.int (iI (((2 ^ i : Nat) : Int))))), (1, (.int (iI (((i : Nat) : Int))))), (0, (.ref p))]) 0 dX9_addParts_47 rfl (by omega) (by decide) rfl ?_
                refine r_goto (pc := 50) (tgt := 16) dX9_addParts_50 (by decide) ?_
                refine r_sub (L2 := [(3, (.int (iI (((s + 1 : Nat) : Int))))), (2, (.int (iI (((2 ^ i : Nat) : Int))))), (1, (.int (iI (((i : Nat) : Int))))), (0, (.ref p))]) [0, 1, 2, 3] rfl ?_
                exact ih2 (2 ^ n - (s + 1)) (by omega) (s + 1) (by omega) (by omega) _ (fun b hb => by rw [stF_n _ _ _ hb]; exact hF1 b hb) (fun q hq => by
                  by_cases e : q = s
                  · subst e; rw [stF_s, if_pos ⟨by omega, hbt⟩]; unfold fI; rw [dC_s, if_neg hbt]; cases dC U i q <;> cases dC U i (q ||| 2 ^ i) <;> rfl
                  · rw [stF_i _ _ _ e, hR1 q hq]
                    by_cases h : q < s ∧ ¬ q.testBit i = true
                    · rw [if_pos h, if_pos ⟨by omega, h.2⟩]
                    · rw [if_neg h, if_neg (fun h2 => h ⟨by omega, h2.2⟩)])
        refine r_sub (L2 := [(3, (.int (iI (((0 : Nat) : Int))))), (2, (.int (iI (((2 ^ i : Nat) : Int))))), (1, (.int (iI (((i : Nat) : Int))))), (0, (.ref p))]) [0, 1, 2, 3] rfl ?_
        exact inner (2 ^ n) 0 (by omega) (by omega) f1 hF1 (fun q hq => by rw [if_neg (by omega)]; exact hZ1 q hq)
  refine r_iconst (pc := 0) dX9_addParts_0 ?_
  refine r_istore_n (pc := 1) (L2 := [(1, (.int (iI (0)))), (0, (.ref p))]) dX9_addParts_1 rfl (by decide) rfl ?_
  refine r_sub (L2 := [(1, (.int (iI (((0 : Nat) : Int))))), (0, (.ref p))]) [0, 1] rfl ?_
  exact outer n 0 (by omega) (by omega) f (fun _ _ => rfl) hu

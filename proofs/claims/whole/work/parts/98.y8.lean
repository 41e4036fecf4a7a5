theorem sv_0 {J : Nat → Nat → Int} {p s n q t : Nat} (hq : (2 ^ n - 1) / 64 + 1 ≤ q + 0) (hF : ∀ x, x < 256 → fmB J (p + 4) s x = true → x < 2 ^ n) (ht : t < 256) : (decide (0 ≤ t / 64) && decide (t / 64 - 0 < q) && decide (0 ≤ t % 64) && lB (J (p + 4) (4 * s + (t / 64 - 0))) (t % 64 - 0)) = fmB J (p + 4) s t := by
  rw [decide_eq_true (Nat.zero_le _), decide_eq_true (Nat.zero_le _), Nat.sub_zero, Nat.sub_zero]
  by_cases h : t / 64 < q
  · rw [decide_eq_true h]; rfl
  · rw [decide_eq_false h]
    symm
    apply Bool.eq_false_iff.mpr
    intro e
    have := hF t ht e
    have := Nat.two_pow_pos n
    omega
theorem sv_lo {J : Nat → Nat → Int} {p s n q t i : Nat} (hn : n ≤ 8) (hi : i < n) (h6 : i < 6) (hq : (2 ^ n - 1) / 64 + 1 ≤ q + 0) (hF : ∀ x, x < 256 → fmB J (p + 4) s x = true → ¬ x.testBit i = true ∧ x < 2 ^ n) (ht : t < 256) : (decide (0 ≤ t / 64) && decide (t / 64 - 0 < q) && decide (2 ^ i ≤ t % 64) && lB (J (p + 4) (4 * s + (t / 64 - 0))) (t % 64 - 2 ^ i)) = (t.testBit i && fmB J (p + 4) s (xb t i)) := by
  have hp0 : 1 ≤ 2 ^ i := Nat.one_le_two_pow
  have hp6 : 2 ^ i ≤ 32 := Nat.le_trans (Nat.pow_le_pow_right (by decide) (show i ≤ 5 by omega)) (by decide)
  rw [← mv_bit hn hi ht hF]
  rw [decide_eq_true (Nat.zero_le _), Nat.sub_zero, Bool.true_and]
  by_cases h : t / 64 < q
  · rw [decide_eq_true h, Bool.true_and]
    by_cases h2 : 2 ^ i ≤ t % 64
    · rw [decide_eq_true h2, decide_eq_true (show 2 ^ i ≤ t by omega)]
      unfold fmB
      rw [show (t - 2 ^ i) / 64 = t / 64 by omega, show (t - 2 ^ i) % 64 = t % 64 - 2 ^ i by omega]
    · rw [decide_eq_false h2, Bool.false_and, mv_bit hn hi ht hF]
      symm
      have hb : t.testBit i = false := by
        have h3 : (t % 2 ^ 6).testBit i = t.testBit i := by rw [Nat.testBit_mod_two_pow, decide_eq_true h6, Bool.true_and]
        rw [← h3]
        exact Nat.testBit_lt_two_pow (by omega)
      rw [hb]; rfl
  · rw [decide_eq_false h, Bool.false_and, Bool.false_and, mv_bit hn hi ht hF]
    symm
    apply Bool.eq_false_iff.mpr
    intro e
    rw [Bool.and_eq_true] at e
    have hx : xb t i < 2 ^ n := (hF (xb t i) (by have := xb_lt (n := 8) (i := i) ht (by omega); exact this) e.2).2
    have ht2 : t < 2 ^ n := by have := xb_lt hx hi; rw [xb_xb] at this; exact this
    have := Nat.two_pow_pos n
    omega
theorem sv_hi {J : Nat → Nat → Int} {p s n q t i : Nat} (hn : n ≤ 8) (hi : i < n) (h6 : 6 ≤ i) (hq : (2 ^ n - 1) / 64 + 1 ≤ q + 2 ^ (i - 6)) (hF : ∀ x, x < 256 → fmB J (p + 4) s x = true → ¬ x.testBit i = true ∧ x < 2 ^ n) (ht : t < 256) : (decide (2 ^ (i - 6) ≤ t / 64) && decide (t / 64 - 2 ^ (i - 6) < q) && decide (0 ≤ t % 64) && lB (J (p + 4) (4 * s + (t / 64 - 2 ^ (i - 6)))) (t % 64 - 0)) = (t.testBit i && fmB J (p + 4) s (xb t i)) := by
  have hpi : 2 ^ i = 64 * 2 ^ (i - 6) := by rw [show (64 : Nat) = 2 ^ 6 from rfl, ← Nat.pow_add]; congr 1; omega
  have hp1 : 1 ≤ 2 ^ (i - 6) := Nat.one_le_two_pow
  rw [← mv_bit hn hi ht hF]
  rw [decide_eq_true (show 0 ≤ t % 64 from Nat.zero_le _), Nat.sub_zero, Bool.and_true]
  by_cases h1 : 2 ^ (i - 6) ≤ t / 64
  · rw [decide_eq_true h1, decide_eq_true (show 2 ^ i ≤ t by omega), Bool.true_and, Bool.true_and]
    have e1 : fmB J (p + 4) s (t - 2 ^ i) = lB (J (p + 4) (4 * s + (t / 64 - 2 ^ (i - 6)))) (t % 64) := by
      unfold fmB
      rw [show (t - 2 ^ i) / 64 = t / 64 - 2 ^ (i - 6) by omega, show (t - 2 ^ i) % 64 = t % 64 by omega]
    rw [e1]
    by_cases h : t / 64 - 2 ^ (i - 6) < q
    · rw [decide_eq_true h, Bool.true_and]
    · rw [decide_eq_false h, Bool.false_and]
      symm
      rw [← e1]
      apply Bool.eq_false_iff.mpr
      intro e
      have h3 := hF (t - 2 ^ i) (by omega) e
      have h4 := mv_bit (F := fmB J (p + 4) s) hn hi ht hF
      rw [decide_eq_true (show 2 ^ i ≤ t by omega), e, Bool.true_and] at h4
      have h5 := (Bool.and_eq_true _ _ ▸ h4.symm : (t.testBit i && fmB J (p + 4) s (xb t i)) = true)
      rw [Bool.and_eq_true] at h5
      have hx : xb t i < 2 ^ n := (hF (xb t i) (by have := xb_lt (n := 8) (i := i) ht (by omega); exact this) h5.2).2
      have ht2 : t < 2 ^ n := by have := xb_lt hx hi; rw [xb_xb] at this; exact this
      have := Nat.two_pow_pos n
      omega
  · rw [decide_eq_false h1, Bool.false_and, Bool.false_and, decide_eq_false (show ¬ 2 ^ i ≤ t by omega), Bool.false_and]

set_option maxRecDepth 100000 in
set_option maxHeartbeats 4000000 in
theorem x_serve (l : Launch) (z : Zv) (d : Nat) {g : Gm} {J : Nat → Nat → Int} {f : Fm} {p n : Nat} {s i : Nat} {lk : Bool} (hP : YL g p) (hn8 : n ≤ 8) (h11 : f p 11 = ((2 ^ n - 1 : Nat) : Int)) (hs : s < 2 ^ n) (hi : i < n) (hb : ¬ s.testBit i = true) (hF : ∀ x, x < 256 → fmB J (p + 4) s x = true → ¬ x.testBit i = true ∧ x < 2 ^ n) : PM l z d mX9_serve [.ref p, .int (iI ((s : Nat) : Int)), .int (iI ((i : Nat) : Int)), .int (iI (b01 (lk = true)))] (gwJ g J) f 0 0 (fun r g' f' => r = none ∧ f = f' ∧ ∃ J', gwJ g J' = g' ∧ (∀ b k, b ≠ p + 4 ∨ k < 4 * (s ||| 2 ^ i) ∨ 4 * (s ||| 2 ^ i) + 4 ≤ k → J' b k = J b k) ∧ ∀ t, t < 256 → fmB J' (p + 4) (s ||| 2 ^ i) t = (fmB J (p + 4) (s ||| 2 ^ i) t || (if lk = true then t.testBit i && fmB J (p + 4) s (xb t i) else fmB J (p + 4) s t))) := by
  have hp8 := pow8 hn8
  have hor := or_lt hs hi
  have hog := or_gt hb
  refine PM.of (by decide +kernel) (Nat.le_of_ble_eq_true rfl) ?_
  have Ls : ∀ on sh : Nat, sh < 64 → on ≤ 2 → (∀ q, (2 ^ n - 1) / 64 + 1 ≤ q + on → ∀ t, t < 256 → (decide (on ≤ t / 64) && decide (t / 64 - on < q) && decide (sh ≤ t % 64) && lB (J (p + 4) (4 * s + (t / 64 - on))) (t % 64 - sh)) = (if lk = true then t.testBit i && fmB J (p + 4) s (xb t i) else fmB J (p + 4) s t)) → ∀ m q : Nat, m = 8 - q → q ≤ 8 → ∀ J1 : Nat → Nat → Int, (∀ b k, b ≠ p + 4 ∨ k < 4 * (s ||| 2 ^ i) ∨ 4 * (s ||| 2 ^ i) + 4 ≤ k → J1 b k = J b k) → (∀ t, t < 256 → fmB J1 (p + 4) (s ||| 2 ^ i) t = (fmB J (p + 4) (s ||| 2 ^ i) t || (decide (on ≤ t / 64) && decide (t / 64 - on < q) && decide (sh ≤ t % 64) && lB (J (p + 4) (4 * s + (t / 64 - on))) (t % 64 - sh)))) → PW l z d mX9_serve 0 0 (fun r g' f' => r = none ∧ f = f' ∧ ∃ J', gwJ g J' = g' ∧ (∀ b k, b ≠ p + 4 ∨ k < 4 * (s ||| 2 ^ i) ∨ 4 * (s ||| 2 ^ i) + 4 ≤ k → J' b k = J b k) ∧ ∀ t, t < 256 → fmB J' (p + 4) (s ||| 2 ^ i) t = (fmB J (p + 4) (s ||| 2 ^ i) t || (if lk = true then t.testBit i && fmB J (p + 4) s (xb t i) else fmB J (p + 4) s t))) 69 [(9, (.int (iI (((q : Nat) : Int))))), (8, (.int (iI (((sh : Nat) : Int))))), (7, (.int (iI (((on : Nat) : Int))))), (6, (.int (iI ((((2 ^ n - 1) / 64 + 1 : Nat) : Int))))), (5, (.int (iI (((4 * (s ||| 2 ^ i) : Nat) : Int))))), (4, (.int (iI (((4 * s : Nat) : Int))))), (0, (.ref p)), (1, (.int (iI (((s : Nat) : Int))))), (2, (.int (iI (((i : Nat) : Int))))), (3, (.int (iI (b01 (lk = true)))))] [] (gwJ g J1) f 0 0 := by
    intro on sh hsh hon hfin m
    induction m using Nat.strongRecOn with
    | _ m ih_Ls =>
      intro q hm hq0 J1 hJ1 hB
      refine r_iload (pc := 69) 0 dX9_serve_69 rfl ?_
      refine r_iload (pc := 71) 2 dX9_serve_71 rfl ?_
      refine r_iadd (pc := 73) dX9_serve_73 ?_
      refine r_eqI (y := ((q + on : Nat) : Int)) (Int.natCast_add _ _ |>.symm) ?_
      refine r_iload (pc := 74) 3 dX9_serve_74 rfl ?_
      refine r_icmp_ge (pc := 76) (tgt := 114) dX9_serve_76 (by decide) (by omega) (by omega) (fun c_76 => ?_) (fun c_76 => ?_)
      · exact r_vret (pc := 114) dX9_serve_114 rfl ⟨rfl, rfl, J1, rfl, hJ1, fun t ht => by rw [hB t ht, hfin q (by omega) t ht]⟩
      · refine r_aload_n (pc := 79) 6 dX9_serve_79 rfl rfl ?_
        refine r_getR (pc := 80) (b := (p + 4)) dX9_serve_80 fl_X9_22 rfl hP.k hP.r3 ?_
        refine r_iload (pc := 83) 4 dX9_serve_83 rfl ?_
        refine r_iload (pc := 85) 0 dX9_serve_85 rfl ?_
        refine r_iadd (pc := 87) dX9_serve_87 ?_
        refine r_eqI (y := (((4 * (s ||| 2 ^ i)) + q : Nat) : Int)) (Int.natCast_add _ _ |>.symm) ?_
        refine r_iload (pc := 88) 2 dX9_serve_88 rfl ?_
        refine r_iadd (pc := 90) dX9_serve_90 ?_
        refine r_eqI (y := ((4 * (s ||| 2 ^ i) + (q + on) : Nat) : Int)) (by omega) ?_
        refine r_dup2 (pc := 91) dX9_serve_91 rfl rfl ?_
        refine r_lald (pc := 92) dX9_serve_92 hP.a3 (by omega) (by decide) ?_
        refine r_aload_n (pc := 93) 6 dX9_serve_93 rfl rfl ?_
        refine r_getR (pc := 94) (b := (p + 4)) dX9_serve_94 fl_X9_22 rfl hP.k hP.r3 ?_
        refine r_iload (pc := 97) 5 dX9_serve_97 rfl ?_
        refine r_iload (pc := 99) 0 dX9_serve_99 rfl ?_
        refine r_iadd (pc := 101) dX9_serve_101 ?_
        refine r_eqI (y := ((4 * s + q : Nat) : Int)) (by omega) ?_
        refine r_lald (pc := 102) dX9_serve_102 hP.a3 (by omega) (by decide) ?_
        refine r_iload (pc := 103) 1 dX9_serve_103 rfl ?_
        refine r_lshl (pc := 105) (w := (lI (glm (gwJ g J1) (p + 4) (((4 * s + q : Nat) : Int)).toNat) <<< ((iI ((sh : Nat) : Int)).toInt64 &&& 63)).toInt) dX9_serve_105  ((lI_t _).symm) ?_
        refine r_lor (pc := 106) (w := (lI (glm (gwJ g J1) (p + 4) (((4 * (s ||| 2 ^ i) + (q + on) : Nat) : Int)).toNat) ||| lI ((lI (glm (gwJ g J1) (p + 4) (((4 * s + q : Nat) : Int)).toNat) <<< ((iI ((sh : Nat) : Int)).toInt64 &&& 63)).toInt)).toInt) dX9_serve_106  ((lI_t _).symm) ?_
        refine r_last (pc := 107) dX9_serve_107 hP.a3 (by omega) (by decide) ?_
        refine r_iincv (pc := 108) (y := ((q + 1 : Nat) : Int)) (L2 := [(9, (.int (iI (((q + 1 : Nat) : Int))))), (8, (.int (iI (((sh : Nat) : Int))))), (7, (.int (iI (((on : Nat) : Int))))), (6, (.int (iI ((((2 ^ n - 1) / 64 + 1 : Nat) : Int))))), (5, (.int (iI (((4 * (s ||| 2 ^ i) : Nat) : Int))))), (4, (.int (iI (((4 * s : Nat) : Int))))), (0, (.ref p)), (1, (.int (iI (((s : Nat) : Int))))), (2, (.int (iI (((i : Nat) : Int))))), (3, (.int (iI (b01 (lk = true)))))]) 0 dX9_serve_108 rfl (by omega) (by decide) rfl ?_
        refine r_goto (pc := 111) (tgt := 69) dX9_serve_111 (by decide) ?_
        refine r_sub (L2 := [(9, (.int (iI (((q + 1 : Nat) : Int))))), (8, (.int (iI (((sh : Nat) : Int))))), (7, (.int (iI (((on : Nat) : Int))))), (6, (.int (iI ((((2 ^ n - 1) / 64 + 1 : Nat) : Int))))), (5, (.int (iI (((4 * (s ||| 2 ^ i) : Nat) : Int))))), (4, (.int (iI (((4 * s : Nat) : Int))))), (0, (.ref p)), (1, (.int (iI (((s : Nat) : Int))))), (2, (.int (iI (((i : Nat) : Int))))), (3, (.int (iI (b01 (lk = true)))))]) [0, 1, 2, 3, 4, 5, 6, 7, 8, 9] rfl ?_
        exact ih_Ls (8 - (q + 1)) (by omega) (q + 1) (by omega) (by omega) (jS J1 (p + 4) (4 * (s ||| 2 ^ i) + (q + on)) ((lI (J1 (p + 4) (4 * (s ||| 2 ^ i) + (q + on))) ||| lI ((lI (J1 (p + 4) (4 * s + q)) <<< ((iI ((sh : Nat) : Int)).toInt64 &&& 63)).toInt)).toInt)) (fun b k h => by
          by_cases e : b = p + 4
          · subst e; rw [jS_i _ _ _ (by omega)]; exact hJ1 _ _ h
          · rw [jS_n _ _ _ _ e]; exact hJ1 _ _ h) (fun t ht => by
          have hBt := hB t ht
          unfold fmB at hBt ⊢
          by_cases e : t / 64 = q + on
          · rw [e, jS_s, lB_or, lB_shl _ _ hsh, hJ1 (p + 4) (4 * s + q) (by omega)]
            rw [e] at hBt
            rw [hBt, decide_eq_true (show on ≤ q + on by omega), show q + on - on = q by omega, decide_eq_false (show ¬ q < q by omega), decide_eq_true (show q < q + 1 by omega), decide_eq_true (show t % 64 < 64 by omega)]
            by_cases h : sh ≤ t % 64
            · rw [decide_eq_true h, decide_eq_false (show ¬ t % 64 < sh by omega)]; simp
            · rw [decide_eq_false h, decide_eq_true (show t % 64 < sh by omega)]; simp
          · rw [jS_i _ _ _ (by omega), hBt]
            by_cases h : on ≤ t / 64
            · rw [show decide (t / 64 - on < q + 1) = decide (t / 64 - on < q) from decide_eq_decide.mpr (by omega)]
            · rw [decide_eq_false h]; simp)
  refine r_iload_n (pc := 0) 1 dX9_serve_0 rfl rfl ?_
  refine r_iconst (pc := 1) dX9_serve_1 ?_
  refine r_imul (pc := 2) dX9_serve_2 ?_
  refine r_eqI (y := ((4 * s : Nat) : Int)) (by omega) ?_
  refine r_istore (pc := 3) (L2 := [(4, (.int (iI (((4 * s : Nat) : Int))))), (0, (.ref p)), (1, (.int (iI (((s : Nat) : Int))))), (2, (.int (iI (((i : Nat) : Int))))), (3, (.int (iI (b01 (lk = true)))))]) dX9_serve_3 (by decide) rfl ?_
  refine r_iload_n (pc := 5) 2 dX9_serve_5 rfl rfl ?_
  refine r_iconst (pc := 6) dX9_serve_6 ?_
  refine r_iload_n (pc := 7) 3 dX9_serve_7 rfl rfl ?_
  refine r_ishl (pc := 8) (w := ((2 ^ i : Nat) : Int)) dX9_serve_8  (iI_shl1 (by omega)) ?_
  refine r_ior (pc := 9) (w := ((s ||| (2 ^ i) : Nat) : Int)) dX9_serve_9  (iI_or _ _) ?_
  refine r_iconst (pc := 10) dX9_serve_10 ?_
  refine r_imul (pc := 11) dX9_serve_11 ?_
  refine r_eqI (y := ((4 * (s ||| 2 ^ i) : Nat) : Int)) (by omega) ?_
  refine r_istore (pc := 12) (L2 := [(5, (.int (iI (((4 * (s ||| 2 ^ i) : Nat) : Int))))), (4, (.int (iI (((4 * s : Nat) : Int))))), (0, (.ref p)), (1, (.int (iI (((s : Nat) : Int))))), (2, (.int (iI (((i : Nat) : Int))))), (3, (.int (iI (b01 (lk = true)))))]) dX9_serve_12 (by decide) rfl ?_
  refine r_aload_n (pc := 14) 2 dX9_serve_14 rfl rfl ?_
  refine r_getIv (pc := 15) (x := ((2 ^ n - 1 : Nat) : Int)) dX9_serve_15 fl_X9_35 rfl hP.k (h11) ?_
  refine r_bipush (pc := 18) dX9_serve_18 (by decide) ?_
  refine r_ishr (pc := 20) (w := (((2 ^ n - 1) / 2 ^ 6 : Nat) : Int)) dX9_serve_20  (iI_shr (by omega) (by decide)) ?_
  refine r_iconst (pc := 21) dX9_serve_21 ?_
  refine r_iadd (pc := 22) dX9_serve_22 ?_
  refine r_eqI (y := (((2 ^ n - 1) / 64 + 1 : Nat) : Int)) (by omega) ?_
  refine r_istore (pc := 23) (L2 := [(6, (.int (iI ((((2 ^ n - 1) / 64 + 1 : Nat) : Int))))), (5, (.int (iI (((4 * (s ||| 2 ^ i) : Nat) : Int))))), (4, (.int (iI (((4 * s : Nat) : Int))))), (0, (.ref p)), (1, (.int (iI (((s : Nat) : Int))))), (2, (.int (iI (((i : Nat) : Int))))), (3, (.int (iI (b01 (lk = true)))))]) dX9_serve_23 (by decide) rfl ?_
  refine r_iload_n (pc := 25) 6 dX9_serve_25 rfl rfl ?_
  refine r_if_eq (pc := 26) (tgt := 44) dX9_serve_26 (by decide) (b01_r) (fun c_26 => ?_) (fun c_26 => ?_)
  · replace c_26 := b01_z c_26
    refine r_iconst (pc := 44) dX9_serve_44 ?_
    refine r_istore (pc := 45) (L2 := [(7, (.int (iI (0)))), (6, (.int (iI ((((2 ^ n - 1) / 64 + 1 : Nat) : Int))))), (5, (.int (iI (((4 * (s ||| 2 ^ i) : Nat) : Int))))), (4, (.int (iI (((4 * s : Nat) : Int))))), (0, (.ref p)), (1, (.int (iI (((s : Nat) : Int))))), (2, (.int (iI (((i : Nat) : Int))))), (3, (.int (iI (b01 (lk = true)))))]) dX9_serve_45 (by decide) rfl ?_
    refine r_iload_n (pc := 47) 7 dX9_serve_47 rfl rfl ?_
    refine r_if_eq (pc := 48) (tgt := 63) dX9_serve_48 (by decide) (b01_r) (fun c_48 => ?_) (fun c_48 => ?_)
    · replace c_48 := b01_z c_48
      refine r_iconst (pc := 63) dX9_serve_63 ?_
      refine r_istore (pc := 64) (L2 := [(8, (.int (iI (0)))), (7, (.int (iI (0)))), (6, (.int (iI ((((2 ^ n - 1) / 64 + 1 : Nat) : Int))))), (5, (.int (iI (((4 * (s ||| 2 ^ i) : Nat) : Int))))), (4, (.int (iI (((4 * s : Nat) : Int))))), (0, (.ref p)), (1, (.int (iI (((s : Nat) : Int))))), (2, (.int (iI (((i : Nat) : Int))))), (3, (.int (iI (b01 (lk = true)))))]) dX9_serve_64 (by decide) rfl ?_
      refine r_iconst (pc := 66) dX9_serve_66 ?_
      refine r_istore (pc := 67) (L2 := [(9, (.int (iI (0)))), (8, (.int (iI (0)))), (7, (.int (iI (0)))), (6, (.int (iI ((((2 ^ n - 1) / 64 + 1 : Nat) : Int))))), (5, (.int (iI (((4 * (s ||| 2 ^ i) : Nat) : Int))))), (4, (.int (iI (((4 * s : Nat) : Int))))), (0, (.ref p)), (1, (.int (iI (((s : Nat) : Int))))), (2, (.int (iI (((i : Nat) : Int))))), (3, (.int (iI (b01 (lk = true)))))]) dX9_serve_67 (by decide) rfl ?_
      refine r_sub (L2 := [(9, (.int (iI (((0 : Nat) : Int))))), (8, (.int (iI (((0 : Nat) : Int))))), (7, (.int (iI (((0 : Nat) : Int))))), (6, (.int (iI ((((2 ^ n - 1) / 64 + 1 : Nat) : Int))))), (5, (.int (iI (((4 * (s ||| 2 ^ i) : Nat) : Int))))), (4, (.int (iI (((4 * s : Nat) : Int))))), (0, (.ref p)), (1, (.int (iI (((s : Nat) : Int))))), (2, (.int (iI (((i : Nat) : Int))))), (3, (.int (iI (b01 (lk = true)))))]) [0, 1, 2, 3, 4, 5, 6, 7, 8, 9] rfl ?_
      exact Ls (0) (0) (by omega) (by omega) (fun q hq t ht => by rw [if_neg c_26]; exact sv_0 hq (fun x hx e => (hF x hx e).2) ht) 8 0 (by omega) (by omega) J (fun _ _ _ => rfl) (fun t ht => by rw [decide_eq_false (Nat.not_lt_zero _), Bool.and_false, Bool.false_and, Bool.false_and, Bool.or_false])
    · replace c_48 := b01_nz c_48
      refine r_iload_n (pc := 51) 6 dX9_serve_51 rfl rfl ?_
      refine r_bipush (pc := 52) dX9_serve_52 (by decide) ?_
      refine r_icmp_ge (pc := 54) (tgt := 63) dX9_serve_54 (by decide) (by omega) (by omega) (fun c_54 => ?_) (fun c_54 => ?_)
      · refine r_iconst (pc := 63) dX9_serve_63 ?_
        refine r_istore (pc := 64) (L2 := [(8, (.int (iI (0)))), (7, (.int (iI (0)))), (6, (.int (iI ((((2 ^ n - 1) / 64 + 1 : Nat) : Int))))), (5, (.int (iI (((4 * (s ||| 2 ^ i) : Nat) : Int))))), (4, (.int (iI (((4 * s : Nat) : Int))))), (0, (.ref p)), (1, (.int (iI (((s : Nat) : Int))))), (2, (.int (iI (((i : Nat) : Int))))), (3, (.int (iI (b01 (lk = true)))))]) dX9_serve_64 (by decide) rfl ?_
        refine r_iconst (pc := 66) dX9_serve_66 ?_
        refine r_istore (pc := 67) (L2 := [(9, (.int (iI (0)))), (8, (.int (iI (0)))), (7, (.int (iI (0)))), (6, (.int (iI ((((2 ^ n - 1) / 64 + 1 : Nat) : Int))))), (5, (.int (iI (((4 * (s ||| 2 ^ i) : Nat) : Int))))), (4, (.int (iI (((4 * s : Nat) : Int))))), (0, (.ref p)), (1, (.int (iI (((s : Nat) : Int))))), (2, (.int (iI (((i : Nat) : Int))))), (3, (.int (iI (b01 (lk = true)))))]) dX9_serve_67 (by decide) rfl ?_
        exact absurd c_48 c_26
      · refine r_iconst (pc := 57) dX9_serve_57 ?_
        refine r_iload_n (pc := 58) 6 dX9_serve_58 rfl rfl ?_
        refine r_ishl (pc := 59) (w := ((2 ^ i : Nat) : Int)) dX9_serve_59  (iI_shl1 (by omega)) ?_
        refine r_goto (pc := 60) (tgt := 64) dX9_serve_60 (by decide) ?_
        refine r_istore (pc := 64) (L2 := [(8, (.int (iI (((2 ^ i : Nat) : Int))))), (7, (.int (iI (0)))), (6, (.int (iI ((((2 ^ n - 1) / 64 + 1 : Nat) : Int))))), (5, (.int (iI (((4 * (s ||| 2 ^ i) : Nat) : Int))))), (4, (.int (iI (((4 * s : Nat) : Int))))), (0, (.ref p)), (1, (.int (iI (((s : Nat) : Int))))), (2, (.int (iI (((i : Nat) : Int))))), (3, (.int (iI (b01 (lk = true)))))]) dX9_serve_64 (by decide) rfl ?_
        refine r_iconst (pc := 66) dX9_serve_66 ?_
        refine r_istore (pc := 67) (L2 := [(9, (.int (iI (0)))), (8, (.int (iI (((2 ^ i : Nat) : Int))))), (7, (.int (iI (0)))), (6, (.int (iI ((((2 ^ n - 1) / 64 + 1 : Nat) : Int))))), (5, (.int (iI (((4 * (s ||| 2 ^ i) : Nat) : Int))))), (4, (.int (iI (((4 * s : Nat) : Int))))), (0, (.ref p)), (1, (.int (iI (((s : Nat) : Int))))), (2, (.int (iI (((i : Nat) : Int))))), (3, (.int (iI (b01 (lk = true)))))]) dX9_serve_67 (by decide) rfl ?_
        exact absurd c_48 c_26
  · replace c_26 := b01_nz c_26
    refine r_iload_n (pc := 29) 5 dX9_serve_29 rfl rfl ?_
    refine r_bipush (pc := 30) dX9_serve_30 (by decide) ?_
    refine r_icmp_lt (pc := 32) (tgt := 44) dX9_serve_32 (by decide) (by omega) (by omega) (fun c_32 => ?_) (fun c_32 => ?_)
    · refine r_iconst (pc := 44) dX9_serve_44 ?_
      refine r_istore (pc := 45) (L2 := [(7, (.int (iI (0)))), (6, (.int (iI ((((2 ^ n - 1) / 64 + 1 : Nat) : Int))))), (5, (.int (iI (((4 * (s ||| 2 ^ i) : Nat) : Int))))), (4, (.int (iI (((4 * s : Nat) : Int))))), (0, (.ref p)), (1, (.int (iI (((s : Nat) : Int))))), (2, (.int (iI (((i : Nat) : Int))))), (3, (.int (iI (b01 (lk = true)))))]) dX9_serve_45 (by decide) rfl ?_
      refine r_iload_n (pc := 47) 7 dX9_serve_47 rfl rfl ?_
      refine r_if_eq (pc := 48) (tgt := 63) dX9_serve_48 (by decide) (b01_r) (fun c_48 => ?_) (fun c_48 => ?_)
      · replace c_48 := b01_z c_48
        refine r_iconst (pc := 63) dX9_serve_63 ?_
        refine r_istore (pc := 64) (L2 := [(8, (.int (iI (0)))), (7, (.int (iI (0)))), (6, (.int (iI ((((2 ^ n - 1) / 64 + 1 : Nat) : Int))))), (5, (.int (iI (((4 * (s ||| 2 ^ i) : Nat) : Int))))), (4, (.int (iI (((4 * s : Nat) : Int))))), (0, (.ref p)), (1, (.int (iI (((s : Nat) : Int))))), (2, (.int (iI (((i : Nat) : Int))))), (3, (.int (iI (b01 (lk = true)))))]) dX9_serve_64 (by decide) rfl ?_
        refine r_iconst (pc := 66) dX9_serve_66 ?_
        refine r_istore (pc := 67) (L2 := [(9, (.int (iI (0)))), (8, (.int (iI (0)))), (7, (.int (iI (0)))), (6, (.int (iI ((((2 ^ n - 1) / 64 + 1 : Nat) : Int))))), (5, (.int (iI (((4 * (s ||| 2 ^ i) : Nat) : Int))))), (4, (.int (iI (((4 * s : Nat) : Int))))), (0, (.ref p)), (1, (.int (iI (((s : Nat) : Int))))), (2, (.int (iI (((i : Nat) : Int))))), (3, (.int (iI (b01 (lk = true)))))]) dX9_serve_67 (by decide) rfl ?_
        exact absurd c_26 c_48
      · replace c_48 := b01_nz c_48
        refine r_iload_n (pc := 51) 6 dX9_serve_51 rfl rfl ?_
        refine r_bipush (pc := 52) dX9_serve_52 (by decide) ?_
        refine r_icmp_ge (pc := 54) (tgt := 63) dX9_serve_54 (by decide) (by omega) (by omega) (fun c_54 => ?_) (fun c_54 => ?_)
        · refine r_iconst (pc := 63) dX9_serve_63 ?_
          refine r_istore (pc := 64) (L2 := [(8, (.int (iI (0)))), (7, (.int (iI (0)))), (6, (.int (iI ((((2 ^ n - 1) / 64 + 1 : Nat) : Int))))), (5, (.int (iI (((4 * (s ||| 2 ^ i) : Nat) : Int))))), (4, (.int (iI (((4 * s : Nat) : Int))))), (0, (.ref p)), (1, (.int (iI (((s : Nat) : Int))))), (2, (.int (iI (((i : Nat) : Int))))), (3, (.int (iI (b01 (lk = true)))))]) dX9_serve_64 (by decide) rfl ?_
          refine r_iconst (pc := 66) dX9_serve_66 ?_
          refine r_istore (pc := 67) (L2 := [(9, (.int (iI (0)))), (8, (.int (iI (0)))), (7, (.int (iI (0)))), (6, (.int (iI ((((2 ^ n - 1) / 64 + 1 : Nat) : Int))))), (5, (.int (iI (((4 * (s ||| 2 ^ i) : Nat) : Int))))), (4, (.int (iI (((4 * s : Nat) : Int))))), (0, (.ref p)), (1, (.int (iI (((s : Nat) : Int))))), (2, (.int (iI (((i : Nat) : Int))))), (3, (.int (iI (b01 (lk = true)))))]) dX9_serve_67 (by decide) rfl ?_
          exfalso; omega
        · refine r_iconst (pc := 57) dX9_serve_57 ?_
          refine r_iload_n (pc := 58) 6 dX9_serve_58 rfl rfl ?_
          refine r_ishl (pc := 59) (w := ((2 ^ i : Nat) : Int)) dX9_serve_59  (iI_shl1 (by omega)) ?_
          refine r_goto (pc := 60) (tgt := 64) dX9_serve_60 (by decide) ?_
          refine r_istore (pc := 64) (L2 := [(8, (.int (iI (((2 ^ i : Nat) : Int))))), (7, (.int (iI (0)))), (6, (.int (iI ((((2 ^ n - 1) / 64 + 1 : Nat) : Int))))), (5, (.int (iI (((4 * (s ||| 2 ^ i) : Nat) : Int))))), (4, (.int (iI (((4 * s : Nat) : Int))))), (0, (.ref p)), (1, (.int (iI (((s : Nat) : Int))))), (2, (.int (iI (((i : Nat) : Int))))), (3, (.int (iI (b01 (lk = true)))))]) dX9_serve_64 (by decide) rfl ?_
          refine r_iconst (pc := 66) dX9_serve_66 ?_
          refine r_istore (pc := 67) (L2 := [(9, (.int (iI (0)))), (8, (.int (iI (((2 ^ i : Nat) : Int))))), (7, (.int (iI (0)))), (6, (.int (iI ((((2 ^ n - 1) / 64 + 1 : Nat) : Int))))), (5, (.int (iI (((4 * (s ||| 2 ^ i) : Nat) : Int))))), (4, (.int (iI (((4 * s : Nat) : Int))))), (0, (.ref p)), (1, (.int (iI (((s : Nat) : Int))))), (2, (.int (iI (((i : Nat) : Int))))), (3, (.int (iI (b01 (lk = true)))))]) dX9_serve_67 (by decide) rfl ?_
          refine r_sub (L2 := [(9, (.int (iI (((0 : Nat) : Int))))), (8, (.int (iI (((2 ^ i : Nat) : Int))))), (7, (.int (iI (((0 : Nat) : Int))))), (6, (.int (iI ((((2 ^ n - 1) / 64 + 1 : Nat) : Int))))), (5, (.int (iI (((4 * (s ||| 2 ^ i) : Nat) : Int))))), (4, (.int (iI (((4 * s : Nat) : Int))))), (0, (.ref p)), (1, (.int (iI (((s : Nat) : Int))))), (2, (.int (iI (((i : Nat) : Int))))), (3, (.int (iI (b01 (lk = true)))))]) [0, 1, 2, 3, 4, 5, 6, 7, 8, 9] rfl ?_
          exact Ls (0) (2 ^ i) (by have : 2 ^ i ≤ 32 := Nat.le_trans (Nat.pow_le_pow_right (by decide) (show i ≤ 5 by omega)) (by decide); omega) (by omega) (fun q hq t ht => by rw [if_pos c_26]; exact sv_lo hn8 hi (by omega) hq hF ht) 8 0 (by omega) (by omega) J (fun _ _ _ => rfl) (fun t ht => by rw [decide_eq_false (Nat.not_lt_zero _), Bool.and_false, Bool.false_and, Bool.false_and, Bool.or_false])
    · refine r_iconst (pc := 35) dX9_serve_35 ?_
      refine r_iload_n (pc := 36) 5 dX9_serve_36 rfl rfl ?_
      refine r_bipush (pc := 37) dX9_serve_37 (by decide) ?_
      refine r_isub (pc := 39) dX9_serve_39 ?_
      refine r_eqI (y := ((i - 6 : Nat) : Int)) (by omega) ?_
      refine r_ishl (pc := 40) (w := ((2 ^ (i - 6) : Nat) : Int)) dX9_serve_40  (iI_shl1 (by omega)) ?_
      refine r_goto (pc := 41) (tgt := 45) dX9_serve_41 (by decide) ?_
      refine r_istore (pc := 45) (L2 := [(7, (.int (iI (((2 ^ (i - 6) : Nat) : Int))))), (6, (.int (iI ((((2 ^ n - 1) / 64 + 1 : Nat) : Int))))), (5, (.int (iI (((4 * (s ||| 2 ^ i) : Nat) : Int))))), (4, (.int (iI (((4 * s : Nat) : Int))))), (0, (.ref p)), (1, (.int (iI (((s : Nat) : Int))))), (2, (.int (iI (((i : Nat) : Int))))), (3, (.int (iI (b01 (lk = true)))))]) dX9_serve_45 (by decide) rfl ?_
      refine r_iload_n (pc := 47) 7 dX9_serve_47 rfl rfl ?_
      refine r_if_eq (pc := 48) (tgt := 63) dX9_serve_48 (by decide) (b01_r) (fun c_48 => ?_) (fun c_48 => ?_)
      · replace c_48 := b01_z c_48
        refine r_iconst (pc := 63) dX9_serve_63 ?_
        refine r_istore (pc := 64) (L2 := [(8, (.int (iI (0)))), (7, (.int (iI (((2 ^ (i - 6) : Nat) : Int))))), (6, (.int (iI ((((2 ^ n - 1) / 64 + 1 : Nat) : Int))))), (5, (.int (iI (((4 * (s ||| 2 ^ i) : Nat) : Int))))), (4, (.int (iI (((4 * s : Nat) : Int))))), (0, (.ref p)), (1, (.int (iI (((s : Nat) : Int))))), (2, (.int (iI (((i : Nat) : Int))))), (3, (.int (iI (b01 (lk = true)))))]) dX9_serve_64 (by decide) rfl ?_
        refine r_iconst (pc := 66) dX9_serve_66 ?_
        refine r_istore (pc := 67) (L2 := [(9, (.int (iI (0)))), (8, (.int (iI (0)))), (7, (.int (iI (((2 ^ (i - 6) : Nat) : Int))))), (6, (.int (iI ((((2 ^ n - 1) / 64 + 1 : Nat) : Int))))), (5, (.int (iI (((4 * (s ||| 2 ^ i) : Nat) : Int))))), (4, (.int (iI (((4 * s : Nat) : Int))))), (0, (.ref p)), (1, (.int (iI (((s : Nat) : Int))))), (2, (.int (iI (((i : Nat) : Int))))), (3, (.int (iI (b01 (lk = true)))))]) dX9_serve_67 (by decide) rfl ?_
        exact absurd c_26 c_48
      · replace c_48 := b01_nz c_48
        refine r_iload_n (pc := 51) 6 dX9_serve_51 rfl rfl ?_
        refine r_bipush (pc := 52) dX9_serve_52 (by decide) ?_
        refine r_icmp_ge (pc := 54) (tgt := 63) dX9_serve_54 (by decide) (by omega) (by omega) (fun c_54 => ?_) (fun c_54 => ?_)
        · refine r_iconst (pc := 63) dX9_serve_63 ?_
          refine r_istore (pc := 64) (L2 := [(8, (.int (iI (0)))), (7, (.int (iI (((2 ^ (i - 6) : Nat) : Int))))), (6, (.int (iI ((((2 ^ n - 1) / 64 + 1 : Nat) : Int))))), (5, (.int (iI (((4 * (s ||| 2 ^ i) : Nat) : Int))))), (4, (.int (iI (((4 * s : Nat) : Int))))), (0, (.ref p)), (1, (.int (iI (((s : Nat) : Int))))), (2, (.int (iI (((i : Nat) : Int))))), (3, (.int (iI (b01 (lk = true)))))]) dX9_serve_64 (by decide) rfl ?_
          refine r_iconst (pc := 66) dX9_serve_66 ?_
          refine r_istore (pc := 67) (L2 := [(9, (.int (iI (0)))), (8, (.int (iI (0)))), (7, (.int (iI (((2 ^ (i - 6) : Nat) : Int))))), (6, (.int (iI ((((2 ^ n - 1) / 64 + 1 : Nat) : Int))))), (5, (.int (iI (((4 * (s ||| 2 ^ i) : Nat) : Int))))), (4, (.int (iI (((4 * s : Nat) : Int))))), (0, (.ref p)), (1, (.int (iI (((s : Nat) : Int))))), (2, (.int (iI (((i : Nat) : Int))))), (3, (.int (iI (b01 (lk = true)))))]) dX9_serve_67 (by decide) rfl ?_
          refine r_sub (L2 := [(9, (.int (iI (((0 : Nat) : Int))))), (8, (.int (iI (((0 : Nat) : Int))))), (7, (.int (iI (((2 ^ (i - 6) : Nat) : Int))))), (6, (.int (iI ((((2 ^ n - 1) / 64 + 1 : Nat) : Int))))), (5, (.int (iI (((4 * (s ||| 2 ^ i) : Nat) : Int))))), (4, (.int (iI (((4 * s : Nat) : Int))))), (0, (.ref p)), (1, (.int (iI (((s : Nat) : Int))))), (2, (.int (iI (((i : Nat) : Int))))), (3, (.int (iI (b01 (lk = true)))))]) [0, 1, 2, 3, 4, 5, 6, 7, 8, 9] rfl ?_
          exact Ls (2 ^ (i - 6)) (0) (by omega) (by have : 2 ^ (i - 6) ≤ 2 := Nat.le_trans (Nat.pow_le_pow_right (by decide) (show i - 6 ≤ 1 by omega)) (by decide); omega) (fun q hq t ht => by rw [if_pos c_26]; exact sv_hi hn8 hi (by omega) hq hF ht) 8 0 (by omega) (by omega) J (fun _ _ _ => rfl) (fun t ht => by rw [decide_eq_false (Nat.not_lt_zero _), Bool.and_false, Bool.false_and, Bool.false_and, Bool.or_false])
        · refine r_iconst (pc := 57) dX9_serve_57 ?_
          refine r_iload_n (pc := 58) 6 dX9_serve_58 rfl rfl ?_
          refine r_ishl (pc := 59) (w := ((2 ^ i : Nat) : Int)) dX9_serve_59  (iI_shl1 (by omega)) ?_
          refine r_goto (pc := 60) (tgt := 64) dX9_serve_60 (by decide) ?_
          refine r_istore (pc := 64) (L2 := [(8, (.int (iI (((2 ^ i : Nat) : Int))))), (7, (.int (iI (((2 ^ (i - 6) : Nat) : Int))))), (6, (.int (iI ((((2 ^ n - 1) / 64 + 1 : Nat) : Int))))), (5, (.int (iI (((4 * (s ||| 2 ^ i) : Nat) : Int))))), (4, (.int (iI (((4 * s : Nat) : Int))))), (0, (.ref p)), (1, (.int (iI (((s : Nat) : Int))))), (2, (.int (iI (((i : Nat) : Int))))), (3, (.int (iI (b01 (lk = true)))))]) dX9_serve_64 (by decide) rfl ?_
          refine r_iconst (pc := 66) dX9_serve_66 ?_
          refine r_istore (pc := 67) (L2 := [(9, (.int (iI (0)))), (8, (.int (iI (((2 ^ i : Nat) : Int))))), (7, (.int (iI (((2 ^ (i - 6) : Nat) : Int))))), (6, (.int (iI ((((2 ^ n - 1) / 64 + 1 : Nat) : Int))))), (5, (.int (iI (((4 * (s ||| 2 ^ i) : Nat) : Int))))), (4, (.int (iI (((4 * s : Nat) : Int))))), (0, (.ref p)), (1, (.int (iI (((s : Nat) : Int))))), (2, (.int (iI (((i : Nat) : Int))))), (3, (.int (iI (b01 (lk = true)))))]) dX9_serve_67 (by decide) rfl ?_
          exfalso; omega

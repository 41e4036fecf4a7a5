theorem blA_r {dz lp n : Int} (h0 : 2 ≤ dz) (h1 : 0 ≤ lp ∧ lp ≤ 9) (hn : 0 ≤ n) : 0 ≤ blA dz lp n ∧ blA dz lp n ≤ 9 * n + 9 := by
  rcases (show lp = 0 ∨ 1 ≤ lp by omega) with h | h
  · rw [blA_0 h0 hn h]
    have q1 : 0 ≤ n / dz := Int.ediv_nonneg hn (by omega)
    have q2 : n / dz ≤ n := Int.ediv_le_self _ hn
    omega
  · rw [blA_1 h0 hn h]
    have hm : 0 < lp * dz + 1 := by
      have : 0 ≤ lp * dz := Int.mul_nonneg (by omega) (by omega)
      omega
    have q1 : 0 ≤ n / (lp * dz + 1) := Int.ediv_nonneg hn (by omega)
    have q2 : n / (lp * dz + 1) ≤ n := Int.ediv_le_self _ hn
    have q3 : 0 ≤ n % (lp * dz + 1) / dz := Int.ediv_nonneg (Int.emod_nonneg _ (by omega)) (by omega)
    generalize n / (lp * dz + 1) = q at q1 q2 ⊢
    generalize n % (lp * dz + 1) / dz = r at q3 ⊢
    rcases (show lp = 1 ∨ lp = 2 ∨ lp = 3 ∨ lp = 4 ∨ lp = 5 ∨ lp = 6 ∨ lp = 7 ∨ lp = 8 ∨ lp = 9 by omega) with rfl | rfl | rfl | rfl | rfl | rfl | rfl | rfl | rfl <;> omega
theorem gnV_r {dz lp : Int} {b0 b1 n a2 s i : Nat} {wa : Nat → Nat} (h0 : 2 ≤ dz) (h1 : 0 ≤ lp ∧ lp ≤ 9) (hb : b0 ≤ 1100000 ∧ b1 ≤ 1100000) (hwa : ∀ c, c < n → wa c ≤ 40) (hn : n ≤ 8) : -20000000 ≤ gnV dz lp b0 b1 wa n a2 s i ∧ gnV dz lp b0 b1 wa n a2 s i ≤ 20000000 := by
  have key : ∀ b m t : Nat, b ≤ 1100000 → 0 ≤ blM dz lp b wa n m t ∧ blM dz lp b wa n m t ≤ 20000000 := fun b m t hbb => by
    unfold blM
    have h2 := lvN_r (wa := wa) (s := t &&& m) n hwa
    have h3 := blA_r (n := ((b + lvN wa (t &&& m) n : Nat) : Int)) h0 h1 (by omega)
    omega
  unfold gnV
  have k1 := key b1 a2 (s ||| 2 ^ i) hb.2
  have k2 := key b1 a2 s hb.2
  have k3 := key b0 (m1K n a2) (s ||| 2 ^ i) hb.1
  have k4 := key b0 (m1K n a2) s hb.1
  split <;> omega
/-- the steps that count: of ORDERS in which cu gets just so many -/
def alO (wt wa : Nat → Nat) (n a2 : Nat) (dz lp : Int) (b0 b1 : Nat) (cu many : Int) (s i : Nat) : Bool := (nxM wt n s).testBit i && (decide ((i : Int) ≠ cu) || decide (gnV dz lp b0 b1 wa n a2 s i = many))
theorem alO_bit {wt wa : Nat → Nat} {n a2 : Nat} {dz lp : Int} {b0 b1 : Nat} {cu many : Int} {s i : Nat} (h : alO wt wa n a2 dz lp b0 b1 cu many s i = true) : ¬ s.testBit i = true := by
  unfold alO nxM at h
  rw [wmk_bit] at h
  simp [nxP] at h
  simp [h]
theorem pot_c {N t : Nat} {T T' W : Nat → Nat} (h : ∀ s, s < N → T s = T' s) : pot N t T W = pot N t T' W := sN_congr N (fun s hs => by rw [h s hs])
theorem or_gt {s i : Nat} (hs : ¬ s.testBit i = true) : s < s ||| 2 ^ i := by
  have h1 : s ≤ s ||| 2 ^ i := Nat.left_le_or
  rcases (show s < s ||| 2 ^ i ∨ s = s ||| 2 ^ i by omega) with q | q
  · exact q
  · exfalso
    apply hs
    rw [q, Nat.testBit_or, Nat.testBit_two_pow_self]; simp

set_option maxRecDepth 100000 in
set_option maxHeartbeats 4000000 in
theorem x_ordersWith (l : Launch) (z : Zv) (d : Nat) {g : Gm} {f : Fm} {y n a2 b0 b1 : Nat} {wa wt : Nat → Nat} {dz lp cu many : Int} (hY : DL g y) (hL : DYo f y n a2 wa wt dz lp b0 b1) (h0 : 2 ≤ dz ∧ dz ≤ 20) (h1 : 0 ≤ lp ∧ lp ≤ 9) (hb : b0 ≤ 1100000 ∧ b1 ≤ 1100000) (hcu : -1 ≤ cu ∧ cu ≤ 8) (hmany : -1 ≤ many ∧ many ≤ 100) : PM l z (d + 1) mX2_ordersWith [.ref y, .int (iI cu), .int (iI many)] g f 0 0 (fun r g' f' => g = g' ∧ (∀ q, q ≠ y + 11 → f' q = f q) ∧ r = some (.int (iI (((cW (alO wt wa n a2 dz lp b0 b1 cu many) n) 0 : Nat) : Int)))) := by
  have hn8 := hL.1.1
  have hp8 := pow8 hn8
  have hwa : ∀ c, c < n → wa c ≤ 40 := fun c hc => (hL.1.2.2.1 c hc).2
  refine PM.of (by decide +kernel) (Nat.le_of_ble_eq_true rfl) ?_
  have outer : ∀ m s : Nat, m = 2 ^ n - s → s ≤ 2 ^ n - 1 → ∀ (f1 : Fm) (T : Nat → Nat), (∀ q, q ≠ y + 11 → f1 q = f q) → (∀ q, q < 2 ^ n → f1 (y + 11) q = ((T q : Nat) : Int)) → pot (2 ^ n) s T (cW (alO wt wa n a2 dz lp b0 b1 cu many) n) = (cW (alO wt wa n a2 dz lp b0 b1 cu many) n) 0 → pot (2 ^ n) s T (vW n) ≤ (vW n) 0 → PW l z (d + 1) mX2_ordersWith 0 0 (fun r g' f' => g = g' ∧ (∀ q, q ≠ y + 11 → f' q = f q) ∧ r = some (.int (iI (((cW (alO wt wa n a2 dz lp b0 b1 cu many) n) 0 : Nat) : Int)))) 23 [(4, (.int (iI (((s : Nat) : Int))))), (3, (.int (iI (((2 ^ n - 1 : Nat) : Int))))), (0, (.ref y)), (1, (.int (iI (cu)))), (2, (.int (iI (many))))] [] g f1 0 0 := by
    intro m
    induction m using Nat.strongRecOn with
    | _ m ihO =>
      intro s hm hs f1 T hF1 hT hP hQ
      have hv0 := vW_0 hn8
      have hTr : ∀ q, s ≤ q → q < 2 ^ n → T q ≤ 16777216 := fun q h1 h2 => by have e1 := pot_at (T := T) (W := (vW n)) h1 h2; have e2 := Nat.mul_le_mul_left (T q) (vW_1 n q); omega
      obtain ⟨T0, hT0⟩ : ∃ T0 : Nat → Nat, T0 = T := ⟨T, rfl⟩
      have inner : s < 2 ^ n - 1 → ∀ m2 i : Nat, m2 = n - i → i ≤ n → ∀ (f1 : Fm) (T : Nat → Nat), (∀ q, q ≠ y + 11 → f1 q = f q) → (∀ q, q < 2 ^ n → f1 (y + 11) q = ((T q : Nat) : Int)) → T s = T0 s → pot (2 ^ n) (s + 1) T (cW (alO wt wa n a2 dz lp b0 b1 cu many) n) + T0 s * (cW (alO wt wa n a2 dz lp b0 b1 cu many) n) s = (cW (alO wt wa n a2 dz lp b0 b1 cu many) n) 0 + T0 s * sN i (fun i => if (alO wt wa n a2 dz lp b0 b1 cu many) s i = true then (cW (alO wt wa n a2 dz lp b0 b1 cu many) n) (s ||| 2 ^ i) else 0) → pot (2 ^ n) (s + 1) T (vW n) + T0 s * (vW n) s ≤ (vW n) 0 + T0 s * sN i (fun i => if (alO wt wa n a2 dz lp b0 b1 cu many) s i = true then (vW n) (s ||| 2 ^ i) else 0) → PW l z (d + 1) mX2_ordersWith 0 0 (fun r g' f' => g = g' ∧ (∀ q, q ≠ y + 11 → f' q = f q) ∧ r = some (.int (iI (((cW (alO wt wa n a2 dz lp b0 b1 cu many) n) 0 : Nat) : Int)))) 51 [(6, (.int (iI (((i : Nat) : Int))))), (5, (.int (iI (((nxM wt n s : Nat) : Int))))), (4, (.int (iI (((s : Nat) : Int))))), (3, (.int (iI (((2 ^ n - 1 : Nat) : Int))))), (0, (.ref y)), (1, (.int (iI (cu)))), (2, (.int (iI (many))))] [] g f1 0 0 := by
        intro hsn m2
        induction m2 using Nat.strongRecOn with
        | _ m2 ihI =>
          intro i hm2 hi f1 T hF1 hT hTs hP hQ
          refine r_iload (pc := 51) 0 dX2_ordersWith_51 rfl ?_
          refine r_aload_n (pc := 53) 4 dX2_ordersWith_53 rfl rfl ?_
          refine r_getIv (pc := 54) (x := ((n : Nat) : Int)) dX2_ordersWith_54 fl_X2_56 rfl hY.k ((congrFun (hF1 y (by omega)) _).trans hL.1.2.1) ?_
          refine r_icmp_ge (pc := 57) (tgt := 116) dX2_ordersWith_57 (by decide) (by omega) (by omega) (fun c_57 => ?_) (fun c_57 => ?_)
          · refine r_iincv (pc := 116) (y := ((s + 1 : Nat) : Int)) (L2 := [(4, (.int (iI (((s + 1 : Nat) : Int))))), (6, (.int (iI (((i : Nat) : Int))))), (5, (.int (iI (((nxM wt n s : Nat) : Int))))), (3, (.int (iI (((2 ^ n - 1 : Nat) : Int))))), (0, (.ref y)), (1, (.int (iI (cu)))), (2, (.int (iI (many))))]) 2 dX2_ordersWith_116 rfl (by omega) (by decide) rfl ?_
            refine r_goto (pc := 119) (tgt := 23) dX2_ordersWith_119 (by decide) ?_
            have hin : i = n := by omega
            subst hin
            have hw1 := cW_step (al := (alO wt wa i a2 dz lp b0 b1 cu many)) (s := s) (fun i hi => alO_bit hi) (by omega)
            have hw2 := vW_step (al := (alO wt wa i a2 dz lp b0 b1 cu many)) (s := s) hn8 (fun i hi => alO_bit hi) (by omega)
            rw [← hw1] at hP
            have hmul := Nat.mul_le_mul_left (T0 s) hw2
            refine r_sub (L2 := [(4, (.int (iI (((s + 1 : Nat) : Int))))), (3, (.int (iI (((2 ^ i - 1 : Nat) : Int))))), (0, (.ref y)), (1, (.int (iI (cu)))), (2, (.int (iI (many))))]) [0, 3, 4, 5, 6] rfl ?_
            exact ihO (2 ^ i - (s + 1)) (by omega) (s + 1) (by omega) (by omega) f1 T hF1 hT (by omega) (by omega)
          · have hnx := wmk_8 (nxP wt s) (n := n) hn8
            have hnx2 : nxM wt n s < 256 := hnx
            refine r_iload (pc := 60) 1 dX2_ordersWith_60 rfl ?_
            refine r_iload (pc := 62) 0 dX2_ordersWith_62 rfl ?_
            refine r_ishr (pc := 64) (w := ((nxM wt n s / 2 ^ i : Nat) : Int)) dX2_ordersWith_64  (iI_shr (by omega) (by omega)) ?_
            refine r_iconst (pc := 65) dX2_ordersWith_65 ?_
            refine r_iand (pc := 66) (w := (((nxM wt n s / 2 ^ i) &&& 1 : Nat) : Int)) dX2_ordersWith_66  (iI_and _ _) ?_
            refine r_eqI (y := b01 ((nxM wt n s).testBit i = true)) (bitI _ _) ?_
            refine r_if_eq (pc := 67) (tgt := 110) dX2_ordersWith_67 (by decide) (b01_r) (fun c_67 => ?_) (fun c_67 => ?_)
            · replace c_67 := b01_z c_67
              refine r_iincv (pc := 110) (y := ((i + 1 : Nat) : Int)) (L2 := [(6, (.int (iI (((i + 1 : Nat) : Int))))), (5, (.int (iI (((nxM wt n s : Nat) : Int))))), (4, (.int (iI (((s : Nat) : Int))))), (3, (.int (iI (((2 ^ n - 1 : Nat) : Int))))), (0, (.ref y)), (1, (.int (iI (cu)))), (2, (.int (iI (many))))]) 0 dX2_ordersWith_110 rfl (by omega) (by decide) rfl ?_
              refine r_goto (pc := 113) (tgt := 51) dX2_ordersWith_113 (by decide) ?_
              have hal : (alO wt wa n a2 dz lp b0 b1 cu many) s i = false := by unfold alO; rw [Bool.eq_false_iff.mpr c_67]; rfl
              refine r_sub (L2 := [(6, (.int (iI (((i + 1 : Nat) : Int))))), (5, (.int (iI (((nxM wt n s : Nat) : Int))))), (4, (.int (iI (((s : Nat) : Int))))), (3, (.int (iI (((2 ^ n - 1 : Nat) : Int))))), (0, (.ref y)), (1, (.int (iI (cu)))), (2, (.int (iI (many))))]) [0, 1, 2, 3, 4, 5, 6] rfl ?_
              exact ihI (n - (i + 1)) (by omega) (i + 1) (by omega) (by omega) f1 T hF1 hT hTs (by rw [sN_s, if_neg (by rw [hal]; decide), Nat.add_zero]; exact hP) (by rw [sN_s, if_neg (by rw [hal]; decide), Nat.add_zero]; exact hQ)
            · replace c_67 := b01_nz c_67
              refine r_iload (pc := 70) 0 dX2_ordersWith_70 rfl ?_
              refine r_iload_n (pc := 72) 5 dX2_ordersWith_72 rfl rfl ?_
              refine r_icmp_ne (pc := 73) (tgt := 88) dX2_ordersWith_73 (by decide) (by omega) (by omega) (fun c_73 => ?_) (fun c_73 => ?_)
              · refine r_aload_n (pc := 88) 4 dX2_ordersWith_88 rfl rfl ?_
                refine r_getR (pc := 89) (b := (y + 11)) dX2_ordersWith_89 fl_X2_40 rfl hY.k hY.r8 ?_
                refine r_iload (pc := 92) 2 dX2_ordersWith_92 rfl ?_
                refine r_iconst (pc := 94) dX2_ordersWith_94 ?_
                refine r_iload (pc := 95) 0 dX2_ordersWith_95 rfl ?_
                refine r_ishl (pc := 97) (w := ((2 ^ i : Nat) : Int)) dX2_ordersWith_97  (iI_shl1 (by omega)) ?_
                refine r_ior (pc := 98) (w := ((s ||| (2 ^ i) : Nat) : Int)) dX2_ordersWith_98  (iI_or _ _) ?_
                refine r_dup2 (pc := 99) dX2_ordersWith_99 rfl rfl ?_
                refine r_ialdv (pc := 100) (w := ((T (s ||| (2 ^ i)) : Nat) : Int)) dX2_ordersWith_100 hY.a8 (by have := or_lt (n := n) (s := s) (i := i) (by omega) (by omega); omega) (by decide) (hT _ (by first | omega | exact or_lt (by omega) (by omega))) ?_
                refine r_aload_n (pc := 101) 4 dX2_ordersWith_101 rfl rfl ?_
                refine r_getR (pc := 102) (b := (y + 11)) dX2_ordersWith_102 fl_X2_40 rfl hY.k hY.r8 ?_
                refine r_iload (pc := 105) 2 dX2_ordersWith_105 rfl ?_
                refine r_ialdv (pc := 107) (w := ((T s : Nat) : Int)) dX2_ordersWith_107 hY.a8 (by omega) (by decide) (hT _ (by first | omega | exact or_lt (by omega) (by omega))) ?_
                refine r_iadd (pc := 108) dX2_ordersWith_108 ?_
                refine r_eqI (y := (((T (s ||| (2 ^ i))) + (T s) : Nat) : Int)) (Int.natCast_add _ _ |>.symm) ?_
                refine r_iastv (pc := 109) (i := s ||| (2 ^ i)) dX2_ordersWith_109 hY.a8 (by have := or_lt (n := n) (s := s) (i := i) (by omega) (by omega); omega) (by decide) rfl ?_
                refine r_iincv (pc := 110) (y := ((i + 1 : Nat) : Int)) (L2 := [(6, (.int (iI (((i + 1 : Nat) : Int))))), (5, (.int (iI (((nxM wt n s : Nat) : Int))))), (4, (.int (iI (((s : Nat) : Int))))), (3, (.int (iI (((2 ^ n - 1 : Nat) : Int))))), (0, (.ref y)), (1, (.int (iI (cu)))), (2, (.int (iI (many))))]) 0 dX2_ordersWith_110 rfl (by omega) (by decide) rfl ?_
                refine r_goto (pc := 113) (tgt := 51) dX2_ordersWith_113 (by decide) ?_
                have hal : (alO wt wa n a2 dz lp b0 b1 cu many) s i = true := by unfold alO; rw [c_67, decide_eq_true c_73]; rfl
                have hub := or_lt (n := n) (s := s) (i := i) (by omega) (by omega)
                have hug := or_gt (alO_bit hal)
                have hp1 := pot_add (N := 2 ^ n) (t := s + 1) (u := s ||| 2 ^ i) (d := T0 s) (T := T) (T' := fun q => if q = s ||| 2 ^ i then T q + T0 s else T q) (W := (cW (alO wt wa n a2 dz lp b0 b1 cu many) n)) (by omega) hub (by rw [if_pos rfl]) (fun q hq => if_neg hq)
                have hp2 := pot_add (N := 2 ^ n) (t := s + 1) (u := s ||| 2 ^ i) (d := T0 s) (T := T) (T' := fun q => if q = s ||| 2 ^ i then T q + T0 s else T q) (W := (vW n)) (by omega) hub (by rw [if_pos rfl]) (fun q hq => if_neg hq)
                refine r_sub (L2 := [(6, (.int (iI (((i + 1 : Nat) : Int))))), (5, (.int (iI (((nxM wt n s : Nat) : Int))))), (4, (.int (iI (((s : Nat) : Int))))), (3, (.int (iI (((2 ^ n - 1 : Nat) : Int))))), (0, (.ref y)), (1, (.int (iI (cu)))), (2, (.int (iI (many))))]) [0, 1, 2, 3, 4, 5, 6] rfl ?_
                exact ihI (n - (i + 1)) (by omega) (i + 1) (by omega) (by omega) _ (fun q => if q = s ||| 2 ^ i then T q + T0 s else T q) (fun q hq => by rw [stF_n _ _ _ hq]; exact hF1 q hq) (fun q hq => by by_cases h : q = s ||| 2 ^ i; subst h; rw [stF_s, if_pos rfl, ← hTs]; rw [stF_i _ _ _ h, if_neg h]; exact hT q hq) (by rw [if_neg (by omega)]; exact hTs) (by rw [sN_s, if_pos hal, Nat.mul_add, hp1]; omega) (by rw [sN_s, if_pos hal, Nat.mul_add, hp2]; omega)
              · have hL1 : DYo f1 y n a2 wa wt dz lp b0 b1 := hL.mem (fun q hq => hF1 q (by omega)) (by rw [hF1 y (by omega)]) (by rw [hF1 y (by omega)])
                refine r_aload_n (pc := 76) 4 dX2_ordersWith_76 rfl rfl ?_
                refine r_iload (pc := 77) 0 dX2_ordersWith_77 rfl ?_
                refine r_iload (pc := 79) 2 dX2_ordersWith_79 rfl ?_
                refine r_callV (pc := 81) (As := [(.int (iI (((i : Nat) : Int)))), (.int (iI (((s : Nat) : Int))))]) (S := []) dX2_ordersWith_81 cv_X2_101 hY.k rfl (Nat.le_of_ble_eq_true rfl) (x_gain l z _ hY hL1 (by omega) (by omega)) (Nat.zero_le _) (Nat.zero_le _) (fun r_81 g_81 f_81 q_81 => ?_)
                obtain ⟨rfl, rfl, rfl⟩ := q_81
                have hgr := gnV_r (a2 := a2) (s := s) (i := i) h0.1 h1 hb hwa hn8
                refine r_iload_n (pc := 84) 6 dX2_ordersWith_84 rfl rfl ?_
                refine r_icmp_ne (pc := 85) (tgt := 110) dX2_ordersWith_85 (by decide) (by omega) (by omega) (fun c_85 => ?_) (fun c_85 => ?_)
                · refine r_iincv (pc := 110) (y := ((i + 1 : Nat) : Int)) (L2 := [(6, (.int (iI (((i + 1 : Nat) : Int))))), (5, (.int (iI (((nxM wt n s : Nat) : Int))))), (4, (.int (iI (((s : Nat) : Int))))), (3, (.int (iI (((2 ^ n - 1 : Nat) : Int))))), (0, (.ref y)), (1, (.int (iI (cu)))), (2, (.int (iI (many))))]) 0 dX2_ordersWith_110 rfl (by omega) (by decide) rfl ?_
                  refine r_goto (pc := 113) (tgt := 51) dX2_ordersWith_113 (by decide) ?_
                  have hal : (alO wt wa n a2 dz lp b0 b1 cu many) s i = false := by unfold alO; rw [decide_eq_false (by omega), decide_eq_false c_85]; simp
                  refine r_sub (L2 := [(6, (.int (iI (((i + 1 : Nat) : Int))))), (5, (.int (iI (((nxM wt n s : Nat) : Int))))), (4, (.int (iI (((s : Nat) : Int))))), (3, (.int (iI (((2 ^ n - 1 : Nat) : Int))))), (0, (.ref y)), (1, (.int (iI (cu)))), (2, (.int (iI (many))))]) [0, 1, 2, 3, 4, 5, 6] rfl ?_
                  exact ihI (n - (i + 1)) (by omega) (i + 1) (by omega) (by omega) f1 T hF1 hT hTs (by rw [sN_s, if_neg (by rw [hal]; decide), Nat.add_zero]; exact hP) (by rw [sN_s, if_neg (by rw [hal]; decide), Nat.add_zero]; exact hQ)
                · refine r_aload_n (pc := 88) 4 dX2_ordersWith_88 rfl rfl ?_
                  refine r_getR (pc := 89) (b := (y + 11)) dX2_ordersWith_89 fl_X2_40 rfl hY.k hY.r8 ?_
                  refine r_iload (pc := 92) 2 dX2_ordersWith_92 rfl ?_
                  refine r_iconst (pc := 94) dX2_ordersWith_94 ?_
                  refine r_iload (pc := 95) 0 dX2_ordersWith_95 rfl ?_
                  refine r_ishl (pc := 97) (w := ((2 ^ i : Nat) : Int)) dX2_ordersWith_97  (iI_shl1 (by omega)) ?_
                  refine r_ior (pc := 98) (w := ((s ||| (2 ^ i) : Nat) : Int)) dX2_ordersWith_98  (iI_or _ _) ?_
                  refine r_dup2 (pc := 99) dX2_ordersWith_99 rfl rfl ?_
                  refine r_ialdv (pc := 100) (w := ((T (s ||| (2 ^ i)) : Nat) : Int)) dX2_ordersWith_100 hY.a8 (by have := or_lt (n := n) (s := s) (i := i) (by omega) (by omega); omega) (by decide) (hT _ (by first | omega | exact or_lt (by omega) (by omega))) ?_
                  refine r_aload_n (pc := 101) 4 dX2_ordersWith_101 rfl rfl ?_
                  refine r_getR (pc := 102) (b := (y + 11)) dX2_ordersWith_102 fl_X2_40 rfl hY.k hY.r8 ?_
                  refine r_iload (pc := 105) 2 dX2_ordersWith_105 rfl ?_
                  refine r_ialdv (pc := 107) (w := ((T s : Nat) : Int)) dX2_ordersWith_107 hY.a8 (by omega) (by decide) (hT _ (by first | omega | exact or_lt (by omega) (by omega))) ?_
                  refine r_iadd (pc := 108) dX2_ordersWith_108 ?_
                  refine r_eqI (y := (((T (s ||| (2 ^ i))) + (T s) : Nat) : Int)) (Int.natCast_add _ _ |>.symm) ?_
                  refine r_iastv (pc := 109) (i := s ||| (2 ^ i)) dX2_ordersWith_109 hY.a8 (by have := or_lt (n := n) (s := s) (i := i) (by omega) (by omega); omega) (by decide) rfl ?_
                  refine r_iincv (pc := 110) (y := ((i + 1 : Nat) : Int)) (L2 := [(6, (.int (iI (((i + 1 : Nat) : Int))))), (5, (.int (iI (((nxM wt n s : Nat) : Int))))), (4, (.int (iI (((s : Nat) : Int))))), (3, (.int (iI (((2 ^ n - 1 : Nat) : Int))))), (0, (.ref y)), (1, (.int (iI (cu)))), (2, (.int (iI (many))))]) 0 dX2_ordersWith_110 rfl (by omega) (by decide) rfl ?_
                  refine r_goto (pc := 113) (tgt := 51) dX2_ordersWith_113 (by decide) ?_
                  have hal : (alO wt wa n a2 dz lp b0 b1 cu many) s i = true := by unfold alO; rw [c_67, decide_eq_true c_85]; simp
                  have hub := or_lt (n := n) (s := s) (i := i) (by omega) (by omega)
                  have hug := or_gt (alO_bit hal)
                  have hp1 := pot_add (N := 2 ^ n) (t := s + 1) (u := s ||| 2 ^ i) (d := T0 s) (T := T) (T' := fun q => if q = s ||| 2 ^ i then T q + T0 s else T q) (W := (cW (alO wt wa n a2 dz lp b0 b1 cu many) n)) (by omega) hub (by rw [if_pos rfl]) (fun q hq => if_neg hq)
                  have hp2 := pot_add (N := 2 ^ n) (t := s + 1) (u := s ||| 2 ^ i) (d := T0 s) (T := T) (T' := fun q => if q = s ||| 2 ^ i then T q + T0 s else T q) (W := (vW n)) (by omega) hub (by rw [if_pos rfl]) (fun q hq => if_neg hq)
                  refine r_sub (L2 := [(6, (.int (iI (((i + 1 : Nat) : Int))))), (5, (.int (iI (((nxM wt n s : Nat) : Int))))), (4, (.int (iI (((s : Nat) : Int))))), (3, (.int (iI (((2 ^ n - 1 : Nat) : Int))))), (0, (.ref y)), (1, (.int (iI (cu)))), (2, (.int (iI (many))))]) [0, 1, 2, 3, 4, 5, 6] rfl ?_
                  exact ihI (n - (i + 1)) (by omega) (i + 1) (by omega) (by omega) _ (fun q => if q = s ||| 2 ^ i then T q + T0 s else T q) (fun q hq => by rw [stF_n _ _ _ hq]; exact hF1 q hq) (fun q hq => by by_cases h : q = s ||| 2 ^ i; subst h; rw [stF_s, if_pos rfl, ← hTs]; rw [stF_i _ _ _ h, if_neg h]; exact hT q hq) (by rw [if_neg (by omega)]; exact hTs) (by rw [sN_s, if_pos hal, Nat.mul_add, hp1]; omega) (by rw [sN_s, if_pos hal, Nat.mul_add, hp2]; omega)
      refine r_iload (pc := 23) 0 dX2_ordersWith_23 rfl ?_
      refine r_iload_n (pc := 25) 1 dX2_ordersWith_25 rfl rfl ?_
      refine r_icmp_ge (pc := 26) (tgt := 122) dX2_ordersWith_26 (by decide) (by omega) (by omega) (fun c_26 => ?_) (fun c_26 => ?_)
      · refine r_aload_n (pc := 122) 2 dX2_ordersWith_122 rfl rfl ?_
        refine r_getR (pc := 123) (b := (y + 11)) dX2_ordersWith_123 fl_X2_40 rfl hY.k hY.r8 ?_
        refine r_iload_n (pc := 126) 1 dX2_ordersWith_126 rfl rfl ?_
        refine r_ialdv (pc := 127) (w := ((T (2 ^ n - 1) : Nat) : Int)) dX2_ordersWith_127 hY.a8 (by omega) (by decide) (hT _ (by first | omega | exact or_lt (by omega) (by omega))) ?_
        have hsn : s = 2 ^ n - 1 := by omega
        have hend := pot_next (N := 2 ^ n) (T := T) (W := (cW (alO wt wa n a2 dz lp b0 b1 cu many) n)) (t := s) (by omega)
        rw [hP, pot_end (by omega), hsn, cW_all, Nat.mul_one, Nat.zero_add] at hend
        exact r_iret (pc := 128) dX2_ordersWith_128 rfl rfl ⟨rfl, hF1, by rw [hend]⟩
      · refine r_aload_n (pc := 29) 2 dX2_ordersWith_29 rfl rfl ?_
        refine r_getR (pc := 30) (b := (y + 11)) dX2_ordersWith_30 fl_X2_40 rfl hY.k hY.r8 ?_
        refine r_iload (pc := 33) 0 dX2_ordersWith_33 rfl ?_
        refine r_ialdv (pc := 35) (w := ((T s : Nat) : Int)) dX2_ordersWith_35 hY.a8 (by omega) (by decide) (hT _ (by first | omega | exact or_lt (by omega) (by omega))) ?_
        refine r_if_le (pc := 36) (tgt := 116) dX2_ordersWith_36 (by decide) (by have := hTr s (by omega) (by omega); omega) (fun c_36 => ?_) (fun c_36 => ?_)
        · refine r_iincv (pc := 116) (y := ((s + 1 : Nat) : Int)) (L2 := [(4, (.int (iI (((s + 1 : Nat) : Int))))), (3, (.int (iI (((2 ^ n - 1 : Nat) : Int))))), (0, (.ref y)), (1, (.int (iI (cu)))), (2, (.int (iI (many))))]) 0 dX2_ordersWith_116 rfl (by omega) (by decide) rfl ?_
          refine r_goto (pc := 119) (tgt := 23) dX2_ordersWith_119 (by decide) ?_
          have hT0 : T s = 0 := by omega
          refine r_sub (L2 := [(4, (.int (iI (((s + 1 : Nat) : Int))))), (3, (.int (iI (((2 ^ n - 1 : Nat) : Int))))), (0, (.ref y)), (1, (.int (iI (cu)))), (2, (.int (iI (many))))]) [0, 1, 2, 3, 4] rfl ?_
          exact ihO (2 ^ n - (s + 1)) (by omega) (s + 1) (by omega) (by omega) f1 T hF1 hT (by have := pot_next (N := 2 ^ n) (T := T) (W := (cW (alO wt wa n a2 dz lp b0 b1 cu many) n)) (t := s) (by omega); rw [hT0, Nat.zero_mul] at this; omega) (by have := pot_next (N := 2 ^ n) (T := T) (W := (vW n)) (t := s) (by omega); omega)
        · refine r_aload_n (pc := 39) 2 dX2_ordersWith_39 rfl rfl ?_
          refine r_getR (pc := 40) (b := (y + 7)) dX2_ordersWith_40 fl_X2_28 rfl hY.k hY.r4 ?_
          refine r_iload (pc := 43) 0 dX2_ordersWith_43 rfl ?_
          refine r_ialdv (pc := 45) (w := ((nxM wt n s : Nat) : Int)) dX2_ordersWith_45 hY.a4 (by omega) (by decide) ((congrFun (hF1 (y + 7) (by omega)) _).trans (hL.2.2.2.1 s (by omega)).1) ?_
          refine r_istore (pc := 46) (L2 := [(5, (.int (iI (((nxM wt n s : Nat) : Int))))), (4, (.int (iI (((s : Nat) : Int))))), (3, (.int (iI (((2 ^ n - 1 : Nat) : Int))))), (0, (.ref y)), (1, (.int (iI (cu)))), (2, (.int (iI (many))))]) dX2_ordersWith_46 (by decide) rfl ?_
          refine r_iconst (pc := 48) dX2_ordersWith_48 ?_
          refine r_istore (pc := 49) (L2 := [(6, (.int (iI (0)))), (5, (.int (iI (((nxM wt n s : Nat) : Int))))), (4, (.int (iI (((s : Nat) : Int))))), (3, (.int (iI (((2 ^ n - 1 : Nat) : Int))))), (0, (.ref y)), (1, (.int (iI (cu)))), (2, (.int (iI (many))))]) dX2_ordersWith_49 (by decide) rfl ?_
          refine r_sub (L2 := [(6, (.int (iI (((0 : Nat) : Int))))), (5, (.int (iI (((nxM wt n s : Nat) : Int))))), (4, (.int (iI (((s : Nat) : Int))))), (3, (.int (iI (((2 ^ n - 1 : Nat) : Int))))), (0, (.ref y)), (1, (.int (iI (cu)))), (2, (.int (iI (many))))]) [0, 1, 2, 3, 4, 5, 6] rfl ?_
          exact inner (by omega) n 0 (by omega) (by omega) f1 T hF1 hT (by rw [hT0]) (by rw [hT0]; have := pot_next (N := 2 ^ n) (T := T) (W := (cW (alO wt wa n a2 dz lp b0 b1 cu many) n)) (t := s) (by omega); simp only [sN, Nat.mul_zero]; omega) (by rw [hT0]; have := pot_next (N := 2 ^ n) (T := T) (W := (vW n)) (t := s) (by omega); simp only [sN, Nat.mul_zero]; omega)
  refine r_aload_n (pc := 0) 0 dX2_ordersWith_0 rfl rfl ?_
  refine r_callV (pc := 1) (As := []) (S := []) dX2_ordersWith_1 cv_X2_85 hY.k rfl (Nat.le_of_ble_eq_true rfl) (x_every (n := n) l z _ hY hL.1.2.1 hn8) (Nat.zero_le _) (Nat.zero_le _) (fun r_1 g_1 f_1 q_1 => ?_)
  obtain ⟨rfl, rfl, rfl⟩ := q_1
  refine r_istore_n (pc := 4) (L2 := [(3, (.int (iI (((2 ^ n - 1 : Nat) : Int))))), (0, (.ref y)), (1, (.int (iI (cu)))), (2, (.int (iI (many))))]) dX2_ordersWith_4 rfl (by decide) rfl ?_
  refine r_aload_n (pc := 5) 1 dX2_ordersWith_5 rfl rfl ?_
  refine r_getR (pc := 6) (b := (y + 11)) dX2_ordersWith_6 fl_X2_40 rfl hY.k hY.r8 ?_
  refine r_iconst (pc := 9) dX2_ordersWith_9 ?_
  refine r_callS (pc := 10) (As := [(.ref (y + 11)), (.int (iI (0)))]) (S := []) dX2_ordersWith_10 cs_X2_95 rfl (Nat.le_of_ble_eq_true rfl) (s_fill l z _ hY.a8 (by decide)) (Nat.zero_le _) (Nat.zero_le _) (fun r_10 g_10 f_10 q_10 => ?_)
  obtain ⟨rfl, rfl, hq1, hq2⟩ := q_10
  refine r_aload_n (pc := 13) 1 dX2_ordersWith_13 rfl rfl ?_
  refine r_getR (pc := 14) (b := (y + 11)) dX2_ordersWith_14 fl_X2_40 rfl hY.k hY.r8 ?_
  refine r_iconst (pc := 17) dX2_ordersWith_17 ?_
  refine r_iconst (pc := 18) dX2_ordersWith_18 ?_
  refine r_iastv (pc := 19) (i := 0) dX2_ordersWith_19 hY.a8 (by decide) (by decide) rfl ?_
  refine r_iconst (pc := 20) dX2_ordersWith_20 ?_
  refine r_istore (pc := 21) (L2 := [(4, (.int (iI (0)))), (3, (.int (iI (((2 ^ n - 1 : Nat) : Int))))), (0, (.ref y)), (1, (.int (iI (cu)))), (2, (.int (iI (many))))]) dX2_ordersWith_21 (by decide) rfl ?_
  refine r_sub (L2 := [(4, (.int (iI (((0 : Nat) : Int))))), (3, (.int (iI (((2 ^ n - 1 : Nat) : Int))))), (0, (.ref y)), (1, (.int (iI (cu)))), (2, (.int (iI (many))))]) [0, 1, 2, 3, 4] rfl ?_
  exact outer (2 ^ n) 0 (by omega) (by omega) _ (fun s => if s = 0 then 1 else 0) (fun q hq => by rw [stF_n _ _ _ hq]; exact hq1 q hq) (fun q hq => by by_cases h : q = 0; subst h; rw [stF_s, if_pos rfl]; rfl; rw [stF_i _ _ _ h, if_neg h]; exact hq2 q (by omega)) (pot_0 (by omega)) (by rw [pot_0 (by omega)]; exact Nat.le_refl _)

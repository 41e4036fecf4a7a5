/-- a day that fits leaves what can be kept -/
theorem KO.go {K : Nat → Int} {D M : Int} {n : Nat} {od : Nat → Nat} (hO : KO K D M) (hM : M ≤ 1100000) (hn : K 77 = ((n : Nat) : Int)) (hok : okO od n) (hfit : fitP K n od) : KO (goK K n od) 9999 999999 := by
  have hn8 : n ≤ 8 := by have := hO.n; omega
  have e : ∀ j, 44 < j → goK K n od j = K j := fun j h => goK_o K od (Or.inr h) hn8
  have h43 := hO.b0
  have h44 := hO.b1
  have b0 := bkK_r (o := 0) hO hM (by decide)
  have b1 := bkK_r (o := 1) hO hM (by decide)
  have f3 := hfit.2.2.1
  have f4 := hfit.2.2.2
  have hdy := hO.dy
  have hl : ∀ i : Nat, i < 6 → kT K i ≤ 400 → lawR (goK K n od) i = lawR K i := fun i hi h => (lawK_e (e _ (by omega)) h (fun j hj => ⟨e _ (by omega), e _ (by omega)⟩)).2
  refine ⟨by rw [e 77 (by omega)]; exact hO.n, fun c hc => ?_, by rw [goK_o K od (by omega) hn8]; exact hO.dz, by rw [goK_o K od (by omega) hn8]; exact hO.lp, by rw [goK_42]; have := hfit.1; omega, ?_, ?_, by rw [e 78 (by omega)]; exact hO.sm, by rw [e 79 (by omega)]; exact hO.cm, fun i hi => ?_, fun i hi => ?_, by rw [e 80 (by omega)]; exact hO.nl, by rw [e 80 (by omega), e 81 (by omega)]; exact hO.fo, fun i hi => ?_⟩
  · have h := hO.f hc
    rw [goK_o K od (j := 5 * c) (by omega) hn8, goK_o K od (j := 5 * c + 1) (by omega) hn8, goK_o K od (j := 5 * c + 2) (by omega) hn8]
    refine ⟨h.1, h.2.1, h.2.2.1, ?_⟩
    by_cases q : c < n
    · have hg := gcK_r hO hn8 hok q
      have hf := hfit.2.1 c q
      rw [goK_3 K od hn8 q, goK_4 K od hn8 q]
      omega
    · rw [goK_o K od (j := 5 * c + 3) (by omega) hn8, goK_o K od (j := 5 * c + 4) (by omega) hn8]
      exact h.2.2.2
  · rw [goK_43]; have e0 : K 43 = ((bkK K 0 : Nat) : Int) := b0.1; omega
  · rw [goK_44]; have e1 : K 44 = ((bkK K 1 : Nat) : Int) := b1.1; omega
  · rw [e 78 (by omega)] at hi
    rw [e 77 (by omega), e _ (by omega), e _ (by omega)]; exact hO.si i hi
  · rw [e 79 (by omega)] at hi
    rw [e 77 (by omega), e _ (by omega), e _ (by omega)]; exact hO.ci i hi
  · rw [e 80 (by omega)] at hi
    have h80 := hO.nl
    have hw := hO.lw i hi
    rw [hl i (by omega) (by unfold kT; omega), e (82 + i) (by omega)]
    refine ⟨hw.1, hw.2.1, fun j hj => ?_⟩
    rw [e _ (by omega), e _ (by omega)]
    exact hw.2.2 j hj
/-- days by draws: what is kept on paper, and the latest draw -/
def KQ (K : Nat → Int) (n s0 : Nat) : Nat → (Nat → Int) × Nat
  | 0 => (K, s0)
  | d + 1 => (goK (KQ K n s0 d).1 n (qO (wtK (KQ K n s0 d).1 ((KQ K n s0 d).1 42) (hdK (KQ K n s0 d).1) n) n (KQ K n s0 d).2), (qR (wtK (KQ K n s0 d).1 ((KQ K n s0 d).1 42) (hdK (KQ K n s0 d).1) n) n (KQ K n s0 d).2 n).2)
def odQ (K : Nat → Int) (n s0 d : Nat) : Nat → Nat := qO (wtK (KQ K n s0 d).1 ((KQ K n s0 d).1 42) (hdK (KQ K n s0 d).1) n) n (KQ K n s0 d).2
theorem KQ_s (K : Nat → Int) (n s0 d : Nat) : KQ K n s0 (d + 1) = (goK (KQ K n s0 d).1 n (odQ K n s0 d), (qR (wtK (KQ K n s0 d).1 ((KQ K n s0 d).1 42) (hdK (KQ K n s0 d).1) n) n (KQ K n s0 d).2 n).2) := rfl
def gtQ (K : Nat → Int) (n s0 c : Nat) : Nat → Int
  | 0 => 0
  | d + 1 => gtQ K n s0 c d + gcK (KQ K n s0 d).1 n (odQ K n s0 d) c
theorem KQ_sd {K : Nat → Int} {n s0 : Nat} (h : s0 ≤ 1000002) : ∀ d, (KQ K n s0 d).2 ≤ 1000002
  | 0 => h
  | d + 1 => qR_sd _ n (KQ_sd h d) n
theorem KQ_ok {K : Nat → Int} {n s0 : Nat} (hO : KO K 9999 999999) (hn : K 77 = ((n : Nat) : Int)) : ∀ d, (∀ j, j < d → fitP (KQ K n s0 j).1 n (odQ K n s0 j)) → KO (KQ K n s0 d).1 9999 999999 ∧ (KQ K n s0 d).1 77 = ((n : Nat) : Int)
  | 0, _ => ⟨hO, hn⟩
  | d + 1, h => by
    obtain ⟨h1, h2⟩ := KQ_ok hO hn d (fun j hj => h j (by omega))
    have hn8 : n ≤ 8 := by have := hO.n; omega
    rw [KQ_s]
    exact ⟨h1.go (by decide) h2 (okO_q hn8) (h d (by omega)), (goK_o _ _ (Or.inr (by decide)) hn8).trans h2⟩
theorem gtQ_r {K : Nat → Int} {n s0 c : Nat} (hO : KO K 9999 999999) (hn : K 77 = ((n : Nat) : Int)) (hc : c < n) : ∀ d, (∀ j, j < d → fitP (KQ K n s0 j).1 n (odQ K n s0 j)) → 0 ≤ gtQ K n s0 c d ∧ gtQ K n s0 c d ≤ 20 * (d : Int)
  | 0, _ => by unfold gtQ; omega
  | d + 1, h => by
    have h1 := gtQ_r hO hn hc d (fun j hj => h j (by omega))
    have hk := KQ_ok (s0 := s0) hO hn d (fun j hj => h j (by omega))
    have hn8 : n ≤ 8 := by have := hO.n; omega
    have h2 := gcK_r (od := odQ K n s0 d) hk.1 hn8 (okO_q hn8) hc
    rw [gtQ]
    omega
/-- the class's rows that a call of queues leaves as they are, but for those of the draws -/
def QuF (f f1 : Fm) : Prop := ∀ q, q < 75 ∨ (84 < q ∧ q < 123) ∨ (134 < q ∧ q < 157) ∨ q = 161 ∨ 163 < q → f1 q = f q
def QuX (g : Gm) (f : Fm) (K : Nat → Int) (n : Nat) (sd m : Int) (r : Option Value) (g' : Gm) (f' : Fm) : Prop := (¬ ((0 ≤ sd ∧ sd ≤ 1000000) ∧ (1 ≤ m ∧ m ≤ 20)) ∧ r = some (.int (iI (-1))) ∧ g' = g ∧ f' = xrf f (-1)) ∨ (((0 ≤ sd ∧ sd ≤ 1000000) ∧ (1 ≤ m ∧ m ≤ 20)) ∧ g' = cpR g 68 78 6 ∧ ((∃ d, d < m.toNat ∧ (∀ j, j < d → fitP (KQ K n sd.toNat j).1 n (odQ K n sd.toNat j)) ∧ ¬ fitP (KQ K n sd.toNat d).1 n (odQ K n sd.toNat d) ∧ r = some (.int (iI (-5))) ∧ ∃ f1, QuF f f1 ∧ (∀ k, k ≠ 4 → f1 157 k = f 157 k) ∧ f1 158 = f 158 ∧ f1 159 = f 159 ∧ f' = xrf f1 (-5)) ∨ ((∀ j, j < m.toNat → fitP (KQ K n sd.toNat j).1 n (odQ K n sd.toNat j)) ∧ r = some (.int (iI (sumN n (fun c => gtQ K n sd.toNat c m.toNat)))) ∧ ∃ f1, QuF f f1 ∧ f1 157 3 = ((n : Nat) : Int) ∧ (∀ c, c < n → f1 158 c = gtQ K n sd.toNat c m.toNat) ∧ (∀ k, k < n → f1 159 (odQ K n sd.toNat (m.toNat - 1) k) = ((k : Nat) : Int)) ∧ f' = stF f1 64 16 0)))

set_option maxRecDepth 100000 in
set_option maxHeartbeats 4000000 in
theorem x_begin (l : Launch) (z : Zv) (d : Nat) {g : Gm} {f : Fm} {a : Nat} {v : Int} (hA : OL g a) : PM l z (d + 1) mX4_begin [(.ref a), (.int (iI (v)))] g f 0 0 (fun r g' f' => r = none ∧ g = g' ∧ (∀ b, b ≠ a → b ≠ a + 3 → f' b = f b) ∧ (∀ k, k ≠ 4 → f' a k = f a k) ∧ f' a 4 = v ∧ ∀ i, i < 8 → f' (a + 3) i = 0) := by
  refine PM.of (by decide +kernel) (Nat.le_of_ble_eq_true rfl) ?_
  refine r_aload_n (pc := 0) 0 dX4_begin_0 rfl rfl ?_
  refine r_iload_n (pc := 1) 1 dX4_begin_1 rfl rfl ?_
  refine r_putI (pc := 2) dX4_begin_2 fl_X4_21 rfl rfl hA.k ?_
  refine r_aload_n (pc := 5) 0 dX4_begin_5 rfl rfl ?_
  refine r_getR (pc := 6) (b := (a + 3)) dX4_begin_6 fl_X4_18 rfl hA.k hA.r2 ?_
  refine r_iconst (pc := 9) dX4_begin_9 ?_
  refine r_callS (pc := 10) (As := [(.ref (a + 3)), (.int (iI (0)))]) (S := []) dX4_begin_10 cs_X4_25 rfl (Nat.le_of_ble_eq_true rfl) (s_fill l z _ hA.a2 (by decide)) (Nat.zero_le _) (Nat.zero_le _) (fun r_10 g_10 f_10 q_10 => ?_)
  obtain ⟨rfl, rfl, hq1, hq2⟩ := q_10
  exact r_vret (pc := 13) dX4_begin_13 rfl ⟨rfl, rfl, fun b h0 h3 => by rw [hq1 b h3, stF_n _ _ _ h0], fun k hk => by rw [hq1 a (by omega)]; exact stF_i _ _ _ hk, by rw [hq1 a (by omega)]; exact stF_s _ _ _ _, hq2⟩

set_option maxRecDepth 100000 in
set_option maxHeartbeats 4000000 in
theorem x_gather (l : Launch) (z : Zv) (d : Nat) {g : Gm} {f : Fm} {a q n : Nat} {P G : Nat → Int} (hA : OL g a) (hQ : isA g q 11 8) (haq : a + 4 ≤ q) (hn8 : n ≤ 8) (hPG : ∀ c, c < n → f (a + 3) c = P c ∧ f q c = G c) : PM l z d mX4_gather [.ref a, .ref q, .int (iI ((n : Nat) : Int))] g f 0 0 (fun r g' f' => r = none ∧ g = g' ∧ (∀ b, b ≠ a + 3 → f' b = f b) ∧ ∀ c, c < n → f' (a + 3) c = P c + G c) := by
  refine PM.of (by decide +kernel) (Nat.le_of_ble_eq_true rfl) ?_
  have loop : ∀ m i : Nat, m = n - i → i ≤ n → ∀ f1 : Fm, (∀ b, b ≠ a + 3 → f1 b = f b) → (∀ c, c < n → f1 (a + 3) c = if c < i then P c + G c else P c) → PW l z d mX4_gather 0 0 (fun r g' f' => r = none ∧ g = g' ∧ (∀ b, b ≠ a + 3 → f' b = f b) ∧ ∀ c, c < n → f' (a + 3) c = P c + G c) 2 [(3, (.int (iI (((i : Nat) : Int))))), (0, (.ref a)), (1, (.ref q)), (2, (.int (iI (((n : Nat) : Int)))))] [] g f1 0 0 := by
    intro m
    induction m using Nat.strongRecOn with
    | _ m ih =>
      intro i hm hi f1 hF1 hR1
      refine r_iload_n (pc := 2) 0 dX4_gather_2 rfl rfl ?_
      refine r_iload_n (pc := 3) 3 dX4_gather_3 rfl rfl ?_
      refine r_icmp_ge (pc := 4) (tgt := 25) dX4_gather_4 (by decide) (by omega) (by omega) (fun c_4 => ?_) (fun c_4 => ?_)
      · exact r_vret (pc := 25) dX4_gather_25 rfl ⟨rfl, rfl, hF1, fun c hc => by rw [hR1 c hc, if_pos (by omega)]⟩
      · refine r_aload_n (pc := 7) 1 dX4_gather_7 rfl rfl ?_
        refine r_getR (pc := 8) (b := (a + 3)) dX4_gather_8 fl_X4_18 rfl hA.k hA.r2 ?_
        refine r_iload_n (pc := 11) 0 dX4_gather_11 rfl rfl ?_
        refine r_dup2 (pc := 12) dX4_gather_12 rfl rfl ?_
        refine r_ialdv (pc := 13) (w := P i) dX4_gather_13 hA.a2 (by omega) (by decide) ((hR1 i (by omega)).trans (if_neg (by omega))) ?_
        refine r_aload_n (pc := 14) 2 dX4_gather_14 rfl rfl ?_
        refine r_iload_n (pc := 15) 0 dX4_gather_15 rfl rfl ?_
        refine r_ialdv (pc := 16) (w := G i) dX4_gather_16 hQ (by omega) (by decide) (by rw [hF1 q (by omega)]; exact (hPG i (by omega)).2) ?_
        refine r_iadd (pc := 17) dX4_gather_17 ?_
        refine r_iastv (pc := 18) (i := i) dX4_gather_18 hA.a2 (by omega) (by decide) rfl ?_
        refine r_iincv (pc := 19) (y := ((i + 1 : Nat) : Int)) (L2 := [(3, (.int (iI (((i + 1 : Nat) : Int))))), (0, (.ref a)), (1, (.ref q)), (2, (.int (iI (((n : Nat) : Int)))))]) 0 dX4_gather_19 rfl (by omega) (by decide) rfl ?_
        refine r_goto (pc := 22) (tgt := 2) dX4_gather_22 (by decide) ?_
        refine r_sub (L2 := [(3, (.int (iI (((i + 1 : Nat) : Int))))), (0, (.ref a)), (1, (.ref q)), (2, (.int (iI (((n : Nat) : Int)))))]) [0, 1, 2, 3] rfl ?_
        exact ih (n - (i + 1)) (by omega) (i + 1) (by omega) (by omega) _ (fun b hb => by rw [stF_n _ _ _ hb]; exact hF1 b hb) (fun c hc => by
          by_cases e : c = i
          · subst e; rw [stF_s, if_pos (by omega)]
          · rw [stF_i _ _ _ e, hR1 c hc]
            by_cases h : c < i
            · rw [if_pos h, if_pos (by omega)]
            · rw [if_neg h, if_neg (by omega)])
  refine r_iconst (pc := 0) dX4_gather_0 ?_
  refine r_istore_n (pc := 1) (L2 := [(3, (.int (iI (0)))), (0, (.ref a)), (1, (.ref q)), (2, (.int (iI (((n : Nat) : Int)))))]) dX4_gather_1 rfl (by decide) rfl ?_
  refine r_sub (L2 := [(3, (.int (iI (((0 : Nat) : Int))))), (0, (.ref a)), (1, (.ref q)), (2, (.int (iI (((n : Nat) : Int)))))]) [0, 1, 2, 3] rfl ?_
  exact loop n 0 (by omega) (by omega) f (fun _ _ => rfl) (fun c hc => by rw [if_neg (by omega)]; exact (hPG c hc).1)

set_option maxRecDepth 100000 in
set_option maxHeartbeats 4000000 in
theorem x_keep (l : Launch) (z : Zv) (d : Nat) {g : Gm} {f : Fm} {a q n : Nat} {P : Nat → Int} {od : Nat → Nat} (hA : OL g a) (hQ : isA g q 11 8) (haq : a + 4 ≤ q) (hn8 : n ≤ 8) (hok : okO od n) (hP : ∀ c, c < n → f (a + 3) c = P c) (hod : ∀ k, k < n → f q k = ((od k : Nat) : Int)) : PM l z d mX4_keep [.ref a, .ref q, .int (iI ((n : Nat) : Int))] g f 0 0 (fun r g' f' => r = some (.int (iI (sumN n P))) ∧ g = g' ∧ (∀ b, b ≠ a → b ≠ a + 1 → b ≠ a + 2 → f' b = f b) ∧ f' a 3 = ((n : Nat) : Int) ∧ (∀ c, c < n → f' (a + 1) c = P c) ∧ ∀ k, k < n → f' (a + 2) (od k) = ((k : Nat) : Int)) := by
  refine PM.of (by decide +kernel) (Nat.le_of_ble_eq_true rfl) ?_
  have loop : ∀ m i : Nat, m = n - i → i ≤ n → ∀ f1 : Fm, (∀ b, b ≠ a + 1 → b ≠ a + 2 → f1 b = f b) → (∀ c, c < i → f1 (a + 1) c = P c) → (∀ k, k < i → f1 (a + 2) (od k) = ((k : Nat) : Int)) → PW l z d mX4_keep 0 0 (fun r g' f' => r = some (.int (iI (sumN n P))) ∧ g = g' ∧ (∀ b, b ≠ a → b ≠ a + 1 → b ≠ a + 2 → f' b = f b) ∧ f' a 3 = ((n : Nat) : Int) ∧ (∀ c, c < n → f' (a + 1) c = P c) ∧ ∀ k, k < n → f' (a + 2) (od k) = ((k : Nat) : Int)) 5 [(4, (.int (iI (((i : Nat) : Int))))), (3, (.int (iI (sumN i P)))), (0, (.ref a)), (1, (.ref q)), (2, (.int (iI (((n : Nat) : Int)))))] [] g f1 0 0 := by
    intro m
    induction m using Nat.strongRecOn with
    | _ m ih =>
      intro i hm hi f1 hF1 hR1 hR2
      refine r_iload (pc := 5) 0 dX4_keep_5 rfl ?_
      refine r_iload_n (pc := 7) 4 dX4_keep_7 rfl rfl ?_
      refine r_icmp_ge (pc := 8) (tgt := 52) dX4_keep_8 (by decide) (by omega) (by omega) (fun c_8 => ?_) (fun c_8 => ?_)
      · refine r_aload_n (pc := 52) 2 dX4_keep_52 rfl rfl ?_
        refine r_iload_n (pc := 53) 4 dX4_keep_53 rfl rfl ?_
        refine r_putI (pc := 54) dX4_keep_54 fl_X4_53 rfl rfl hA.k ?_
        refine r_iload_n (pc := 57) 1 dX4_keep_57 rfl rfl ?_
        have hin : i = n := by omega
        exact r_iret (pc := 58) dX4_keep_58 rfl rfl ⟨by rw [hin], rfl, fun b h0 h1 h2 => by rw [stF_n _ _ _ h0]; exact hF1 b h1 h2, stF_s _ _ _ _, fun c hc => rdn (by omega) (hR1 c (by omega)), fun k hk => rdn (by omega) (hR2 k (by omega))⟩
      · refine r_aload_n (pc := 11) 2 dX4_keep_11 rfl rfl ?_
        refine r_getR (pc := 12) (b := (a + 1)) dX4_keep_12 fl_X4_9 rfl hA.k hA.r0 ?_
        refine r_iload (pc := 15) 0 dX4_keep_15 rfl ?_
        refine r_aload_n (pc := 17) 2 dX4_keep_17 rfl rfl ?_
        refine r_getR (pc := 18) (b := (a + 3)) dX4_keep_18 fl_X4_18 rfl hA.k hA.r2 ?_
        refine r_iload (pc := 21) 0 dX4_keep_21 rfl ?_
        refine r_ialdv (pc := 23) (w := P i) dX4_keep_23 hA.a2 (by have := (hok i (by omega)).1; omega) (by decide) ((congrFun (hF1 (a + 3) (by omega) (by omega)) _).trans (hP i (by omega))) ?_
        refine r_iastv (pc := 24) (i := i) dX4_keep_24 hA.a0 (by have := (hok i (by omega)).1; omega) (by decide) rfl ?_
        refine r_aload_n (pc := 25) 2 dX4_keep_25 rfl rfl ?_
        refine r_getR (pc := 26) (b := (a + 2)) dX4_keep_26 fl_X4_15 rfl hA.k hA.r1 ?_
        refine r_aload_n (pc := 29) 3 dX4_keep_29 rfl rfl ?_
        refine r_iload (pc := 30) 0 dX4_keep_30 rfl ?_
        refine r_ialdv (pc := 32) (w := ((od i : Nat) : Int)) dX4_keep_32 hQ (by have := (hok i (by omega)).1; omega) (by decide) (rdn (by omega) ((congrFun (hF1 q (by omega) (by omega)) _).trans (hod i (by omega)))) ?_
        refine r_iload (pc := 33) 0 dX4_keep_33 rfl ?_
        refine r_iastv (pc := 35) (i := od i) dX4_keep_35 hA.a1 (by have := (hok i (by omega)).1; omega) (by decide) rfl ?_
        refine r_iload_n (pc := 36) 1 dX4_keep_36 rfl rfl ?_
        refine r_aload_n (pc := 37) 2 dX4_keep_37 rfl rfl ?_
        refine r_getR (pc := 38) (b := (a + 3)) dX4_keep_38 fl_X4_18 rfl hA.k hA.r2 ?_
        refine r_iload (pc := 41) 0 dX4_keep_41 rfl ?_
        refine r_ialdv (pc := 43) (w := P i) dX4_keep_43 hA.a2 (by have := (hok i (by omega)).1; omega) (by decide) (rdn (by omega) (rdn (by omega) ((congrFun (hF1 (a + 3) (by omega) (by omega)) _).trans (hP i (by omega))))) ?_
        refine r_iadd (pc := 44) dX4_keep_44 ?_
        refine r_istore_n (pc := 45) (L2 := [(3, (.int (iI ((sumN i P) + (P i))))), (4, (.int (iI (((i : Nat) : Int))))), (0, (.ref a)), (1, (.ref q)), (2, (.int (iI (((n : Nat) : Int)))))]) dX4_keep_45 rfl (by decide) rfl ?_
        refine r_iincv (pc := 46) (y := ((i + 1 : Nat) : Int)) (L2 := [(4, (.int (iI (((i + 1 : Nat) : Int))))), (3, (.int (iI ((sumN i P) + (P i))))), (0, (.ref a)), (1, (.ref q)), (2, (.int (iI (((n : Nat) : Int)))))]) 1 dX4_keep_46 rfl (by omega) (by decide) rfl ?_
        refine r_goto (pc := 49) (tgt := 5) dX4_keep_49 (by decide) ?_
        refine r_sub (L2 := [(4, (.int (iI (((i + 1 : Nat) : Int))))), (3, (.int (iI (sumN (i + 1) P)))), (0, (.ref a)), (1, (.ref q)), (2, (.int (iI (((n : Nat) : Int)))))]) [0, 1, 2, 3, 4] rfl ?_
        exact ih (n - (i + 1)) (by omega) (i + 1) (by omega) (by omega) _ (fun b h1 h2 => by rw [stF_n _ _ _ h2, stF_n _ _ _ h1]; exact hF1 b h1 h2) (fun c hc => by
          rcases Nat.lt_succ_iff_lt_or_eq.mp hc with h | h
          · exact rdn (by omega) (rdi (by omega) (hR1 c h))
          · subst h; exact rdn (by omega) (stF_s _ _ _ _)) (fun k hk => by
          rcases Nat.lt_succ_iff_lt_or_eq.mp hk with h | h
          · exact rdi (okO_ne hok (by omega) h) (rdn (by omega) (hR2 k h))
          · subst h; exact stF_s _ _ _ _)
  refine r_iconst (pc := 0) dX4_keep_0 ?_
  refine r_istore_n (pc := 1) (L2 := [(3, (.int (iI (0)))), (0, (.ref a)), (1, (.ref q)), (2, (.int (iI (((n : Nat) : Int)))))]) dX4_keep_1 rfl (by decide) rfl ?_
  refine r_iconst (pc := 2) dX4_keep_2 ?_
  refine r_istore (pc := 3) (L2 := [(4, (.int (iI (0)))), (3, (.int (iI (0)))), (0, (.ref a)), (1, (.ref q)), (2, (.int (iI (((n : Nat) : Int)))))]) dX4_keep_3 (by decide) rfl ?_
  refine r_sub (L2 := [(4, (.int (iI (((0 : Nat) : Int))))), (3, (.int (iI (sumN 0 P)))), (0, (.ref a)), (1, (.ref q)), (2, (.int (iI (((n : Nat) : Int)))))]) [0, 1, 2, 3, 4] rfl ?_
  exact loop n 0 (by omega) (by omega) f (fun _ _ _ => rfl) (fun c hc => absurd hc (by omega)) (fun c hc => absurd hc (by omega))

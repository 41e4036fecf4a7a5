def hdF (F : Nat → Nat → Bool) (n : Nat) : Nat → Nat → Bool
  | 0 => fun s => decide (s = 0)
  | t + 1 => unB n (hdF F n t) (F t)
/-- in how many days all can have had one; 0: never in a year -/
def yDn (F : Nat → Nat → Bool) (n : Nat) : Nat := if n = 0 then 0 else (if fsU (fun t => hdF F n (t + 1) (2 ^ n - 1)) 30 30 < 30 then fsU (fun t => hdF F n (t + 1) (2 ^ n - 1)) 30 30 + 1 else 0)
theorem fsU_no {P : Nat → Bool} {n : Nat} (h : ∀ i, i < n → ¬ P i = true) : ∀ m, m ≤ n → fsU P n m = n
  | 0, _ => rfl
  | m + 1, hm => by rw [fsU, if_neg (h _ (by omega))]; exact fsU_no h m (by omega)
theorem yD_at {F : Nat → Nat → Bool} {n t : Nat} (hn : 0 < n) (ht : 0 < t ∧ t ≤ 30) (h : hdF F n t (2 ^ n - 1) = true) (hp : ∀ q, 0 < q → q < t → ¬ hdF F n q (2 ^ n - 1) = true) : yDn F n = t := by
  have e : fsU (fun t => hdF F n (t + 1) (2 ^ n - 1)) 30 30 = t - 1 := fsU_y (by omega) (by show hdF F n (t - 1 + 1) (2 ^ n - 1) = true; rw [show t - 1 + 1 = t by omega]; exact h) (fun j hj => hp (j + 1) (by omega) (by omega)) 30 (Nat.le_refl _) (by omega)
  unfold yDn
  rw [if_neg (by omega), e, if_pos (by omega)]
  omega
theorem yD_no {F : Nat → Nat → Bool} {n : Nat} (hp : ∀ q, 0 < q → q ≤ 30 → ¬ hdF F n q (2 ^ n - 1) = true) : yDn F n = 0 := by
  have e : fsU (fun t => hdF F n (t + 1) (2 ^ n - 1)) 30 30 = 30 := fsU_no (fun i hi => hp (i + 1) (by omega) (by omega)) 30 (Nat.le_refl _)
  unfold yDn
  split
  · rfl
  · rw [e, if_neg (by omega)]
theorem yD_r (F : Nat → Nat → Bool) (n : Nat) : yDn F n ≤ 30 := by
  unfold yDn
  split
  · omega
  · split <;> omega
theorem hd_emp {F : Nat → Nat → Bool} {n d : Nat} (h : ∀ x, x < 2 ^ n → F d x = false) : ∀ t, d < t → ∀ s, ¬ hdF F n t s = true
  | 0, ht, _ => absurd ht (by omega)
  | t + 1, ht, s => by
    show ¬ unB n (hdF F n t) (F t) s = true
    rw [unB_iff]
    rintro ⟨t1, _, t2, h2, a, b, _⟩
    rcases (show d < t ∨ d = t by omega) with q | q
    · exact hd_emp h t q t1 a
    · subst q; rw [h t2 h2] at b; exact absurd b (by decide)
/-- who can have one on the day d -/
def famK (K : Nat → Int) (n d x : Nat) : Bool := rW (fun s i => (nxM (wtK (KD K n d) (KD K n d 42) (hdK (KD K n d)) n) n s).testBit i) (fun s i => decide (0 < gnV (KD K n d 40) (KD K n d 41) (bkK (KD K n d) 0) (bkK (KD K n d) 1) (waK (KD K n d) (KD K n d 42) (hdK (KD K n d))) n (wmk (fun c => decide (ovK (KD K n d) c ≠ 0)) n) s i)) n (2 ^ n - 1) x
def yDK (K : Nat → Int) (n : Nat) : Nat := yDn (famK K n) n
def yWK (K : Nat → Int) (n i : Nat) : Nat := wyH n (famK K n) (yDK K n) (i + 1)
def PlK (f : Fm) (K : Nat → Int) (n : Nat) : Prop := f 150 8 = ((yDK K n : Nat) : Int) ∧ ∀ i, i < yDK K n → f 151 i = ((yWK K n i : Nat) : Int)
def PlC (f : Fm) (K : Nat → Int) (n : Nat) : Prop := f 150 6 = 0 ∨ (f 150 6 = 1 ∧ PlK f K n)
def yrA (K : Nat → Int) (n : Nat) (i : Int) : Int := if i = -1 then (if 0 < yDK K n then ((yDK K n : Nat) : Int) else -1) else if 0 ≤ i ∧ i < ((yDK K n : Nat) : Int) then ((yWK K n i.toNat : Nat) : Int) else -1
theorem bkF_c {n D : Nat} {A A' : Nat → Nat → Bool} (h : ∀ d, d < D → ∀ t, t < 2 ^ n → A d t = A' d t) : ∀ k, k ≤ D → bkF n A D k = bkF n A' D k
  | 0, _ => rfl
  | k + 1, hk => by
    show dC (unB n (bkF n A D k) (A (D - (k + 1)))) n = dC (unB n (bkF n A' D k) (A' (D - (k + 1)))) n
    rw [bkF_c h k (by omega), unB_c (h (D - (k + 1)) (by omega))]
theorem wyH_c {n D : Nat} {A A' : Nat → Nat → Bool} (h : ∀ d, d < D → ∀ t, t < 2 ^ n → A d t = A' d t) : ∀ i, i ≤ D → wyH n A D i = wyH n A' D i
  | 0, _ => rfl
  | i + 1, hi => by
    rw [wyH, wyH, wyH_c h i (by omega)]
    exact lwF_c (fun t ht => h i (by omega) t ht) (fun t ht => by unfold bkD; rw [bkF_c h (D - (i + 1)) (by omega)]) (2 ^ n) (Nat.le_refl _)
theorem gwJ_e (g : Gm) : gwJ g (glm g) = g := rfl
theorem BK.L {g : Gm} {J : Nat → Nat → Int} {f : Fm} {b : Nat} {K : Nat → Int} (h : BK g f b K) : BK (gwJ g J) f b K := h

set_option maxRecDepth 100000 in
set_option maxHeartbeats 4000000 in
theorem x_year (l : Launch) (z : Zv) (d : Nat) {g : Gm} {f : Fm} {n : Nat} {K : Nat → Int} {D0 M0 : Int} (hX : XL g) (hB : BK g f 65 K) (hO : KO K D0 M0) (hD0 : D0 ≤ 900000) (hM0 : M0 ≤ 1090000) (hn : K 77 = ((n : Nat) : Int)) (hTX : ∀ i p, grm g 78 i = some p → isK g p 3) (hkn : PlC f K n) {w : Int} (h_w : -2147483648 ≤ w ∧ w ≤ 2147483647) : PM l z (d + 9) mX10_year [.ref 64, .int (iI w)] g f 0 0 (fun r g' f' => r = some (.int (iI (yrA K n w))) ∧ (g' = g ∨ ∃ J', g' = gwJ (cpR g 68 78 6) J') ∧ (∀ q, q < 75 ∨ (84 < q ∧ q < 123) ∨ (134 < q ∧ q < 150) ∨ 156 < q → f' q = f q) ∧ f' 150 6 = 1 ∧ PlK f' K n) := by
  have hn8 : n ≤ 8 := by have := hO.n; omega
  have hp8 := pow8 hn8
  rcases hkn with hkn | hkn
  · refine PM.of (by decide +kernel) (Nat.le_of_ble_eq_true rfl) ?_
    refine r_aload_n (pc := 0) 0 dX10_year_0 rfl rfl ?_
    refine r_getR (pc := 1) (b := 150) dX10_year_1 fl_X10_60 rfl hX.k hX.r10 ?_
    refine r_getIv (pc := 4) (x := 0) dX10_year_4 fl_X10_207 rfl hX.o10.k (hkn) ?_
    refine r_if_ne (pc := 7) (tgt := 93) dX10_year_7 (by decide) (by omega) (fun c_7 => ?_) (fun c_7 => ?_)
    · exact absurd c_7 (by decide)
    · refine r_aload_n (pc := 10) 0 dX10_year_10 rfl rfl ?_
      refine r_getR (pc := 11) (b := 150) dX10_year_11 fl_X10_60 rfl hX.k hX.r10 ?_
      refine r_aload_n (pc := 14) 0 dX10_year_14 rfl rfl ?_
      refine r_getR (pc := 15) (b := 65) dX10_year_15 fl_X10_10 rfl hX.k hX.r0 ?_
      refine r_getIv (pc := 18) (x := ((n : Nat) : Int)) dX10_year_18 fl_X10_89 rfl hX.o0.k ((hB.n.trans hn)) ?_
      refine r_callV (pc := 21) (As := [(.int (iI (((n : Nat) : Int))))]) (S := []) dX10_year_21 cv_X10_211 hX.o10.k rfl (Nat.le_of_ble_eq_true rfl) (x_planBegin (p := 150) (n := n) l z (d + 6) hX.o10 hn8) (Nat.zero_le _) (Nat.zero_le _) (fun r_21 g_21 f_21 q_21 => ?_)
      obtain ⟨rfl, rfl, hb1, hb2, hb3, hb4, hb5, hb6, hb7⟩ := q_21
      have hB0 : BK g f_21 65 K := hB.mem (fun q hq => hb1 q (by omega) (by omega))
      refine r_aload_n (pc := 24) 0 dX10_year_24 rfl rfl ?_
      refine r_getR (pc := 25) (b := 75) dX10_year_25 fl_X10_16 rfl hX.k hX.r1 ?_
      refine r_aload_n (pc := 28) 0 dX10_year_28 rfl rfl ?_
      refine r_getR (pc := 29) (b := 65) dX10_year_29 fl_X10_10 rfl hX.k hX.r0 ?_
      refine r_callV (pc := 32) (As := [(.ref 65)]) (S := []) dX10_year_32 cv_X10_214 hX.o1.k rfl (Nat.le_of_ble_eq_true rfl) (x_copyFrom (b := 75) (q := 65) l z (d + 7) hX.o1 hX.o0 (Or.inl (by omega)) hB.lk) (Nat.zero_le _) (Nat.zero_le _) (fun r_32 g_32 f_32 q_32 => ?_)
      obtain ⟨rfl, rfl, rfl⟩ := q_32
      have hX1 : XL (cpR g 68 78 6) := hX.to (cpR_sh _ _ _ _) (cpR_hr hX.o1.a2.1)
      have hB1 : BK (cpR g 68 78 6) (cpB f_21 75 65) 75 K := hB0.cp hO (Or.inl (by omega)) (by omega) hTX
      rw [← gwJ_e (cpR g 68 78 6)]
      refine r_iconst (pc := 35) dX10_year_35 ?_
      refine r_istore_n (pc := 36) (L2 := [(2, (.int (iI (0)))), (0, (.ref 64)), (1, (.int (iI (w))))]) dX10_year_36 rfl (by decide) rfl ?_
      have loop : ∀ m t : Nat, m = 30 - t → t ≤ 30 → ∀ (f1 : Fm) (J1 : Nat → Nat → Int), (n = 0 → t = 0) → BK (gwJ (cpR g 68 78 6) J1) f1 75 (KD K n t) → (0 < t → nDy (KD K n t) → PDs f1 123 (KD K n t) n) → (∀ q, q < 75 ∨ (84 < q ∧ q < 123) ∨ (134 < q ∧ q < 150) ∨ 156 < q → f1 q = f q) → f1 150 10 = ((n : Nat) : Int) → f1 150 11 = ((2 ^ n - 1 : Nat) : Int) → f1 150 9 = ((t : Nat) : Int) → (∀ s, s < 2 ^ n → f1 155 s = fI (hdF (famK K n) n t) s) → (∀ d, d < t → ∀ x, x < 256 → fmB J1 152 d x = famK K n d x) → (∀ q, 0 < q → q < t → ¬ hdF (famK K n) n q (2 ^ n - 1) = true) → f1 150 8 = (if 0 < t ∧ hdF (famK K n) n t (2 ^ n - 1) = true then ((t : Nat) : Int) else 0) → ∀ bb : Bool, f1 150 7 = b01 (bb = true) → (bb = true ↔ ((t = 0 ∧ 0 < n) ∨ (0 < t ∧ ¬ hdF (famK K n) n t (2 ^ n - 1) = true ∧ ∃ x, x < 256 ∧ famK K n (t - 1) x = true))) → PW l z (d + 9) mX10_year 0 0 (fun r g' f' => r = some (.int (iI (yrA K n w))) ∧ (g' = g ∨ ∃ J', g' = gwJ (cpR g 68 78 6) J') ∧ (∀ q, q < 75 ∨ (84 < q ∧ q < 123) ∨ (134 < q ∧ q < 150) ∨ 156 < q → f' q = f q) ∧ f' 150 6 = 1 ∧ PlK f' K n) 37 [(2, (.int (iI (((t : Nat) : Int))))), (0, (.ref 64)), (1, (.int (iI (w))))] [] (gwJ (cpR g 68 78 6) J1) f1 0 0 := by
        intro m
        induction m using Nat.strongRecOn with
        | _ m ih =>
          intro t hm ht0 f1 J1 hnz hBi hPi hfr h10 h11 h9 h15 hfam hno h8 bb h7 hbb
          have hni : (KD K n t) 77 = ((n : Nat) : Int) := by rw [KD_o K n t (by omega)]; exact hn
          refine r_iload_n (pc := 37) 0 dX10_year_37 rfl rfl ?_
          refine r_bipush (pc := 38) dX10_year_38 (by decide) ?_
          refine r_icmp_ge (pc := 40) (tgt := 86) dX10_year_40 (by decide) (by omega) (by omega) (fun c_40 => ?_) (fun c_40 => ?_)
          · have hDe : f1 150 8 = (((yDK K n) : Nat) : Int) := by
              rw [h8]
              by_cases e : 0 < t ∧ hdF (famK K n) n t (2 ^ n - 1) = true
              · rw [if_pos e]
                have hn0 : 0 < n := by
                  rcases Nat.eq_zero_or_pos n with q | q
                  · exfalso; have := hnz q; omega
                  · exact q
                unfold yDK; rw [yD_at hn0 ⟨e.1, by omega⟩ e.2 hno]
              · rw [if_neg e]
                have ht30 : t = 30 := by omega
                unfold yDK; rw [yD_no (fun q h1 h2 => by
                  rcases (show q < t ∨ q = t by omega) with w | w
                  · exact hno q h1 w
                  · rw [w]; exact fun h => e ⟨by omega, h⟩)]; rfl
            have hDt : (yDK K n) ≤ t := by
              have h9 := hDe
              rw [h8] at h9
              split at h9 <;> omega
            have hfam : ∀ d, d < (yDK K n) → ∀ x, x < 256 → fmB J1 152 d x = famK K n d x := fun d hd => hfam d (by omega)
            refine r_aload_n (pc := 86) 1 dX10_year_86 rfl rfl ?_
            refine r_getR (pc := 87) (b := 150) dX10_year_87 fl_X10_60 rfl hX.k hX.r10 ?_
            refine r_callV (pc := 90) (As := []) (S := []) dX10_year_90 cv_X10_230 hX.o10.k rfl (Nat.le_of_ble_eq_true rfl) (x_findWay (p := 150) (n := n) (D := (yDK K n)) (J := J1) l z (d + 5) hX1.o10 hn8 h10 h11 hDe (yD_r _ _)) (Nat.zero_le _) (Nat.zero_le _) (fun r_90 g_90 f_90 q_90 => ?_)
            obtain ⟨rfl, hw1, hw2, hw3, ⟨J3, rfl⟩, hw4⟩ := q_90
            have hpl : PlK f_90 K n := ⟨by rw [hw2 8 (by decide)]; exact hDe, fun i hi => by rw [hw4 i hi, wyH_c (A' := (famK K n)) (fun d hd t ht => hfam d hd t (by omega)) (i + 1) (by omega)]; rfl⟩
            have hDr := yD_r (famK K n) n
            have hDr2 : (yDK K n) ≤ 30 := hDr
            refine r_iload_n (pc := 93) 2 dX10_year_93 rfl rfl ?_
            refine r_iconst (pc := 94) dX10_year_94 ?_
            refine r_icmp_ne (pc := 95) (tgt := 120) dX10_year_95 (by decide) (by omega) (by omega) (fun c_95 => ?_) (fun c_95 => ?_)
            · refine r_iload_n (pc := 120) 2 dX10_year_120 rfl rfl ?_
              refine r_if_lt (pc := 121) (tgt := 147) dX10_year_121 (by decide) (by omega) (fun c_121 => ?_) (fun c_121 => ?_)
              · refine r_iconst (pc := 147) dX10_year_147 ?_
                exact r_iret (pc := 148) dX10_year_148 rfl rfl ⟨by unfold yrA; rw [if_neg (show ¬ w = -1 by omega), if_neg (fun q => by omega)], Or.inr ⟨J3, rfl⟩, fun q hq => (hw1 q (by omega) (by omega) (by omega) (by omega)).trans (hfr q hq), hw3, hpl⟩
              · refine r_iload_n (pc := 124) 2 dX10_year_124 rfl rfl ?_
                refine r_aload_n (pc := 125) 1 dX10_year_125 rfl rfl ?_
                refine r_getR (pc := 126) (b := 150) dX10_year_126 fl_X10_60 rfl hX.k hX.r10 ?_
                refine r_getIv (pc := 129) (x := (((yDK K n) : Nat) : Int)) dX10_year_129 fl_X10_233 rfl hX.o10.k (hpl.1) ?_
                refine r_icmp_ge (pc := 132) (tgt := 147) dX10_year_132 (by decide) (by omega) (by omega) (fun c_132 => ?_) (fun c_132 => ?_)
                · refine r_iconst (pc := 147) dX10_year_147 ?_
                  exact r_iret (pc := 148) dX10_year_148 rfl rfl ⟨by unfold yrA; rw [if_neg (show ¬ w = -1 by omega), if_neg (fun q => by omega)], Or.inr ⟨J3, rfl⟩, fun q hq => (hw1 q (by omega) (by omega) (by omega) (by omega)).trans (hfr q hq), hw3, hpl⟩
                · refine r_aload_n (pc := 135) 1 dX10_year_135 rfl rfl ?_
                  refine r_getR (pc := 136) (b := 150) dX10_year_136 fl_X10_60 rfl hX.k hX.r10 ?_
                  refine r_getR (pc := 139) (b := 151) dX10_year_139 fl_X10_236 rfl hX.o10.k hX.o10.r0 ?_
                  refine r_iload_n (pc := 142) 2 dX10_year_142 rfl rfl ?_
                  refine r_ialdv (pc := 143) (w := ((yWK K n w.toNat : Nat) : Int)) dX10_year_143 hX.o10.a0 (by omega) (by decide) (hpl.2 w.toNat (by omega)) ?_
                  refine r_goto (pc := 144) (tgt := 148) dX10_year_144 (by decide) ?_
                  exact r_iret (pc := 148) dX10_year_148 rfl rfl ⟨by unfold yrA; rw [if_neg (show ¬ w = -1 by omega), if_pos (show 0 ≤ w ∧ w < (((yDK K n) : Nat) : Int) from ⟨by omega, by omega⟩)], Or.inr ⟨J3, rfl⟩, fun q hq => (hw1 q (by omega) (by omega) (by omega) (by omega)).trans (hfr q hq), hw3, hpl⟩
            · refine r_aload_n (pc := 98) 1 dX10_year_98 rfl rfl ?_
              refine r_getR (pc := 99) (b := 150) dX10_year_99 fl_X10_60 rfl hX.k hX.r10 ?_
              refine r_getIv (pc := 102) (x := (((yDK K n) : Nat) : Int)) dX10_year_102 fl_X10_233 rfl hX.o10.k (hpl.1) ?_
              refine r_if_le (pc := 105) (tgt := 118) dX10_year_105 (by decide) (by omega) (fun c_105 => ?_) (fun c_105 => ?_)
              · refine r_iconst (pc := 118) dX10_year_118 ?_
                exact r_iret (pc := 119) dX10_year_119 rfl rfl ⟨by unfold yrA; rw [if_pos (show w = -1 by omega), if_neg (by omega)], Or.inr ⟨J3, rfl⟩, fun q hq => (hw1 q (by omega) (by omega) (by omega) (by omega)).trans (hfr q hq), hw3, hpl⟩
              · refine r_aload_n (pc := 108) 1 dX10_year_108 rfl rfl ?_
                refine r_getR (pc := 109) (b := 150) dX10_year_109 fl_X10_60 rfl hX.k hX.r10 ?_
                refine r_getIv (pc := 112) (x := (((yDK K n) : Nat) : Int)) dX10_year_112 fl_X10_233 rfl hX.o10.k (hpl.1) ?_
                refine r_goto (pc := 115) (tgt := 119) dX10_year_115 (by decide) ?_
                exact r_iret (pc := 119) dX10_year_119 rfl rfl ⟨by unfold yrA; rw [if_pos (show w = -1 by omega), if_pos (by omega)], Or.inr ⟨J3, rfl⟩, fun q hq => (hw1 q (by omega) (by omega) (by omega) (by omega)).trans (hfr q hq), hw3, hpl⟩
          · refine r_aload_n (pc := 43) 1 dX10_year_43 rfl rfl ?_
            refine r_getR (pc := 44) (b := 150) dX10_year_44 fl_X10_60 rfl hX.k hX.r10 ?_
            refine r_getIv (pc := 47) (x := b01 (bb = true)) dX10_year_47 fl_X10_217 rfl hX.o10.k (h7) ?_
            refine r_if_eq (pc := 50) (tgt := 86) dX10_year_50 (by decide) (b01_r) (fun c_50 => ?_) (fun c_50 => ?_)
            · replace c_50 := b01_z c_50
              have hDe : f1 150 8 = (((yDK K n) : Nat) : Int) := by
                rw [h8]
                by_cases e : 0 < t ∧ hdF (famK K n) n t (2 ^ n - 1) = true
                · rw [if_pos e]
                  have hn0 : 0 < n := by
                    rcases Nat.eq_zero_or_pos n with q | q
                    · exfalso; have := hnz q; omega
                    · exact q
                  unfold yDK; rw [yD_at hn0 ⟨e.1, by omega⟩ e.2 hno]
                · rw [if_neg e]
                  rcases Nat.eq_zero_or_pos n with qn | qn
                  · unfold yDK yDn; rw [if_pos qn]; rfl
                  · have ht1 : 0 < t := by
                      rcases Nat.eq_zero_or_pos t with w | w
                      · exact absurd (hbb.mpr (Or.inl ⟨w, qn⟩)) c_50
                      · exact w
                    have hemp : ∀ x, x < 2 ^ n → famK K n (t - 1) x = false := fun x hx => Bool.eq_false_iff.mpr (fun w => c_50 (hbb.mpr (Or.inr ⟨ht1, fun h => e ⟨ht1, h⟩, x, by omega, w⟩)))
                    unfold yDK; rw [yD_no (fun q h1 h2 => by
                      rcases (show q < t ∨ t ≤ q by omega) with w | w
                      · exact hno q h1 w
                      · exact hd_emp hemp q (by omega) _)]; rfl
              have hDt : (yDK K n) ≤ t := by
                have h9 := hDe
                rw [h8] at h9
                split at h9 <;> omega
              have hfam : ∀ d, d < (yDK K n) → ∀ x, x < 256 → fmB J1 152 d x = famK K n d x := fun d hd => hfam d (by omega)
              refine r_aload_n (pc := 86) 1 dX10_year_86 rfl rfl ?_
              refine r_getR (pc := 87) (b := 150) dX10_year_87 fl_X10_60 rfl hX.k hX.r10 ?_
              refine r_callV (pc := 90) (As := []) (S := []) dX10_year_90 cv_X10_230 hX.o10.k rfl (Nat.le_of_ble_eq_true rfl) (x_findWay (p := 150) (n := n) (D := (yDK K n)) (J := J1) l z (d + 5) hX1.o10 hn8 h10 h11 hDe (yD_r _ _)) (Nat.zero_le _) (Nat.zero_le _) (fun r_90 g_90 f_90 q_90 => ?_)
              obtain ⟨rfl, hw1, hw2, hw3, ⟨J3, rfl⟩, hw4⟩ := q_90
              have hpl : PlK f_90 K n := ⟨by rw [hw2 8 (by decide)]; exact hDe, fun i hi => by rw [hw4 i hi, wyH_c (A' := (famK K n)) (fun d hd t ht => hfam d hd t (by omega)) (i + 1) (by omega)]; rfl⟩
              have hDr := yD_r (famK K n) n
              have hDr2 : (yDK K n) ≤ 30 := hDr
              refine r_iload_n (pc := 93) 2 dX10_year_93 rfl rfl ?_
              refine r_iconst (pc := 94) dX10_year_94 ?_
              refine r_icmp_ne (pc := 95) (tgt := 120) dX10_year_95 (by decide) (by omega) (by omega) (fun c_95 => ?_) (fun c_95 => ?_)
              · refine r_iload_n (pc := 120) 2 dX10_year_120 rfl rfl ?_
                refine r_if_lt (pc := 121) (tgt := 147) dX10_year_121 (by decide) (by omega) (fun c_121 => ?_) (fun c_121 => ?_)
                · refine r_iconst (pc := 147) dX10_year_147 ?_
                  exact r_iret (pc := 148) dX10_year_148 rfl rfl ⟨by unfold yrA; rw [if_neg (show ¬ w = -1 by omega), if_neg (fun q => by omega)], Or.inr ⟨J3, rfl⟩, fun q hq => (hw1 q (by omega) (by omega) (by omega) (by omega)).trans (hfr q hq), hw3, hpl⟩
                · refine r_iload_n (pc := 124) 2 dX10_year_124 rfl rfl ?_
                  refine r_aload_n (pc := 125) 1 dX10_year_125 rfl rfl ?_
                  refine r_getR (pc := 126) (b := 150) dX10_year_126 fl_X10_60 rfl hX.k hX.r10 ?_
                  refine r_getIv (pc := 129) (x := (((yDK K n) : Nat) : Int)) dX10_year_129 fl_X10_233 rfl hX.o10.k (hpl.1) ?_
                  refine r_icmp_ge (pc := 132) (tgt := 147) dX10_year_132 (by decide) (by omega) (by omega) (fun c_132 => ?_) (fun c_132 => ?_)
                  · refine r_iconst (pc := 147) dX10_year_147 ?_
                    exact r_iret (pc := 148) dX10_year_148 rfl rfl ⟨by unfold yrA; rw [if_neg (show ¬ w = -1 by omega), if_neg (fun q => by omega)], Or.inr ⟨J3, rfl⟩, fun q hq => (hw1 q (by omega) (by omega) (by omega) (by omega)).trans (hfr q hq), hw3, hpl⟩
                  · refine r_aload_n (pc := 135) 1 dX10_year_135 rfl rfl ?_
                    refine r_getR (pc := 136) (b := 150) dX10_year_136 fl_X10_60 rfl hX.k hX.r10 ?_
                    refine r_getR (pc := 139) (b := 151) dX10_year_139 fl_X10_236 rfl hX.o10.k hX.o10.r0 ?_
                    refine r_iload_n (pc := 142) 2 dX10_year_142 rfl rfl ?_
                    refine r_ialdv (pc := 143) (w := ((yWK K n w.toNat : Nat) : Int)) dX10_year_143 hX.o10.a0 (by omega) (by decide) (hpl.2 w.toNat (by omega)) ?_
                    refine r_goto (pc := 144) (tgt := 148) dX10_year_144 (by decide) ?_
                    exact r_iret (pc := 148) dX10_year_148 rfl rfl ⟨by unfold yrA; rw [if_neg (show ¬ w = -1 by omega), if_pos (show 0 ≤ w ∧ w < (((yDK K n) : Nat) : Int) from ⟨by omega, by omega⟩)], Or.inr ⟨J3, rfl⟩, fun q hq => (hw1 q (by omega) (by omega) (by omega) (by omega)).trans (hfr q hq), hw3, hpl⟩
              · refine r_aload_n (pc := 98) 1 dX10_year_98 rfl rfl ?_
                refine r_getR (pc := 99) (b := 150) dX10_year_99 fl_X10_60 rfl hX.k hX.r10 ?_
                refine r_getIv (pc := 102) (x := (((yDK K n) : Nat) : Int)) dX10_year_102 fl_X10_233 rfl hX.o10.k (hpl.1) ?_
                refine r_if_le (pc := 105) (tgt := 118) dX10_year_105 (by decide) (by omega) (fun c_105 => ?_) (fun c_105 => ?_)
                · refine r_iconst (pc := 118) dX10_year_118 ?_
                  exact r_iret (pc := 119) dX10_year_119 rfl rfl ⟨by unfold yrA; rw [if_pos (show w = -1 by omega), if_neg (by omega)], Or.inr ⟨J3, rfl⟩, fun q hq => (hw1 q (by omega) (by omega) (by omega) (by omega)).trans (hfr q hq), hw3, hpl⟩
                · refine r_aload_n (pc := 108) 1 dX10_year_108 rfl rfl ?_
                  refine r_getR (pc := 109) (b := 150) dX10_year_109 fl_X10_60 rfl hX.k hX.r10 ?_
                  refine r_getIv (pc := 112) (x := (((yDK K n) : Nat) : Int)) dX10_year_112 fl_X10_233 rfl hX.o10.k (hpl.1) ?_
                  refine r_goto (pc := 115) (tgt := 119) dX10_year_115 (by decide) ?_
                  exact r_iret (pc := 119) dX10_year_119 rfl rfl ⟨by unfold yrA; rw [if_pos (show w = -1 by omega), if_pos (by omega)], Or.inr ⟨J3, rfl⟩, fun q hq => (hw1 q (by omega) (by omega) (by omega) (by omega)).trans (hfr q hq), hw3, hpl⟩
            · replace c_50 := b01_nz c_50
              have hnw : 0 < t → ¬ hdF (famK K n) n t (2 ^ n - 1) = true := fun h => by rcases hbb.mp c_50 with q | q; exact absurd q.1 (by omega); exact q.2.1
              have h80 : f1 150 8 = 0 := by rw [h8, if_neg (fun h => hnw h.1 h.2)]
              refine r_aload_n (pc := 53) 1 dX10_year_53 rfl rfl ?_
              refine r_iload_n (pc := 54) 0 dX10_year_54 rfl rfl ?_
              refine r_callV (pc := 55) (As := [(.int (iI (((t : Nat) : Int))))]) (S := []) dX10_year_55 cv_X10_220 hX.k rfl (Nat.le_of_ble_eq_true rfl) (x_layOutPaperDay (g := (gwJ (cpR g 68 78 6) J1)) (K := (KD K n t)) (n := n) (i := ((t : Nat) : Int)) l z (d + 3) hX1.L hBi (KD_ok hO hn8 t) (by omega) (by omega) hni (by omega) (fun h => hPi (by omega))) (Nat.zero_le _) (Nat.zero_le _) (fun r_55 g_55 f_55 q_55 => ?_)
              obtain ⟨rfl, rfl, hl1, hl2⟩ := q_55
              refine r_aload_n (pc := 58) 1 dX10_year_58 rfl rfl ?_
              refine r_getR (pc := 59) (b := 150) dX10_year_59 fl_X10_60 rfl hX.k hX.r10 ?_
              refine r_aload_n (pc := 62) 1 dX10_year_62 rfl rfl ?_
              refine r_getR (pc := 63) (b := 123) dX10_year_63 fl_X10_41 rfl hX.k hX.r6 ?_
              refine r_callV (pc := 66) (As := [(.ref 123)]) (S := []) dX10_year_66 cv_X10_223 hX.o10.k rfl (Nat.le_of_ble_eq_true rfl) (x_takeDay (p := 150) (n := n) (tk := t) (U := hdF (famK K n) n t) (J := J1) l z (d + 5) hX1.o10 hX1.o6 hl2 (KD_ok hO hn8 t).dz (KD_ok hO hn8 t).lp ⟨(bkK_r (o := 0) (KD_ok hO hn8 t) (by omega) (by decide)).2, (bkK_r (o := 1) (KD_ok hO hn8 t) (by omega) (by decide)).2⟩ (by rw [hl1 150 (by omega)]; exact h10) (by rw [hl1 150 (by omega)]; exact h11) (by rw [hl1 150 (by omega)]; exact h9) (by omega) (by rw [hl1 150 (by omega)]; exact h80) (fun s hs => by rw [hl1 155 (by omega)]; exact h15 s hs)) (Nat.zero_le _) (Nat.zero_le _) (fun r_66 g_66 f_66 q_66 => ?_)
              obtain ⟨rfl, J2, rfl, hj1, hj2, ht1, ht2, ht3, ht4, ht5, bb2, ht6, ht7⟩ := q_66
              have hu5 : f_66 150 8 = (if hdF (famK K n) n (t + 1) (2 ^ n - 1) = true then ((t + 1 : Nat) : Int) else 0) := ht5
              have hu4 : ∀ s, s < 2 ^ n → f_66 155 s = fI (hdF (famK K n) n (t + 1)) s := ht4
              have hu7 : bb2 = true ↔ (¬ hdF (famK K n) n (t + 1) (2 ^ n - 1) = true ∧ ∃ x, x < 256 ∧ famK K n t x = true) := ht7
              have hu2 : ∀ x, x < 256 → fmB J2 152 t x = famK K n t x := hj2
              clear ht5 ht4 ht7 hj2
              refine r_aload_n (pc := 69) 1 dX10_year_69 rfl rfl ?_
              refine r_getR (pc := 70) (b := 123) dX10_year_70 fl_X10_41 rfl hX.k hX.r6 ?_
              refine r_aload_n (pc := 73) 1 dX10_year_73 rfl rfl ?_
              refine r_getR (pc := 74) (b := 75) dX10_year_74 fl_X10_16 rfl hX.k hX.r1 ?_
              refine r_callV (pc := 77) (As := [(.ref 75)]) (S := []) dX10_year_77 cv_X10_227 hX.o6.k rfl (Nat.le_of_ble_eq_true rfl) (x_passOn (g := (gwJ (cpR g 68 78 6) J2)) (y := 123) (b := 75) (K := (KD K n t)) (n := n) l z (d + 7) hX1.o6 hX1.o1 (BK.mem (g := (gwJ (cpR g 68 78 6) J2)) hBi (fun q hq => (ht1 q (by omega) (by omega) (by omega)).trans (hl1 q (by omega)))) (KD_ok hO hn8 t) (DYo.mv hl2 (fun q q1 q2 => ht1 q (by omega) (by omega) (by omega))) (by omega) (by omega)) (Nat.zero_le _) (Nat.zero_le _) (fun r_77 g_77 f_77 q_77 => ?_)
              obtain ⟨rfl, rfl, hp1, hp2⟩ := q_77
              refine r_iincv (pc := 80) (y := ((t + 1 : Nat) : Int)) (L2 := [(2, (.int (iI (((t + 1 : Nat) : Int))))), (0, (.ref 64)), (1, (.int (iI (w))))]) 0 dX10_year_80 rfl (by omega) (by decide) rfl ?_
              refine r_goto (pc := 83) (tgt := 37) dX10_year_83 (by decide) ?_
              refine r_sub (L2 := [(2, (.int (iI (((t + 1 : Nat) : Int))))), (0, (.ref 64)), (1, (.int (iI (w))))]) [0, 1, 2] rfl ?_
              have hlt1 : 30 - (t + 1) < m := by clear hu7 hbb h8 hu5; omega
              have hlt2 : t + 1 ≤ 30 := by clear hu7 hbb h8 hu5; omega
              exact ih (30 - (t + 1)) hlt1 (t + 1) rfl hlt2 f_77 J2 (fun q => by rcases hbb.mp c_50 with w | w; omega; exact absurd (hnz q) (by omega)) hp2 (fun _ hd => PDs.nx (PDs.mv (DYo.pds hl2) (fun q q1 q2 => (hp1 q (by omega)).trans (ht1 q (by omega) (by omega) (by omega)))) (KD_ok hO hn8 t) hn8 ((nDy_nx (KD_ok hO hn8 t)).mp hd)) (fun q hq => (hp1 q (by omega)).trans ((ht1 q (by omega) (by omega) (by omega)).trans ((hl1 q (by omega)).trans (hfr q hq)))) (by rw [hp1 150 (by omega), ht3 10 (by decide) (by decide) (by decide), hl1 150 (by omega)]; exact h10) (by rw [hp1 150 (by omega), ht3 11 (by decide) (by decide) (by decide), hl1 150 (by omega)]; exact h11) (by rw [hp1 150 (by omega)]; exact ht2) (fun s hs => by rw [hp1 155 (by omega)]; exact hu4 s hs) (fun d hd x hx => by
                rcases Nat.lt_succ_iff_lt_or_eq.mp hd with h | h
                · rw [← hfam d h x hx]; unfold fmB; exact congrArg (fun v => lB v (x % 64)) (hj1 152 (4 * d + x / 64) (by omega) (by omega))
                · subst h; exact hu2 x hx) (fun q h1 h2 => by
                rcases Nat.lt_succ_iff_lt_or_eq.mp h2 with h | h
                · exact hno q h1 h
                · subst h; exact hnw h1) (by
                rw [hp1 150 (by omega), hu5]
                by_cases e : hdF (famK K n) n (t + 1) (2 ^ n - 1) = true
                · rw [if_pos e, if_pos ⟨by omega, e⟩]
                · rw [if_neg e, if_neg (fun h => e h.2)]) bb2 (by rw [hp1 150 (by omega)]; exact ht6) (by
                rw [hu7]
                constructor
                · intro h; exact Or.inr ⟨by omega, h.1, by rw [show t + 1 - 1 = t by omega]; exact h.2⟩
                · rintro (h | h)
                  · exact absurd h.1 (by omega)
                  · exact ⟨h.2.1, by have := h.2.2; rw [show t + 1 - 1 = t by omega] at this; exact this⟩)
      refine r_sub (L2 := [(2, (.int (iI (((0 : Nat) : Int))))), (0, (.ref 64)), (1, (.int (iI (w))))]) [0, 1, 2] rfl ?_
      exact loop 30 0 (by omega) (by omega) _ _ (fun _ => rfl) hB1 (fun h => absurd h (by omega)) (fun q hq => (cpB_n (by omega)).trans (hb1 q (by omega) (by omega))) ((congrFun (cpB_n (by omega)) _).trans hb2) ((congrFun (cpB_n (by omega)) _).trans hb3) ((congrFun (cpB_n (by omega)) _).trans hb5) (fun s hs => (congrFun (cpB_n (by omega)) _).trans (hb7 s (by omega))) (fun d hd => absurd hd (by omega)) (fun q h1 h2 => absurd h2 (by omega)) ((congrFun (cpB_n (by omega)) _).trans (hb4.trans (by rw [if_neg (by omega)]))) (decide (0 < n)) ((congrFun (cpB_n (by omega)) _).trans (hb6.trans (by unfold b01; simp))) (by rw [decide_eq_true_iff]; constructor; (intro h; exact Or.inl ⟨rfl, h⟩); (rintro (h | h); exact h.2; exact absurd h.1 (by omega)))
  · refine PM.of (by decide +kernel) (Nat.le_of_ble_eq_true rfl) ?_
    refine r_aload_n (pc := 0) 0 dX10_year_0 rfl rfl ?_
    refine r_getR (pc := 1) (b := 150) dX10_year_1 fl_X10_60 rfl hX.k hX.r10 ?_
    refine r_getIv (pc := 4) (x := 1) dX10_year_4 fl_X10_207 rfl hX.o10.k (hkn.1) ?_
    refine r_if_ne (pc := 7) (tgt := 93) dX10_year_7 (by decide) (by omega) (fun c_7 => ?_) (fun c_7 => ?_)
    · have hDr := yD_r (famK K n) n
      have hDr2 : (yDK K n) ≤ 30 := hDr
      refine r_iload_n (pc := 93) 1 dX10_year_93 rfl rfl ?_
      refine r_iconst (pc := 94) dX10_year_94 ?_
      refine r_icmp_ne (pc := 95) (tgt := 120) dX10_year_95 (by decide) (by omega) (by omega) (fun c_95 => ?_) (fun c_95 => ?_)
      · refine r_iload_n (pc := 120) 1 dX10_year_120 rfl rfl ?_
        refine r_if_lt (pc := 121) (tgt := 147) dX10_year_121 (by decide) (by omega) (fun c_121 => ?_) (fun c_121 => ?_)
        · refine r_iconst (pc := 147) dX10_year_147 ?_
          exact r_iret (pc := 148) dX10_year_148 rfl rfl ⟨by unfold yrA; rw [if_neg (show ¬ w = -1 by omega), if_neg (fun q => by omega)], Or.inl rfl, fun _ _ => rfl, hkn.1, hkn.2⟩
        · refine r_iload_n (pc := 124) 1 dX10_year_124 rfl rfl ?_
          refine r_aload_n (pc := 125) 0 dX10_year_125 rfl rfl ?_
          refine r_getR (pc := 126) (b := 150) dX10_year_126 fl_X10_60 rfl hX.k hX.r10 ?_
          refine r_getIv (pc := 129) (x := (((yDK K n) : Nat) : Int)) dX10_year_129 fl_X10_233 rfl hX.o10.k (hkn.2.1) ?_
          refine r_icmp_ge (pc := 132) (tgt := 147) dX10_year_132 (by decide) (by omega) (by omega) (fun c_132 => ?_) (fun c_132 => ?_)
          · refine r_iconst (pc := 147) dX10_year_147 ?_
            exact r_iret (pc := 148) dX10_year_148 rfl rfl ⟨by unfold yrA; rw [if_neg (show ¬ w = -1 by omega), if_neg (fun q => by omega)], Or.inl rfl, fun _ _ => rfl, hkn.1, hkn.2⟩
          · refine r_aload_n (pc := 135) 0 dX10_year_135 rfl rfl ?_
            refine r_getR (pc := 136) (b := 150) dX10_year_136 fl_X10_60 rfl hX.k hX.r10 ?_
            refine r_getR (pc := 139) (b := 151) dX10_year_139 fl_X10_236 rfl hX.o10.k hX.o10.r0 ?_
            refine r_iload_n (pc := 142) 1 dX10_year_142 rfl rfl ?_
            refine r_ialdv (pc := 143) (w := ((yWK K n w.toNat : Nat) : Int)) dX10_year_143 hX.o10.a0 (by omega) (by decide) (hkn.2.2 w.toNat (by omega)) ?_
            refine r_goto (pc := 144) (tgt := 148) dX10_year_144 (by decide) ?_
            exact r_iret (pc := 148) dX10_year_148 rfl rfl ⟨by unfold yrA; rw [if_neg (show ¬ w = -1 by omega), if_pos (show 0 ≤ w ∧ w < (((yDK K n) : Nat) : Int) from ⟨by omega, by omega⟩)], Or.inl rfl, fun _ _ => rfl, hkn.1, hkn.2⟩
      · refine r_aload_n (pc := 98) 0 dX10_year_98 rfl rfl ?_
        refine r_getR (pc := 99) (b := 150) dX10_year_99 fl_X10_60 rfl hX.k hX.r10 ?_
        refine r_getIv (pc := 102) (x := (((yDK K n) : Nat) : Int)) dX10_year_102 fl_X10_233 rfl hX.o10.k (hkn.2.1) ?_
        refine r_if_le (pc := 105) (tgt := 118) dX10_year_105 (by decide) (by omega) (fun c_105 => ?_) (fun c_105 => ?_)
        · refine r_iconst (pc := 118) dX10_year_118 ?_
          exact r_iret (pc := 119) dX10_year_119 rfl rfl ⟨by unfold yrA; rw [if_pos (show w = -1 by omega), if_neg (by omega)], Or.inl rfl, fun _ _ => rfl, hkn.1, hkn.2⟩
        · refine r_aload_n (pc := 108) 0 dX10_year_108 rfl rfl ?_
          refine r_getR (pc := 109) (b := 150) dX10_year_109 fl_X10_60 rfl hX.k hX.r10 ?_
          refine r_getIv (pc := 112) (x := (((yDK K n) : Nat) : Int)) dX10_year_112 fl_X10_233 rfl hX.o10.k (hkn.2.1) ?_
          refine r_goto (pc := 115) (tgt := 119) dX10_year_115 (by decide) ?_
          exact r_iret (pc := 119) dX10_year_119 rfl rfl ⟨by unfold yrA; rw [if_pos (show w = -1 by omega), if_pos (by omega)], Or.inl rfl, fun _ _ => rfl, hkn.1, hkn.2⟩
    · exact absurd c_7 (by decide)

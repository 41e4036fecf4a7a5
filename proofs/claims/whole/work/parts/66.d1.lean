/-- a set as bits: who of 0 .. n - 1 is in P -/
def wmk (P : Nat → Bool) : Nat → Nat
  | 0 => 0
  | k + 1 => if P k = true then wmk P k ||| 2 ^ k else wmk P k
theorem wmk_lt (P : Nat → Bool) : ∀ n, wmk P n < 2 ^ n
  | 0 => by simp [wmk]
  | n + 1 => by
    have h := wmk_lt P n
    have h2 : 2 ^ n < 2 ^ (n + 1) := Nat.pow_lt_pow_right (by decide) (by omega)
    unfold wmk
    split
    · exact Nat.or_lt_two_pow (by omega) h2
    · omega
theorem wmk_8 (P : Nat → Bool) {n : Nat} (h : n ≤ 8) : wmk P n < 256 := by
  have h1 := Nat.pow_le_pow_right (n := 2) (by decide) h
  have h2 := wmk_lt P n
  omega
theorem wmk_bit (P : Nat → Bool) : ∀ n i, (wmk P n).testBit i = (decide (i < n) && P i)
  | 0, i => by simp [wmk]
  | n + 1, i => by
    have h := wmk_bit P n i
    unfold wmk
    by_cases hi : i = n
    · subst hi
      split
      · rename_i hp
        rw [Nat.testBit_or, Nat.testBit_two_pow_self, hp]; simp
      · rename_i hp
        rw [h]; simp [Bool.eq_false_iff.mpr hp]
    · have e1 : decide (i < n + 1) = decide (i < n) := by
        by_cases h1 : i < n
        · rw [decide_eq_true h1, decide_eq_true (by omega)]
        · rw [decide_eq_false h1, decide_eq_false (by omega)]
      rw [e1]
      split
      · rw [Nat.testBit_or, h, Nat.testBit_two_pow_of_ne (Ne.symm hi)]; simp
      · exact h
theorem wmk_t {P : Nat → Bool} {k : Nat} (h : P k = true) : wmk P (k + 1) = wmk P k ||| 2 ^ k := by rw [wmk, if_pos h]
theorem wmk_f {P : Nat → Bool} {k : Nat} (h : ¬ P k = true) : wmk P (k + 1) = wmk P k := by rw [wmk, if_neg h]
theorem wantK_r {K : Nat → Int} {D M day had : Int} {c : Nat} (hO : KO K D M) (hc : c < 8) : 0 ≤ wantK K day had c ∧ wantK K day had c ≤ 40 := by
  unfold wantK
  split
  · exact (hO.f hc).1
  · exact wantsL_r (hO.f hc).1 _
/-- the mask of those for whom c waits -/
def wtK (K : Nat → Int) (day : Int) (hd : Nat → Int) (n c : Nat) : Nat := wmk (fun q => decide (q ≠ c) && waitK K day (hd c) c q) n
/-- what asksAll leaves, for the first i customers -/
def AaI (f f1 : Fm) (K : Nat → Int) (day : Int) (hd : Nat → Int) (n i : Nat) : Prop := (∀ a, a ≠ 164 → a ≠ 175 → a ≠ 176 → a ≠ 177 → f1 a = f a) ∧ (∀ q, q ≠ 18 → q ≠ 19 → q ≠ 20 → q ≠ 22 → q ≠ 23 → f1 164 q = f 164 q) ∧ (∃ bk : Bool, f1 164 20 = b01 (bk = true)) ∧ ∀ c, c < i → f1 176 c = wantK K day (hd c) c ∧ f1 177 c = ((wtK K day hd n c : Nat) : Int)

theorem m_cust (l : Launch) (z : Zv) (d : Nat) {g : Gm} {f : Fm} {v : Int} (hM : ML g) (hv : f 166 77 = v) : PM l z d mX11_customers [.ref 164] g f 0 0 (rdQ (.int (iI v)) g f) := by
  refine PM.mono (m_customers l z d hM) (fun r g' f' hq => ?_)
  obtain ⟨h1, h2, h3⟩ := hq
  exact ⟨by rw [h1, hv], h2, h3⟩

set_option maxRecDepth 100000 in
set_option maxHeartbeats 4000000 in
theorem m_asksAll (l : Launch) (z : Zv) {g : Gm} {f : Fm} {K : Nat → Int} {D0 M0 day : Int} {hd : Nat → Int} {n : Nat} (hM : ML g) (hK : f 166 = K) (hO : KO K D0 M0) (hn : K 77 = ((n : Nat) : Int)) (hb20 : ∃ bk : Bool, f 164 20 = b01 (bk = true)) (hday : -1000000000 ≤ day ∧ day ≤ 1000000000) (hhd : ∀ c, c < n → f 179 c = hd c ∧ -1000000000 ≤ hd c ∧ hd c ≤ 1000000000) {D : Nat} (hD : 270 ≤ D) : PM l z D mX11_asksAll [.ref 164, .int (iI day)] g f 0 0 (fun r g' f' => r = none ∧ g = g' ∧ AaI f f' K day hd n n) := by
  obtain ⟨d, rfl⟩ : ∃ d, D = d + 8 := ⟨D - 8, by omega⟩
  have hn8 : n ≤ 8 := by have := hO.n; omega
  refine PM.of (by decide +kernel) (Nat.le_of_ble_eq_true rfl) ?_
  have outer : ∀ m i : Nat, m = n - i → i ≤ n → ∀ f1 : Fm, AaI f f1 K day hd n i → PW l z (d + 8) mX11_asksAll 0 0 (fun r g' f' => r = none ∧ g = g' ∧ AaI f f' K day hd n n) 2 [(2, (.int (iI (((i : Nat) : Int))))), (0, (.ref 164)), (1, (.int (iI (day))))] [] g f1 0 0 := by
    intro m
    induction m using Nat.strongRecOn with
    | _ m ihO =>
      intro i hm hi f1 hI
      have inner : i < n → ∀ m2 o : Nat, m2 = n - o → o ≤ n → ∀ f2 : Fm, (∀ a, a ≠ 164 → a ≠ 175 → a ≠ 176 → a ≠ 177 → f2 a = f a) → (∀ q, q ≠ 18 → q ≠ 19 → q ≠ 20 → q ≠ 22 → q ≠ 23 → f2 164 q = f 164 q) → (∃ bk : Bool, f2 164 20 = b01 (bk = true)) → (∀ c, c < i → f2 176 c = wantK K day (hd c) c ∧ f2 177 c = ((wtK K day hd n c : Nat) : Int)) → f2 176 i = wantK K day (hd i) i → f2 177 i = ((wmk (fun q => decide (q ≠ i) && waitK K day (hd i) i q) o : Nat) : Int) → PW l z (d + 8) mX11_asksAll 0 0 (fun r g' f' => r = none ∧ g = g' ∧ AaI f f' K day hd n n) 42 [(3, (.int (iI (((o : Nat) : Int))))), (2, (.int (iI (((i : Nat) : Int))))), (0, (.ref 164)), (1, (.int (iI (day))))] [] g f2 0 0 := by
        intro hin m2
        induction m2 using Nat.strongRecOn with
        | _ m2 ihI =>
          intro o hm2 ho f2 hJ1 hJ2 hJ3 hJ4 hJ4b hJ5
          refine r_iload_n (pc := 42) 0 dX11_asksAll_42 rfl rfl ?_
          refine r_aload_n (pc := 43) 2 dX11_asksAll_43 rfl rfl ?_
          refine r_callV (pc := 44) (As := []) (S := [(.int (iI (((o : Nat) : Int))))]) dX11_asksAll_44 cv_X11_121 hM.k rfl (Nat.le_of_ble_eq_true rfl) (m_cust (v := ((n : Nat) : Int)) l z _ hM (by rw [hJ1 166 (by decide) (by decide) (by decide) (by decide), hK]; exact hn)) (Nat.zero_le _) (Nat.zero_le _) (fun r_44 g_44 f_44 q_44 => ?_)
          obtain ⟨rfl, rfl, rfl⟩ := q_44
          refine r_icmp_ge (pc := 47) (tgt := 100) dX11_asksAll_47 (by decide) (by omega) (by omega) (fun c_47 => ?_) (fun c_47 => ?_)
          · refine r_iincv (pc := 100) (y := ((i + 1 : Nat) : Int)) (L2 := [(2, (.int (iI (((i + 1 : Nat) : Int))))), (3, (.int (iI (((o : Nat) : Int))))), (0, (.ref 164)), (1, (.int (iI (day))))]) 1 dX11_asksAll_100 rfl (by omega) (by decide) rfl ?_
            refine r_goto (pc := 103) (tgt := 2) dX11_asksAll_103 (by decide) ?_
            refine r_sub (L2 := [(2, (.int (iI (((i + 1 : Nat) : Int))))), (0, (.ref 164)), (1, (.int (iI (day))))]) [0, 2, 3] rfl ?_
            have hon : o = n := by omega
            exact ihO (n - (i + 1)) (by omega) (i + 1) (by omega) (by omega) _ ⟨hJ1, hJ2, hJ3, fun c hc => by rcases (show c < i ∨ c = i by omega) with q | rfl; exact hJ4 c q; exact ⟨hJ4b, by rw [hJ5, hon]; rfl⟩⟩
          · refine r_iload_n (pc := 50) 0 dX11_asksAll_50 rfl rfl ?_
            refine r_iload_n (pc := 51) 1 dX11_asksAll_51 rfl rfl ?_
            refine r_icmp_ne (pc := 52) (tgt := 58) dX11_asksAll_52 (by decide) (by omega) (by omega) (fun c_52 => ?_) (fun c_52 => ?_)
            · refine r_aload_n (pc := 58) 2 dX11_asksAll_58 rfl rfl ?_
              refine r_iload_n (pc := 59) 1 dX11_asksAll_59 rfl rfl ?_
              refine r_iload_n (pc := 60) 3 dX11_asksAll_60 rfl rfl ?_
              refine r_aload_n (pc := 61) 2 dX11_asksAll_61 rfl rfl ?_
              refine r_getR (pc := 62) (b := 179) dX11_asksAll_62 fl_X11_61 rfl hM.k hM.r27 ?_
              refine r_iload_n (pc := 65) 1 dX11_asksAll_65 rfl rfl ?_
              refine r_ialdv (pc := 66) (w := hd i) dX11_asksAll_66 hM.a27 (by omega) (by decide) ((congrFun (hJ1 179 (by decide) (by decide) (by decide) (by decide)) _).trans (hhd _ (by omega)).1) ?_
              refine r_iload_n (pc := 67) 0 dX11_asksAll_67 rfl rfl ?_
              refine r_callV (pc := 68) (As := [(.int (iI (((i : Nat) : Int)))), (.int (iI (day))), (.int (iI (hd i))), (.int (iI (((o : Nat) : Int))))]) (S := []) dX11_asksAll_68 cv_X11_280 hM.k rfl (Nat.le_of_ble_eq_true rfl) (m_asksOf (K := K) (c := i) (day := day) (had := hd i) (oth := ((o : Nat) : Int)) l z hM (by rw [hJ1 166 (by decide) (by decide) (by decide) (by decide)]; exact hK) hO hJ3 (by omega) hday (hhd i (by omega)).2 (by omega) (by omega)) (Nat.zero_le _) (Nat.zero_le _) (fun r_68 g_68 f_68 q_68 => ?_)
              obtain ⟨rfl, rfl, hP_68⟩ := q_68
              refine r_aload_n (pc := 71) 2 dX11_asksAll_71 rfl rfl ?_
              refine r_getR (pc := 72) (b := 177) dX11_asksAll_72 fl_X11_55 rfl hM.k hM.r25 ?_
              refine r_iload_n (pc := 75) 1 dX11_asksAll_75 rfl rfl ?_
              refine r_dup2 (pc := 76) dX11_asksAll_76 rfl rfl ?_
              refine r_ialdv (pc := 77) (w := ((wmk (fun q => decide (q ≠ i) && waitK K day (hd i) i q) o : Nat) : Int)) dX11_asksAll_77 hM.a25 (by omega) (by decide) (by rw [hP_68.1 177 (by decide) (by decide)]; exact hJ5) ?_
              refine r_aload_n (pc := 78) 2 dX11_asksAll_78 rfl rfl ?_
              refine r_getIv (pc := 79) (x := b01 (waitK K day (hd i) i o = true)) dX11_asksAll_79 fl_X11_275 rfl hM.k (hP_68.2.2.2.2) ?_
              refine r_if_eq (pc := 82) (tgt := 91) dX11_asksAll_82 (by decide) (b01_r) (fun c_82 => ?_) (fun c_82 => ?_)
              · replace c_82 := b01_z c_82
                refine r_iconst (pc := 91) dX11_asksAll_91 ?_
                refine r_ior (pc := 92) (w := (((wmk (fun q => decide (q ≠ i) && waitK K day (hd i) i q) o) ||| 0 : Nat) : Int)) dX11_asksAll_92  (iI_or _ _) ?_
                refine r_iastv (pc := 93) (i := i) dX11_asksAll_93 hM.a25 (by omega) (by decide) rfl ?_
                refine r_iincv (pc := 94) (y := ((o + 1 : Nat) : Int)) (L2 := [(3, (.int (iI (((o + 1 : Nat) : Int))))), (2, (.int (iI (((i : Nat) : Int))))), (0, (.ref 164)), (1, (.int (iI (day))))]) 0 dX11_asksAll_94 rfl (by omega) (by decide) rfl ?_
                refine r_goto (pc := 97) (tgt := 42) dX11_asksAll_97 (by decide) ?_
                refine r_sub (L2 := [(3, (.int (iI (((o + 1 : Nat) : Int))))), (2, (.int (iI (((i : Nat) : Int))))), (0, (.ref 164)), (1, (.int (iI (day))))]) [0, 1, 2, 3] rfl ?_
                exact ihI (n - (o + 1)) (by omega) (o + 1) (by omega) (by omega) _ (fun a h1 h2 h3 h4 => by rw [stF_n _ _ _ h4, hP_68.1 a h1 h2]; exact hJ1 a h1 h2 h3 h4) (fun q h1 h2 h3 h4 h5 => by rw [stF_n _ _ _ (by decide), hP_68.2.1 q h1 h2 h3 h4 h5]; exact hJ2 q h1 h2 h3 h4 h5) (by obtain ⟨bk, hbk⟩ := hP_68.2.2.1; exact ⟨bk, rdn (by decide) hbk⟩) (fun c hc => ⟨rdn (by decide) (by rw [hP_68.1 176 (by decide) (by decide)]; exact (hJ4 c hc).1), rdi (by omega) (by rw [hP_68.1 177 (by decide) (by decide)]; exact (hJ4 c hc).2)⟩) (rdn (by decide) (by rw [hP_68.1 176 (by decide) (by decide)]; exact hJ4b)) (by rw [stF_s, wmk_f (by simp [c_82])]; simp)
              · replace c_82 := b01_nz c_82
                refine r_iconst (pc := 85) dX11_asksAll_85 ?_
                refine r_iload_n (pc := 86) 0 dX11_asksAll_86 rfl rfl ?_
                refine r_ishl (pc := 87) (w := ((2 ^ o : Nat) : Int)) dX11_asksAll_87  (iI_shl1 (by omega)) ?_
                refine r_goto (pc := 88) (tgt := 92) dX11_asksAll_88 (by decide) ?_
                refine r_ior (pc := 92) (w := (((wmk (fun q => decide (q ≠ i) && waitK K day (hd i) i q) o) ||| (2 ^ o) : Nat) : Int)) dX11_asksAll_92  (iI_or _ _) ?_
                refine r_iastv (pc := 93) (i := i) dX11_asksAll_93 hM.a25 (by omega) (by decide) rfl ?_
                refine r_iincv (pc := 94) (y := ((o + 1 : Nat) : Int)) (L2 := [(3, (.int (iI (((o + 1 : Nat) : Int))))), (2, (.int (iI (((i : Nat) : Int))))), (0, (.ref 164)), (1, (.int (iI (day))))]) 0 dX11_asksAll_94 rfl (by omega) (by decide) rfl ?_
                refine r_goto (pc := 97) (tgt := 42) dX11_asksAll_97 (by decide) ?_
                refine r_sub (L2 := [(3, (.int (iI (((o + 1 : Nat) : Int))))), (2, (.int (iI (((i : Nat) : Int))))), (0, (.ref 164)), (1, (.int (iI (day))))]) [0, 1, 2, 3] rfl ?_
                exact ihI (n - (o + 1)) (by omega) (o + 1) (by omega) (by omega) _ (fun a h1 h2 h3 h4 => by rw [stF_n _ _ _ h4, hP_68.1 a h1 h2]; exact hJ1 a h1 h2 h3 h4) (fun q h1 h2 h3 h4 h5 => by rw [stF_n _ _ _ (by decide), hP_68.2.1 q h1 h2 h3 h4 h5]; exact hJ2 q h1 h2 h3 h4 h5) (by obtain ⟨bk, hbk⟩ := hP_68.2.2.1; exact ⟨bk, rdn (by decide) hbk⟩) (fun c hc => ⟨rdn (by decide) (by rw [hP_68.1 176 (by decide) (by decide)]; exact (hJ4 c hc).1), rdi (by omega) (by rw [hP_68.1 177 (by decide) (by decide)]; exact (hJ4 c hc).2)⟩) (rdn (by decide) (by rw [hP_68.1 176 (by decide) (by decide)]; exact hJ4b)) (by rw [stF_s, wmk_t (by simp [c_82]; omega)])
            · refine r_goto (pc := 55) (tgt := 94) dX11_asksAll_55 (by decide) ?_
              refine r_iincv (pc := 94) (y := ((o + 1 : Nat) : Int)) (L2 := [(3, (.int (iI (((o + 1 : Nat) : Int))))), (2, (.int (iI (((i : Nat) : Int))))), (0, (.ref 164)), (1, (.int (iI (day))))]) 0 dX11_asksAll_94 rfl (by omega) (by decide) rfl ?_
              refine r_goto (pc := 97) (tgt := 42) dX11_asksAll_97 (by decide) ?_
              refine r_sub (L2 := [(3, (.int (iI (((o + 1 : Nat) : Int))))), (2, (.int (iI (((i : Nat) : Int))))), (0, (.ref 164)), (1, (.int (iI (day))))]) [0, 1, 2, 3] rfl ?_
              exact ihI (n - (o + 1)) (by omega) (o + 1) (by omega) (by omega) _ hJ1 hJ2 hJ3 hJ4 hJ4b (by rw [hJ5, wmk_f (by simp; omega)])
      refine r_iload_n (pc := 2) 0 dX11_asksAll_2 rfl rfl ?_
      refine r_aload_n (pc := 3) 1 dX11_asksAll_3 rfl rfl ?_
      refine r_callV (pc := 4) (As := []) (S := [(.int (iI (((i : Nat) : Int))))]) dX11_asksAll_4 cv_X11_121 hM.k rfl (Nat.le_of_ble_eq_true rfl) (m_cust (v := ((n : Nat) : Int)) l z _ hM (by rw [hI.1 166 (by decide) (by decide) (by decide) (by decide), hK]; exact hn)) (Nat.zero_le _) (Nat.zero_le _) (fun r_4 g_4 f_4 q_4 => ?_)
      obtain ⟨rfl, rfl, rfl⟩ := q_4
      refine r_icmp_ge (pc := 7) (tgt := 106) dX11_asksAll_7 (by decide) (by omega) (by omega) (fun c_7 => ?_) (fun c_7 => ?_)
      · have hin : i = n := by omega
        subst hin
        exact r_vret (pc := 106) dX11_asksAll_106 rfl ⟨rfl, rfl, hI⟩
      · refine r_aload_n (pc := 10) 1 dX11_asksAll_10 rfl rfl ?_
        refine r_iload_n (pc := 11) 0 dX11_asksAll_11 rfl rfl ?_
        refine r_iload_n (pc := 12) 2 dX11_asksAll_12 rfl rfl ?_
        refine r_aload_n (pc := 13) 1 dX11_asksAll_13 rfl rfl ?_
        refine r_getR (pc := 14) (b := 179) dX11_asksAll_14 fl_X11_61 rfl hM.k hM.r27 ?_
        refine r_iload_n (pc := 17) 0 dX11_asksAll_17 rfl rfl ?_
        refine r_ialdv (pc := 18) (w := hd i) dX11_asksAll_18 hM.a27 (by omega) (by decide) ((congrFun (hI.1 179 (by decide) (by decide) (by decide) (by decide)) _).trans (hhd _ (by omega)).1) ?_
        refine r_iconst (pc := 19) dX11_asksAll_19 ?_
        refine r_callV (pc := 20) (As := [(.int (iI (((i : Nat) : Int)))), (.int (iI (day))), (.int (iI (hd i))), (.int (iI (-1)))]) (S := []) dX11_asksAll_20 cv_X11_280 hM.k rfl (Nat.le_of_ble_eq_true rfl) (m_asksOf (K := K) (c := i) (day := day) (had := hd i) (oth := -1) l z hM (by rw [hI.1 166 (by decide) (by decide) (by decide) (by decide)]; exact hK) hO hI.2.2.1 (by omega) hday (hhd i (by omega)).2 (by omega) (by omega)) (Nat.zero_le _) (Nat.zero_le _) (fun r_20 g_20 f_20 q_20 => ?_)
        obtain ⟨rfl, rfl, hP_20⟩ := q_20
        refine r_aload_n (pc := 23) 1 dX11_asksAll_23 rfl rfl ?_
        refine r_getR (pc := 24) (b := 176) dX11_asksAll_24 fl_X11_52 rfl hM.k hM.r24 ?_
        refine r_iload_n (pc := 27) 0 dX11_asksAll_27 rfl rfl ?_
        refine r_aload_n (pc := 28) 1 dX11_asksAll_28 rfl rfl ?_
        refine r_getIv (pc := 29) (x := wantK K day (hd i) i) dX11_asksAll_29 fl_X11_272 rfl hM.k (hP_20.2.2.2.1) ?_
        refine r_iastv (pc := 32) (i := i) dX11_asksAll_32 hM.a24 (by omega) (by decide) rfl ?_
        refine r_aload_n (pc := 33) 1 dX11_asksAll_33 rfl rfl ?_
        refine r_getR (pc := 34) (b := 177) dX11_asksAll_34 fl_X11_55 rfl hM.k hM.r25 ?_
        refine r_iload_n (pc := 37) 0 dX11_asksAll_37 rfl rfl ?_
        refine r_iconst (pc := 38) dX11_asksAll_38 ?_
        refine r_iastv (pc := 39) (i := i) dX11_asksAll_39 hM.a25 (by omega) (by decide) rfl ?_
        refine r_iconst (pc := 40) dX11_asksAll_40 ?_
        refine r_istore_n (pc := 41) (L2 := [(3, (.int (iI (0)))), (2, (.int (iI (((i : Nat) : Int))))), (0, (.ref 164)), (1, (.int (iI (day))))]) dX11_asksAll_41 rfl (by decide) rfl ?_
        refine r_sub (L2 := [(3, (.int (iI (((0 : Nat) : Int))))), (2, (.int (iI (((i : Nat) : Int))))), (0, (.ref 164)), (1, (.int (iI (day))))]) [0, 1, 2, 3] rfl ?_
        exact inner (by omega) n 0 (by omega) (by omega) _ (fun a h1 h2 h3 h4 => by rw [stF_n _ _ _ h4, stF_n _ _ _ h3, hP_20.1 a h1 h2]; exact hI.1 a h1 h2 h3 h4) (fun q h1 h2 h3 h4 h5 => by rw [stF_n _ _ _ (by decide), stF_n _ _ _ (by decide), hP_20.2.1 q h1 h2 h3 h4 h5]; exact hI.2.1 q h1 h2 h3 h4 h5) (by obtain ⟨bk, hbk⟩ := hP_20.2.2.1; exact ⟨bk, rdn (by decide) (rdn (by decide) hbk)⟩) (fun c hc => ⟨rdn (by decide) (rdi (by omega) (by rw [hP_20.1 176 (by decide) (by decide)]; exact (hI.2.2.2 c hc).1)), rdi (by omega) (rdn (by decide) (by rw [hP_20.1 177 (by decide) (by decide)]; exact (hI.2.2.2 c hc).2))⟩) (rdn (by decide) (stF_s _ _ _ _)) (stF_s _ _ _ _)
  refine r_iconst (pc := 0) dX11_asksAll_0 ?_
  refine r_istore_n (pc := 1) (L2 := [(2, (.int (iI (0)))), (0, (.ref 164)), (1, (.int (iI (day))))]) dX11_asksAll_1 rfl (by decide) rfl ?_
  refine r_sub (L2 := [(2, (.int (iI (((0 : Nat) : Int))))), (0, (.ref 164)), (1, (.int (iI (day))))]) [0, 1, 2] rfl ?_
  exact outer n 0 (by omega) (by omega) f ⟨fun _ _ _ _ _ => rfl, fun _ _ _ _ _ _ => rfl, hb20, fun c hc => absurd hc (by omega)⟩

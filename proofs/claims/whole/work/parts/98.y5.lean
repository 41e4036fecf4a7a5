set_option maxRecDepth 100000 in
set_option maxHeartbeats 4000000 in
theorem x_unite (l : Launch) (z : Zv) (d : Nat) {g : Gm} {J : Nat → Nat → Int} {f : Fm} {p n : Nat} {dy : Nat} {U : Nat → Bool} (hP : YL g p) (hn8 : n ≤ 8) (h10 : f p 10 = ((n : Nat) : Int)) (h11 : f p 11 = ((2 ^ n - 1 : Nat) : Int)) (hdy : dy < 30) (hu : ∀ s, s < 2 ^ n → f (p + 5) s = fI U s) : PM l z (d + 1) mX9_unite [.ref p, .int (iI ((dy : Nat) : Int))] (gwJ g J) f 0 0 (fun r g' f' => r = none ∧ gwJ g J = g' ∧ (∀ b, b ≠ p + 5 → b ≠ p + 6 → f' b = f b) ∧ ∀ s, s < 2 ^ n → f' (p + 5) s = fI (unB n U (fmB J (p + 2) dy)) s) := by
  have hp8 := pow8 hn8
  refine PM.of (by decide +kernel) (Nat.le_of_ble_eq_true rfl) ?_
  have L3 : ∀ m s : Nat, m = 2 ^ n - s → s ≤ 2 ^ n → ∀ f3 : Fm, (∀ b, b ≠ p + 5 → b ≠ p + 6 → f3 b = f b) → (∀ q, q < 2 ^ n → f3 (p + 5) q = if q < s then fI (unB n U (fmB J (p + 2) dy)) q else cvP n (fI U) (fI (fmB J (p + 2) dy)) q) → PW l z (d + 1) mX9_unite 0 0 (fun r g' f' => r = none ∧ gwJ g J = g' ∧ (∀ b, b ≠ p + 5 → b ≠ p + 6 → f' b = f b) ∧ ∀ s, s < 2 ^ n → f' (p + 5) s = fI (unB n U (fmB J (p + 2) dy)) s) 99 [(2, (.int (iI (((s : Nat) : Int))))), (0, (.ref p)), (1, (.int (iI (((dy : Nat) : Int)))))] [] (gwJ g J) f3 0 0 := by
    intro m
    induction m using Nat.strongRecOn with
    | _ m ih_L3 =>
      intro s hm hs0 f3 hF3 hR3
      refine r_iload_n (pc := 99) 0 dX9_unite_99 rfl rfl ?_
      refine r_aload_n (pc := 100) 1 dX9_unite_100 rfl rfl ?_
      refine r_getIv (pc := 101) (x := ((2 ^ n - 1 : Nat) : Int)) dX9_unite_101 fl_X9_35 rfl hP.k ((congrFun (hF3 p (by omega) (by omega)) _).trans h11) ?_
      refine r_icmp_gt (pc := 104) (tgt := 133) dX9_unite_104 (by decide) (by omega) (by omega) (fun c_104 => ?_) (fun c_104 => ?_)
      · exact r_vret (pc := 133) dX9_unite_133 rfl ⟨rfl, rfl, hF3, fun q hq => (hR3 q hq).trans (if_pos (by omega))⟩
      · refine r_aload_n (pc := 107) 1 dX9_unite_107 rfl rfl ?_
        refine r_getR (pc := 108) (b := (p + 5)) dX9_unite_108 fl_X9_25 rfl hP.k hP.r4 ?_
        refine r_iload_n (pc := 111) 0 dX9_unite_111 rfl rfl ?_
        refine r_aload_n (pc := 112) 1 dX9_unite_112 rfl rfl ?_
        refine r_getR (pc := 113) (b := (p + 5)) dX9_unite_113 fl_X9_25 rfl hP.k hP.r4 ?_
        refine r_iload_n (pc := 116) 0 dX9_unite_116 rfl rfl ?_
        refine r_ialdv (pc := 117) (w := cvP n (fI U) (fI (fmB J (p + 2) dy)) s) dX9_unite_117 hP.a4 (by omega) (by decide) ((hR3 s (by omega)).trans (if_neg (by omega))) ?_
        refine r_if_eq (pc := 118) (tgt := 125) dX9_unite_118 (by decide) (by have := cvP_r (U := U) (V := (fmB J (p + 2) dy)) (s := s) hn8; omega) (fun c_118 => ?_) (fun c_118 => ?_)
        · refine r_iconst (pc := 125) dX9_unite_125 ?_
          refine r_iastv (pc := 126) (i := s) dX9_unite_126 hP.a4 (by omega) (by decide) rfl ?_
          refine r_iincv (pc := 127) (y := ((s + 1 : Nat) : Int)) (L2 := [(2, (.int (iI (((s + 1 : Nat) : Int))))), (0, (.ref p)), (1, (.int (iI (((dy : Nat) : Int)))))]) 0 dX9_unite_127 rfl (by omega) (by decide) rfl ?_
          refine r_goto (pc := 130) (tgt := 99) dX9_unite_130 (by decide) ?_
          refine r_sub (L2 := [(2, (.int (iI (((s + 1 : Nat) : Int))))), (0, (.ref p)), (1, (.int (iI (((dy : Nat) : Int)))))]) [0, 1, 2] rfl ?_
          exact ih_L3 (2 ^ n - (s + 1)) (by omega) (s + 1) (by omega) (by omega) _ (fun b h1 h2 => by rw [stF_n _ _ _ h1]; exact hF3 b h1 h2) (fun q hq => by
            by_cases e : q = s
            · subst e; rw [stF_s, if_pos (by omega), fI_f (fun q => (decide_eq_true_iff.mp q) (by omega))]
            · rw [stF_i _ _ _ e, hR3 q hq]
              by_cases h : q < s
              · rw [if_pos h, if_pos (by omega)]
              · rw [if_neg h, if_neg (by omega)])
        · refine r_iconst (pc := 121) dX9_unite_121 ?_
          refine r_goto (pc := 122) (tgt := 126) dX9_unite_122 (by decide) ?_
          refine r_iastv (pc := 126) (i := s) dX9_unite_126 hP.a4 (by omega) (by decide) rfl ?_
          refine r_iincv (pc := 127) (y := ((s + 1 : Nat) : Int)) (L2 := [(2, (.int (iI (((s + 1 : Nat) : Int))))), (0, (.ref p)), (1, (.int (iI (((dy : Nat) : Int)))))]) 0 dX9_unite_127 rfl (by omega) (by decide) rfl ?_
          refine r_goto (pc := 130) (tgt := 99) dX9_unite_130 (by decide) ?_
          refine r_sub (L2 := [(2, (.int (iI (((s + 1 : Nat) : Int))))), (0, (.ref p)), (1, (.int (iI (((dy : Nat) : Int)))))]) [0, 1, 2] rfl ?_
          exact ih_L3 (2 ^ n - (s + 1)) (by omega) (s + 1) (by omega) (by omega) _ (fun b h1 h2 => by rw [stF_n _ _ _ h1]; exact hF3 b h1 h2) (fun q hq => by
            by_cases e : q = s
            · subst e; rw [stF_s, if_pos (by omega), fI_t (show unB n U (fmB J (p + 2) dy) q = true from decide_eq_true (by omega))]
            · rw [stF_i _ _ _ e, hR3 q hq]
              by_cases h : q < s
              · rw [if_pos h, if_pos (by omega)]
              · rw [if_neg h, if_neg (by omega)])
  have L2 : ∀ m s : Nat, m = 2 ^ n - s → s ≤ 2 ^ n → ∀ f2 : Fm, (∀ b, b ≠ p + 5 → b ≠ p + 6 → f2 b = f b) → (∀ q, q < 2 ^ n → f2 (p + 5) q = if q < s then zT 1 (fI U) n q * zT 1 (fI (fmB J (p + 2) dy)) n q else zT 1 (fI U) n q) → (∀ q, q < 2 ^ n → f2 (p + 6) q = zT 1 (fI (fmB J (p + 2) dy)) n q) → PW l z (d + 1) mX9_unite 0 0 (fun r g' f' => r = none ∧ gwJ g J = g' ∧ (∀ b, b ≠ p + 5 → b ≠ p + 6 → f' b = f b) ∧ ∀ s, s < 2 ^ n → f' (p + 5) s = fI (unB n U (fmB J (p + 2) dy)) s) 59 [(2, (.int (iI (((s : Nat) : Int))))), (0, (.ref p)), (1, (.int (iI (((dy : Nat) : Int)))))] [] (gwJ g J) f2 0 0 := by
    intro m
    induction m using Nat.strongRecOn with
    | _ m ih_L2 =>
      intro s hm hs0 f2 hF2 hR2 hO2
      refine r_iload_n (pc := 59) 0 dX9_unite_59 rfl rfl ?_
      refine r_aload_n (pc := 60) 1 dX9_unite_60 rfl rfl ?_
      refine r_getIv (pc := 61) (x := ((2 ^ n - 1 : Nat) : Int)) dX9_unite_61 fl_X9_35 rfl hP.k ((congrFun (hF2 p (by omega) (by omega)) _).trans h11) ?_
      refine r_icmp_gt (pc := 64) (tgt := 88) dX9_unite_64 (by decide) (by omega) (by omega) (fun c_64 => ?_) (fun c_64 => ?_)
      · refine r_aload_n (pc := 88) 1 dX9_unite_88 rfl rfl ?_
        refine r_aload_n (pc := 89) 1 dX9_unite_89 rfl rfl ?_
        refine r_getR (pc := 90) (b := (p + 5)) dX9_unite_90 fl_X9_25 rfl hP.k hP.r4 ?_
        refine r_iconst (pc := 93) dX9_unite_93 ?_
        refine r_callV (pc := 94) (As := [(.ref (p + 5)), (.int (iI (-1)))]) (S := []) dX9_unite_94 cv_X9_110 hP.k rfl (Nat.le_of_ble_eq_true rfl) (x_sumOver (g := gwJ g J) (a := p + 5) (σ := -1) (u := fun t => zT 1 (fI U) n t * zT 1 (fI (fmB J (p + 2) dy)) n t) (n := n) l z _ hP hP.a4 (by omega) hn8 (by rw [hF2 p (by omega) (by omega)]; exact h10) (by rw [hF2 p (by omega) (by omega)]; exact h11) (fun t ht => (hR2 t ht).trans (if_pos (by omega)))) (Nat.zero_le _) (Nat.zero_le _) (fun r_94 g_94 f_94 q_94 => ?_)
        obtain ⟨rfl, rfl, hc1, hc2⟩ := q_94
        refine r_iconst (pc := 97) dX9_unite_97 ?_
        refine r_istore_n (pc := 98) (L2 := [(2, (.int (iI (0)))), (0, (.ref p)), (1, (.int (iI (((dy : Nat) : Int)))))]) dX9_unite_98 rfl (by decide) rfl ?_
        refine r_sub (L2 := [(2, (.int (iI (((0 : Nat) : Int))))), (0, (.ref p)), (1, (.int (iI (((dy : Nat) : Int)))))]) [0, 1, 2] rfl ?_
        exact L3 (2 ^ n) 0 (by omega) (by omega) f_94 (fun b h1 h2 => by rw [hc1 b h1]; exact hF2 b h1 h2) (fun q hq => by rw [if_neg (by omega), hc2 q hq, zT_uni _ _ hq])
      · refine r_aload_n (pc := 67) 1 dX9_unite_67 rfl rfl ?_
        refine r_getR (pc := 68) (b := (p + 5)) dX9_unite_68 fl_X9_25 rfl hP.k hP.r4 ?_
        refine r_iload_n (pc := 71) 0 dX9_unite_71 rfl rfl ?_
        refine r_dup2 (pc := 72) dX9_unite_72 rfl rfl ?_
        refine r_ialdv (pc := 73) (w := zT 1 (fI U) n s) dX9_unite_73 hP.a4 (by omega) (by decide) ((hR2 s (by omega)).trans (if_neg (by omega))) ?_
        refine r_aload_n (pc := 74) 1 dX9_unite_74 rfl rfl ?_
        refine r_getR (pc := 75) (b := (p + 6)) dX9_unite_75 fl_X9_28 rfl hP.k hP.r5 ?_
        refine r_iload_n (pc := 78) 0 dX9_unite_78 rfl rfl ?_
        refine r_ialdv (pc := 79) (w := zT 1 (fI (fmB J (p + 2) dy)) n s) dX9_unite_79 hP.a5 (by omega) (by decide) (hO2 s (by omega)) ?_
        refine r_imul (pc := 80) dX9_unite_80 ?_
        refine r_iastv (pc := 81) (i := s) dX9_unite_81 hP.a4 (by omega) (by decide) rfl ?_
        refine r_iincv (pc := 82) (y := ((s + 1 : Nat) : Int)) (L2 := [(2, (.int (iI (((s + 1 : Nat) : Int))))), (0, (.ref p)), (1, (.int (iI (((dy : Nat) : Int)))))]) 0 dX9_unite_82 rfl (by omega) (by decide) rfl ?_
        refine r_goto (pc := 85) (tgt := 59) dX9_unite_85 (by decide) ?_
        refine r_sub (L2 := [(2, (.int (iI (((s + 1 : Nat) : Int))))), (0, (.ref p)), (1, (.int (iI (((dy : Nat) : Int)))))]) [0, 1, 2] rfl ?_
        exact ih_L2 (2 ^ n - (s + 1)) (by omega) (s + 1) (by omega) (by omega) _ (fun b h1 h2 => by rw [stF_n _ _ _ h1]; exact hF2 b h1 h2) (fun q hq => by
          by_cases e : q = s
          · subst e; rw [stF_s, if_pos (by omega)]
          · rw [stF_i _ _ _ e, hR2 q hq]
            by_cases h : q < s
            · rw [if_pos h, if_pos (by omega)]
            · rw [if_neg h, if_neg (by omega)]) (fun q hq => by rw [stF_n _ _ _ (by omega)]; exact hO2 q hq)
  have L1 : ∀ m s : Nat, m = 2 ^ n - s → s ≤ 2 ^ n → ∀ f1 : Fm, (∀ b, b ≠ p + 5 → b ≠ p + 6 → f1 b = f b) → f1 (p + 5) = f (p + 5) → (∀ q, q < s → f1 (p + 6) q = fI (fmB J (p + 2) dy) q) → PW l z (d + 1) mX9_unite 0 0 (fun r g' f' => r = none ∧ gwJ g J = g' ∧ (∀ b, b ≠ p + 5 → b ≠ p + 6 → f' b = f b) ∧ ∀ s, s < 2 ^ n → f' (p + 5) s = fI (unB n U (fmB J (p + 2) dy)) s) 2 [(2, (.int (iI (((s : Nat) : Int))))), (0, (.ref p)), (1, (.int (iI (((dy : Nat) : Int)))))] [] (gwJ g J) f1 0 0 := by
    intro m
    induction m using Nat.strongRecOn with
    | _ m ih_L1 =>
      intro s hm hs0 f1 hF1 hU1 hR1
      refine r_iload_n (pc := 2) 0 dX9_unite_2 rfl rfl ?_
      refine r_aload_n (pc := 3) 1 dX9_unite_3 rfl rfl ?_
      refine r_getIv (pc := 4) (x := ((2 ^ n - 1 : Nat) : Int)) dX9_unite_4 fl_X9_35 rfl hP.k ((congrFun (hF1 p (by omega) (by omega)) _).trans h11) ?_
      refine r_icmp_gt (pc := 7) (tgt := 39) dX9_unite_7 (by decide) (by omega) (by omega) (fun c_7 => ?_) (fun c_7 => ?_)
      · refine r_aload_n (pc := 39) 1 dX9_unite_39 rfl rfl ?_
        refine r_aload_n (pc := 40) 1 dX9_unite_40 rfl rfl ?_
        refine r_getR (pc := 41) (b := (p + 5)) dX9_unite_41 fl_X9_25 rfl hP.k hP.r4 ?_
        refine r_iconst (pc := 44) dX9_unite_44 ?_
        refine r_callV (pc := 45) (As := [(.ref (p + 5)), (.int (iI (1)))]) (S := []) dX9_unite_45 cv_X9_110 hP.k rfl (Nat.le_of_ble_eq_true rfl) (x_sumOver (g := gwJ g J) (a := p + 5) (u := fI U) (n := n) l z _ hP hP.a4 (by omega) hn8 (by rw [hF1 p (by omega) (by omega)]; exact h10) (by rw [hF1 p (by omega) (by omega)]; exact h11) (fun s hs => by rw [hU1]; exact hu s hs)) (Nat.zero_le _) (Nat.zero_le _) (fun r_45 g_45 f_45 q_45 => ?_)
        obtain ⟨rfl, rfl, ha1, ha2⟩ := q_45
        refine r_aload_n (pc := 48) 1 dX9_unite_48 rfl rfl ?_
        refine r_aload_n (pc := 49) 1 dX9_unite_49 rfl rfl ?_
        refine r_getR (pc := 50) (b := (p + 6)) dX9_unite_50 fl_X9_28 rfl hP.k hP.r5 ?_
        refine r_iconst (pc := 53) dX9_unite_53 ?_
        refine r_callV (pc := 54) (As := [(.ref (p + 6)), (.int (iI (1)))]) (S := []) dX9_unite_54 cv_X9_110 hP.k rfl (Nat.le_of_ble_eq_true rfl) (x_sumOver (g := gwJ g J) (a := p + 6) (u := fI (fmB J (p + 2) dy)) (n := n) l z _ hP hP.a5 (by omega) hn8 (by rw [ha1 p (by omega), hF1 p (by omega) (by omega)]; exact h10) (by rw [ha1 p (by omega), hF1 p (by omega) (by omega)]; exact h11) (fun s hs => by rw [ha1 (p + 6) (by omega)]; exact hR1 s (by omega))) (Nat.zero_le _) (Nat.zero_le _) (fun r_54 g_54 f_54 q_54 => ?_)
        obtain ⟨rfl, rfl, hb1, hb2⟩ := q_54
        refine r_iconst (pc := 57) dX9_unite_57 ?_
        refine r_istore_n (pc := 58) (L2 := [(2, (.int (iI (0)))), (0, (.ref p)), (1, (.int (iI (((dy : Nat) : Int)))))]) dX9_unite_58 rfl (by decide) rfl ?_
        refine r_sub (L2 := [(2, (.int (iI (((0 : Nat) : Int))))), (0, (.ref p)), (1, (.int (iI (((dy : Nat) : Int)))))]) [0, 1, 2] rfl ?_
        exact L2 (2 ^ n) 0 (by omega) (by omega) f_54 (fun b h1 h2 => by rw [hb1 b h2, ha1 b h1]; exact hF1 b h1 h2) (fun q hq => by rw [if_neg (by omega), hb1 (p + 5) (by omega)]; exact ha2 q hq) hb2
      · refine r_aload_n (pc := 10) 1 dX9_unite_10 rfl rfl ?_
        refine r_getR (pc := 11) (b := (p + 6)) dX9_unite_11 fl_X9_28 rfl hP.k hP.r5 ?_
        refine r_iload_n (pc := 14) 0 dX9_unite_14 rfl rfl ?_
        refine r_aload_n (pc := 15) 1 dX9_unite_15 rfl rfl ?_
        refine r_getR (pc := 16) (b := (p + 2)) dX9_unite_16 fl_X9_15 rfl hP.k hP.r1 ?_
        refine r_iload_n (pc := 19) 2 dX9_unite_19 rfl rfl ?_
        refine r_iload_n (pc := 20) 0 dX9_unite_20 rfl rfl ?_
        refine r_callS (pc := 21) (As := [(.ref (p + 2)), (.int (iI (((dy : Nat) : Int)))), (.int (iI (((s : Nat) : Int))))]) (S := [(.int (iI (((s : Nat) : Int)))), (.ref (p + 6))]) dX9_unite_21 cs_X9_79 rfl (Nat.le_of_ble_eq_true rfl) (x_holds (a := p + 2) (N := 120) (dy := dy) (s := s) l z _ hP.a1 (by decide) (by omega) (by omega) (by omega)) (Nat.zero_le _) (Nat.zero_le _) (fun r_21 g_21 f_21 q_21 => ?_)
        obtain ⟨rfl, rfl, rfl⟩ := q_21
        refine r_if_eq (pc := 24) (tgt := 31) dX9_unite_24 (by decide) (b01_r) (fun c_24 => ?_) (fun c_24 => ?_)
        · replace c_24 := b01_z c_24
          refine r_iconst (pc := 31) dX9_unite_31 ?_
          refine r_iastv (pc := 32) (i := s) dX9_unite_32 hP.a5 (by omega) (by decide) rfl ?_
          refine r_iincv (pc := 33) (y := ((s + 1 : Nat) : Int)) (L2 := [(2, (.int (iI (((s + 1 : Nat) : Int))))), (0, (.ref p)), (1, (.int (iI (((dy : Nat) : Int)))))]) 0 dX9_unite_33 rfl (by omega) (by decide) rfl ?_
          refine r_goto (pc := 36) (tgt := 2) dX9_unite_36 (by decide) ?_
          refine r_sub (L2 := [(2, (.int (iI (((s + 1 : Nat) : Int))))), (0, (.ref p)), (1, (.int (iI (((dy : Nat) : Int)))))]) [0, 1, 2] rfl ?_
          exact ih_L1 (2 ^ n - (s + 1)) (by omega) (s + 1) (by omega) (by omega) _ (fun b h1 h2 => by rw [stF_n _ _ _ h2]; exact hF1 b h1 h2) (by rw [stF_n _ _ _ (by omega)]; exact hU1) (fun q hq => by
            rcases Nat.lt_succ_iff_lt_or_eq.mp hq with h | h
            · exact rdi (by omega) (hR1 q h)
            · subst h; rw [stF_s, fI_f c_24])
        · replace c_24 := b01_nz c_24
          refine r_iconst (pc := 27) dX9_unite_27 ?_
          refine r_goto (pc := 28) (tgt := 32) dX9_unite_28 (by decide) ?_
          refine r_iastv (pc := 32) (i := s) dX9_unite_32 hP.a5 (by omega) (by decide) rfl ?_
          refine r_iincv (pc := 33) (y := ((s + 1 : Nat) : Int)) (L2 := [(2, (.int (iI (((s + 1 : Nat) : Int))))), (0, (.ref p)), (1, (.int (iI (((dy : Nat) : Int)))))]) 0 dX9_unite_33 rfl (by omega) (by decide) rfl ?_
          refine r_goto (pc := 36) (tgt := 2) dX9_unite_36 (by decide) ?_
          refine r_sub (L2 := [(2, (.int (iI (((s + 1 : Nat) : Int))))), (0, (.ref p)), (1, (.int (iI (((dy : Nat) : Int)))))]) [0, 1, 2] rfl ?_
          exact ih_L1 (2 ^ n - (s + 1)) (by omega) (s + 1) (by omega) (by omega) _ (fun b h1 h2 => by rw [stF_n _ _ _ h2]; exact hF1 b h1 h2) (by rw [stF_n _ _ _ (by omega)]; exact hU1) (fun q hq => by
            rcases Nat.lt_succ_iff_lt_or_eq.mp hq with h | h
            · exact rdi (by omega) (hR1 q h)
            · subst h; rw [stF_s, fI_t c_24])
  refine r_iconst (pc := 0) dX9_unite_0 ?_
  refine r_istore_n (pc := 1) (L2 := [(2, (.int (iI (0)))), (0, (.ref p)), (1, (.int (iI (((dy : Nat) : Int)))))]) dX9_unite_1 rfl (by decide) rfl ?_
  refine r_sub (L2 := [(2, (.int (iI (((0 : Nat) : Int))))), (0, (.ref p)), (1, (.int (iI (((dy : Nat) : Int)))))]) [0, 1, 2] rfl ?_
  exact L1 (2 ^ n) 0 (by omega) (by omega) f (fun _ _ _ => rfl) rfl (fun q hq => absurd hq (by omega))

set_option maxRecDepth 100000 in
set_option maxHeartbeats 4000000 in
theorem x_keepU (l : Launch) (z : Zv) (d : Nat) {g : Gm} {J : Nat → Nat → Int} {f : Fm} {p n : Nat} {dy : Nat} {U : Nat → Bool} (hP : YL g p) (hn8 : n ≤ 8) (h11 : f p 11 = ((2 ^ n - 1 : Nat) : Int)) (hdy : dy ≤ 30) (hu : ∀ s, s < 2 ^ n → f (p + 5) s = fI U s) : PM l z d mX9_keepUnions [.ref p, .int (iI ((dy : Nat) : Int))] (gwJ g J) f 0 0 (fun r g' f' => r = none ∧ f = f' ∧ ∃ J', gwJ g J' = g' ∧ (∀ b k, b ≠ p + 3 ∨ k < 4 * dy ∨ 4 * dy + 4 ≤ k → J' b k = J b k) ∧ ∀ t, t < 256 → fmB J' (p + 3) dy t = (decide (t < 2 ^ n) && U t)) := by
  have hp8 := pow8 hn8
  refine PM.of (by decide +kernel) (Nat.le_of_ble_eq_true rfl) ?_
  have Lb : ∀ m s : Nat, m = 2 ^ n - s → s ≤ 2 ^ n → ∀ J1 : Nat → Nat → Int, (∀ b k, b ≠ p + 3 ∨ k < 4 * dy ∨ 4 * dy + 4 ≤ k → J1 b k = J b k) → (∀ t, t < 256 → fmB J1 (p + 3) dy t = (decide (t < s) && U t)) → PW l z d mX9_keepUnions 0 0 (fun r g' f' => r = none ∧ f = f' ∧ ∃ J', gwJ g J' = g' ∧ (∀ b k, b ≠ p + 3 ∨ k < 4 * dy ∨ 4 * dy + 4 ≤ k → J' b k = J b k) ∧ ∀ t, t < 256 → fmB J' (p + 3) dy t = (decide (t < 2 ^ n) && U t)) 26 [(2, (.int (iI (((s : Nat) : Int))))), (0, (.ref p)), (1, (.int (iI (((dy : Nat) : Int)))))] [] (gwJ g J1) f 0 0 := by
    intro m
    induction m using Nat.strongRecOn with
    | _ m ih_Lb =>
      intro s hm hs0 J1 hJ1 hB
      refine r_iload_n (pc := 26) 0 dX9_keepUnions_26 rfl rfl ?_
      refine r_aload_n (pc := 27) 1 dX9_keepUnions_27 rfl rfl ?_
      refine r_getIv (pc := 28) (x := ((2 ^ n - 1 : Nat) : Int)) dX9_keepUnions_28 fl_X9_35 rfl hP.k (h11) ?_
      refine r_icmp_gt (pc := 31) (tgt := 71) dX9_keepUnions_31 (by decide) (by omega) (by omega) (fun c_31 => ?_) (fun c_31 => ?_)
      · have hse : s = 2 ^ n := by omega
        rw [hse] at hB
        exact r_vret (pc := 71) dX9_keepUnions_71 rfl ⟨rfl, rfl, J1, rfl, hJ1, hB⟩
      · refine r_aload_n (pc := 34) 1 dX9_keepUnions_34 rfl rfl ?_
        refine r_getR (pc := 35) (b := (p + 5)) dX9_keepUnions_35 fl_X9_25 rfl hP.k hP.r4 ?_
        refine r_iload_n (pc := 38) 0 dX9_keepUnions_38 rfl rfl ?_
        refine r_ialdv (pc := 39) (w := fI U s) dX9_keepUnions_39 hP.a4 (by omega) (by decide) (hu s (by omega)) ?_
        refine r_if_eq (pc := 40) (tgt := 65) dX9_keepUnions_40 (by decide) (by have := fI_01 U s; omega) (fun c_40 => ?_) (fun c_40 => ?_)
        · refine r_iincv (pc := 65) (y := ((s + 1 : Nat) : Int)) (L2 := [(2, (.int (iI (((s + 1 : Nat) : Int))))), (0, (.ref p)), (1, (.int (iI (((dy : Nat) : Int)))))]) 0 dX9_keepUnions_65 rfl (by omega) (by decide) rfl ?_
          refine r_goto (pc := 68) (tgt := 26) dX9_keepUnions_68 (by decide) ?_
          refine r_sub (L2 := [(2, (.int (iI (((s + 1 : Nat) : Int))))), (0, (.ref p)), (1, (.int (iI (((dy : Nat) : Int)))))]) [0, 1, 2] rfl ?_
          exact ih_Lb (2 ^ n - (s + 1)) (by omega) (s + 1) (by omega) (by omega) J1 hJ1 (fun t ht => by
            rw [hB t ht]
            by_cases e : t = s
            · subst e; rw [decide_eq_false (by omega), Bool.eq_false_iff.mpr (fI_z c_40)]; simp
            · rw [show decide (t < s + 1) = decide (t < s) from decide_eq_decide.mpr (by omega)])
        · refine r_aload_n (pc := 43) 1 dX9_keepUnions_43 rfl rfl ?_
          refine r_getR (pc := 44) (b := (p + 3)) dX9_keepUnions_44 fl_X9_19 rfl hP.k hP.r2 ?_
          refine r_iload_n (pc := 47) 2 dX9_keepUnions_47 rfl rfl ?_
          refine r_iconst (pc := 48) dX9_keepUnions_48 ?_
          refine r_imul (pc := 49) dX9_keepUnions_49 ?_
          refine r_eqI (y := ((dy * 4 : Nat) : Int)) (Int.natCast_mul _ _ |>.symm) ?_
          refine r_iload_n (pc := 50) 0 dX9_keepUnions_50 rfl rfl ?_
          refine r_bipush (pc := 51) dX9_keepUnions_51 (by decide) ?_
          refine r_ishr (pc := 53) (w := ((s / 2 ^ 6 : Nat) : Int)) dX9_keepUnions_53  (iI_shr (by omega) (by decide)) ?_
          refine r_iadd (pc := 54) dX9_keepUnions_54 ?_
          refine r_eqI (y := ((4 * dy + s / 64 : Nat) : Int)) (by omega) ?_
          refine r_dup2 (pc := 55) dX9_keepUnions_55 rfl rfl ?_
          refine r_lald (pc := 56) dX9_keepUnions_56 hP.a2 (by omega) (by decide) ?_
          refine r_lconst (pc := 57) (x := 1) dX9_keepUnions_57 (by decide) ?_
          refine r_iload_n (pc := 58) 0 dX9_keepUnions_58 rfl rfl ?_
          refine r_bipush (pc := 59) dX9_keepUnions_59 (by decide) ?_
          refine r_iand (pc := 61) (w := ((s &&& 63 : Nat) : Int)) dX9_keepUnions_61  (iI_and _ _) ?_
          refine r_eqI (y := ((s % 64 : Nat) : Int)) (by rw [show s &&& 63 = s % 2 ^ 6 from Nat.and_two_pow_sub_one_eq_mod s 6]) ?_
          refine r_lshl (pc := 62) (w := (lI 1 <<< ((iI ((s % 64 : Nat) : Int)).toInt64 &&& 63)).toInt) dX9_keepUnions_62  ((lI_t _).symm) ?_
          refine r_lor (pc := 63) (w := (lI (glm (gwJ g J1) (p + 3) (((4 * dy + s / 64 : Nat) : Int)).toNat) ||| lI ((lI 1 <<< ((iI ((s % 64 : Nat) : Int)).toInt64 &&& 63)).toInt)).toInt) dX9_keepUnions_63  ((lI_t _).symm) ?_
          refine r_last (pc := 64) dX9_keepUnions_64 hP.a2 (by omega) (by decide) ?_
          refine r_iincv (pc := 65) (y := ((s + 1 : Nat) : Int)) (L2 := [(2, (.int (iI (((s + 1 : Nat) : Int))))), (0, (.ref p)), (1, (.int (iI (((dy : Nat) : Int)))))]) 0 dX9_keepUnions_65 rfl (by omega) (by decide) rfl ?_
          refine r_goto (pc := 68) (tgt := 26) dX9_keepUnions_68 (by decide) ?_
          refine r_sub (L2 := [(2, (.int (iI (((s + 1 : Nat) : Int))))), (0, (.ref p)), (1, (.int (iI (((dy : Nat) : Int)))))]) [0, 1, 2] rfl ?_
          exact ih_Lb (2 ^ n - (s + 1)) (by omega) (s + 1) (by omega) (by omega) (jS J1 (p + 3) (4 * dy + s / 64) ((lI (J1 (p + 3) (4 * dy + s / 64)) ||| lI ((lI 1 <<< ((iI ((s % 64 : Nat) : Int)).toInt64 &&& 63)).toInt)).toInt)) (fun b k h => by
            by_cases e : b = p + 3
            · subst e; rw [jS_i _ _ _ (by omega)]; exact hJ1 _ _ h
            · rw [jS_n _ _ _ _ e]; exact hJ1 _ _ h) (fun t ht => by
            have hBt := hB t ht
            unfold fmB at hBt ⊢
            by_cases e : t / 64 = s / 64
            · rw [e, jS_s, lB_or, lB_shl _ _ (by omega), lB_1]
              rw [e] at hBt
              rw [hBt]
              by_cases e2 : t = s
              · subst e2; rw [decide_eq_true (show t % 64 < 64 by omega), decide_eq_false (show ¬ t % 64 < t % 64 by omega), decide_eq_true (show t % 64 - t % 64 = 0 by omega), decide_eq_true (show t < t + 1 by omega), fI_nz c_40]; simp
              · rw [show (decide (t % 64 < 64) && !decide (t % 64 < s % 64) && decide (t % 64 - s % 64 = 0)) = false by
                  by_cases h1 : t % 64 < s % 64
                  · simp [h1]
                  · simp; omega, Bool.or_false, show decide (t < s + 1) = decide (t < s) from decide_eq_decide.mpr (by omega)]
            · rw [jS_i _ _ _ (by omega), hBt, show decide (t < s + 1) = decide (t < s) from decide_eq_decide.mpr (by omega)])
  have La : ∀ m i : Nat, m = 4 - i → i ≤ 4 → ∀ J1 : Nat → Nat → Int, (∀ b k, b ≠ p + 3 ∨ k < 4 * dy ∨ 4 * dy + 4 ≤ k → J1 b k = J b k) → (∀ q, q < i → J1 (p + 3) (4 * dy + q) = 0) → PW l z d mX9_keepUnions 0 0 (fun r g' f' => r = none ∧ f = f' ∧ ∃ J', gwJ g J' = g' ∧ (∀ b k, b ≠ p + 3 ∨ k < 4 * dy ∨ 4 * dy + 4 ≤ k → J' b k = J b k) ∧ ∀ t, t < 256 → fmB J' (p + 3) dy t = (decide (t < 2 ^ n) && U t)) 2 [(2, (.int (iI (((i : Nat) : Int))))), (0, (.ref p)), (1, (.int (iI (((dy : Nat) : Int)))))] [] (gwJ g J1) f 0 0 := by
    intro m
    induction m using Nat.strongRecOn with
    | _ m ih_La =>
      intro i hm hi0 J1 hJ1 hZ
      refine r_iload_n (pc := 2) 0 dX9_keepUnions_2 rfl rfl ?_
      refine r_iconst (pc := 3) dX9_keepUnions_3 ?_
      refine r_icmp_ge (pc := 4) (tgt := 24) dX9_keepUnions_4 (by decide) (by omega) (by omega) (fun c_4 => ?_) (fun c_4 => ?_)
      · refine r_iconst (pc := 24) dX9_keepUnions_24 ?_
        refine r_istore_n (pc := 25) (L2 := [(2, (.int (iI (0)))), (0, (.ref p)), (1, (.int (iI (((dy : Nat) : Int)))))]) dX9_keepUnions_25 rfl (by decide) rfl ?_
        refine r_sub (L2 := [(2, (.int (iI (((0 : Nat) : Int))))), (0, (.ref p)), (1, (.int (iI (((dy : Nat) : Int)))))]) [0, 1, 2] rfl ?_
        exact Lb (2 ^ n) 0 (by omega) (by omega) J1 hJ1 (fun t ht => by unfold fmB; rw [hZ (t / 64) (by omega), lB_0, decide_eq_false (by omega)]; rfl)
      · refine r_aload_n (pc := 7) 1 dX9_keepUnions_7 rfl rfl ?_
        refine r_getR (pc := 8) (b := (p + 3)) dX9_keepUnions_8 fl_X9_19 rfl hP.k hP.r2 ?_
        refine r_iload_n (pc := 11) 2 dX9_keepUnions_11 rfl rfl ?_
        refine r_iconst (pc := 12) dX9_keepUnions_12 ?_
        refine r_imul (pc := 13) dX9_keepUnions_13 ?_
        refine r_eqI (y := ((dy * 4 : Nat) : Int)) (Int.natCast_mul _ _ |>.symm) ?_
        refine r_iload_n (pc := 14) 0 dX9_keepUnions_14 rfl rfl ?_
        refine r_iadd (pc := 15) dX9_keepUnions_15 ?_
        refine r_eqI (y := ((4 * dy + i : Nat) : Int)) (by omega) ?_
        refine r_lconst (pc := 16) (x := 0) dX9_keepUnions_16 (by decide) ?_
        refine r_last (pc := 17) dX9_keepUnions_17 hP.a2 (by omega) (by decide) ?_
        refine r_iincv (pc := 18) (y := ((i + 1 : Nat) : Int)) (L2 := [(2, (.int (iI (((i + 1 : Nat) : Int))))), (0, (.ref p)), (1, (.int (iI (((dy : Nat) : Int)))))]) 0 dX9_keepUnions_18 rfl (by omega) (by decide) rfl ?_
        refine r_goto (pc := 21) (tgt := 2) dX9_keepUnions_21 (by decide) ?_
        refine r_sub (L2 := [(2, (.int (iI (((i + 1 : Nat) : Int))))), (0, (.ref p)), (1, (.int (iI (((dy : Nat) : Int)))))]) [0, 1, 2] rfl ?_
        exact ih_La (4 - (i + 1)) (by omega) (i + 1) (by omega) (by omega) (jS J1 (p + 3) (4 * dy + i) 0) (fun b k h => by
          by_cases e : b = p + 3
          · subst e; rw [jS_i _ _ _ (by omega)]; exact hJ1 _ _ h
          · rw [jS_n _ _ _ _ e]; exact hJ1 _ _ h) (fun q hq => by
          rcases Nat.lt_succ_iff_lt_or_eq.mp hq with h | h
          · rw [jS_i _ _ _ (by omega)]; exact hZ q h
          · subst h; exact jS_s _ _ _ _)
  refine r_iconst (pc := 0) dX9_keepUnions_0 ?_
  refine r_istore_n (pc := 1) (L2 := [(2, (.int (iI (0)))), (0, (.ref p)), (1, (.int (iI (((dy : Nat) : Int)))))]) dX9_keepUnions_1 rfl (by decide) rfl ?_
  refine r_sub (L2 := [(2, (.int (iI (((0 : Nat) : Int))))), (0, (.ref p)), (1, (.int (iI (((dy : Nat) : Int)))))]) [0, 1, 2] rfl ?_
  exact La 4 0 (by omega) (by omega) J (fun _ _ _ => rfl) (fun q hq => absurd hq (by omega))

/-- what reads leaves of a text with T tokens -/
def RdP (f f1 : Fm) (B : Nat → Int) (t T : Nat) : Prop := T ≤ 400 ∧ (∀ a, a ≠ 164 → a ≠ 172 → a ≠ 173 → a ≠ 174 → f1 a = f a) ∧ (∀ i, i ≠ 9 → i ≠ 10 → i ≠ 14 → i ≠ 15 → i ≠ 16 → i ≠ 17 → f1 164 i = f 164 i) ∧ f1 164 9 = 0 ∧ f1 164 14 = ((T : Nat) : Int) ∧ (∀ i, i < T → pl B t i < t) ∧ t ≤ pl B t T ∧ ∀ i, i ≤ T → TkO f1 B t i
/-- the law nl is written into the kept row: k tokens of it so far -/
def KwP (K0 K : Nat → Int) (f1 : Fm) (nl T k : Nat) : Prop := K (82 + nl) = ((T : Nat) : Int) ∧ (∀ q, q < k → K (88 + 400 * nl + q) = f1 172 q ∧ K (2488 + 400 * nl + q) = f1 173 q) ∧ ∀ i, i ≠ 80 → i ≠ 82 + nl → ¬ (88 + 400 * nl ≤ i ∧ i < 88 + 400 * nl + k) → ¬ (2488 + 400 * nl ≤ i ∧ i < 2488 + 400 * nl + k) → K i = K0 i

set_option maxRecDepth 100000 in
set_option maxHeartbeats 4000000 in
theorem m_law (l : Launch) (z : Zv) {g : Gm} {f : Fm} {A B : Nat → Int} {t nl : Nat} (hM : ML g) (hwd : ∀ k, k < 66 → f 169 k = wdl.getD k 0) (hA : ∀ i, f 170 i = A i) (hS : SB A B) (ht : f 164 9 = ((t : Nat) : Int)) (ht4 : t ≤ 400) (hnl : f 166 80 = ((nl : Nat) : Int)) (hnl6 : nl ≤ 6) {D : Nat} (hD : 250 ≤ D) : PM l z D mX11_law [.ref 164] g f 0 0 (fun r g' f' => g = g' ∧ ((nl = 6 ∧ r = some (.int (iI (-5))) ∧ rfs (stF f 164 9 0) (-5) = f') ∨ (nl < 6 ∧ ∃ T f1 x, RdP f f1 B t T ∧ sLaw (cj B t) (vj B t) (enj B t) 12 0 0 [] = .error x ∧ f1 164 10 = ((pl B t x : Nat) : Int) ∧ r = some (.int (iI (-6))) ∧ rfs f1 (-6) = f') ∨ (nl < 6 ∧ ∃ T f1 cls, RdP f f1 B t T ∧ sLaw (cj B t) (vj B t) (enj B t) 12 0 0 [] = .ok cls ∧ f1 164 10 = -1 ∧ 1 ≤ T ∧ r = some (.int (iI ((nl : Nat) : Int))) ∧ f' 166 80 = ((nl + 1 : Nat) : Int) ∧ KwP (f 166) (f' 166) f1 nl T T ∧ (∀ a, a ≠ 164 → a ≠ 166 → f' a = f1 a) ∧ f' 164 0 = 0 ∧ ∀ i, i ≠ 0 → f' 164 i = f1 164 i))) := by
  obtain ⟨d, rfl⟩ : ∃ d, D = d + 8 := ⟨D - 8, by omega⟩
  refine PM.of (by decide +kernel) (Nat.le_of_ble_eq_true rfl) ?_
  have loop : ∀ (T : Nat) (f1 : Fm) (cls : List Cl), RdP f f1 B t T → sLaw (cj B t) (vj B t) (enj B t) 12 0 0 [] = .ok cls → f1 164 10 = -1 → 1 ≤ T → nl < 6 → ∀ m k : Nat, m = T - k → k ≤ T → ∀ f2 : Fm, (∀ a, a ≠ 166 → f2 a = f1 a) → f2 166 80 = ((nl : Nat) : Int) → KwP (f 166) (f2 166) f1 nl T k → PW l z (d + 8) mX11_law 0 0 (fun r g' f' => g = g' ∧ ((nl = 6 ∧ r = some (.int (iI (-5))) ∧ rfs (stF f 164 9 0) (-5) = f') ∨ (nl < 6 ∧ ∃ T f1 x, RdP f f1 B t T ∧ sLaw (cj B t) (vj B t) (enj B t) 12 0 0 [] = .error x ∧ f1 164 10 = ((pl B t x : Nat) : Int) ∧ r = some (.int (iI (-6))) ∧ rfs f1 (-6) = f') ∨ (nl < 6 ∧ ∃ T f1 cls, RdP f f1 B t T ∧ sLaw (cj B t) (vj B t) (enj B t) 12 0 0 [] = .ok cls ∧ f1 164 10 = -1 ∧ 1 ≤ T ∧ r = some (.int (iI ((nl : Nat) : Int))) ∧ f' 166 80 = ((nl + 1 : Nat) : Int) ∧ KwP (f 166) (f' 166) f1 nl T T ∧ (∀ a, a ≠ 164 → a ≠ 166 → f' a = f1 a) ∧ f' 164 0 = 0 ∧ ∀ i, i ≠ 0 → f' 164 i = f1 164 i))) 61 [(2, (.int (iI (((k : Nat) : Int))))), (1, (.int (iI (((nl : Nat) : Int))))), (0, (.ref 164))] [] g f2 0 0 := by
    intro T f1 cls hP hR hx hT1 hnl5 m
    have hT4 := hP.1
    induction m using Nat.strongRecOn with
    | _ m ih =>
      intro k hm hk f2 hfr hk80 hKw
      refine r_iload_n (pc := 61) 0 dX11_law_61 rfl rfl ?_
      refine r_aload_n (pc := 62) 2 dX11_law_62 rfl rfl ?_
      refine r_getIv (pc := 63) (x := ((T : Nat) : Int)) dX11_law_63 fl_X11_156 rfl hM.k (by rw [hfr 164 (by decide)]; exact hP.2.2.2.2.1) ?_
      refine r_icmp_ge (pc := 66) (tgt := 118) dX11_law_66 (by decide) (by omega) (by omega) (fun c_66 => ?_) (fun c_66 => ?_)
      · refine r_aload_n (pc := 118) 2 dX11_law_118 rfl rfl ?_
        refine r_getR (pc := 119) (b := 166) dX11_law_119 fl_X11_17 rfl hM.k hM.r2 ?_
        refine r_bipush (pc := 122) dX11_law_122 (by decide) ?_
        refine r_dup2 (pc := 124) dX11_law_124 rfl rfl ?_
        refine r_ialdv (pc := 125) (w := ((nl : Nat) : Int)) dX11_law_125 hM.a2 (by decide) (by decide) (hk80) ?_
        refine r_iconst (pc := 126) dX11_law_126 ?_
        refine r_iadd (pc := 127) dX11_law_127 ?_
        refine r_eqI (y := ((nl + 1 : Nat) : Int)) (Int.natCast_add _ _ |>.symm) ?_
        refine r_iastv (pc := 128) (i := 80) dX11_law_128 hM.a2 (by decide) (by decide) rfl ?_
        refine r_aload_n (pc := 129) 2 dX11_law_129 rfl rfl ?_
        refine r_iload_n (pc := 130) 1 dX11_law_130 rfl rfl ?_
        refine r_callV (pc := 131) (As := [(.int (iI (((nl : Nat) : Int))))]) (S := []) dX11_law_131 cv_X11_118 hM.k rfl (Nat.le_of_ble_eq_true rfl) (m_good l z _ (((nl : Nat) : Int)) hM) (Nat.zero_le _) (Nat.zero_le _) (fun r_131 g_131 f_131 q_131 => ?_)
        obtain ⟨rfl, rfl, rfl⟩ := q_131
        have hkT : k = T := by omega
        subst hkT
        exact r_iret (pc := 134) dX11_law_134 rfl rfl ⟨rfl, Or.inr (Or.inr ⟨by omega, k, f1, cls, hP, hR, hx, hT1, rfl, rdn (by decide) (stF_s _ _ _ _), ⟨rdn (by decide) (rdi (by omega) hKw.1), fun q hq => ⟨rdn (by decide) (rdi (by omega) (hKw.2.1 q hq).1), rdn (by decide) (rdi (by omega) (hKw.2.1 q hq).2)⟩, fun i h1 h2 h3 h4 => rdn (by decide) (rdi h1 (hKw.2.2 i h1 h2 h3 h4))⟩, fun a h1 h2 => by rw [gd, stF_n _ _ _ h1, stF_n _ _ _ h2]; exact hfr a h2, stF_s _ _ _ _, fun i hi => rdi hi (rdn (by decide) (congrFun (hfr 164 (by decide)) i))⟩)⟩
      · refine r_aload_n (pc := 69) 2 dX11_law_69 rfl rfl ?_
        refine r_getR (pc := 70) (b := 166) dX11_law_70 fl_X11_17 rfl hM.k hM.r2 ?_
        refine r_bipush (pc := 73) dX11_law_73 (by decide) ?_
        refine r_sipush (pc := 75) dX11_law_75 (by decide) ?_
        refine r_iload_n (pc := 78) 1 dX11_law_78 rfl rfl ?_
        refine r_imul (pc := 79) dX11_law_79 ?_
        refine r_eqI (y := ((400 * nl : Nat) : Int)) (Int.natCast_mul _ _ |>.symm) ?_
        refine r_iadd (pc := 80) dX11_law_80 ?_
        refine r_eqI (y := ((88 + (400 * nl) : Nat) : Int)) (Int.natCast_add _ _ |>.symm) ?_
        refine r_iload_n (pc := 81) 0 dX11_law_81 rfl rfl ?_
        refine r_iadd (pc := 82) dX11_law_82 ?_
        refine r_eqI (y := (((88 + (400 * nl)) + k : Nat) : Int)) (Int.natCast_add _ _ |>.symm) ?_
        refine r_aload_n (pc := 83) 2 dX11_law_83 rfl rfl ?_
        refine r_getR (pc := 84) (b := 172) dX11_law_84 fl_X11_40 rfl hM.k hM.r11 ?_
        refine r_iload_n (pc := 87) 0 dX11_law_87 rfl rfl ?_
        refine r_ialdv (pc := 88) (w := f1 172 k) dX11_law_88 hM.a11 (by omega) (by decide) (congrFun (hfr 172 (by decide)) k) ?_
        refine r_iastv (pc := 89) (i := 88 + 400 * nl + k) dX11_law_89 hM.a2 (by omega) (by decide) (by omega) ?_
        refine r_aload_n (pc := 90) 2 dX11_law_90 rfl rfl ?_
        refine r_getR (pc := 91) (b := 166) dX11_law_91 fl_X11_17 rfl hM.k hM.r2 ?_
        refine r_sipush (pc := 94) dX11_law_94 (by decide) ?_
        refine r_sipush (pc := 97) dX11_law_97 (by decide) ?_
        refine r_iload_n (pc := 100) 1 dX11_law_100 rfl rfl ?_
        refine r_imul (pc := 101) dX11_law_101 ?_
        refine r_eqI (y := ((400 * nl : Nat) : Int)) (Int.natCast_mul _ _ |>.symm) ?_
        refine r_iadd (pc := 102) dX11_law_102 ?_
        refine r_eqI (y := ((2488 + (400 * nl) : Nat) : Int)) (Int.natCast_add _ _ |>.symm) ?_
        refine r_iload_n (pc := 103) 0 dX11_law_103 rfl rfl ?_
        refine r_iadd (pc := 104) dX11_law_104 ?_
        refine r_eqI (y := (((2488 + (400 * nl)) + k : Nat) : Int)) (Int.natCast_add _ _ |>.symm) ?_
        refine r_aload_n (pc := 105) 2 dX11_law_105 rfl rfl ?_
        refine r_getR (pc := 106) (b := 173) dX11_law_106 fl_X11_43 rfl hM.k hM.r12 ?_
        refine r_iload_n (pc := 109) 0 dX11_law_109 rfl rfl ?_
        refine r_ialdv (pc := 110) (w := f1 173 k) dX11_law_110 hM.a12 (by omega) (by decide) (rdn (by decide) (congrFun (hfr 173 (by decide)) k)) ?_
        refine r_iastv (pc := 111) (i := 2488 + 400 * nl + k) dX11_law_111 hM.a2 (by omega) (by decide) (by omega) ?_
        refine r_iincv (pc := 112) (y := ((k + 1 : Nat) : Int)) (L2 := [(2, (.int (iI (((k + 1 : Nat) : Int))))), (1, (.int (iI (((nl : Nat) : Int))))), (0, (.ref 164))]) 0 dX11_law_112 rfl (by omega) (by decide) rfl ?_
        refine r_goto (pc := 115) (tgt := 61) dX11_law_115 (by decide) ?_
        refine r_sub (L2 := [(2, (.int (iI (((k + 1 : Nat) : Int))))), (1, (.int (iI (((nl : Nat) : Int))))), (0, (.ref 164))]) [0, 1, 2] rfl ?_
        refine ih (T - (k + 1)) (by omega) (k + 1) (by omega) (by omega) _ (fun a ha => by rw [stF_n _ _ _ ha, stF_n _ _ _ ha]; exact hfr a ha) (rdi (by omega) (rdi (by omega) hk80)) ⟨rdi (by omega) (rdi (by omega) hKw.1), fun q hq => ?_, fun i h1 h2 h3 h4 => rdi (by omega) (rdi (by omega) (hKw.2.2 i h1 h2 (by omega) (by omega)))⟩
        rcases (show q < k ∨ q = k by omega) with h | rfl
        · exact ⟨rdi (by omega) (rdi (by omega) (hKw.2.1 q h).1), rdi (by omega) (rdi (by omega) (hKw.2.1 q h).2)⟩
        · exact ⟨rdi (by omega) (stF_s _ _ _ _), stF_s _ _ _ _⟩
  refine r_aload_n (pc := 0) 0 dX11_law_0 rfl rfl ?_
  refine r_getR (pc := 1) (b := 166) dX11_law_1 fl_X11_17 rfl hM.k hM.r2 ?_
  refine r_bipush (pc := 4) dX11_law_4 (by decide) ?_
  refine r_ialdv (pc := 6) (w := ((nl : Nat) : Int)) dX11_law_6 hM.a2 (by decide) (by decide) (hnl) ?_
  refine r_bipush (pc := 7) dX11_law_7 (by decide) ?_
  refine r_icmp_ne (pc := 9) (tgt := 24) dX11_law_9 (by decide) (by omega) (by omega) (fun c_9 => ?_) (fun c_9 => ?_)
  · refine r_aload_n (pc := 24) 0 dX11_law_24 rfl rfl ?_
    refine r_callV (pc := 25) (As := []) (S := []) dX11_law_25 cv_X11_222 hM.k rfl (Nat.le_of_ble_eq_true rfl) (m_reads (A := A) (B := B) (t := t) l z hM hwd hA hS ht ht4 (by omega)) (Nat.zero_le _) (Nat.zero_le _) (fun r_25 g_25 f_25 q_25 => ?_)
    obtain ⟨rfl, T, p1, p2, p3, p4, p5, p6, p7, p8, ⟨x, hR, rfl, hx⟩ | ⟨cls, hR, rfl, hx, hT1⟩⟩ := q_25
    · have hP : RdP f f_25 B t T := ⟨p1, p2, p3, p4, p5, p6, p7, p8⟩
      refine r_if_ne (pc := 28) (tgt := 38) dX11_law_28 (by decide) (by omega) (fun c_28 => ?_) (fun c_28 => ?_)
      · exact absurd c_28 (by decide)
      · refine r_aload_n (pc := 31) 0 dX11_law_31 rfl rfl ?_
        refine r_bipush (pc := 32) dX11_law_32 (by decide) ?_
        refine r_callV (pc := 34) (As := [(.int (iI (-6)))]) (S := []) dX11_law_34 cv_X11_114 hM.k rfl (Nat.le_of_ble_eq_true rfl) (m_refuses l z _ hM (by decide)) (Nat.zero_le _) (Nat.zero_le _) (fun r_34 g_34 f_34 q_34 => ?_)
        obtain ⟨rfl, rfl, rfl⟩ := q_34
        exact r_iret (pc := 37) dX11_law_37 rfl rfl ⟨rfl, Or.inr (Or.inl ⟨by omega, T, f_25, x, hP, hR, hx, rfl, rfl⟩)⟩
    · have hP : RdP f f_25 B t T := ⟨p1, p2, p3, p4, p5, p6, p7, p8⟩
      refine r_if_ne (pc := 28) (tgt := 38) dX11_law_28 (by decide) (by omega) (fun c_28 => ?_) (fun c_28 => ?_)
      · refine r_aload_n (pc := 38) 0 dX11_law_38 rfl rfl ?_
        refine r_getR (pc := 39) (b := 166) dX11_law_39 fl_X11_17 rfl hM.k hM.r2 ?_
        refine r_bipush (pc := 42) dX11_law_42 (by decide) ?_
        refine r_ialdv (pc := 44) (w := ((nl : Nat) : Int)) dX11_law_44 hM.a2 (by decide) (by decide) (by rw [hP.2.1 166 (by decide) (by decide) (by decide) (by decide)]; exact hnl) ?_
        refine r_istore_n (pc := 45) (L2 := [(1, (.int (iI (((nl : Nat) : Int))))), (0, (.ref 164))]) dX11_law_45 rfl (by decide) rfl ?_
        refine r_aload_n (pc := 46) 1 dX11_law_46 rfl rfl ?_
        refine r_getR (pc := 47) (b := 166) dX11_law_47 fl_X11_17 rfl hM.k hM.r2 ?_
        refine r_bipush (pc := 50) dX11_law_50 (by decide) ?_
        refine r_iload_n (pc := 52) 0 dX11_law_52 rfl rfl ?_
        refine r_iadd (pc := 53) dX11_law_53 ?_
        refine r_eqI (y := ((82 + nl : Nat) : Int)) (Int.natCast_add _ _ |>.symm) ?_
        refine r_aload_n (pc := 54) 1 dX11_law_54 rfl rfl ?_
        refine r_getIv (pc := 55) (x := ((T : Nat) : Int)) dX11_law_55 fl_X11_156 rfl hM.k (hP.2.2.2.2.1) ?_
        refine r_iastv (pc := 58) (i := 82 + nl) dX11_law_58 hM.a2 (by omega) (by decide) rfl ?_
        refine r_iconst (pc := 59) dX11_law_59 ?_
        refine r_istore_n (pc := 60) (L2 := [(2, (.int (iI (0)))), (1, (.int (iI (((nl : Nat) : Int))))), (0, (.ref 164))]) dX11_law_60 rfl (by decide) rfl ?_
        refine r_sub (L2 := [(2, (.int (iI (((0 : Nat) : Int))))), (1, (.int (iI (((nl : Nat) : Int))))), (0, (.ref 164))]) [0, 1, 2] rfl ?_
        exact loop T f_25 cls hP hR hx hT1 (by omega) T 0 (by omega) (by omega) _ (fun a ha => stF_n _ _ _ ha) (rdi (by omega) (by rw [hP.2.1 166 (by decide) (by decide) (by decide) (by decide)]; exact hnl)) ⟨stF_s _ _ _ _, fun q hq => absurd hq (by omega), fun i h1 h2 _ _ => rdi h2 (congrFun (hP.2.1 166 (by decide) (by decide) (by decide) (by decide)) i)⟩
      · exact absurd c_28 (by decide)
  · refine r_aload_n (pc := 12) 0 dX11_law_12 rfl rfl ?_
    refine r_iconst (pc := 13) dX11_law_13 ?_
    refine r_putI (pc := 14) dX11_law_14 fl_X11_150 rfl rfl hM.k ?_
    refine r_aload_n (pc := 17) 0 dX11_law_17 rfl rfl ?_
    refine r_bipush (pc := 18) dX11_law_18 (by decide) ?_
    refine r_callV (pc := 20) (As := [(.int (iI (-5)))]) (S := []) dX11_law_20 cv_X11_114 hM.k rfl (Nat.le_of_ble_eq_true rfl) (m_refuses l z _ hM (by decide)) (Nat.zero_le _) (Nat.zero_le _) (fun r_20 g_20 f_20 q_20 => ?_)
    obtain ⟨rfl, rfl, rfl⟩ := q_20
    exact r_iret (pc := 23) dX11_law_23 rfl rfl ⟨rfl, Or.inl ⟨by omega, rfl, rfl⟩⟩

theorem RdC.up {l : Launch} {z : Zv} {g : Gm} {b t : Nat} {f0 : Fm} {k : PMd} {cd : (Nat → Int) → Term → Nat → Nat → Prop} {F : Nat → Nat → PR} {H H' br : Nat} (h : RdC l z g b t f0 k cd F H br) (hH : H ≤ H') : RdC l z g b t f0 k cd F H' br :=
  fun D hD f j lv s dy hs hC => h D (by omega) f j lv s dy hs hC
/-- all readers of a level -/
theorem x_lvS (l : Launch) (z : Zv) {g : Gm} {b t : Nat} {f0 : Fm} (hT : TL g b) (ht4 : t ≤ 400) (hby : ∀ i, 0 ≤ f0 (b + 1) i ∧ f0 (b + 1) i ≤ 255) {br e H : Nat} {sum : Nat → Nat → PR} (he : br + e = 8) (hsub : e ≠ 0 → RdC l z g b t f0 mX8_readSum cdS sum H (br + 1)) : RdC l z g b t f0 mX8_readSum cdS (lvS (cj (f0 (b + 1)) t) (vj (f0 (b + 1)) t) sum e) (H + 11) br :=
  x_sum l z hT ht4 hby (H := H + 10) (by omega) (x_term l z hT ht4 hby (H := H + 9) (by omega) (x_part l z hT ht4 hby he hsub))
theorem x_lvT (l : Launch) (z : Zv) {g : Gm} {b t : Nat} {f0 : Fm} (hT : TL g b) (ht4 : t ≤ 400) (hby : ∀ i, 0 ≤ f0 (b + 1) i ∧ f0 (b + 1) i ≤ 255) {br e H : Nat} {sum test : Nat → Nat → PR} (he : br + e = 8) (hsub : e ≠ 0 → RdC l z g b t f0 mX8_readSum cdS sum H (br + 1)) (hsubT : e ≠ 0 → RdC l z g b t f0 mX8_readTest cdT test H (br + 1)) : RdC l z g b t f0 mX8_readTest cdT (lvT (cj (f0 (b + 1)) t) (vj (f0 (b + 1)) t) sum test e) (H + 15) br :=
  x_test l z hT ht4 hby (H := H + 14) (by omega) (x_both l z hT ht4 hby (H := H + 13) (by omega) (x_plain l z hT ht4 hby (H := H + 12) (H2 := H) (by omega) (by omega) he (x_cmp l z hT ht4 hby (H := H + 11) (by omega) (x_lvS l z hT ht4 hby he hsub)) hsubT))
theorem x_lev (l : Launch) (z : Zv) {g : Gm} {b t : Nat} {f0 : Fm} (hT : TL g b) (ht4 : t ≤ 400) (hby : ∀ i, 0 ≤ f0 (b + 1) i ∧ f0 (b + 1) i ≤ 255) : ∀ e br : Nat, br + e = 8 → RdC l z g b t f0 mX8_readSum cdS (lev (cj (f0 (b + 1)) t) (vj (f0 (b + 1)) t) e).1 (16 * e + 22) br ∧ RdC l z g b t f0 mX8_readTest cdT (lev (cj (f0 (b + 1)) t) (vj (f0 (b + 1)) t) e).2 (16 * e + 22) br
  | 0, br, he => ⟨(x_lvS l z hT ht4 hby (H := 6) he (fun h => absurd rfl h)).up (by omega), (x_lvT l z hT ht4 hby (H := 6) he (fun h => absurd rfl h) (fun h => absurd rfl h)).up (by omega)⟩
  | e + 1, br, he => by
    obtain ⟨h1, h2⟩ := x_lev l z hT ht4 hby e (br + 1) (by omega)
    exact ⟨(x_lvS l z hT ht4 hby he (fun _ => h1)).up (by omega), (x_lvT l z hT ht4 hby he (fun _ => h1) (fun _ => h2)).up (by omega)⟩
/-- the clause k stands in steps A and marks M, its steps at s .. s' - 1 -/
def clc (A M : Nat → Int) (k : Nat) (cl : Cl) (s s' : Nat) : Prop := M (4 * k) = b01 (cl.1 = true) ∧ M (4 * k + 1) = ((s : Nat) : Int) ∧ M (4 * k + 3) = ((s' : Nat) : Int) ∧ ∃ m : Nat, M (4 * k + 2) = ((m : Nat) : Int) ∧ (if cl.1 = true then cdS A cl.2.1 s m else m = s) ∧ (match cl.2.2 with
  | none => s' = m
  | some t2 => cdT A t2 m s' ∧ lvs t2 ≤ 50) ∧ lvs cl.2.1 ≤ 50
def dyC (dy : Int) (cl : Cl) : Int := dyO (dyO dy cl.2.1) (cl.2.2.getD .null)
def cco (b t : Nat) (f0 f : Fm) (g : Gm) (k s : Nat) (dy : Int) (R : Except Nat (Cl × Nat × Nat)) : Po := fun r g' f' => g = g' ∧ ((∃ x, R = .error x ∧ r = some (.int (iI 0)) ∧ f' b 3 = ((pl (f0 (b + 1)) t x : Nat) : Int) ∧ CF b t f0 f') ∨ (∃ cl j1 l1 s', R = .ok (cl, j1, l1) ∧ r = some (.int (iI 1)) ∧ CP b t f0 f' j1 l1 s' (dyC dy cl) ∧ clc (f' (b + 2)) (f' (b + 3)) k cl s s' ∧ (∀ i, i < s → f' (b + 2) i = f (b + 2) i) ∧ (∀ i, i < 4 * k → f' (b + 3) i = f (b + 3) i) ∧ s' ≤ j1 ∧ s ≤ s'))
theorem cpl_e {c v : Nat → Int} {j lv x : Nat} (h : (if c j = 1 then sSumT c v (j + 1) lv else if c j = 2 then .ok (.null, j + 1, lv) else .error j : PR) = .error x) : sCl c v j lv = .error x := by
  unfold sCl; rw [h]
theorem cpl_n {c v : Nat → Int} {j lv j1 l1 : Nat} {tr : Term} (h : (if c j = 1 then sSumT c v (j + 1) lv else if c j = 2 then .ok (.null, j + 1, lv) else .error j : PR) = .ok (tr, j1, l1)) (h3 : ¬ c j1 = 3) : sCl c v j lv = .ok ((decide (c j = 1), tr, none), j1, l1) := by
  unfold sCl; rw [h]; dsimp only; rw [if_neg h3]
theorem cpl_te {c v : Nat → Int} {j lv j1 l1 x : Nat} {tr : Term} (h : (if c j = 1 then sSumT c v (j + 1) lv else if c j = 2 then .ok (.null, j + 1, lv) else .error j : PR) = .ok (tr, j1, l1)) (h3 : c j1 = 3) (h4 : sTestT c v (j1 + 1) l1 = .error x) : sCl c v j lv = .error x := by
  unfold sCl; rw [h]; dsimp only; rw [if_pos h3, h4]
theorem cpl_t {c v : Nat → Int} {j lv j1 l1 j2 l2 : Nat} {tr t2 : Term} (h : (if c j = 1 then sSumT c v (j + 1) lv else if c j = 2 then .ok (.null, j + 1, lv) else .error j : PR) = .ok (tr, j1, l1)) (h3 : c j1 = 3) (h4 : sTestT c v (j1 + 1) l1 = .ok (t2, j2, l2)) : sCl c v j lv = .ok ((decide (c j = 1), tr, some t2), j2, l2) := by
  unfold sCl; rw [h]; dsimp only; rw [if_pos h3, h4]

set_option maxRecDepth 100000 in
set_option maxHeartbeats 4000000 in
theorem x_clause (l : Launch) (z : Zv) {g : Gm} {b t : Nat} {f0 : Fm} (hT : TL g b) (ht4 : t ≤ 400) (hby : ∀ i, 0 ≤ f0 (b + 1) i ∧ f0 (b + 1) i ≤ 255) {H k j lv s : Nat} {f : Fm} {dy : Int} (hH : 6 ≤ H) (hk12 : k < 12) (hsum : RdC l z g b t f0 mX8_readSum cdS (sSumT (cj (f0 (b + 1)) t) (vj (f0 (b + 1)) t)) H 0) (htest : RdC l z g b t f0 mX8_readTest cdT (sTestT (cj (f0 (b + 1)) t) (vj (f0 (b + 1)) t)) H 0) (hsj : s ≤ j) (hC : CP b t f0 f j lv s dy) {D : Nat} (hD : H + 1 ≤ D) : PM l z D mX8_readClause [(.ref b), (.int (iI ((4 * k : Nat) : Int)))] g f 0 0 (cco b t f0 f g k s dy (sCl (cj (f0 (b + 1)) t) (vj (f0 (b + 1)) t) j lv)) := by
  obtain ⟨d, rfl⟩ : ∃ d, D = d + 1 := ⟨D - 1, by omega⟩
  refine PM.of (by decide +kernel) (Nat.le_of_ble_eq_true rfl) ?_
  have hk1 := kc_j (t := t) hby j
  have hr := hC.r
  refine r_aload_n (pc := 0) 0 dX8_readClause_0 rfl rfl ?_
  refine r_getIv (pc := 1) (x := kj (f0 (b + 1)) t j) dX8_readClause_1 fl_X8_63 rfl hT.k (hC.k) ?_
  refine r_sipush (pc := 4) dX8_readClause_4 (by decide) ?_
  refine r_icmp_ne (pc := 7) (tgt := 14) dX8_readClause_7 (by decide) (by omega) (by omega) (fun c_7 => ?_) (fun c_7 => ?_)
  · refine r_iconst (pc := 14) dX8_readClause_14 ?_
    refine r_istore_n (pc := 15) (L2 := [(2, (.int (iI (0)))), (0, (.ref b)), (1, (.int (iI (((4 * k : Nat) : Int)))))]) dX8_readClause_15 rfl (by decide) rfl ?_
    refine r_iload_n (pc := 16) 0 dX8_readClause_16 rfl rfl ?_
    refine r_if_ne (pc := 17) (tgt := 35) dX8_readClause_17 (by decide) (by omega) (fun c_17 => ?_) (fun c_17 => ?_)
    · exact absurd c_17 (by decide)
    · refine r_aload_n (pc := 20) 1 dX8_readClause_20 rfl rfl ?_
      refine r_getIv (pc := 21) (x := kj (f0 (b + 1)) t j) dX8_readClause_21 fl_X8_63 rfl hT.k (hC.k) ?_
      refine r_sipush (pc := 24) dX8_readClause_24 (by decide) ?_
      refine r_icmp_eq (pc := 27) (tgt := 35) dX8_readClause_27 (by decide) (by omega) (by omega) (fun c_27 => ?_) (fun c_27 => ?_)
      · refine r_aload_n (pc := 35) 1 dX8_readClause_35 rfl rfl ?_
        refine r_callV (pc := 36) (As := []) (S := []) dX8_readClause_36 cv_X8_43 hT.k rfl (Nat.le_of_ble_eq_true rfl) (CP.adv l z (by omega) hT ht4 hby (hC) (by omega)) (Nat.zero_le _) (Nat.zero_le _) (fun r_36 g_36 f_36 q_36 => ?_)
        obtain ⟨rfl, rfl, hC_36, hS_36, hM_36⟩ := q_36
        refine r_aload_n (pc := 39) 1 dX8_readClause_39 rfl rfl ?_
        refine r_getR (pc := 40) (b := (b + 3)) dX8_readClause_40 fl_X8_20 rfl hT.k hT.r2 ?_
        refine r_iload_n (pc := 43) 2 dX8_readClause_43 rfl rfl ?_
        refine r_iconst (pc := 44) dX8_readClause_44 ?_
        refine r_iadd (pc := 45) dX8_readClause_45 ?_
        refine r_eqI (y := (((4 * k) + 0 : Nat) : Int)) (Int.natCast_add _ _ |>.symm) ?_
        refine r_iload_n (pc := 46) 0 dX8_readClause_46 rfl rfl ?_
        refine r_if_eq (pc := 47) (tgt := 54) dX8_readClause_47 (by decide) (by omega) (fun c_47 => ?_) (fun c_47 => ?_)
        · refine r_iconst (pc := 54) dX8_readClause_54 ?_
          refine r_iastv (pc := 55) (i := 4 * k) dX8_readClause_55 hT.a2 (by omega) (by decide) (by omega) ?_
          refine r_aload_n (pc := 56) 1 dX8_readClause_56 rfl rfl ?_
          refine r_getR (pc := 57) (b := (b + 3)) dX8_readClause_57 fl_X8_20 rfl hT.k hT.r2 ?_
          refine r_iload_n (pc := 60) 2 dX8_readClause_60 rfl rfl ?_
          refine r_iconst (pc := 61) dX8_readClause_61 ?_
          refine r_iadd (pc := 62) dX8_readClause_62 ?_
          refine r_eqI (y := (((4 * k) + 1 : Nat) : Int)) (Int.natCast_add _ _ |>.symm) ?_
          refine r_aload_n (pc := 63) 1 dX8_readClause_63 rfl rfl ?_
          refine r_getIv (pc := 64) (x := ((s : Nat) : Int)) dX8_readClause_64 fl_X8_30 rfl hT.k (rdn (by omega) (hC_36.xs)) ?_
          refine r_iastv (pc := 67) (i := 4 * k + 1) dX8_readClause_67 hT.a2 (by omega) (by decide) (by omega) ?_
          refine r_iload_n (pc := 68) 0 dX8_readClause_68 rfl rfl ?_
          refine r_if_eq (pc := 69) (tgt := 82) dX8_readClause_69 (by decide) (by omega) (fun c_69 => ?_) (fun c_69 => ?_)
          · refine r_aload_n (pc := 82) 1 dX8_readClause_82 rfl rfl ?_
            refine r_getR (pc := 83) (b := (b + 3)) dX8_readClause_83 fl_X8_20 rfl hT.k hT.r2 ?_
            refine r_iload_n (pc := 86) 2 dX8_readClause_86 rfl rfl ?_
            refine r_iconst (pc := 87) dX8_readClause_87 ?_
            refine r_iadd (pc := 88) dX8_readClause_88 ?_
            refine r_eqI (y := (((4 * k) + 2 : Nat) : Int)) (Int.natCast_add _ _ |>.symm) ?_
            refine r_aload_n (pc := 89) 1 dX8_readClause_89 rfl rfl ?_
            refine r_getIv (pc := 90) (x := ((s : Nat) : Int)) dX8_readClause_90 fl_X8_30 rfl hT.k (rdn (by omega) (rdn (by omega) (hC_36.xs))) ?_
            refine r_iastv (pc := 93) (i := 4 * k + 2) dX8_readClause_93 hT.a2 (by omega) (by decide) (by omega) ?_
            have hk2 := kc_j (t := t) hby (j + 1)
            refine r_aload_n (pc := 94) 1 dX8_readClause_94 rfl rfl ?_
            refine r_getIv (pc := 95) (x := kj (f0 (b + 1)) t (j + 1)) dX8_readClause_95 fl_X8_63 rfl hT.k (rdn (by omega) (rdn (by omega) (rdn (by omega) (hC_36.k)))) ?_
            refine r_sipush (pc := 98) dX8_readClause_98 (by decide) ?_
            refine r_icmp_ne (pc := 101) (tgt := 118) dX8_readClause_101 (by decide) (by omega) (by omega) (fun c_101 => ?_) (fun c_101 => ?_)
            · refine r_aload_n (pc := 118) 1 dX8_readClause_118 rfl rfl ?_
              refine r_getR (pc := 119) (b := (b + 3)) dX8_readClause_119 fl_X8_20 rfl hT.k hT.r2 ?_
              refine r_iload_n (pc := 122) 2 dX8_readClause_122 rfl rfl ?_
              refine r_iconst (pc := 123) dX8_readClause_123 ?_
              refine r_iadd (pc := 124) dX8_readClause_124 ?_
              refine r_eqI (y := (((4 * k) + 3 : Nat) : Int)) (Int.natCast_add _ _ |>.symm) ?_
              refine r_aload_n (pc := 125) 1 dX8_readClause_125 rfl rfl ?_
              refine r_getIv (pc := 126) (x := ((s : Nat) : Int)) dX8_readClause_126 fl_X8_30 rfl hT.k (rdn (by omega) (rdn (by omega) (rdn (by omega) (hC_36.xs)))) ?_
              refine r_iastv (pc := 129) (i := 4 * k + 3) dX8_readClause_129 hT.a2 (by omega) (by decide) (by omega) ?_
              refine r_iconst (pc := 130) dX8_readClause_130 ?_
              have hcw : decide (cj (f0 (b + 1)) t j = 1) = false := by rw [decide_eq_false_iff_not]; omega
              exact r_iret (pc := 131) dX8_readClause_131 rfl rfl ⟨rfl, Or.inr ⟨(false, .null, none), _, _, s, by rw [cpl_n (by rw [if_neg (by omega), if_pos (by omega)]) (by omega), hcw], rfl, ((((hC_36).fix (Or.inr rfl)).fix (Or.inr rfl)).fix (Or.inr rfl)).fix (Or.inr rfl), ⟨rdi (by omega) (rdi (by omega) (rdi (by omega) (stF_s _ _ _ _))), rdi (by omega) (rdi (by omega) (stF_s _ _ _ _)), stF_s _ _ _ _, s, rdi (by omega) (stF_s _ _ _ _), by rw [if_neg Bool.false_ne_true], rfl, Nat.zero_le _⟩, fun i hi => rdn (by omega) (rdn (by omega) (rdn (by omega) (rdn (by omega) (by rw [hS_36])))), fun i hi => rdi (by omega) (rdi (by omega) (rdi (by omega) (rdi (by omega) (by rw [hM_36])))), by omega, by omega⟩⟩
            · refine r_aload_n (pc := 104) 1 dX8_readClause_104 rfl rfl ?_
              refine r_callV (pc := 105) (As := []) (S := []) dX8_readClause_105 cv_X8_43 hT.k rfl (Nat.le_of_ble_eq_true rfl) (CP.adv l z (by omega) hT ht4 hby ((((hC_36).fix (Or.inr rfl)).fix (Or.inr rfl)).fix (Or.inr rfl)) (by omega)) (Nat.zero_le _) (Nat.zero_le _) (fun r_105 g_105 f_105 q_105 => ?_)
              obtain ⟨rfl, rfl, hC_105, hS_105, hM_105⟩ := q_105
              refine r_aload_n (pc := 108) 1 dX8_readClause_108 rfl rfl ?_
              refine r_iconst (pc := 109) dX8_readClause_109 ?_
              refine r_callV (pc := 110) (As := [(.int (iI (0)))]) (S := []) dX8_readClause_110 cv_X8_73 hT.k rfl (Nat.le_of_ble_eq_true rfl) (htest _ (by omega) _ _ _ _ _ (by omega) (hC_105)) (Nat.zero_le _) (Nat.zero_le _) (fun r_110 g_110 f_110 q_110 => ?_)
              obtain ⟨rfl, ⟨x_110, hR_110, rfl, hx_110, hF_110⟩ | ⟨t_110, j_110, l_110, s_110, hR_110, rfl, hC_110, hc_110, hS_110, hM_110, hv_110, hj_110⟩⟩ := cpo_or q_110
              · refine r_if_ne (pc := 113) (tgt := 118) dX8_readClause_113 (by decide) (by omega) (fun c_113 => ?_) (fun c_113 => ?_)
                · exact absurd c_113 (by decide)
                · refine r_iconst (pc := 116) dX8_readClause_116 ?_
                  exact r_iret (pc := 117) dX8_readClause_117 rfl rfl ⟨rfl, Or.inl ⟨_, cpl_te (by rw [if_neg (by omega), if_pos (by omega)]) (by omega) hR_110, rfl, hx_110, hF_110⟩⟩
              · refine r_if_ne (pc := 113) (tgt := 118) dX8_readClause_113 (by decide) (by omega) (fun c_113 => ?_) (fun c_113 => ?_)
                · refine r_aload_n (pc := 118) 1 dX8_readClause_118 rfl rfl ?_
                  refine r_getR (pc := 119) (b := (b + 3)) dX8_readClause_119 fl_X8_20 rfl hT.k hT.r2 ?_
                  refine r_iload_n (pc := 122) 2 dX8_readClause_122 rfl rfl ?_
                  refine r_iconst (pc := 123) dX8_readClause_123 ?_
                  refine r_iadd (pc := 124) dX8_readClause_124 ?_
                  refine r_eqI (y := (((4 * k) + 3 : Nat) : Int)) (Int.natCast_add _ _ |>.symm) ?_
                  refine r_aload_n (pc := 125) 1 dX8_readClause_125 rfl rfl ?_
                  refine r_getIv (pc := 126) (x := ((s_110 : Nat) : Int)) dX8_readClause_126 fl_X8_30 rfl hT.k (hC_110.xs) ?_
                  refine r_iastv (pc := 129) (i := 4 * k + 3) dX8_readClause_129 hT.a2 (by omega) (by decide) (by omega) ?_
                  refine r_iconst (pc := 130) dX8_readClause_130 ?_
                  have hlt2 := cdT_lt hc_110
                  have hcw : decide (cj (f0 (b + 1)) t j = 1) = false := by rw [decide_eq_false_iff_not]; omega
                  exact r_iret (pc := 131) dX8_readClause_131 rfl rfl ⟨rfl, Or.inr ⟨(false, .null, some t_110), _, _, s_110, by rw [cpl_t (by rw [if_neg (by omega), if_pos (by omega)]) (by omega) hR_110, hcw], rfl, (hC_110).fix (Or.inr rfl), ⟨rdi (by omega) (by rw [hM_110, hM_105]; exact rdi (by omega) (rdi (by omega) (stF_s _ _ _ _))), rdi (by omega) (by rw [hM_110, hM_105]; exact rdi (by omega) (stF_s _ _ _ _)), stF_s _ _ _ _, s, rdi (by omega) (by rw [hM_110, hM_105]; exact stF_s _ _ _ _), by rw [if_neg Bool.false_ne_true], ⟨cdT_congr (fun i q1 q2 => rdn (by omega) rfl) hc_110, by have := hC_110.r; omega⟩, Nat.zero_le _⟩, fun i hi => rdn (by omega) (by rw [hS_110 i (by omega), hS_105]; exact rdn (by omega) (rdn (by omega) (rdn (by omega) (by rw [hS_36])))), fun i hi => rdi (by omega) (by rw [hM_110, hM_105]; exact rdi (by omega) (rdi (by omega) (rdi (by omega) (by rw [hM_36])))), by omega, by omega⟩⟩
                · exact absurd c_113 (by decide)
          · exact absurd c_69 (by decide)
        · exact absurd c_47 (by decide)
      · refine r_aload_n (pc := 30) 1 dX8_readClause_30 rfl rfl ?_
        refine r_callV (pc := 31) (As := []) (S := []) dX8_readClause_31 cv_X8_66 hT.k rfl (Nat.le_of_ble_eq_true rfl) (x_fail l z _ hT (hC)) (Nat.zero_le _) (Nat.zero_le _) (fun r_31 g_31 f_31 q_31 => ?_)
        obtain ⟨rfl, rfl, hx_31, hF_31⟩ := q_31
        exact r_iret (pc := 34) dX8_readClause_34 rfl rfl ⟨rfl, Or.inl ⟨_, cpl_e (by rw [if_neg (by omega), if_neg (by omega)]), rfl, hx_31, hF_31⟩⟩
  · refine r_iconst (pc := 10) dX8_readClause_10 ?_
    refine r_goto (pc := 11) (tgt := 15) dX8_readClause_11 (by decide) ?_
    refine r_istore_n (pc := 15) (L2 := [(2, (.int (iI (1)))), (0, (.ref b)), (1, (.int (iI (((4 * k : Nat) : Int)))))]) dX8_readClause_15 rfl (by decide) rfl ?_
    refine r_iload_n (pc := 16) 0 dX8_readClause_16 rfl rfl ?_
    refine r_if_ne (pc := 17) (tgt := 35) dX8_readClause_17 (by decide) (by omega) (fun c_17 => ?_) (fun c_17 => ?_)
    · refine r_aload_n (pc := 35) 1 dX8_readClause_35 rfl rfl ?_
      refine r_callV (pc := 36) (As := []) (S := []) dX8_readClause_36 cv_X8_43 hT.k rfl (Nat.le_of_ble_eq_true rfl) (CP.adv l z (by omega) hT ht4 hby (hC) (by omega)) (Nat.zero_le _) (Nat.zero_le _) (fun r_36 g_36 f_36 q_36 => ?_)
      obtain ⟨rfl, rfl, hC_36, hS_36, hM_36⟩ := q_36
      refine r_aload_n (pc := 39) 1 dX8_readClause_39 rfl rfl ?_
      refine r_getR (pc := 40) (b := (b + 3)) dX8_readClause_40 fl_X8_20 rfl hT.k hT.r2 ?_
      refine r_iload_n (pc := 43) 2 dX8_readClause_43 rfl rfl ?_
      refine r_iconst (pc := 44) dX8_readClause_44 ?_
      refine r_iadd (pc := 45) dX8_readClause_45 ?_
      refine r_eqI (y := (((4 * k) + 0 : Nat) : Int)) (Int.natCast_add _ _ |>.symm) ?_
      refine r_iload_n (pc := 46) 0 dX8_readClause_46 rfl rfl ?_
      refine r_if_eq (pc := 47) (tgt := 54) dX8_readClause_47 (by decide) (by omega) (fun c_47 => ?_) (fun c_47 => ?_)
      · exact absurd c_47 (by decide)
      · refine r_iconst (pc := 50) dX8_readClause_50 ?_
        refine r_goto (pc := 51) (tgt := 55) dX8_readClause_51 (by decide) ?_
        refine r_iastv (pc := 55) (i := 4 * k) dX8_readClause_55 hT.a2 (by omega) (by decide) (by omega) ?_
        refine r_aload_n (pc := 56) 1 dX8_readClause_56 rfl rfl ?_
        refine r_getR (pc := 57) (b := (b + 3)) dX8_readClause_57 fl_X8_20 rfl hT.k hT.r2 ?_
        refine r_iload_n (pc := 60) 2 dX8_readClause_60 rfl rfl ?_
        refine r_iconst (pc := 61) dX8_readClause_61 ?_
        refine r_iadd (pc := 62) dX8_readClause_62 ?_
        refine r_eqI (y := (((4 * k) + 1 : Nat) : Int)) (Int.natCast_add _ _ |>.symm) ?_
        refine r_aload_n (pc := 63) 1 dX8_readClause_63 rfl rfl ?_
        refine r_getIv (pc := 64) (x := ((s : Nat) : Int)) dX8_readClause_64 fl_X8_30 rfl hT.k (rdn (by omega) (hC_36.xs)) ?_
        refine r_iastv (pc := 67) (i := 4 * k + 1) dX8_readClause_67 hT.a2 (by omega) (by decide) (by omega) ?_
        refine r_iload_n (pc := 68) 0 dX8_readClause_68 rfl rfl ?_
        refine r_if_eq (pc := 69) (tgt := 82) dX8_readClause_69 (by decide) (by omega) (fun c_69 => ?_) (fun c_69 => ?_)
        · exact absurd c_69 (by decide)
        · refine r_aload_n (pc := 72) 1 dX8_readClause_72 rfl rfl ?_
          refine r_iconst (pc := 73) dX8_readClause_73 ?_
          refine r_callV (pc := 74) (As := [(.int (iI (0)))]) (S := []) dX8_readClause_74 cv_X8_70 hT.k rfl (Nat.le_of_ble_eq_true rfl) (hsum _ (by omega) _ _ _ _ _ (by omega) (((hC_36).fix (Or.inr rfl)).fix (Or.inr rfl))) (Nat.zero_le _) (Nat.zero_le _) (fun r_74 g_74 f_74 q_74 => ?_)
          obtain ⟨rfl, ⟨x_74, hR_74, rfl, hx_74, hF_74⟩ | ⟨t_74, j_74, l_74, s_74, hR_74, rfl, hC_74, hc_74, hS_74, hM_74, hv_74, hj_74⟩⟩ := cpo_or q_74
          · refine r_if_ne (pc := 77) (tgt := 82) dX8_readClause_77 (by decide) (by omega) (fun c_77 => ?_) (fun c_77 => ?_)
            · exact absurd c_77 (by decide)
            · refine r_iconst (pc := 80) dX8_readClause_80 ?_
              exact r_iret (pc := 81) dX8_readClause_81 rfl rfl ⟨rfl, Or.inl ⟨_, cpl_e (by rw [if_pos (by omega)]; exact hR_74), rfl, hx_74, hF_74⟩⟩
          · refine r_if_ne (pc := 77) (tgt := 82) dX8_readClause_77 (by decide) (by omega) (fun c_77 => ?_) (fun c_77 => ?_)
            · refine r_aload_n (pc := 82) 1 dX8_readClause_82 rfl rfl ?_
              refine r_getR (pc := 83) (b := (b + 3)) dX8_readClause_83 fl_X8_20 rfl hT.k hT.r2 ?_
              refine r_iload_n (pc := 86) 2 dX8_readClause_86 rfl rfl ?_
              refine r_iconst (pc := 87) dX8_readClause_87 ?_
              refine r_iadd (pc := 88) dX8_readClause_88 ?_
              refine r_eqI (y := (((4 * k) + 2 : Nat) : Int)) (Int.natCast_add _ _ |>.symm) ?_
              refine r_aload_n (pc := 89) 1 dX8_readClause_89 rfl rfl ?_
              refine r_getIv (pc := 90) (x := ((s_74 : Nat) : Int)) dX8_readClause_90 fl_X8_30 rfl hT.k (hC_74.xs) ?_
              refine r_iastv (pc := 93) (i := 4 * k + 2) dX8_readClause_93 hT.a2 (by omega) (by decide) (by omega) ?_
              have hk2 := kc_j (t := t) hby j_74
              refine r_aload_n (pc := 94) 1 dX8_readClause_94 rfl rfl ?_
              refine r_getIv (pc := 95) (x := kj (f0 (b + 1)) t j_74) dX8_readClause_95 fl_X8_63 rfl hT.k (rdn (by omega) (hC_74.k)) ?_
              refine r_sipush (pc := 98) dX8_readClause_98 (by decide) ?_
              refine r_icmp_ne (pc := 101) (tgt := 118) dX8_readClause_101 (by decide) (by omega) (by omega) (fun c_101 => ?_) (fun c_101 => ?_)
              · refine r_aload_n (pc := 118) 1 dX8_readClause_118 rfl rfl ?_
                refine r_getR (pc := 119) (b := (b + 3)) dX8_readClause_119 fl_X8_20 rfl hT.k hT.r2 ?_
                refine r_iload_n (pc := 122) 2 dX8_readClause_122 rfl rfl ?_
                refine r_iconst (pc := 123) dX8_readClause_123 ?_
                refine r_iadd (pc := 124) dX8_readClause_124 ?_
                refine r_eqI (y := (((4 * k) + 3 : Nat) : Int)) (Int.natCast_add _ _ |>.symm) ?_
                refine r_aload_n (pc := 125) 1 dX8_readClause_125 rfl rfl ?_
                refine r_getIv (pc := 126) (x := ((s_74 : Nat) : Int)) dX8_readClause_126 fl_X8_30 rfl hT.k (rdn (by omega) (hC_74.xs)) ?_
                refine r_iastv (pc := 129) (i := 4 * k + 3) dX8_readClause_129 hT.a2 (by omega) (by decide) (by omega) ?_
                refine r_iconst (pc := 130) dX8_readClause_130 ?_
                have hlt1 := cdS_lt hc_74
                have hcw : decide (cj (f0 (b + 1)) t j = 1) = true := by rw [decide_eq_true_eq]; omega
                exact r_iret (pc := 131) dX8_readClause_131 rfl rfl ⟨rfl, Or.inr ⟨(true, t_74, none), _, _, s_74, by rw [cpl_n (by rw [if_pos (by omega)]; exact hR_74) (by omega), hcw], rfl, ((hC_74).fix (Or.inr rfl)).fix (Or.inr rfl), ⟨rdi (by omega) (rdi (by omega) (by rw [hM_74]; exact rdi (by omega) (stF_s _ _ _ _))), rdi (by omega) (rdi (by omega) (by rw [hM_74]; exact stF_s _ _ _ _)), stF_s _ _ _ _, s_74, rdi (by omega) (stF_s _ _ _ _), by rw [if_pos rfl]; exact cdS_congr (fun i q1 q2 => rdn (by omega) (rdn (by omega) rfl)) hc_74, rfl, by show lvs t_74 ≤ 50; have := hC_74.r; omega⟩, fun i hi => rdn (by omega) (rdn (by omega) (by rw [hS_74 i (by omega)]; exact rdn (by omega) (rdn (by omega) (by rw [hS_36])))), fun i hi => rdi (by omega) (rdi (by omega) (by rw [hM_74]; exact rdi (by omega) (rdi (by omega) (by rw [hM_36])))), by omega, by omega⟩⟩
              · refine r_aload_n (pc := 104) 1 dX8_readClause_104 rfl rfl ?_
                refine r_callV (pc := 105) (As := []) (S := []) dX8_readClause_105 cv_X8_43 hT.k rfl (Nat.le_of_ble_eq_true rfl) (CP.adv l z (by omega) hT ht4 hby ((hC_74).fix (Or.inr rfl)) (by omega)) (Nat.zero_le _) (Nat.zero_le _) (fun r_105 g_105 f_105 q_105 => ?_)
                obtain ⟨rfl, rfl, hC_105, hS_105, hM_105⟩ := q_105
                refine r_aload_n (pc := 108) 1 dX8_readClause_108 rfl rfl ?_
                refine r_iconst (pc := 109) dX8_readClause_109 ?_
                refine r_callV (pc := 110) (As := [(.int (iI (0)))]) (S := []) dX8_readClause_110 cv_X8_73 hT.k rfl (Nat.le_of_ble_eq_true rfl) (htest _ (by omega) _ _ _ _ _ (by omega) (hC_105)) (Nat.zero_le _) (Nat.zero_le _) (fun r_110 g_110 f_110 q_110 => ?_)
                obtain ⟨rfl, ⟨x_110, hR_110, rfl, hx_110, hF_110⟩ | ⟨t_110, j_110, l_110, s_110, hR_110, rfl, hC_110, hc_110, hS_110, hM_110, hv_110, hj_110⟩⟩ := cpo_or q_110
                · refine r_if_ne (pc := 113) (tgt := 118) dX8_readClause_113 (by decide) (by omega) (fun c_113 => ?_) (fun c_113 => ?_)
                  · exact absurd c_113 (by decide)
                  · refine r_iconst (pc := 116) dX8_readClause_116 ?_
                    exact r_iret (pc := 117) dX8_readClause_117 rfl rfl ⟨rfl, Or.inl ⟨_, cpl_te (by rw [if_pos (by omega)]; exact hR_74) (by omega) hR_110, rfl, hx_110, hF_110⟩⟩
                · refine r_if_ne (pc := 113) (tgt := 118) dX8_readClause_113 (by decide) (by omega) (fun c_113 => ?_) (fun c_113 => ?_)
                  · refine r_aload_n (pc := 118) 1 dX8_readClause_118 rfl rfl ?_
                    refine r_getR (pc := 119) (b := (b + 3)) dX8_readClause_119 fl_X8_20 rfl hT.k hT.r2 ?_
                    refine r_iload_n (pc := 122) 2 dX8_readClause_122 rfl rfl ?_
                    refine r_iconst (pc := 123) dX8_readClause_123 ?_
                    refine r_iadd (pc := 124) dX8_readClause_124 ?_
                    refine r_eqI (y := (((4 * k) + 3 : Nat) : Int)) (Int.natCast_add _ _ |>.symm) ?_
                    refine r_aload_n (pc := 125) 1 dX8_readClause_125 rfl rfl ?_
                    refine r_getIv (pc := 126) (x := ((s_110 : Nat) : Int)) dX8_readClause_126 fl_X8_30 rfl hT.k (hC_110.xs) ?_
                    refine r_iastv (pc := 129) (i := 4 * k + 3) dX8_readClause_129 hT.a2 (by omega) (by decide) (by omega) ?_
                    refine r_iconst (pc := 130) dX8_readClause_130 ?_
                    have hlt1 := cdS_lt hc_74
                    have hlt2 := cdT_lt hc_110
                    have hcw : decide (cj (f0 (b + 1)) t j = 1) = true := by rw [decide_eq_true_eq]; omega
                    exact r_iret (pc := 131) dX8_readClause_131 rfl rfl ⟨rfl, Or.inr ⟨(true, t_74, some t_110), _, _, s_110, by rw [cpl_t (by rw [if_pos (by omega)]; exact hR_74) (by omega) hR_110, hcw], rfl, (hC_110).fix (Or.inr rfl), ⟨rdi (by omega) (by rw [hM_110, hM_105]; exact rdi (by omega) (by rw [hM_74]; exact rdi (by omega) (stF_s _ _ _ _))), rdi (by omega) (by rw [hM_110, hM_105]; exact rdi (by omega) (by rw [hM_74]; exact stF_s _ _ _ _)), stF_s _ _ _ _, s_74, rdi (by omega) (by rw [hM_110, hM_105]; exact stF_s _ _ _ _), by rw [if_pos rfl]; exact cdS_congr (fun i q1 q2 => rdn (by omega) (by rw [hS_110 i (by omega), hS_105]; exact rdn (by omega) rfl)) hc_74, ⟨cdT_congr (fun i q1 q2 => rdn (by omega) rfl) hc_110, by have := hC_110.r; omega⟩, by show lvs t_74 ≤ 50; have := hC_74.r; omega⟩, fun i hi => rdn (by omega) (by rw [hS_110 i (by omega), hS_105]; exact rdn (by omega) (by rw [hS_74 i (by omega)]; exact rdn (by omega) (rdn (by omega) (by rw [hS_36])))), fun i hi => rdi (by omega) (by rw [hM_110, hM_105]; exact rdi (by omega) (by rw [hM_74]; exact rdi (by omega) (rdi (by omega) (by rw [hM_36])))), by omega, by omega⟩⟩
                  · exact absurd c_113 (by decide)
            · exact absurd c_77 (by decide)
    · exact absurd c_17 (by decide)

/-- the clauses cls stand from the mark k0 on, their steps at s .. s' - 1 -/
def lwc (A M : Nat → Int) : List Cl → Nat → Nat → Nat → Prop
  | [], _, s, s' => s = s'
  | cl :: rest, k, s, s' => ∃ m, clc A M k cl s m ∧ s ≤ m ∧ lwc A M rest (k + 1) m s'
theorem clc_congr {A M A' M' : Nat → Int} {k s s' : Nat} {cl : Cl} (hA : ∀ i, i < s' → A' i = A i) (hM : ∀ i, i < 4 * k + 4 → M' i = M i) (hs : s ≤ s') (h : clc A M k cl s s') : clc A' M' k cl s s' := by
  obtain ⟨h1, h2, h3, m, h4, h5, h6, h7⟩ := h
  refine ⟨by rw [hM _ (by omega)]; exact h1, by rw [hM _ (by omega)]; exact h2, by rw [hM _ (by omega)]; exact h3, m, by rw [hM _ (by omega)]; exact h4, ?_, ?_, h7⟩
  · by_cases hc : cl.1 = true
    · rw [if_pos hc] at h5 ⊢
      have hm : m ≤ s' := by
        match hq : cl.2.2, h6 with
        | none, h6 => exact Nat.le_of_eq h6.symm
        | some t2, h6 => exact Nat.le_of_lt (cdT_lt h6.1)
      exact cdS_congr (fun i q1 q2 => hA i (by omega)) h5
    · rw [if_neg hc] at h5 ⊢; exact h5
  · match hq : cl.2.2, h6 with
    | none, h6 => exact h6
    | some t2, h6 => exact ⟨cdT_congr (fun i q1 q2 => hA i (by omega)) h6.1, h6.2⟩
theorem lwc_app {A M : Nat → Int} {cl : Cl} : ∀ (cls : List Cl) (k s s1 s' : Nat), lwc A M cls k s s1 → s1 ≤ s' → clc A M (k + cls.length) cl s1 s' → lwc A M (cls ++ [cl]) k s s'
  | [], k, s, s1, s', h, hl, hc => by
    have e : s = s1 := h
    subst e
    exact ⟨s', hc, hl, rfl⟩
  | c0 :: rest, k, s, s1, s', h, hl, hc => by
    obtain ⟨m, h1, h2, h3⟩ := h
    exact ⟨m, h1, h2, lwc_app rest (k + 1) m s1 s' h3 hl (by rw [show k + 1 + rest.length = k + (c0 :: rest).length by simp only [List.length_cons]; omega]; exact hc)⟩
theorem lwc_le {A M : Nat → Int} : ∀ (cls : List Cl) (k s s' : Nat), lwc A M cls k s s' → s ≤ s'
  | [], k, s, s', h => Nat.le_of_eq h
  | c0 :: rest, k, s, s', h => by
    obtain ⟨m, h1, h2, h3⟩ := h
    have := lwc_le rest _ _ _ h3
    omega
theorem lwc_congr {A M A' M' : Nat → Int} {s' : Nat} (hA : ∀ i, i < s' → A' i = A i) : ∀ (cls : List Cl) (k s : Nat), (∀ i, i < 4 * (k + cls.length) → M' i = M i) → lwc A M cls k s s' → lwc A' M' cls k s s'
  | [], k, s, _, h => h
  | c0 :: rest, k, s, hM, h => by
    obtain ⟨m, h1, h2, h3⟩ := h
    have hl := lwc_le rest _ _ _ h3
    simp only [List.length_cons] at hM
    exact ⟨m, clc_congr (fun i q => hA i (by omega)) (fun i q => hM i (by omega)) h2 h1, h2, lwc_congr hA rest (k + 1) m (fun i q => hM i (by omega)) h3⟩
def dyL (dy : Int) (cls : List Cl) : Int := cls.foldl dyC dy
def enj (B : Nat → Int) (t j : Nat) : Bool := decide (t ≤ pl B t j)

set_option maxRecDepth 100000 in
set_option maxHeartbeats 4000000 in
theorem x_clauses (l : Launch) (z : Zv) {g : Gm} {b t : Nat} {f0 : Fm} (hT : TL g b) (ht4 : t ≤ 400) (hby : ∀ i, 0 ≤ f0 (b + 1) i ∧ f0 (b + 1) i ≤ 255) {H : Nat} {f : Fm} (hH : 6 ≤ H) (hsum : RdC l z g b t f0 mX8_readSum cdS (sSumT (cj (f0 (b + 1)) t) (vj (f0 (b + 1)) t)) H 0) (htest : RdC l z g b t f0 mX8_readTest cdT (sTestT (cj (f0 (b + 1)) t) (vj (f0 (b + 1)) t)) H 0) (hC : CP b t f0 f 0 0 0 0) {D : Nat} (hD : H + 2 ≤ D) : PM l z D mX8_readClauses [(.ref b)] g f 0 0 (fun r g' f' => g = g' ∧ ((∃ x, sLaw (cj (f0 (b + 1)) t) (vj (f0 (b + 1)) t) (enj (f0 (b + 1)) t) 12 0 0 [] = .error x ∧ r = some (.int (iI 0)) ∧ f' b 3 = ((pl (f0 (b + 1)) t x : Nat) : Int) ∧ CF b t f0 f') ∨ (∃ cls j1 l1 s', sLaw (cj (f0 (b + 1)) t) (vj (f0 (b + 1)) t) (enj (f0 (b + 1)) t) 12 0 0 [] = .ok cls ∧ 0 < cls.length ∧ cls.length ≤ 12 ∧ r = some (.int (iI ((cls.length : Nat) : Int))) ∧ CP b t f0 f' j1 l1 s' (dyL 0 cls) ∧ lwc (f' (b + 2)) (f' (b + 3)) cls 0 0 s'))) := by
  obtain ⟨d, rfl⟩ : ∃ d, D = d + 1 := ⟨D - 1, by omega⟩
  refine PM.of (by decide +kernel) (Nat.le_of_ble_eq_true rfl) ?_
  have loop : ∀ m : Nat, ∀ k : Nat, m + k = 12 → ∀ (f1 : Fm) (cls : List Cl) (j1 l1 s1 : Nat), sLaw (cj (f0 (b + 1)) t) (vj (f0 (b + 1)) t) (enj (f0 (b + 1)) t) 12 0 0 [] = sLaw (cj (f0 (b + 1)) t) (vj (f0 (b + 1)) t) (enj (f0 (b + 1)) t) m j1 l1 cls → CP b t f0 f1 j1 l1 s1 (dyL 0 cls) → cls.length = k → lwc (f1 (b + 2)) (f1 (b + 3)) cls 0 0 s1 → s1 ≤ j1 → PW l z (d + 1) mX8_readClauses 0 0 (fun r g' f' => g = g' ∧ ((∃ x, sLaw (cj (f0 (b + 1)) t) (vj (f0 (b + 1)) t) (enj (f0 (b + 1)) t) 12 0 0 [] = .error x ∧ r = some (.int (iI 0)) ∧ f' b 3 = ((pl (f0 (b + 1)) t x : Nat) : Int) ∧ CF b t f0 f') ∨ (∃ cls j1 l1 s', sLaw (cj (f0 (b + 1)) t) (vj (f0 (b + 1)) t) (enj (f0 (b + 1)) t) 12 0 0 [] = .ok cls ∧ 0 < cls.length ∧ cls.length ≤ 12 ∧ r = some (.int (iI ((cls.length : Nat) : Int))) ∧ CP b t f0 f' j1 l1 s' (dyL 0 cls) ∧ lwc (f' (b + 2)) (f' (b + 3)) cls 0 0 s'))) 2 [(1, (.int (iI (((k : Nat) : Int))))), (0, (.ref b))] [] g f1 0 0 := by
    intro m
    induction m using Nat.strongRecOn with
    | _ m ih =>
      intro k hm f1 cls j1 l1 s1 hR hC1 hlen hlw hsj
      refine r_iload_n (pc := 2) 0 dX8_readClauses_2 rfl rfl ?_
      refine r_bipush (pc := 3) dX8_readClauses_3 (by decide) ?_
      refine r_icmp_ge (pc := 5) (tgt := 60) dX8_readClauses_5 (by decide) (by omega) (by omega) (fun c_5 => ?_) (fun c_5 => ?_)
      · refine r_aload_n (pc := 60) 1 dX8_readClauses_60 rfl rfl ?_
        refine r_callV (pc := 61) (As := []) (S := []) dX8_readClauses_61 cv_X8_66 hT.k rfl (Nat.le_of_ble_eq_true rfl) (x_fail l z _ hT (hC1)) (Nat.zero_le _) (Nat.zero_le _) (fun r_61 g_61 f_61 q_61 => ?_)
        obtain ⟨rfl, rfl, hx_61, hF_61⟩ := q_61
        refine r_pop (pc := 64) dX8_readClauses_64 rfl ?_
        refine r_iconst (pc := 65) dX8_readClauses_65 ?_
        exact r_iret (pc := 66) dX8_readClauses_66 rfl rfl ⟨rfl, Or.inl ⟨j1, by rw [hR, show m = 0 by omega, sLaw], rfl, hx_61, hF_61⟩⟩
      · obtain ⟨m', rfl⟩ : ∃ m', m = m' + 1 := ⟨m - 1, by omega⟩
        refine r_aload_n (pc := 8) 1 dX8_readClauses_8 rfl rfl ?_
        refine r_iload_n (pc := 9) 0 dX8_readClauses_9 rfl rfl ?_
        refine r_iconst (pc := 10) dX8_readClauses_10 ?_
        refine r_imul (pc := 11) dX8_readClauses_11 ?_
        refine r_eqI (y := ((4 * k : Nat) : Int)) (by omega) ?_
        refine r_callV (pc := 12) (As := [(.int (iI (((4 * k : Nat) : Int))))]) (S := []) dX8_readClauses_12 cv_X8_59 hT.k rfl (Nat.le_of_ble_eq_true rfl) (x_clause (k := k) l z hT ht4 hby hH (by omega) hsum htest (by omega) hC1 (by omega)) (Nat.zero_le _) (Nat.zero_le _) (fun r_12 g_12 f_12 q_12 => ?_)
        obtain ⟨rfl, ⟨x_12, hR_12, rfl, hx_12, hF_12⟩ | ⟨cl_12, j_12, l_12, s_12, hR_12, rfl, hC_12, hc_12, hS_12, hM_12, hsj_12, hss_12⟩⟩ := q_12
        · refine r_if_ne (pc := 15) (tgt := 20) dX8_readClauses_15 (by decide) (by omega) (fun c_15 => ?_) (fun c_15 => ?_)
          · exact absurd c_15 (by decide)
          · refine r_iconst (pc := 18) dX8_readClauses_18 ?_
            exact r_iret (pc := 19) dX8_readClauses_19 rfl rfl ⟨rfl, Or.inl ⟨x_12, by rw [hR, sLaw, hR_12], rfl, hx_12, hF_12⟩⟩
        · have hk2 := kc_j (t := t) hby j_12
          refine r_if_ne (pc := 15) (tgt := 20) dX8_readClauses_15 (by decide) (by omega) (fun c_15 => ?_) (fun c_15 => ?_)
          · refine r_aload_n (pc := 20) 1 dX8_readClauses_20 rfl rfl ?_
            refine r_getIv (pc := 21) (x := kj (f0 (b + 1)) t j_12) dX8_readClauses_21 fl_X8_63 rfl hT.k (hC_12.k) ?_
            refine r_sipush (pc := 24) dX8_readClauses_24 (by decide) ?_
            refine r_icmp_ne (pc := 27) (tgt := 34) dX8_readClauses_27 (by decide) (by omega) (by omega) (fun c_27 => ?_) (fun c_27 => ?_)
            · refine r_aload_n (pc := 34) 1 dX8_readClauses_34 rfl rfl ?_
              refine r_getIv (pc := 35) (x := kj (f0 (b + 1)) t j_12) dX8_readClauses_35 fl_X8_63 rfl hT.k (hC_12.k) ?_
              refine r_bipush (pc := 38) dX8_readClauses_38 (by decide) ?_
              refine r_icmp_eq (pc := 40) (tgt := 50) dX8_readClauses_40 (by decide) (by omega) (by omega) (fun c_40 => ?_) (fun c_40 => ?_)
              · refine r_aload_n (pc := 50) 1 dX8_readClauses_50 rfl rfl ?_
                refine r_callV (pc := 51) (As := []) (S := []) dX8_readClauses_51 cv_X8_43 hT.k rfl (Nat.le_of_ble_eq_true rfl) (CP.adv l z (by omega) hT ht4 hby (hC_12) (by omega)) (Nat.zero_le _) (Nat.zero_le _) (fun r_51 g_51 f_51 q_51 => ?_)
                obtain ⟨rfl, rfl, hC_51, hS_51, hM_51⟩ := q_51
                refine r_iincv (pc := 54) (y := ((k + 1 : Nat) : Int)) (L2 := [(1, (.int (iI (((k + 1 : Nat) : Int))))), (0, (.ref b))]) 0 dX8_readClauses_54 rfl (by omega) (by decide) rfl ?_
                refine r_goto (pc := 57) (tgt := 2) dX8_readClauses_57 (by decide) ?_
                refine r_sub (L2 := [(1, (.int (iI (((k + 1 : Nat) : Int))))), (0, (.ref b))]) [0, 1] rfl ?_
                exact ih m' (by omega) (k + 1) (by omega) _ (cls ++ [cl_12]) _ _ _ (by rw [hR, sLaw, hR_12]; dsimp only; rw [if_neg (by rw [enj, decide_eq_true_eq]; omega), if_pos (by omega)]) (by unfold dyL; rw [List.foldl_append]; exact hC_51) (by rw [List.length_append, hlen]; rfl) (by rw [hS_51, hM_51]; exact lwc_app cls 0 0 s1 s_12 (lwc_congr (fun i hi => hS_12 i hi) cls 0 0 (fun i hi => hM_12 i (by omega)) hlw) hss_12 (by rw [Nat.zero_add, hlen]; exact hc_12)) (by omega)
              · refine r_aload_n (pc := 43) 1 dX8_readClauses_43 rfl rfl ?_
                refine r_callV (pc := 44) (As := []) (S := []) dX8_readClauses_44 cv_X8_66 hT.k rfl (Nat.le_of_ble_eq_true rfl) (x_fail l z _ hT (hC_12)) (Nat.zero_le _) (Nat.zero_le _) (fun r_44 g_44 f_44 q_44 => ?_)
                obtain ⟨rfl, rfl, hx_44, hF_44⟩ := q_44
                refine r_pop (pc := 47) dX8_readClauses_47 rfl ?_
                refine r_iconst (pc := 48) dX8_readClauses_48 ?_
                exact r_iret (pc := 49) dX8_readClauses_49 rfl rfl ⟨rfl, Or.inl ⟨j_12, by rw [hR, sLaw, hR_12]; dsimp only; rw [if_neg (by rw [enj, decide_eq_true_eq]; omega), if_neg (by omega)], rfl, hx_44, hF_44⟩⟩
            · refine r_iload_n (pc := 30) 0 dX8_readClauses_30 rfl rfl ?_
              refine r_iconst (pc := 31) dX8_readClauses_31 ?_
              refine r_iadd (pc := 32) dX8_readClauses_32 ?_
              refine r_eqI (y := ((k + 1 : Nat) : Int)) (Int.natCast_add _ _ |>.symm) ?_
              exact r_iret (pc := 33) dX8_readClauses_33 rfl rfl ⟨rfl, Or.inr ⟨cls ++ [cl_12], j_12, l_12, s_12, by rw [hR, sLaw, hR_12]; dsimp only; rw [if_pos (by rw [enj, decide_eq_true_eq]; omega)], by simp, by simp; omega, by simp [hlen], by unfold dyL; rw [List.foldl_append]; exact hC_12, lwc_app cls 0 0 s1 s_12 (lwc_congr (fun i hi => hS_12 i hi) cls 0 0 (fun i hi => hM_12 i (by omega)) hlw) hss_12 (by rw [Nat.zero_add, hlen]; exact hc_12)⟩⟩
          · exact absurd c_15 (by decide)
  refine r_iconst (pc := 0) dX8_readClauses_0 ?_
  refine r_istore_n (pc := 1) (L2 := [(1, (.int (iI (0)))), (0, (.ref b))]) dX8_readClauses_1 rfl (by decide) rfl ?_
  refine r_sub (L2 := [(1, (.int (iI (0)))), (0, (.ref b))]) [0, 1] rfl ?_
  exact loop 12 0 rfl f [] 0 0 0 rfl hC rfl rfl (Nat.le_refl _)

theorem bitI (s i : Nat) : ((s / 2 ^ i &&& 1 : Nat) : Int) = b01 (s.testBit i = true) := by
  rw [bit_div]
  unfold b01
  split <;> rfl
theorem pow8 {n : Nat} (h : n ≤ 8) : 1 ≤ 2 ^ n ∧ 2 ^ n ≤ 256 := ⟨Nat.one_le_two_pow, Nat.pow_le_pow_right (n := 2) (by decide) h⟩
theorem pow_i {i n : Nat} (h : i < n) : 2 ^ i < 2 ^ n := Nat.pow_lt_pow_right (by decide) h
/-- who can come next when the set s was served -/
def nxP (wt : Nat → Nat) (s i : Nat) : Bool := !s.testBit i && decide (ndf (wt i) s = 0)
def nxM (wt : Nat → Nat) (n s : Nat) : Nat := wmk (nxP wt s) n
/-- the loaves that the set s wants, of the first k -/
def lvN (wa : Nat → Nat) (s : Nat) : Nat → Nat
  | 0 => 0
  | k + 1 => lvN wa s k + if s.testBit k = true then wa k else 0
theorem lvN_s (wa : Nat → Nat) (s k : Nat) : lvN wa s (k + 1) = lvN wa s k + if s.testBit k = true then wa k else 0 := rfl
theorem lvN_r {wa : Nat → Nat} {s : Nat} : ∀ k, (∀ c, c < k → wa c ≤ 40) → lvN wa s k ≤ 40 * k
  | 0, _ => Nat.le_refl _
  | k + 1, h => by
    have h1 := lvN_r (s := s) k (fun c hc => h c (by omega))
    have h2 := h k (by omega)
    rw [lvN_s]
    split <;> omega
/-- a Day with its wants and waits -/
def DW (f : Fm) (y n : Nat) (wa wt : Nat → Nat) : Prop := n ≤ 8 ∧ f y 11 = ((n : Nat) : Int) ∧ (∀ c, c < n → f (y + 4) c = ((wa c : Nat) : Int) ∧ wa c ≤ 40) ∧ ∀ c, c < n → f (y + 6) c = ((wt c : Nat) : Int) ∧ wt c < 256
def SsI (f f1 : Fm) (y n s : Nat) (wa wt : Nat → Nat) : Prop := (∀ q, q ≠ y + 7 → q ≠ y + 8 → f1 q = f q) ∧ ∀ t, t < s → f1 (y + 7) t = ((nxM wt n t : Nat) : Int) ∧ f1 (y + 8) t = ((lvN wa t n : Nat) : Int)

set_option maxRecDepth 100000 in
set_option maxHeartbeats 4000000 in
theorem x_every (l : Launch) (z : Zv) (d : Nat) {g : Gm} {f : Fm} {y n : Nat} (hY : DL g y) (h11 : f y 11 = ((n : Nat) : Int)) (hn8 : n ≤ 8) : PM l z d mX2_everyone [(.ref y)] g f 0 0 (rdQ (.int (iI ((2 ^ n - 1 : Nat) : Int))) g f) := by
  refine PM.of (by decide +kernel) (Nat.le_of_ble_eq_true rfl) ?_
  refine r_iconst (pc := 0) dX2_everyone_0 ?_
  refine r_aload_n (pc := 1) 0 dX2_everyone_1 rfl rfl ?_
  refine r_getIv (pc := 2) (x := ((n : Nat) : Int)) dX2_everyone_2 fl_X2_56 rfl hY.k (h11) ?_
  refine r_ishl (pc := 5) (w := ((2 ^ n : Nat) : Int)) dX2_everyone_5  (iI_shl1 (by omega)) ?_
  refine r_iconst (pc := 6) dX2_everyone_6 ?_
  refine r_isub (pc := 7) dX2_everyone_7 ?_
  refine r_eqI (y := ((2 ^ n - 1 : Nat) : Int)) (by have := pow8 hn8; omega) ?_
  exact r_iret (pc := 8) dX2_everyone_8 rfl rfl ⟨rfl, rfl, rfl⟩

set_option maxRecDepth 100000 in
set_option maxHeartbeats 4000000 in
theorem x_layOutSets (l : Launch) (z : Zv) (d : Nat) {g : Gm} {f : Fm} {y n : Nat} {wa wt : Nat → Nat} (hY : DL g y) (hW : DW f y n wa wt) : PM l z (d + 1) mX2_layOutSets [.ref y] g f 0 0 (fun r g' f' => r = none ∧ g = g' ∧ SsI f f' y n (2 ^ n) wa wt) := by
  have hn8 := hW.1
  have hp8 := pow8 hn8
  refine PM.of (by decide +kernel) (Nat.le_of_ble_eq_true rfl) ?_
  have outer : ∀ m s : Nat, m = 2 ^ n - s → s ≤ 2 ^ n → ∀ f1 : Fm, SsI f f1 y n s wa wt → PW l z (d + 1) mX2_layOutSets 0 0 (fun r g' f' => r = none ∧ g = g' ∧ SsI f f' y n (2 ^ n) wa wt) 7 [(2, (.int (iI (((s : Nat) : Int))))), (1, (.int (iI (((2 ^ n - 1 : Nat) : Int))))), (0, (.ref y))] [] g f1 0 0 := by
    intro m
    induction m using Nat.strongRecOn with
    | _ m ihO =>
      intro s hm hs f1 hI
      have inner : s < 2 ^ n → ∀ m2 i : Nat, m2 = n - i → i ≤ n → PW l z (d + 1) mX2_layOutSets 0 0 (fun r g' f' => r = none ∧ g = g' ∧ SsI f f' y n (2 ^ n) wa wt) 20 [(5, (.int (iI (((i : Nat) : Int))))), (4, (.int (iI (((lvN wa s i : Nat) : Int))))), (3, (.int (iI (((wmk (nxP wt s) i : Nat) : Int))))), (2, (.int (iI (((s : Nat) : Int))))), (1, (.int (iI (((2 ^ n - 1 : Nat) : Int))))), (0, (.ref y))] [] g f1 0 0 := by
        intro hsn m2
        induction m2 using Nat.strongRecOn with
        | _ m2 ihI =>
          intro i hm2 hi
          refine r_iload (pc := 20) 0 dX2_layOutSets_20 rfl ?_
          refine r_aload_n (pc := 22) 5 dX2_layOutSets_22 rfl rfl ?_
          refine r_getIv (pc := 23) (x := ((n : Nat) : Int)) dX2_layOutSets_23 fl_X2_56 rfl hY.k ((congrFun (hI.1 y (by omega) (by omega)) _).trans hW.2.1) ?_
          refine r_icmp_ge (pc := 26) (tgt := 80) dX2_layOutSets_26 (by decide) (by omega) (by omega) (fun c_26 => ?_) (fun c_26 => ?_)
          · refine r_aload_n (pc := 80) 5 dX2_layOutSets_80 rfl rfl ?_
            refine r_getR (pc := 81) (b := (y + 7)) dX2_layOutSets_81 fl_X2_28 rfl hY.k hY.r4 ?_
            refine r_iload_n (pc := 84) 3 dX2_layOutSets_84 rfl rfl ?_
            refine r_iload_n (pc := 85) 2 dX2_layOutSets_85 rfl rfl ?_
            refine r_iastv (pc := 86) (i := s) dX2_layOutSets_86 hY.a4 (by omega) (by decide) rfl ?_
            refine r_aload_n (pc := 87) 5 dX2_layOutSets_87 rfl rfl ?_
            refine r_getR (pc := 88) (b := (y + 8)) dX2_layOutSets_88 fl_X2_31 rfl hY.k hY.r5 ?_
            refine r_iload_n (pc := 91) 3 dX2_layOutSets_91 rfl rfl ?_
            refine r_iload (pc := 92) 1 dX2_layOutSets_92 rfl ?_
            refine r_iastv (pc := 94) (i := s) dX2_layOutSets_94 hY.a5 (by omega) (by decide) rfl ?_
            refine r_iincv (pc := 95) (y := ((s + 1 : Nat) : Int)) (L2 := [(2, (.int (iI (((s + 1 : Nat) : Int))))), (5, (.int (iI (((i : Nat) : Int))))), (4, (.int (iI (((lvN wa s i : Nat) : Int))))), (3, (.int (iI (((wmk (nxP wt s) i : Nat) : Int))))), (1, (.int (iI (((2 ^ n - 1 : Nat) : Int))))), (0, (.ref y))]) 3 dX2_layOutSets_95 rfl (by omega) (by decide) rfl ?_
            refine r_goto (pc := 98) (tgt := 7) dX2_layOutSets_98 (by decide) ?_
            refine r_sub (L2 := [(2, (.int (iI (((s + 1 : Nat) : Int))))), (1, (.int (iI (((2 ^ n - 1 : Nat) : Int))))), (0, (.ref y))]) [0, 4, 5] rfl ?_
            have hin2 : i = n := by omega
            refine ihO (2 ^ n - (s + 1)) (by omega) (s + 1) (by omega) (by omega) _ ⟨fun q h1 h2 => by rw [stF_n _ _ _ h2, stF_n _ _ _ h1]; exact hI.1 q h1 h2, fun t ht => ?_⟩
            rcases (show t < s ∨ t = s by omega) with q | rfl
            · exact ⟨rdn (by omega) (rdi (by omega) (hI.2 t q).1), rdi (by omega) (rdn (by omega) (hI.2 t q).2)⟩
            · exact ⟨rdn (by omega) (by rw [stF_s, hin2]; rfl), by rw [stF_s, hin2]⟩
          · have hwi := (hW.2.2.1 i (by omega)).2
            have hti := (hW.2.2.2 i (by omega)).2
            have hlr := lvN_r (wa := wa) (s := s) i (fun c hc => (hW.2.2.1 c (by omega)).2)
            have hmr := wmk_8 (nxP wt s) (n := i) (by omega)
            refine r_iload_n (pc := 29) 3 dX2_layOutSets_29 rfl rfl ?_
            refine r_iload (pc := 30) 0 dX2_layOutSets_30 rfl ?_
            refine r_ishr (pc := 32) (w := ((s / 2 ^ i : Nat) : Int)) dX2_layOutSets_32  (iI_shr (by omega) (by omega)) ?_
            refine r_iconst (pc := 33) dX2_layOutSets_33 ?_
            refine r_iand (pc := 34) (w := (((s / 2 ^ i) &&& 1 : Nat) : Int)) dX2_layOutSets_34  (iI_and _ _) ?_
            refine r_eqI (y := b01 (s.testBit i = true)) (bitI s i) ?_
            refine r_if_eq (pc := 35) (tgt := 53) dX2_layOutSets_35 (by decide) (b01_r) (fun c_35 => ?_) (fun c_35 => ?_)
            · replace c_35 := b01_z c_35
              refine r_aload_n (pc := 53) 5 dX2_layOutSets_53 rfl rfl ?_
              refine r_getR (pc := 54) (b := (y + 6)) dX2_layOutSets_54 fl_X2_25 rfl hY.k hY.r3 ?_
              refine r_iload (pc := 57) 0 dX2_layOutSets_57 rfl ?_
              refine r_ialdv (pc := 59) (w := ((wt i : Nat) : Int)) dX2_layOutSets_59 hY.a3 (by omega) (by decide) ((congrFun (hI.1 (y + 6) (by omega) (by omega)) _).trans (hW.2.2.2 i (by omega)).1) ?_
              refine r_iload_n (pc := 60) 3 dX2_layOutSets_60 rfl rfl ?_
              refine r_iconst (pc := 61) dX2_layOutSets_61 ?_
              refine r_ixor (pc := 62) (w := -(((s : Nat) : Int)) - 1) dX2_layOutSets_62  (iI_not _) ?_
              refine r_iand (pc := 63) (w := ((ndf (wt i) s : Nat) : Int)) dX2_layOutSets_63  (iI_andn _ _) ?_
              refine r_if_ne (pc := 64) (tgt := 74) dX2_layOutSets_64 (by decide) (by have := ndf_le (wt i) s; omega) (fun c_64 => ?_) (fun c_64 => ?_)
              · refine r_iincv (pc := 74) (y := ((i + 1 : Nat) : Int)) (L2 := [(5, (.int (iI (((i + 1 : Nat) : Int))))), (4, (.int (iI (((lvN wa s i : Nat) : Int))))), (3, (.int (iI (((wmk (nxP wt s) i : Nat) : Int))))), (2, (.int (iI (((s : Nat) : Int))))), (1, (.int (iI (((2 ^ n - 1 : Nat) : Int))))), (0, (.ref y))]) 0 dX2_layOutSets_74 rfl (by omega) (by decide) rfl ?_
                refine r_goto (pc := 77) (tgt := 20) dX2_layOutSets_77 (by decide) ?_
                refine r_sub (L2 := [(5, (.int (iI (((i + 1 : Nat) : Int))))), (4, (.int (iI (((lvN wa s (i + 1) : Nat) : Int))))), (3, (.int (iI (((wmk (nxP wt s) (i + 1) : Nat) : Int))))), (2, (.int (iI (((s : Nat) : Int))))), (1, (.int (iI (((2 ^ n - 1 : Nat) : Int))))), (0, (.ref y))]) [0, 1, 2, 3, 4, 5] (by rw [lvN_s, if_neg c_35, Nat.add_zero, wmk_f (P := nxP wt s) (by simp only [nxP, Bool.and_eq_true, decide_eq_true_eq]; intro h; omega)]; rfl) ?_
                exact ihI (n - (i + 1)) (by omega) (i + 1) (by omega) (by omega)
              · refine r_iload_n (pc := 67) 2 dX2_layOutSets_67 rfl rfl ?_
                refine r_iconst (pc := 68) dX2_layOutSets_68 ?_
                refine r_iload (pc := 69) 0 dX2_layOutSets_69 rfl ?_
                refine r_ishl (pc := 71) (w := ((2 ^ i : Nat) : Int)) dX2_layOutSets_71  (iI_shl1 (by omega)) ?_
                refine r_ior (pc := 72) (w := (((wmk (nxP wt s) i) ||| (2 ^ i) : Nat) : Int)) dX2_layOutSets_72  (iI_or _ _) ?_
                refine r_istore_n (pc := 73) (L2 := [(3, (.int (iI ((((wmk (nxP wt s) i) ||| (2 ^ i) : Nat) : Int))))), (5, (.int (iI (((i : Nat) : Int))))), (4, (.int (iI (((lvN wa s i : Nat) : Int))))), (2, (.int (iI (((s : Nat) : Int))))), (1, (.int (iI (((2 ^ n - 1 : Nat) : Int))))), (0, (.ref y))]) dX2_layOutSets_73 rfl (by decide) rfl ?_
                refine r_iincv (pc := 74) (y := ((i + 1 : Nat) : Int)) (L2 := [(5, (.int (iI (((i + 1 : Nat) : Int))))), (3, (.int (iI ((((wmk (nxP wt s) i) ||| (2 ^ i) : Nat) : Int))))), (4, (.int (iI (((lvN wa s i : Nat) : Int))))), (2, (.int (iI (((s : Nat) : Int))))), (1, (.int (iI (((2 ^ n - 1 : Nat) : Int))))), (0, (.ref y))]) 1 dX2_layOutSets_74 rfl (by omega) (by decide) rfl ?_
                refine r_goto (pc := 77) (tgt := 20) dX2_layOutSets_77 (by decide) ?_
                refine r_sub (L2 := [(5, (.int (iI (((i + 1 : Nat) : Int))))), (4, (.int (iI (((lvN wa s (i + 1) : Nat) : Int))))), (3, (.int (iI (((wmk (nxP wt s) (i + 1) : Nat) : Int))))), (2, (.int (iI (((s : Nat) : Int))))), (1, (.int (iI (((2 ^ n - 1 : Nat) : Int))))), (0, (.ref y))]) [0, 2, 1, 3, 4, 5] (by rw [lvN_s, if_neg c_35, Nat.add_zero, wmk_t (P := nxP wt s) (by simp only [nxP, Bool.and_eq_true, decide_eq_true_eq]; exact ⟨by simp [c_35], by omega⟩)]; rfl) ?_
                exact ihI (n - (i + 1)) (by omega) (i + 1) (by omega) (by omega)
            · replace c_35 := b01_nz c_35
              refine r_iload (pc := 38) 1 dX2_layOutSets_38 rfl ?_
              refine r_aload_n (pc := 40) 5 dX2_layOutSets_40 rfl rfl ?_
              refine r_getR (pc := 41) (b := (y + 4)) dX2_layOutSets_41 fl_X2_18 rfl hY.k hY.r1 ?_
              refine r_iload (pc := 44) 0 dX2_layOutSets_44 rfl ?_
              refine r_ialdv (pc := 46) (w := ((wa i : Nat) : Int)) dX2_layOutSets_46 hY.a1 (by omega) (by decide) ((congrFun (hI.1 (y + 4) (by omega) (by omega)) _).trans (hW.2.2.1 i (by omega)).1) ?_
              refine r_iadd (pc := 47) dX2_layOutSets_47 ?_
              refine r_eqI (y := ((lvN wa s i + wa i : Nat) : Int)) (Int.natCast_add _ _ |>.symm) ?_
              refine r_istore (pc := 48) (L2 := [(4, (.int (iI (((lvN wa s i + wa i : Nat) : Int))))), (5, (.int (iI (((i : Nat) : Int))))), (3, (.int (iI (((wmk (nxP wt s) i : Nat) : Int))))), (2, (.int (iI (((s : Nat) : Int))))), (1, (.int (iI (((2 ^ n - 1 : Nat) : Int))))), (0, (.ref y))]) dX2_layOutSets_48 (by decide) rfl ?_
              refine r_goto (pc := 50) (tgt := 74) dX2_layOutSets_50 (by decide) ?_
              refine r_iincv (pc := 74) (y := ((i + 1 : Nat) : Int)) (L2 := [(5, (.int (iI (((i + 1 : Nat) : Int))))), (4, (.int (iI (((lvN wa s i + wa i : Nat) : Int))))), (3, (.int (iI (((wmk (nxP wt s) i : Nat) : Int))))), (2, (.int (iI (((s : Nat) : Int))))), (1, (.int (iI (((2 ^ n - 1 : Nat) : Int))))), (0, (.ref y))]) 1 dX2_layOutSets_74 rfl (by omega) (by decide) rfl ?_
              refine r_goto (pc := 77) (tgt := 20) dX2_layOutSets_77 (by decide) ?_
              refine r_sub (L2 := [(5, (.int (iI (((i + 1 : Nat) : Int))))), (4, (.int (iI (((lvN wa s (i + 1) : Nat) : Int))))), (3, (.int (iI (((wmk (nxP wt s) (i + 1) : Nat) : Int))))), (2, (.int (iI (((s : Nat) : Int))))), (1, (.int (iI (((2 ^ n - 1 : Nat) : Int))))), (0, (.ref y))]) [0, 1, 2, 3, 4, 5] (by rw [lvN_s, if_pos c_35, wmk_f (P := nxP wt s) (by simp [nxP, c_35])]; rfl) ?_
              exact ihI (n - (i + 1)) (by omega) (i + 1) (by omega) (by omega)
      refine r_iload_n (pc := 7) 0 dX2_layOutSets_7 rfl rfl ?_
      refine r_iload_n (pc := 8) 1 dX2_layOutSets_8 rfl rfl ?_
      refine r_icmp_gt (pc := 9) (tgt := 101) dX2_layOutSets_9 (by decide) (by omega) (by omega) (fun c_9 => ?_) (fun c_9 => ?_)
      · have hsn : s = 2 ^ n := by omega
        subst hsn
        exact r_vret (pc := 101) dX2_layOutSets_101 rfl ⟨rfl, rfl, hI⟩
      · refine r_iconst (pc := 12) dX2_layOutSets_12 ?_
        refine r_istore_n (pc := 13) (L2 := [(3, (.int (iI (0)))), (2, (.int (iI (((s : Nat) : Int))))), (1, (.int (iI (((2 ^ n - 1 : Nat) : Int))))), (0, (.ref y))]) dX2_layOutSets_13 rfl (by decide) rfl ?_
        refine r_iconst (pc := 14) dX2_layOutSets_14 ?_
        refine r_istore (pc := 15) (L2 := [(4, (.int (iI (0)))), (3, (.int (iI (0)))), (2, (.int (iI (((s : Nat) : Int))))), (1, (.int (iI (((2 ^ n - 1 : Nat) : Int))))), (0, (.ref y))]) dX2_layOutSets_15 (by decide) rfl ?_
        refine r_iconst (pc := 17) dX2_layOutSets_17 ?_
        refine r_istore (pc := 18) (L2 := [(5, (.int (iI (0)))), (4, (.int (iI (0)))), (3, (.int (iI (0)))), (2, (.int (iI (((s : Nat) : Int))))), (1, (.int (iI (((2 ^ n - 1 : Nat) : Int))))), (0, (.ref y))]) dX2_layOutSets_18 (by decide) rfl ?_
        refine r_sub (L2 := [(5, (.int (iI (((0 : Nat) : Int))))), (4, (.int (iI (((lvN wa s 0 : Nat) : Int))))), (3, (.int (iI (((wmk (nxP wt s) 0 : Nat) : Int))))), (2, (.int (iI (((s : Nat) : Int))))), (1, (.int (iI (((2 ^ n - 1 : Nat) : Int))))), (0, (.ref y))]) [0, 1, 2, 3, 4, 5] rfl ?_
        exact inner (by omega) n 0 (by omega) (by omega)
  refine r_aload_n (pc := 0) 0 dX2_layOutSets_0 rfl rfl ?_
  refine r_callV (pc := 1) (As := []) (S := []) dX2_layOutSets_1 cv_X2_85 hY.k rfl (Nat.le_of_ble_eq_true rfl) (x_every (n := n) l z _ hY hW.2.1 hW.1) (Nat.zero_le _) (Nat.zero_le _) (fun r_1 g_1 f_1 q_1 => ?_)
  obtain ⟨rfl, rfl, rfl⟩ := q_1
  refine r_istore_n (pc := 4) (L2 := [(1, (.int (iI (((2 ^ n - 1 : Nat) : Int))))), (0, (.ref y))]) dX2_layOutSets_4 rfl (by decide) rfl ?_
  refine r_iconst (pc := 5) dX2_layOutSets_5 ?_
  refine r_istore_n (pc := 6) (L2 := [(2, (.int (iI (0)))), (1, (.int (iI (((2 ^ n - 1 : Nat) : Int))))), (0, (.ref y))]) dX2_layOutSets_6 rfl (by decide) rfl ?_
  refine r_sub (L2 := [(2, (.int (iI (((0 : Nat) : Int))))), (1, (.int (iI (((2 ^ n - 1 : Nat) : Int))))), (0, (.ref y))]) [0, 1, 2] rfl ?_
  exact outer (2 ^ n) 0 (by omega) (by omega) f ⟨fun _ _ _ => rfl, fun c hc => absurd hc (by omega)⟩

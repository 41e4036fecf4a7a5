/-- masks of the two ovens -/
def m1K (n a2 : Nat) : Nat := ndf (2 ^ n - 1) a2
theorem m1_bit (n a2 i : Nat) : (m1K n a2).testBit i = (decide (i < n) && !a2.testBit i) := by
  unfold m1K
  rw [ndf_bit, Nat.testBit_two_pow_sub_one]
theorem and_m1 {n a2 s : Nat} (hs : s < 2 ^ n) (h : s &&& a2 = 0) : s &&& m1K n a2 = s := by
  apply Nat.eq_of_testBit_eq
  intro i
  rw [Nat.testBit_and, m1_bit]
  have h1 : (s &&& a2).testBit i = false := by rw [h]; simp
  rw [Nat.testBit_and] at h1
  by_cases hi : i < n
  · rw [decide_eq_true hi]
    cases hb : s.testBit i
    · rfl
    · rw [hb] at h1; simp at h1; simp [h1]
  · have h2 : s.testBit i = false := Nat.testBit_lt_two_pow (Nat.lt_of_lt_of_le hs (Nat.pow_le_pow_right (by decide) (by omega)))
    rw [h2]; rfl
theorem and_m1_0 (n a2 s : Nat) : s &&& m1K n a2 &&& a2 = 0 := by
  apply Nat.eq_of_testBit_eq
  intro i
  rw [Nat.testBit_and, Nat.testBit_and, m1_bit]
  cases a2.testBit i <;> simp
theorem and_m1_lt {n a2 s : Nat} (h : ¬ s &&& a2 = 0) : s &&& m1K n a2 < s := by
  have h1 : s &&& m1K n a2 ≤ s := Nat.and_le_left
  rcases (show s &&& m1K n a2 < s ∨ s &&& m1K n a2 = s by omega) with q | q
  · exact q
  · exfalso
    apply h
    have := and_m1_0 n a2 s
    rw [q] at this
    exact this
theorem and_m2 {n a2 s : Nat} (hs : s < 2 ^ n) (h : s &&& m1K n a2 = 0) : s &&& a2 = s := by
  apply Nat.eq_of_testBit_eq
  intro i
  rw [Nat.testBit_and]
  have h1 : (s &&& m1K n a2).testBit i = false := by rw [h]; simp
  rw [Nat.testBit_and, m1_bit] at h1
  by_cases hi : i < n
  · rw [decide_eq_true hi] at h1
    cases hb : s.testBit i
    · rfl
    · rw [hb] at h1; simp at h1; simp [h1]
  · have h2 : s.testBit i = false := Nat.testBit_lt_two_pow (Nat.lt_of_lt_of_le hs (Nat.pow_le_pow_right (by decide) (by omega)))
    rw [h2]; rfl
theorem and_m2_lt {n a2 s : Nat} (h : ¬ s &&& m1K n a2 = 0) : s &&& a2 < s := by
  have h1 : s &&& a2 ≤ s := Nat.and_le_left
  rcases (show s &&& a2 < s ∨ s &&& a2 = s by omega) with q | q
  · exact q
  · exfalso
    apply h
    have h2 := and_m1_0 n a2 s
    rw [Nat.and_assoc, Nat.and_comm (m1K n a2) a2, ← Nat.and_assoc, q] at h2
    exact h2
theorem and_idem2 (s a : Nat) : s &&& a &&& a = s &&& a := by rw [Nat.and_assoc, Nat.and_self]
/-- how many blessed loaves an oven has had when the set s was served; m: the mask of its customers -/
def blM (dz lp : Int) (b0 : Nat) (wa : Nat → Nat) (n m s : Nat) : Int := blA dz lp ((b0 + lvN wa (s &&& m) n : Nat) : Int)
def LlI (f f1 : Fm) (y n s a2 : Nat) (wa : Nat → Nat) (dz lp : Int) (b0 b1 : Nat) : Prop := (∀ q, q ≠ y + 9 → q ≠ y + 10 → f1 q = f q) ∧ ∀ t, t < s → f1 (y + 9) t = blM dz lp b0 wa n (m1K n a2) t ∧ f1 (y + 10) t = blM dz lp b1 wa n a2 t

set_option maxRecDepth 100000 in
set_option maxHeartbeats 4000000 in
theorem x_layOutLoaves (l : Launch) (z : Zv) (d : Nat) {g : Gm} {f : Fm} {y b n a2 b0 b1 : Nat} {wa : Nat → Nat} {dz lp : Int} (hY : DL g y) (hB : BL g b) (hby : b + 10 ≤ y) (hn8 : n ≤ 8) (h11 : f y 11 = ((n : Nat) : Int)) (h12 : f y 12 = ((a2 : Nat) : Int)) (hwa : ∀ c, c < n → wa c ≤ 40) (hS : ∀ s, s < 2 ^ n → f (y + 8) s = ((lvN wa s n : Nat) : Int)) (hdz : f (b + 2) 0 = dz) (hlp : f (b + 2) 1 = lp) (h0 : 2 ≤ dz ∧ dz ≤ 20) (h1 : 0 ≤ lp ∧ lp ≤ 9) (hb0 : f (b + 2) 3 = ((b0 : Nat) : Int)) (hb1 : f (b + 2) 4 = ((b1 : Nat) : Int)) (hb : b0 ≤ 1100000 ∧ b1 ≤ 1100000) : PM l z (d + 3) mX2_layOutLoaves [.ref y, .ref b] g f 0 0 (fun r g' f' => r = none ∧ g = g' ∧ LlI f f' y n (2 ^ n) a2 wa dz lp b0 b1) := by
  have hp8 := pow8 hn8
  refine PM.of (by decide +kernel) (Nat.le_of_ble_eq_true rfl) ?_
  have loop : ∀ m s : Nat, m = 2 ^ n - s → s ≤ 2 ^ n → ∀ f1 : Fm, LlI f f1 y n s a2 wa dz lp b0 b1 → PW l z (d + 3) mX2_layOutLoaves 0 0 (fun r g' f' => r = none ∧ g = g' ∧ LlI f f' y n (2 ^ n) a2 wa dz lp b0 b1) 17 [(4, (.int (iI (((s : Nat) : Int))))), (3, (.int (iI (((m1K n a2 : Nat) : Int))))), (2, (.int (iI (((2 ^ n - 1 : Nat) : Int))))), (0, (.ref y)), (1, (.ref b))] [] g f1 0 0 := by
    intro m
    induction m using Nat.strongRecOn with
    | _ m ih =>
      intro s hm hs f1 hI
      refine r_iload (pc := 17) 0 dX2_layOutLoaves_17 rfl ?_
      refine r_iload_n (pc := 19) 2 dX2_layOutLoaves_19 rfl rfl ?_
      refine r_icmp_gt (pc := 20) (tgt := 123) dX2_layOutLoaves_20 (by decide) (by omega) (by omega) (fun c_20 => ?_) (fun c_20 => ?_)
      · have hsn : s = 2 ^ n := by omega
        subst hsn
        exact r_vret (pc := 123) dX2_layOutLoaves_123 rfl ⟨rfl, rfl, hI⟩
      · have hlr := lvN_r (wa := wa) (s := s) n hwa
        refine r_aload_n (pc := 23) 3 dX2_layOutLoaves_23 rfl rfl ?_
        refine r_getR (pc := 24) (b := (y + 9)) dX2_layOutLoaves_24 fl_X2_34 rfl hY.k hY.r6 ?_
        refine r_iload (pc := 27) 0 dX2_layOutLoaves_27 rfl ?_
        refine r_iload (pc := 29) 0 dX2_layOutLoaves_29 rfl ?_
        refine r_aload_n (pc := 31) 3 dX2_layOutLoaves_31 rfl rfl ?_
        refine r_getIv (pc := 32) (x := ((a2 : Nat) : Int)) dX2_layOutLoaves_32 fl_X2_57 rfl hY.k ((congrFun (hI.1 y (by omega) (by omega)) _).trans h12) ?_
        refine r_iand (pc := 35) (w := ((s &&& a2 : Nat) : Int)) dX2_layOutLoaves_35  (iI_and _ _) ?_
        refine r_if_eq (pc := 36) (tgt := 51) dX2_layOutLoaves_36 (by decide) (by have : s &&& a2 ≤ s := Nat.and_le_left; omega) (fun c_36 => ?_) (fun c_36 => ?_)
        · refine r_aload_n (pc := 51) 4 dX2_layOutLoaves_51 rfl rfl ?_
          refine r_aload_n (pc := 52) 4 dX2_layOutLoaves_52 rfl rfl ?_
          refine r_getR (pc := 53) (b := (b + 2)) dX2_layOutLoaves_53 fl_X2_89 rfl hB.k hB.r1 ?_
          refine r_iconst (pc := 56) dX2_layOutLoaves_56 ?_
          refine r_ialdv (pc := 57) (w := ((b0 : Nat) : Int)) dX2_layOutLoaves_57 hB.a1 (by decide) (by decide) ((congrFun (hI.1 (b + 2) (by omega) (by omega)) _).trans hb0) ?_
          refine r_aload_n (pc := 58) 3 dX2_layOutLoaves_58 rfl rfl ?_
          refine r_getR (pc := 59) (b := (y + 8)) dX2_layOutLoaves_59 fl_X2_31 rfl hY.k hY.r5 ?_
          refine r_iload (pc := 62) 0 dX2_layOutLoaves_62 rfl ?_
          refine r_ialdv (pc := 64) (w := ((lvN wa s n : Nat) : Int)) dX2_layOutLoaves_64 hY.a5 (by omega) (by decide) ((congrFun (hI.1 (y + 8) (by omega) (by omega)) _).trans (hS s (by omega))) ?_
          refine r_iadd (pc := 65) dX2_layOutLoaves_65 ?_
          refine r_eqI (y := ((b0 + lvN wa s n : Nat) : Int)) (Int.natCast_add _ _ |>.symm) ?_
          refine r_callV (pc := 66) (As := [(.int (iI (((b0 + lvN wa s n : Nat) : Int))))]) (S := [(.int (iI (((s : Nat) : Int)))), (.ref (y + 9))]) dX2_layOutLoaves_66 cv_X2_92 hB.k rfl (Nat.le_of_ble_eq_true rfl) (c_blessedAmong (n := ((b0 + lvN wa s n : Nat) : Int)) (dz := dz) (lp := lp) l z _ hB ((congrFun (hI.1 (b + 2) (by omega) (by omega)) _).trans hdz) ((congrFun (hI.1 (b + 2) (by omega) (by omega)) _).trans hlp) h0 h1 (by omega)) (Nat.zero_le _) (Nat.zero_le _) (fun r_66 g_66 f_66 q_66 => ?_)
          obtain ⟨rfl, rfl, rfl⟩ := q_66
          refine r_iastv (pc := 69) (i := s) dX2_layOutLoaves_69 hY.a6 (by omega) (by decide) rfl ?_
          refine r_aload_n (pc := 70) 3 dX2_layOutLoaves_70 rfl rfl ?_
          refine r_getR (pc := 71) (b := (y + 10)) dX2_layOutLoaves_71 fl_X2_37 rfl hY.k hY.r7 ?_
          refine r_iload (pc := 74) 0 dX2_layOutLoaves_74 rfl ?_
          refine r_iload (pc := 76) 0 dX2_layOutLoaves_76 rfl ?_
          refine r_iload_n (pc := 78) 1 dX2_layOutLoaves_78 rfl rfl ?_
          refine r_iand (pc := 79) (w := ((s &&& (m1K n a2) : Nat) : Int)) dX2_layOutLoaves_79  (iI_and _ _) ?_
          refine r_if_eq (pc := 80) (tgt := 98) dX2_layOutLoaves_80 (by decide) (by have : s &&& m1K n a2 ≤ s := Nat.and_le_left; omega) (fun c_80 => ?_) (fun c_80 => ?_)
          · refine r_aload_n (pc := 98) 4 dX2_layOutLoaves_98 rfl rfl ?_
            refine r_aload_n (pc := 99) 4 dX2_layOutLoaves_99 rfl rfl ?_
            refine r_getR (pc := 100) (b := (b + 2)) dX2_layOutLoaves_100 fl_X2_89 rfl hB.k hB.r1 ?_
            refine r_iconst (pc := 103) dX2_layOutLoaves_103 ?_
            refine r_ialdv (pc := 104) (w := ((b1 : Nat) : Int)) dX2_layOutLoaves_104 hB.a1 (by decide) (by decide) (rdn (by omega) ((congrFun (hI.1 (b + 2) (by omega) (by omega)) _).trans hb1)) ?_
            refine r_aload_n (pc := 105) 3 dX2_layOutLoaves_105 rfl rfl ?_
            refine r_getR (pc := 106) (b := (y + 8)) dX2_layOutLoaves_106 fl_X2_31 rfl hY.k hY.r5 ?_
            refine r_iload (pc := 109) 0 dX2_layOutLoaves_109 rfl ?_
            refine r_ialdv (pc := 111) (w := ((lvN wa s n : Nat) : Int)) dX2_layOutLoaves_111 hY.a5 (by omega) (by decide) (rdn (by omega) ((congrFun (hI.1 (y + 8) (by omega) (by omega)) _).trans (hS s (by omega)))) ?_
            refine r_iadd (pc := 112) dX2_layOutLoaves_112 ?_
            refine r_eqI (y := ((b1 + lvN wa s n : Nat) : Int)) (Int.natCast_add _ _ |>.symm) ?_
            refine r_callV (pc := 113) (As := [(.int (iI (((b1 + lvN wa s n : Nat) : Int))))]) (S := [(.int (iI (((s : Nat) : Int)))), (.ref (y + 10))]) dX2_layOutLoaves_113 cv_X2_92 hB.k rfl (Nat.le_of_ble_eq_true rfl) (c_blessedAmong (n := ((b1 + lvN wa s n : Nat) : Int)) (dz := dz) (lp := lp) l z _ hB (rdn (by omega) ((congrFun (hI.1 (b + 2) (by omega) (by omega)) _).trans hdz)) (rdn (by omega) ((congrFun (hI.1 (b + 2) (by omega) (by omega)) _).trans hlp)) h0 h1 (by omega)) (Nat.zero_le _) (Nat.zero_le _) (fun r_113 g_113 f_113 q_113 => ?_)
            obtain ⟨rfl, rfl, rfl⟩ := q_113
            refine r_iastv (pc := 116) (i := s) dX2_layOutLoaves_116 hY.a7 (by omega) (by decide) rfl ?_
            refine r_iincv (pc := 117) (y := ((s + 1 : Nat) : Int)) (L2 := [(4, (.int (iI (((s + 1 : Nat) : Int))))), (3, (.int (iI (((m1K n a2 : Nat) : Int))))), (2, (.int (iI (((2 ^ n - 1 : Nat) : Int))))), (0, (.ref y)), (1, (.ref b))]) 0 dX2_layOutLoaves_117 rfl (by omega) (by decide) rfl ?_
            refine r_goto (pc := 120) (tgt := 17) dX2_layOutLoaves_120 (by decide) ?_
            refine r_sub (L2 := [(4, (.int (iI (((s + 1 : Nat) : Int))))), (3, (.int (iI (((m1K n a2 : Nat) : Int))))), (2, (.int (iI (((2 ^ n - 1 : Nat) : Int))))), (0, (.ref y)), (1, (.ref b))]) [0, 1, 2, 3, 4] rfl ?_
            refine ih (2 ^ n - (s + 1)) (by omega) (s + 1) (by omega) (by omega) _ ⟨fun q h1 h2 => by rw [stF_n _ _ _ h2, stF_n _ _ _ h1]; exact hI.1 q h1 h2, fun t ht => ?_⟩
            rcases (show t < s ∨ t = s by omega) with q | rfl
            · exact ⟨rdn (by omega) (rdi (by omega) (hI.2 t q).1), rdi (by omega) (rdn (by omega) (hI.2 t q).2)⟩
            · exact ⟨(rdn (by omega) (stF_s _ _ _ _)).trans (by unfold blM; rw [and_m1 (by omega) (by omega)]), (stF_s _ _ _ _).trans (by unfold blM; rw [and_m2 (n := n) (by omega) (by omega)])⟩
          · refine r_aload_n (pc := 83) 3 dX2_layOutLoaves_83 rfl rfl ?_
            refine r_getR (pc := 84) (b := (y + 10)) dX2_layOutLoaves_84 fl_X2_37 rfl hY.k hY.r7 ?_
            refine r_iload (pc := 87) 0 dX2_layOutLoaves_87 rfl ?_
            refine r_aload_n (pc := 89) 3 dX2_layOutLoaves_89 rfl rfl ?_
            refine r_getIv (pc := 90) (x := ((a2 : Nat) : Int)) dX2_layOutLoaves_90 fl_X2_57 rfl hY.k (rdn (by omega) ((congrFun (hI.1 y (by omega) (by omega)) _).trans h12)) ?_
            refine r_iand (pc := 93) (w := ((s &&& a2 : Nat) : Int)) dX2_layOutLoaves_93  (iI_and _ _) ?_
            refine r_ialdv (pc := 94) (w := blM dz lp b1 wa n a2 (s &&& a2)) dX2_layOutLoaves_94 hY.a7 (by have := and_m2_lt (n := n) (a2 := a2) (s := s) (by omega); omega) (by decide) (rdn (by omega) ((hI.2 _ (and_m2_lt (n := n) (by omega))).2)) ?_
            refine r_goto (pc := 95) (tgt := 116) dX2_layOutLoaves_95 (by decide) ?_
            refine r_iastv (pc := 116) (i := s) dX2_layOutLoaves_116 hY.a7 (by omega) (by decide) rfl ?_
            refine r_iincv (pc := 117) (y := ((s + 1 : Nat) : Int)) (L2 := [(4, (.int (iI (((s + 1 : Nat) : Int))))), (3, (.int (iI (((m1K n a2 : Nat) : Int))))), (2, (.int (iI (((2 ^ n - 1 : Nat) : Int))))), (0, (.ref y)), (1, (.ref b))]) 0 dX2_layOutLoaves_117 rfl (by omega) (by decide) rfl ?_
            refine r_goto (pc := 120) (tgt := 17) dX2_layOutLoaves_120 (by decide) ?_
            refine r_sub (L2 := [(4, (.int (iI (((s + 1 : Nat) : Int))))), (3, (.int (iI (((m1K n a2 : Nat) : Int))))), (2, (.int (iI (((2 ^ n - 1 : Nat) : Int))))), (0, (.ref y)), (1, (.ref b))]) [0, 1, 2, 3, 4] rfl ?_
            refine ih (2 ^ n - (s + 1)) (by omega) (s + 1) (by omega) (by omega) _ ⟨fun q h1 h2 => by rw [stF_n _ _ _ h2, stF_n _ _ _ h1]; exact hI.1 q h1 h2, fun t ht => ?_⟩
            rcases (show t < s ∨ t = s by omega) with q | rfl
            · exact ⟨rdn (by omega) (rdi (by omega) (hI.2 t q).1), rdi (by omega) (rdn (by omega) (hI.2 t q).2)⟩
            · exact ⟨(rdn (by omega) (stF_s _ _ _ _)).trans (by unfold blM; rw [and_m1 (by omega) (by omega)]), (stF_s _ _ _ _).trans (by unfold blM; rw [and_idem2])⟩
        · refine r_aload_n (pc := 39) 3 dX2_layOutLoaves_39 rfl rfl ?_
          refine r_getR (pc := 40) (b := (y + 9)) dX2_layOutLoaves_40 fl_X2_34 rfl hY.k hY.r6 ?_
          refine r_iload (pc := 43) 0 dX2_layOutLoaves_43 rfl ?_
          refine r_iload_n (pc := 45) 1 dX2_layOutLoaves_45 rfl rfl ?_
          refine r_iand (pc := 46) (w := ((s &&& (m1K n a2) : Nat) : Int)) dX2_layOutLoaves_46  (iI_and _ _) ?_
          refine r_ialdv (pc := 47) (w := blM dz lp b0 wa n (m1K n a2) (s &&& (m1K n a2))) dX2_layOutLoaves_47 hY.a6 (by have := and_m1_lt (n := n) (a2 := a2) (s := s) (by omega); omega) (by decide) ((hI.2 _ (and_m1_lt (n := n) (by omega))).1) ?_
          refine r_goto (pc := 48) (tgt := 69) dX2_layOutLoaves_48 (by decide) ?_
          refine r_iastv (pc := 69) (i := s) dX2_layOutLoaves_69 hY.a6 (by omega) (by decide) rfl ?_
          refine r_aload_n (pc := 70) 3 dX2_layOutLoaves_70 rfl rfl ?_
          refine r_getR (pc := 71) (b := (y + 10)) dX2_layOutLoaves_71 fl_X2_37 rfl hY.k hY.r7 ?_
          refine r_iload (pc := 74) 0 dX2_layOutLoaves_74 rfl ?_
          refine r_iload (pc := 76) 0 dX2_layOutLoaves_76 rfl ?_
          refine r_iload_n (pc := 78) 1 dX2_layOutLoaves_78 rfl rfl ?_
          refine r_iand (pc := 79) (w := ((s &&& (m1K n a2) : Nat) : Int)) dX2_layOutLoaves_79  (iI_and _ _) ?_
          refine r_if_eq (pc := 80) (tgt := 98) dX2_layOutLoaves_80 (by decide) (by have : s &&& m1K n a2 ≤ s := Nat.and_le_left; omega) (fun c_80 => ?_) (fun c_80 => ?_)
          · refine r_aload_n (pc := 98) 4 dX2_layOutLoaves_98 rfl rfl ?_
            refine r_aload_n (pc := 99) 4 dX2_layOutLoaves_99 rfl rfl ?_
            refine r_getR (pc := 100) (b := (b + 2)) dX2_layOutLoaves_100 fl_X2_89 rfl hB.k hB.r1 ?_
            refine r_iconst (pc := 103) dX2_layOutLoaves_103 ?_
            refine r_ialdv (pc := 104) (w := ((b1 : Nat) : Int)) dX2_layOutLoaves_104 hB.a1 (by decide) (by decide) (rdn (by omega) ((congrFun (hI.1 (b + 2) (by omega) (by omega)) _).trans hb1)) ?_
            refine r_aload_n (pc := 105) 3 dX2_layOutLoaves_105 rfl rfl ?_
            refine r_getR (pc := 106) (b := (y + 8)) dX2_layOutLoaves_106 fl_X2_31 rfl hY.k hY.r5 ?_
            refine r_iload (pc := 109) 0 dX2_layOutLoaves_109 rfl ?_
            refine r_ialdv (pc := 111) (w := ((lvN wa s n : Nat) : Int)) dX2_layOutLoaves_111 hY.a5 (by omega) (by decide) (rdn (by omega) ((congrFun (hI.1 (y + 8) (by omega) (by omega)) _).trans (hS s (by omega)))) ?_
            refine r_iadd (pc := 112) dX2_layOutLoaves_112 ?_
            refine r_eqI (y := ((b1 + lvN wa s n : Nat) : Int)) (Int.natCast_add _ _ |>.symm) ?_
            refine r_callV (pc := 113) (As := [(.int (iI (((b1 + lvN wa s n : Nat) : Int))))]) (S := [(.int (iI (((s : Nat) : Int)))), (.ref (y + 10))]) dX2_layOutLoaves_113 cv_X2_92 hB.k rfl (Nat.le_of_ble_eq_true rfl) (c_blessedAmong (n := ((b1 + lvN wa s n : Nat) : Int)) (dz := dz) (lp := lp) l z _ hB (rdn (by omega) ((congrFun (hI.1 (b + 2) (by omega) (by omega)) _).trans hdz)) (rdn (by omega) ((congrFun (hI.1 (b + 2) (by omega) (by omega)) _).trans hlp)) h0 h1 (by omega)) (Nat.zero_le _) (Nat.zero_le _) (fun r_113 g_113 f_113 q_113 => ?_)
            obtain ⟨rfl, rfl, rfl⟩ := q_113
            refine r_iastv (pc := 116) (i := s) dX2_layOutLoaves_116 hY.a7 (by omega) (by decide) rfl ?_
            refine r_iincv (pc := 117) (y := ((s + 1 : Nat) : Int)) (L2 := [(4, (.int (iI (((s + 1 : Nat) : Int))))), (3, (.int (iI (((m1K n a2 : Nat) : Int))))), (2, (.int (iI (((2 ^ n - 1 : Nat) : Int))))), (0, (.ref y)), (1, (.ref b))]) 0 dX2_layOutLoaves_117 rfl (by omega) (by decide) rfl ?_
            refine r_goto (pc := 120) (tgt := 17) dX2_layOutLoaves_120 (by decide) ?_
            refine r_sub (L2 := [(4, (.int (iI (((s + 1 : Nat) : Int))))), (3, (.int (iI (((m1K n a2 : Nat) : Int))))), (2, (.int (iI (((2 ^ n - 1 : Nat) : Int))))), (0, (.ref y)), (1, (.ref b))]) [0, 1, 2, 3, 4] rfl ?_
            refine ih (2 ^ n - (s + 1)) (by omega) (s + 1) (by omega) (by omega) _ ⟨fun q h1 h2 => by rw [stF_n _ _ _ h2, stF_n _ _ _ h1]; exact hI.1 q h1 h2, fun t ht => ?_⟩
            rcases (show t < s ∨ t = s by omega) with q | rfl
            · exact ⟨rdn (by omega) (rdi (by omega) (hI.2 t q).1), rdi (by omega) (rdn (by omega) (hI.2 t q).2)⟩
            · exact ⟨(rdn (by omega) (stF_s _ _ _ _)).trans (by unfold blM; rw [and_idem2]), (stF_s _ _ _ _).trans (by unfold blM; rw [and_m2 (n := n) (by omega) (by omega)])⟩
          · refine r_aload_n (pc := 83) 3 dX2_layOutLoaves_83 rfl rfl ?_
            refine r_getR (pc := 84) (b := (y + 10)) dX2_layOutLoaves_84 fl_X2_37 rfl hY.k hY.r7 ?_
            refine r_iload (pc := 87) 0 dX2_layOutLoaves_87 rfl ?_
            refine r_aload_n (pc := 89) 3 dX2_layOutLoaves_89 rfl rfl ?_
            refine r_getIv (pc := 90) (x := ((a2 : Nat) : Int)) dX2_layOutLoaves_90 fl_X2_57 rfl hY.k (rdn (by omega) ((congrFun (hI.1 y (by omega) (by omega)) _).trans h12)) ?_
            refine r_iand (pc := 93) (w := ((s &&& a2 : Nat) : Int)) dX2_layOutLoaves_93  (iI_and _ _) ?_
            refine r_ialdv (pc := 94) (w := blM dz lp b1 wa n a2 (s &&& a2)) dX2_layOutLoaves_94 hY.a7 (by have := and_m2_lt (n := n) (a2 := a2) (s := s) (by omega); omega) (by decide) (rdn (by omega) ((hI.2 _ (and_m2_lt (n := n) (by omega))).2)) ?_
            refine r_goto (pc := 95) (tgt := 116) dX2_layOutLoaves_95 (by decide) ?_
            refine r_iastv (pc := 116) (i := s) dX2_layOutLoaves_116 hY.a7 (by omega) (by decide) rfl ?_
            refine r_iincv (pc := 117) (y := ((s + 1 : Nat) : Int)) (L2 := [(4, (.int (iI (((s + 1 : Nat) : Int))))), (3, (.int (iI (((m1K n a2 : Nat) : Int))))), (2, (.int (iI (((2 ^ n - 1 : Nat) : Int))))), (0, (.ref y)), (1, (.ref b))]) 0 dX2_layOutLoaves_117 rfl (by omega) (by decide) rfl ?_
            refine r_goto (pc := 120) (tgt := 17) dX2_layOutLoaves_120 (by decide) ?_
            refine r_sub (L2 := [(4, (.int (iI (((s + 1 : Nat) : Int))))), (3, (.int (iI (((m1K n a2 : Nat) : Int))))), (2, (.int (iI (((2 ^ n - 1 : Nat) : Int))))), (0, (.ref y)), (1, (.ref b))]) [0, 1, 2, 3, 4] rfl ?_
            refine ih (2 ^ n - (s + 1)) (by omega) (s + 1) (by omega) (by omega) _ ⟨fun q h1 h2 => by rw [stF_n _ _ _ h2, stF_n _ _ _ h1]; exact hI.1 q h1 h2, fun t ht => ?_⟩
            rcases (show t < s ∨ t = s by omega) with q | rfl
            · exact ⟨rdn (by omega) (rdi (by omega) (hI.2 t q).1), rdi (by omega) (rdn (by omega) (hI.2 t q).2)⟩
            · exact ⟨(rdn (by omega) (stF_s _ _ _ _)).trans (by unfold blM; rw [and_idem2]), (stF_s _ _ _ _).trans (by unfold blM; rw [and_idem2])⟩
  refine r_aload_n (pc := 0) 0 dX2_layOutLoaves_0 rfl rfl ?_
  refine r_callV (pc := 1) (As := []) (S := []) dX2_layOutLoaves_1 cv_X2_85 hY.k rfl (Nat.le_of_ble_eq_true rfl) (x_every (n := n) l z _ hY h11 hn8) (Nat.zero_le _) (Nat.zero_le _) (fun r_1 g_1 f_1 q_1 => ?_)
  obtain ⟨rfl, rfl, rfl⟩ := q_1
  refine r_istore_n (pc := 4) (L2 := [(2, (.int (iI (((2 ^ n - 1 : Nat) : Int))))), (0, (.ref y)), (1, (.ref b))]) dX2_layOutLoaves_4 rfl (by decide) rfl ?_
  refine r_iload_n (pc := 5) 0 dX2_layOutLoaves_5 rfl rfl ?_
  refine r_aload_n (pc := 6) 1 dX2_layOutLoaves_6 rfl rfl ?_
  refine r_getIv (pc := 7) (x := ((a2 : Nat) : Int)) dX2_layOutLoaves_7 fl_X2_57 rfl hY.k (h12) ?_
  refine r_iconst (pc := 10) dX2_layOutLoaves_10 ?_
  refine r_ixor (pc := 11) (w := -(((a2 : Nat) : Int)) - 1) dX2_layOutLoaves_11  (iI_not _) ?_
  refine r_iand (pc := 12) (w := ((m1K n a2 : Nat) : Int)) dX2_layOutLoaves_12  (iI_andn _ _) ?_
  refine r_istore_n (pc := 13) (L2 := [(3, (.int (iI (((m1K n a2 : Nat) : Int))))), (2, (.int (iI (((2 ^ n - 1 : Nat) : Int))))), (0, (.ref y)), (1, (.ref b))]) dX2_layOutLoaves_13 rfl (by decide) rfl ?_
  refine r_iconst (pc := 14) dX2_layOutLoaves_14 ?_
  refine r_istore (pc := 15) (L2 := [(4, (.int (iI (0)))), (3, (.int (iI (((m1K n a2 : Nat) : Int))))), (2, (.int (iI (((2 ^ n - 1 : Nat) : Int))))), (0, (.ref y)), (1, (.ref b))]) dX2_layOutLoaves_15 (by decide) rfl ?_
  refine r_sub (L2 := [(4, (.int (iI (((0 : Nat) : Int))))), (3, (.int (iI (((m1K n a2 : Nat) : Int))))), (2, (.int (iI (((2 ^ n - 1 : Nat) : Int))))), (0, (.ref y)), (1, (.ref b))]) [0, 1, 2, 3, 4] rfl ?_
  exact loop (2 ^ n) 0 (by omega) (by omega) f ⟨fun _ _ _ => rfl, fun c hc => absurd hc (by omega)⟩

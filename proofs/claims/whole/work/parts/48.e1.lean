def cmpZ (x y : Int) : Int := if x < y then -1 else if x = y then 0 else 1
theorem cmpZ_r {x y : Int} : -2147483648 ≤ cmpZ x y ∧ cmpZ x y ≤ 2147483647 := by unfold cmpZ; split <;> (try split) <;> decide
theorem cmpZ_eq {x y : Int} : cmpZ x y = 0 ↔ x = y := by unfold cmpZ; split <;> (try split) <;> omega
theorem cmpZ_lt {x y : Int} : cmpZ x y < 0 ↔ x < y := by unfold cmpZ; split <;> (try split) <;> omega
theorem cmpZ_ge {x y : Int} : 0 ≤ cmpZ x y ↔ y ≤ x := by unfold cmpZ; split <;> (try split) <;> omega
theorem cmpZ_gt {x y : Int} : 0 < cmpZ x y ↔ y < x := by unfold cmpZ; split <;> (try split) <;> omega
theorem cmpZ_le {x y : Int} : cmpZ x y ≤ 0 ↔ x ≤ y := by unfold cmpZ; split <;> (try split) <;> omega
theorem lI_toInt {x : Int} (h : -9223372036854775808 ≤ x ∧ x ≤ 9223372036854775807) : (lI x).toInt = x := by
  unfold lI
  rw [Int64.toInt_ofInt]
  have h2 : (Int64.size : Int) = 18446744073709551616 := rfl
  exact Int.bmod_eq_of_le (by omega) (by omega)
theorem lI_eq {x y : Int} (hx : -9223372036854775808 ≤ x ∧ x ≤ 9223372036854775807) (hy : -9223372036854775808 ≤ y ∧ y ≤ 9223372036854775807) : lI x = lI y ↔ x = y := by
  constructor
  · intro h
    have h2 := congrArg Int64.toInt h
    rwa [lI_toInt hx, lI_toInt hy] at h2
  · intro h; rw [h]
theorem cmp_z {x y : Int} (hx : -9223372036854775808 ≤ x ∧ x ≤ 9223372036854775807) (hy : -9223372036854775808 ≤ y ∧ y ≤ 9223372036854775807) : lg_cmp (lI x) (lI y) = iI (cmpZ x y) := by
  unfold lg_cmp cmpZ
  have h1 : (lI x > lI y) ↔ y < x := by
    show lI y < lI x ↔ _
    rw [Int64.lt_iff_toInt_lt, lI_toInt hx, lI_toInt hy]
  have h2 := lI_eq hx hy
  by_cases c1 : x < y
  · rw [if_pos c1, if_neg (by rw [h1]; omega), if_neg (by rw [h2]; omega)]; rfl
  · rw [if_neg c1]
    by_cases c2 : x = y
    · rw [if_pos c2, if_neg (by rw [h1]; omega), if_pos (by rw [h2]; exact c2)]; rfl
    · rw [if_neg c2, if_pos (by rw [h1]; omega)]; rfl
theorem iI_l {x : Int} (h : -2147483648 ≤ x ∧ x ≤ 2147483647) : (iI x).toInt64 = lI x := by
  apply Int64.toInt_inj.mp
  rw [lI_toInt (by omega), Int32.toInt_toInt64, iI_toInt h]
theorem lI_div {x y : Int} (hx : -1000000000 ≤ x ∧ x ≤ 1000000000) (hy : -1000000000 ≤ y ∧ y ≤ 1000000000) : lI x / lI y = lI (x.tdiv y) := by
  unfold lI
  have h1 := Int64.toInt_minValue
  have h2 := Int64.toInt_maxValue
  have e1 : (-2 : Int) ^ 63 = -9223372036854775808 := by decide
  have e2 : (2 : Int) ^ 63 = 9223372036854775808 := by decide
  exact (Int64.ofInt_tdiv (by omega) (by omega) (by omega) (by omega)).symm
def jnV (k : Nat) (a b : Int) : Int := if k = 2 then a + b else if k = 3 then a - b else if k = 4 then a * b else if k = 5 then (if b = 0 then 1000000001 else a.tdiv b) else if k = 6 then b01 (a < b) else if k = 7 then b01 (b < a) else if k = 8 then b01 (a = b) else 1000000001
theorem mul_r {a b : Int} (ha : -1000000000 ≤ a ∧ a ≤ 1000000000) (hb : -1000000000 ≤ b ∧ b ≤ 1000000000) : -1000000000000000000 ≤ a * b ∧ a * b ≤ 1000000000000000000 := by
  have h1 : a.natAbs * b.natAbs ≤ 1000000000 * 1000000000 := Nat.mul_le_mul (by omega) (by omega)
  have h2 : (a * b).natAbs = a.natAbs * b.natAbs := Int.natAbs_mul a b
  omega
theorem tdiv_r {a b : Int} (ha : -1000000000 ≤ a ∧ a ≤ 1000000000) : -1000000000 ≤ a.tdiv b ∧ a.tdiv b ≤ 1000000000 := by
  have h2 : (a.tdiv b).natAbs = a.natAbs / b.natAbs := Int.natAbs_tdiv a b
  have h3 : a.natAbs / b.natAbs ≤ a.natAbs := Nat.div_le_self _ _
  omega
theorem jnV_r {k : Nat} {a b : Int} (ha : -1000000000 ≤ a ∧ a ≤ 1000000000) (hb : -1000000000 ≤ b ∧ b ≤ 1000000000) : -1000000000000000000 ≤ jnV k a b ∧ jnV k a b ≤ 1000000000000000000 := by
  have h1 := mul_r ha hb
  have h2 := tdiv_r (b := b) ha
  unfold jnV
  have h3 : ∀ (p : Prop) [Decidable p], 0 ≤ b01 p ∧ b01 p ≤ 1 := fun p _ => by unfold b01; split <;> omega
  have h4 := h3 (a < b)
  have h5 := h3 (b < a)
  have h6 := h3 (a = b)
  generalize a * b = A at h1 ⊢
  generalize a.tdiv b = D at h2 ⊢
  generalize b01 (a < b) = B1 at h4 ⊢
  generalize b01 (b < a) = B2 at h5 ⊢
  generalize b01 (a = b) = B3 at h6 ⊢
  repeat' split
  all_goals omega

set_option maxRecDepth 100000 in
set_option maxHeartbeats 4000000 in
theorem x_joined (l : Launch) (z : Zv) (d : Nat) {g : Gm} {f : Fm} {k : Nat} {a b : Int} (hk : k < 16) (ha : -1000000000 ≤ a ∧ a ≤ 1000000000) (hb : -1000000000 ≤ b ∧ b ≤ 1000000000) : PM l z d mX0_joined [.int (iI ((k : Nat) : Int)), .long (lI a), .long (lI b)] g f 0 0 (rdQ (.long (lI (jnV k a b))) g f) := by
  refine PM.of (by decide +kernel) (Nat.le_of_ble_eq_true rfl) ?_
  refine r_iload_n (pc := 0) 0 dX0_joined_0 rfl rfl ?_
  rcases (show ((k : Nat) : Int) < 2 ∨ 8 < ((k : Nat) : Int) ∨ ((k : Nat) : Int) = 2 ∨ ((k : Nat) : Int) = 3 ∨ ((k : Nat) : Int) = 4 ∨ ((k : Nat) : Int) = 5 ∨ ((k : Nat) : Int) = 6 ∨ ((k : Nat) : Int) = 7 ∨ ((k : Nat) : Int) = 8 by omega) with c_1 | c_1 | c_1 | c_1 | c_1 | c_1 | c_1 | c_1 | c_1
  · refine r_tswD (pc := 1) (tgt := 108) dX0_joined_1 (by omega) (by omega) (by decide) ?_
    refine r_ldc2 (pc := 108) (x := 1000000001) dX0_joined_108 kc_X0_47 (by decide) ?_
    exact r_lret (pc := 111) dX0_joined_111 rfl ⟨by unfold jnV; rw [if_neg (by omega), if_neg (by omega), if_neg (by omega), if_neg (by omega), if_neg (by omega), if_neg (by omega), if_neg (by omega)], rfl, rfl⟩
  · refine r_tswD (pc := 1) (tgt := 108) dX0_joined_1 (by omega) (by omega) (by decide) ?_
    refine r_ldc2 (pc := 108) (x := 1000000001) dX0_joined_108 kc_X0_47 (by decide) ?_
    exact r_lret (pc := 111) dX0_joined_111 rfl ⟨by unfold jnV; rw [if_neg (by omega), if_neg (by omega), if_neg (by omega), if_neg (by omega), if_neg (by omega), if_neg (by omega), if_neg (by omega)], rfl, rfl⟩
  · refine r_tsw (pc := 1) (off := 43) (tgt := 44) dX0_joined_1 (by omega) (by omega) (by omega) (by rw [c_1]; rfl) (by decide) ?_
    refine r_lload_n (pc := 44) 1 dX0_joined_44 rfl rfl ?_
    refine r_lload_n (pc := 45) 2 dX0_joined_45 rfl rfl ?_
    refine r_ladd (pc := 46) dX0_joined_46 ?_
    exact r_lret (pc := 47) dX0_joined_47 rfl ⟨by unfold jnV; rw [if_pos (by omega)], rfl, rfl⟩
  · refine r_tsw (pc := 1) (off := 47) (tgt := 48) dX0_joined_1 (by omega) (by omega) (by omega) (by rw [c_1]; rfl) (by decide) ?_
    refine r_lload_n (pc := 48) 1 dX0_joined_48 rfl rfl ?_
    refine r_lload_n (pc := 49) 2 dX0_joined_49 rfl rfl ?_
    refine r_lsub (pc := 50) dX0_joined_50 ?_
    exact r_lret (pc := 51) dX0_joined_51 rfl ⟨by unfold jnV; rw [if_neg (by omega), if_pos (by omega)], rfl, rfl⟩
  · refine r_tsw (pc := 1) (off := 51) (tgt := 52) dX0_joined_1 (by omega) (by omega) (by omega) (by rw [c_1]; rfl) (by decide) ?_
    refine r_lload_n (pc := 52) 1 dX0_joined_52 rfl rfl ?_
    refine r_lload_n (pc := 53) 2 dX0_joined_53 rfl rfl ?_
    refine r_lmul (pc := 54) dX0_joined_54 ?_
    exact r_lret (pc := 55) dX0_joined_55 rfl ⟨by unfold jnV; rw [if_neg (by omega), if_neg (by omega), if_pos (by omega)], rfl, rfl⟩
  · refine r_tsw (pc := 1) (off := 55) (tgt := 56) dX0_joined_1 (by omega) (by omega) (by omega) (by rw [c_1]; rfl) (by decide) ?_
    refine r_lload_n (pc := 56) 2 dX0_joined_56 rfl rfl ?_
    refine r_lconst (pc := 57) (x := 0) dX0_joined_57 (by decide) ?_
    refine r_lcmp (pc := 58) (w := cmpZ (b) (0)) dX0_joined_58  (cmp_z (by omega) (by omega)) ?_
    refine r_if_ne (pc := 59) (tgt := 68) dX0_joined_59 (by decide) (cmpZ_r) (fun c_59 => ?_) (fun c_59 => ?_)
    · replace c_59 := (not_congr cmpZ_eq).mp c_59
      refine r_lload_n (pc := 68) 1 dX0_joined_68 rfl rfl ?_
      refine r_lload_n (pc := 69) 2 dX0_joined_69 rfl rfl ?_
      refine r_ldiv (pc := 70) (w := a.tdiv b) dX0_joined_70 (fun h => c_59 ((lI_eq (by omega) (by omega)).mp h)) (lI_div (by omega) (by omega)) ?_
      exact r_lret (pc := 71) dX0_joined_71 rfl ⟨by unfold jnV; rw [if_neg (by omega), if_neg (by omega), if_neg (by omega), if_pos (by omega)]; rw [if_neg c_59], rfl, rfl⟩
    · replace c_59 := cmpZ_eq.mp c_59
      refine r_ldc2 (pc := 62) (x := 1000000001) dX0_joined_62 kc_X0_47 (by decide) ?_
      refine r_goto (pc := 65) (tgt := 71) dX0_joined_65 (by decide) ?_
      exact r_lret (pc := 71) dX0_joined_71 rfl ⟨by unfold jnV; rw [if_neg (by omega), if_neg (by omega), if_neg (by omega), if_pos (by omega)]; rw [if_pos c_59], rfl, rfl⟩
  · refine r_tsw (pc := 1) (off := 71) (tgt := 72) dX0_joined_1 (by omega) (by omega) (by omega) (by rw [c_1]; rfl) (by decide) ?_
    refine r_lload_n (pc := 72) 1 dX0_joined_72 rfl rfl ?_
    refine r_lload_n (pc := 73) 2 dX0_joined_73 rfl rfl ?_
    refine r_lcmp (pc := 74) (w := cmpZ (a) (b)) dX0_joined_74  (cmp_z (by omega) (by omega)) ?_
    refine r_if_ge (pc := 75) (tgt := 82) dX0_joined_75 (by decide) (cmpZ_r) (fun c_75 => ?_) (fun c_75 => ?_)
    · replace c_75 := cmpZ_ge.mp c_75
      refine r_lconst (pc := 82) (x := 0) dX0_joined_82 (by decide) ?_
      exact r_lret (pc := 83) dX0_joined_83 rfl ⟨by unfold jnV; rw [if_neg (by omega), if_neg (by omega), if_neg (by omega), if_neg (by omega), if_pos (by omega)]; rw [b01_f (by omega)], rfl, rfl⟩
    · replace c_75 := cmpZ_lt.mp c_75
      refine r_lconst (pc := 78) (x := 1) dX0_joined_78 (by decide) ?_
      refine r_goto (pc := 79) (tgt := 83) dX0_joined_79 (by decide) ?_
      exact r_lret (pc := 83) dX0_joined_83 rfl ⟨by unfold jnV; rw [if_neg (by omega), if_neg (by omega), if_neg (by omega), if_neg (by omega), if_pos (by omega)]; rw [b01_t (by omega)], rfl, rfl⟩
  · refine r_tsw (pc := 1) (off := 83) (tgt := 84) dX0_joined_1 (by omega) (by omega) (by omega) (by rw [c_1]; rfl) (by decide) ?_
    refine r_lload_n (pc := 84) 1 dX0_joined_84 rfl rfl ?_
    refine r_lload_n (pc := 85) 2 dX0_joined_85 rfl rfl ?_
    refine r_lcmp (pc := 86) (w := cmpZ (a) (b)) dX0_joined_86  (cmp_z (by omega) (by omega)) ?_
    refine r_if_le (pc := 87) (tgt := 94) dX0_joined_87 (by decide) (cmpZ_r) (fun c_87 => ?_) (fun c_87 => ?_)
    · replace c_87 := cmpZ_le.mp c_87
      refine r_lconst (pc := 94) (x := 0) dX0_joined_94 (by decide) ?_
      exact r_lret (pc := 95) dX0_joined_95 rfl ⟨by unfold jnV; rw [if_neg (by omega), if_neg (by omega), if_neg (by omega), if_neg (by omega), if_neg (by omega), if_pos (by omega)]; rw [b01_f (by omega)], rfl, rfl⟩
    · replace c_87 := cmpZ_gt.mp c_87
      refine r_lconst (pc := 90) (x := 1) dX0_joined_90 (by decide) ?_
      refine r_goto (pc := 91) (tgt := 95) dX0_joined_91 (by decide) ?_
      exact r_lret (pc := 95) dX0_joined_95 rfl ⟨by unfold jnV; rw [if_neg (by omega), if_neg (by omega), if_neg (by omega), if_neg (by omega), if_neg (by omega), if_pos (by omega)]; rw [b01_t (by omega)], rfl, rfl⟩
  · refine r_tsw (pc := 1) (off := 95) (tgt := 96) dX0_joined_1 (by omega) (by omega) (by omega) (by rw [c_1]; rfl) (by decide) ?_
    refine r_lload_n (pc := 96) 1 dX0_joined_96 rfl rfl ?_
    refine r_lload_n (pc := 97) 2 dX0_joined_97 rfl rfl ?_
    refine r_lcmp (pc := 98) (w := cmpZ (a) (b)) dX0_joined_98  (cmp_z (by omega) (by omega)) ?_
    refine r_if_ne (pc := 99) (tgt := 106) dX0_joined_99 (by decide) (cmpZ_r) (fun c_99 => ?_) (fun c_99 => ?_)
    · replace c_99 := (not_congr cmpZ_eq).mp c_99
      refine r_lconst (pc := 106) (x := 0) dX0_joined_106 (by decide) ?_
      exact r_lret (pc := 107) dX0_joined_107 rfl ⟨by unfold jnV; rw [if_neg (by omega), if_neg (by omega), if_neg (by omega), if_neg (by omega), if_neg (by omega), if_neg (by omega), if_pos (by omega)]; rw [b01_f (by omega)], rfl, rfl⟩
    · replace c_99 := cmpZ_eq.mp c_99
      refine r_lconst (pc := 102) (x := 1) dX0_joined_102 (by decide) ?_
      refine r_goto (pc := 103) (tgt := 107) dX0_joined_103 (by decide) ?_
      exact r_lret (pc := 107) dX0_joined_107 rfl ⟨by unfold jnV; rw [if_neg (by omega), if_neg (by omega), if_neg (by omega), if_neg (by omega), if_neg (by omega), if_neg (by omega), if_pos (by omega)]; rw [b01_t (by omega)], rfl, rfl⟩

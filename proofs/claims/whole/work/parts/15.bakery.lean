/-- an answer, and nothing changed -/
def rdQ (v : Value) (g : Gm) (f : Fm) : Po := fun r g' f' => r = some v ∧ g = g' ∧ f = f'
/-- no answer, and new ints -/
def wrQ (g : Gm) (f : Fm) : Po := fun r g' f' => r = none ∧ g = g' ∧ f = f'
def b01 (p : Prop) [Decidable p] : Int := if p then 1 else 0
theorem b01_t {p : Prop} [Decidable p] (h : p) : b01 p = 1 := if_pos h
theorem b01_f {p : Prop} [Decidable p] (h : ¬ p) : b01 p = 0 := if_neg h
theorem b01_r {p : Prop} [Decidable p] : -2147483648 ≤ b01 p ∧ b01 p ≤ 2147483647 := by unfold b01; split <;> decide
theorem b01_01 {p : Prop} [Decidable p] : b01 p = 0 ∨ b01 p = 1 := by unfold b01; split <;> simp
theorem b01_z {p : Prop} [Decidable p] (h : b01 p = 0) : ¬ p := fun q => by rw [b01_t q] at h; cases h
theorem b01_nz {p : Prop} [Decidable p] (h : ¬ b01 p = 0) : p := Decidable.byContradiction fun q => h (b01_f q)
theorem b01_iff {p q : Prop} [Decidable p] [Decidable q] (h : p ↔ q) : b01 p = b01 q := by unfold b01; simp [h]
theorem b01_nar {p : Prop} [Decidable p] : narrow .boolean (.int (iI (b01 p))) = .int (iI (b01 p)) := by rcases b01_01 (p := p) with h | h <;> rw [h] <;> rfl
theorem iI_div {x y : Int} (hx : 0 ≤ x ∧ x ≤ 2147483647) (hy : 0 < y ∧ y ≤ 2147483647) : iI x / iI y = iI (x / y) := by
  have h1 : iI x = nI x.toNat := by rw [← iI_nat]; congr 1; omega
  have h2 : iI y = nI y.toNat := by rw [← iI_nat]; congr 1; omega
  rw [h1, h2, pk_div (by omega) (by omega) (by omega), ← iI_nat]
  congr 1
  rw [Int.natCast_ediv]
  congr 1 <;> omega
theorem iI_rem {x y : Int} (hx : 0 ≤ x ∧ x ≤ 2147483647) (hy : 0 < y ∧ y ≤ 2147483647) : iI x - iI x / iI y * iI y = iI (x % y) := by
  rw [iI_div hx hy, iI_mul, iI_sub]
  congr 1
  have := Int.emod_def x y
  rw [this, Int.mul_comm]
theorem iI_ne0 {y : Int} (hy : 0 < y ∧ y ≤ 2147483647) : ¬ iI y = 0 := by
  have h0 : (0 : Int32) = iI 0 := rfl
  rw [h0, iI_eq (by omega) (by omega)]; omega
/-- how many of the first n loaves are blessed -/
def blA (dz lp n : Int) : Int := if n < 1 ∨ dz < 1 then 0 else if lp < 1 then n / dz else n / (lp * dz + 1) * lp + min (n % (lp * dz + 1) / dz) (lp - 1)

set_option maxRecDepth 100000 in
set_option maxHeartbeats 4000000 in
theorem c_min (l : Launch) (z : Zv) (d : Nat) (g : Gm) (f : Fm) (x y : Int) (hx : -2147483648 ≤ x ∧ x ≤ 2147483647) (hy : -2147483648 ≤ y ∧ y ≤ 2147483647) : PM l z d mJ9_min_7cf53 [(.int (iI (x))), (.int (iI (y)))] g f 0 0 (rdQ (.int (iI (min x y))) g f) := by
  refine PM.ofF (by decide +kernel) (Nat.le_of_ble_eq_true rfl) ?_
  refine r_iload_n (pc := 0) 0 dJ9_min_7cf53_0 rfl rfl ?_
  refine r_iload_n (pc := 1) 1 dJ9_min_7cf53_1 rfl rfl ?_
  refine r_icmp_gt (pc := 2) (tgt := 9) dJ9_min_7cf53_2 (by decide) (by omega) (by omega) (fun c_2 => ?_) (fun c_2 => ?_)
  · refine r_iload_n (pc := 9) 1 dJ9_min_7cf53_9 rfl rfl ?_
    exact r_iret (pc := 10) dJ9_min_7cf53_10 rfl rfl ⟨by first | rw [Int.min_eq_left (by omega)] | rw [Int.min_eq_right (by omega)], rfl, rfl⟩
  · refine r_iload_n (pc := 5) 0 dJ9_min_7cf53_5 rfl rfl ?_
    refine r_goto (pc := 6) (tgt := 10) dJ9_min_7cf53_6 (by decide) ?_
    exact r_iret (pc := 10) dJ9_min_7cf53_10 rfl rfl ⟨by first | rw [Int.min_eq_left (by omega)] | rw [Int.min_eq_right (by omega)], rfl, rfl⟩

set_option maxRecDepth 100000 in
set_option maxHeartbeats 4000000 in
theorem c_max (l : Launch) (z : Zv) (d : Nat) (g : Gm) (f : Fm) (x y : Int) (hx : -2147483648 ≤ x ∧ x ≤ 2147483647) (hy : -2147483648 ≤ y ∧ y ≤ 2147483647) : PM l z d mJ9_max_7cf53 [(.int (iI (x))), (.int (iI (y)))] g f 0 0 (rdQ (.int (iI (max x y))) g f) := by
  refine PM.ofF (by decide +kernel) (Nat.le_of_ble_eq_true rfl) ?_
  refine r_iload_n (pc := 0) 0 dJ9_max_7cf53_0 rfl rfl ?_
  refine r_iload_n (pc := 1) 1 dJ9_max_7cf53_1 rfl rfl ?_
  refine r_icmp_lt (pc := 2) (tgt := 9) dJ9_max_7cf53_2 (by decide) (by omega) (by omega) (fun c_2 => ?_) (fun c_2 => ?_)
  · refine r_iload_n (pc := 9) 1 dJ9_max_7cf53_9 rfl rfl ?_
    exact r_iret (pc := 10) dJ9_max_7cf53_10 rfl rfl ⟨by first | rw [Int.max_eq_left (by omega)] | rw [Int.max_eq_right (by omega)], rfl, rfl⟩
  · refine r_iload_n (pc := 5) 0 dJ9_max_7cf53_5 rfl rfl ?_
    refine r_goto (pc := 6) (tgt := 10) dJ9_max_7cf53_6 (by decide) ?_
    exact r_iret (pc := 10) dJ9_max_7cf53_10 rfl rfl ⟨by first | rw [Int.max_eq_left (by omega)] | rw [Int.max_eq_right (by omega)], rfl, rfl⟩

set_option maxRecDepth 100000 in
set_option maxHeartbeats 4000000 in
theorem c_trait (l : Launch) (z : Zv) (d : Nat) {g : Gm} (f : Fm) {b : Nat} {w c : Int} (hB : BL g b) (hw : 0 ≤ w ∧ w ≤ 4) (hc : 0 ≤ c ∧ c ≤ 7) : PM l z d mX1_trait [(.ref b), (.int (iI (w))), (.int (iI (c)))] g f 0 0 (rdQ (.int (iI (f (b + 1) (w * 8 + c).toNat))) g f) := by
  refine PM.of (by decide +kernel) (Nat.le_of_ble_eq_true rfl) ?_
  refine r_aload_n (pc := 0) 0 dX1_trait_0 rfl rfl ?_
  refine r_getR (pc := 1) (b := (b + 1)) dX1_trait_1 fl_X1_9 rfl hB.k hB.r0 ?_
  refine r_iload_n (pc := 4) 1 dX1_trait_4 rfl rfl ?_
  refine r_bipush (pc := 5) dX1_trait_5 (by decide) ?_
  refine r_imul (pc := 7) dX1_trait_7 ?_
  refine r_iload_n (pc := 8) 2 dX1_trait_8 rfl rfl ?_
  refine r_iadd (pc := 9) dX1_trait_9 ?_
  refine r_iald (pc := 10) dX1_trait_10 hB.a0 (by omega) (by decide) ?_
  exact r_iret (pc := 11) dX1_trait_11 rfl rfl ⟨rfl, rfl, rfl⟩

set_option maxRecDepth 100000 in
set_option maxHeartbeats 4000000 in
theorem c_setTrait (l : Launch) (z : Zv) (d : Nat) {g : Gm} (f : Fm) {b : Nat} {w c : Int} (v : Int) (hB : BL g b) (hw : 0 ≤ w ∧ w ≤ 4) (hc : 0 ≤ c ∧ c ≤ 7) : PM l z d mX1_setTrait [(.ref b), (.int (iI (w))), (.int (iI (c))), (.int (iI (v)))] g f 0 0 (wrQ g (stF f (b + 1) (w * 8 + c).toNat v)) := by
  refine PM.of (by decide +kernel) (Nat.le_of_ble_eq_true rfl) ?_
  refine r_aload_n (pc := 0) 0 dX1_setTrait_0 rfl rfl ?_
  refine r_getR (pc := 1) (b := (b + 1)) dX1_setTrait_1 fl_X1_9 rfl hB.k hB.r0 ?_
  refine r_iload_n (pc := 4) 1 dX1_setTrait_4 rfl rfl ?_
  refine r_bipush (pc := 5) dX1_setTrait_5 (by decide) ?_
  refine r_imul (pc := 7) dX1_setTrait_7 ?_
  refine r_iload_n (pc := 8) 2 dX1_setTrait_8 rfl rfl ?_
  refine r_iadd (pc := 9) dX1_setTrait_9 ?_
  refine r_iload_n (pc := 10) 3 dX1_setTrait_10 rfl rfl ?_
  refine r_iast (pc := 11) dX1_setTrait_11 hB.a0 (by omega) (by decide) ?_
  exact r_vret (pc := 12) dX1_setTrait_12 rfl ⟨rfl, rfl, rfl⟩

set_option maxRecDepth 100000 in
set_option maxHeartbeats 4000000 in
theorem c_knows (l : Launch) (z : Zv) (d : Nat) {g : Gm} {f : Fm} {b : Nat} {c : Int} (hB : BL g b) (h5 : 0 ≤ f b 5 ∧ f b 5 ≤ 8) (hc : -2147483648 ≤ c ∧ c ≤ 2147483647) : PM l z d mX1_knows [(.ref b), (.int (iI (c)))] g f 0 0 (rdQ (.int (iI (b01 (0 ≤ c ∧ c < f b 5)))) g f) := by
  refine PM.of (by decide +kernel) (Nat.le_of_ble_eq_true rfl) ?_
  refine r_iload_n (pc := 0) 1 dX1_knows_0 rfl rfl ?_
  refine r_if_lt (pc := 1) (tgt := 16) dX1_knows_1 (by decide) (by omega) (fun c_1 => ?_) (fun c_1 => ?_)
  · refine r_iconst (pc := 16) dX1_knows_16 ?_
    exact r_iret (pc := 17) dX1_knows_17 rfl rfl ⟨by first | rw [b01_t (by omega)] | rw [b01_f (by omega)], rfl, rfl⟩
  · refine r_iload_n (pc := 4) 1 dX1_knows_4 rfl rfl ?_
    refine r_aload_n (pc := 5) 0 dX1_knows_5 rfl rfl ?_
    refine r_getI (pc := 6) dX1_knows_6 fl_X1_38 rfl hB.k ?_
    refine r_icmp_ge (pc := 9) (tgt := 16) dX1_knows_9 (by decide) (by omega) (by omega) (fun c_9 => ?_) (fun c_9 => ?_)
    · refine r_iconst (pc := 16) dX1_knows_16 ?_
      exact r_iret (pc := 17) dX1_knows_17 rfl rfl ⟨by first | rw [b01_t (by omega)] | rw [b01_f (by omega)], rfl, rfl⟩
    · refine r_iconst (pc := 12) dX1_knows_12 ?_
      refine r_goto (pc := 13) (tgt := 17) dX1_knows_13 (by decide) ?_
      exact r_iret (pc := 17) dX1_knows_17 rfl rfl ⟨by first | rw [b01_t (by omega)] | rw [b01_f (by omega)], rfl, rfl⟩

set_option maxRecDepth 100000 in
set_option maxHeartbeats 4000000 in
theorem c_ovenOf (l : Launch) (z : Zv) (d : Nat) {g : Gm} (f : Fm) {b : Nat} {c : Int} (hB : BL g b) (hc : 0 ≤ c ∧ c ≤ 7) : PM l z (d + 1) mX1_ovenOf [(.ref b), (.int (iI (c)))] g f 0 0 (rdQ (.int (iI (f (b + 1) (2 * 8 + c).toNat))) g f) := by
  refine PM.of (by decide +kernel) (Nat.le_of_ble_eq_true rfl) ?_
  refine r_aload_n (pc := 0) 0 dX1_ovenOf_0 rfl rfl ?_
  refine r_iconst (pc := 1) dX1_ovenOf_1 ?_
  refine r_iload_n (pc := 2) 1 dX1_ovenOf_2 rfl rfl ?_
  refine r_callV (pc := 3) (As := [(.int (iI (2))), (.int (iI (c)))]) (S := []) dX1_ovenOf_3 cv_X1_41 hB.k rfl (Nat.le_of_ble_eq_true rfl) (c_trait l z _ f hB (by omega) (by omega)) (Nat.zero_le _) (Nat.zero_le _) (fun r_3 g_3 f_3 q_3 => ?_)
  obtain ⟨rfl, rfl, rfl⟩ := q_3
  exact r_iret (pc := 6) dX1_ovenOf_6 rfl rfl ⟨rfl, rfl, rfl⟩

set_option maxRecDepth 100000 in
set_option maxHeartbeats 4000000 in
theorem c_round (l : Launch) (z : Zv) (d : Nat) {g : Gm} {f : Fm} {b : Nat} (hB : BL g b) (h1 : 0 ≤ f (b + 2) 1 ∧ f (b + 2) 1 ≤ 9) : PM l z d mX1_round [(.ref b)] g f 0 0 (rdQ (.int (iI (if f (b + 2) 1 = 0 then f (b + 2) 0 else f (b + 2) 1 * f (b + 2) 0 + 1))) g f) := by
  refine PM.of (by decide +kernel) (Nat.le_of_ble_eq_true rfl) ?_
  refine r_aload_n (pc := 0) 0 dX1_round_0 rfl rfl ?_
  refine r_getR (pc := 1) (b := (b + 2)) dX1_round_1 fl_X1_15 rfl hB.k hB.r1 ?_
  refine r_iconst (pc := 4) dX1_round_4 ?_
  refine r_ialdv (pc := 5) (w := f (b + 2) 1) dX1_round_5 hB.a1 (by decide) (by decide) rfl ?_
  refine r_if_ne (pc := 6) (tgt := 18) dX1_round_6 (by decide) (by omega) (fun c_6 => ?_) (fun c_6 => ?_)
  · refine r_aload_n (pc := 18) 0 dX1_round_18 rfl rfl ?_
    refine r_getR (pc := 19) (b := (b + 2)) dX1_round_19 fl_X1_15 rfl hB.k hB.r1 ?_
    refine r_iconst (pc := 22) dX1_round_22 ?_
    refine r_ialdv (pc := 23) (w := f (b + 2) 1) dX1_round_23 hB.a1 (by decide) (by decide) rfl ?_
    refine r_aload_n (pc := 24) 0 dX1_round_24 rfl rfl ?_
    refine r_getR (pc := 25) (b := (b + 2)) dX1_round_25 fl_X1_15 rfl hB.k hB.r1 ?_
    refine r_iconst (pc := 28) dX1_round_28 ?_
    refine r_ialdv (pc := 29) (w := f (b + 2) 0) dX1_round_29 hB.a1 (by decide) (by decide) rfl ?_
    refine r_imul (pc := 30) dX1_round_30 ?_
    refine r_iconst (pc := 31) dX1_round_31 ?_
    refine r_iadd (pc := 32) dX1_round_32 ?_
    exact r_iret (pc := 33) dX1_round_33 rfl rfl ⟨by first | rw [if_pos (by omega)] | rw [if_neg (by omega)], rfl, rfl⟩
  · refine r_aload_n (pc := 9) 0 dX1_round_9 rfl rfl ?_
    refine r_getR (pc := 10) (b := (b + 2)) dX1_round_10 fl_X1_15 rfl hB.k hB.r1 ?_
    refine r_iconst (pc := 13) dX1_round_13 ?_
    refine r_ialdv (pc := 14) (w := f (b + 2) 0) dX1_round_14 hB.a1 (by decide) (by decide) rfl ?_
    refine r_goto (pc := 15) (tgt := 33) dX1_round_15 (by decide) ?_
    exact r_iret (pc := 33) dX1_round_33 rfl rfl ⟨by first | rw [if_pos (by omega)] | rw [if_neg (by omega)], rfl, rfl⟩

set_option maxRecDepth 100000 in
set_option maxHeartbeats 4000000 in
theorem c_blessedAmong (l : Launch) (z : Zv) (d : Nat) {g : Gm} {f : Fm} {b : Nat} {n dz lp : Int} (hB : BL g b) (hdz : f (b + 2) 0 = dz) (hlp : f (b + 2) 1 = lp) (h0 : 2 ≤ dz ∧ dz ≤ 20) (h1 : 0 ≤ lp ∧ lp ≤ 9) (hn : -2147483648 ≤ n ∧ n ≤ 2000000) : PM l z (d + 1) mX1_blessedAmong [(.ref b), (.int (iI (n)))] g f 0 0 (rdQ (.int (iI (blA dz lp n))) g f) := by
  refine PM.of (by decide +kernel) (Nat.le_of_ble_eq_true rfl) ?_
  refine r_aload_n (pc := 0) 0 dX1_blessedAmong_0 rfl rfl ?_
  refine r_getR (pc := 1) (b := (b + 2)) dX1_blessedAmong_1 fl_X1_15 rfl hB.k hB.r1 ?_
  refine r_iconst (pc := 4) dX1_blessedAmong_4 ?_
  refine r_ialdv (pc := 5) (w := dz) dX1_blessedAmong_5 hB.a1 (by omega) (by decide) (hdz) ?_
  refine r_istore_n (pc := 6) (L2 := [(2, (.int (iI (dz)))), (0, (.ref b)), (1, (.int (iI (n))))]) dX1_blessedAmong_6 rfl (by decide) rfl ?_
  refine r_aload_n (pc := 7) 1 dX1_blessedAmong_7 rfl rfl ?_
  refine r_getR (pc := 8) (b := (b + 2)) dX1_blessedAmong_8 fl_X1_15 rfl hB.k hB.r1 ?_
  refine r_iconst (pc := 11) dX1_blessedAmong_11 ?_
  refine r_ialdv (pc := 12) (w := lp) dX1_blessedAmong_12 hB.a1 (by omega) (by decide) (hlp) ?_
  refine r_istore_n (pc := 13) (L2 := [(3, (.int (iI (lp)))), (2, (.int (iI (dz)))), (0, (.ref b)), (1, (.int (iI (n))))]) dX1_blessedAmong_13 rfl (by decide) rfl ?_
  refine r_iload_n (pc := 14) 3 dX1_blessedAmong_14 rfl rfl ?_
  refine r_iconst (pc := 15) dX1_blessedAmong_15 ?_
  refine r_icmp_lt (pc := 16) (tgt := 24) dX1_blessedAmong_16 (by decide) (by omega) (by omega) (fun c_16 => ?_) (fun c_16 => ?_)
  · refine r_iconst (pc := 24) dX1_blessedAmong_24 ?_
    exact r_iret (pc := 25) dX1_blessedAmong_25 rfl rfl ⟨by first | (rw [blA, if_pos (by omega)]) | (rw [blA, if_neg (by omega), if_pos (by omega)]) | (rw [blA, if_neg (by omega), if_neg (by omega)]), rfl, rfl⟩
  · refine r_iload_n (pc := 19) 1 dX1_blessedAmong_19 rfl rfl ?_
    refine r_iconst (pc := 20) dX1_blessedAmong_20 ?_
    refine r_icmp_ge (pc := 21) (tgt := 26) dX1_blessedAmong_21 (by decide) (by omega) (by omega) (fun c_21 => ?_) (fun c_21 => ?_)
    · refine r_iload_n (pc := 26) 0 dX1_blessedAmong_26 rfl rfl ?_
      refine r_iconst (pc := 27) dX1_blessedAmong_27 ?_
      refine r_icmp_ge (pc := 28) (tgt := 35) dX1_blessedAmong_28 (by decide) (by omega) (by omega) (fun c_28 => ?_) (fun c_28 => ?_)
      · refine r_iload_n (pc := 35) 0 dX1_blessedAmong_35 rfl rfl ?_
        refine r_iload_n (pc := 36) 1 dX1_blessedAmong_36 rfl rfl ?_
        refine r_imul (pc := 37) dX1_blessedAmong_37 ?_
        refine r_iconst (pc := 38) dX1_blessedAmong_38 ?_
        refine r_iadd (pc := 39) dX1_blessedAmong_39 ?_
        refine r_istore (pc := 40) (L2 := [(4, (.int (iI (((lp) * (dz)) + (1))))), (3, (.int (iI (lp)))), (2, (.int (iI (dz)))), (0, (.ref b)), (1, (.int (iI (n))))]) dX1_blessedAmong_40 (by decide) rfl ?_
        have hp : 0 ≤ lp * dz ∧ lp * dz ≤ 9 * 20 := ⟨Int.mul_nonneg (by omega) (by omega), Int.mul_le_mul (by omega) (by omega) (by omega) (by omega)⟩
        have hm : 0 ≤ n % (lp * dz + 1) ∧ n % (lp * dz + 1) < lp * dz + 1 := ⟨Int.emod_nonneg _ (by omega), Int.emod_lt_of_pos _ (by omega)⟩
        have hq : 0 ≤ n % (lp * dz + 1) / dz ∧ n % (lp * dz + 1) / dz ≤ n % (lp * dz + 1) := ⟨Int.ediv_nonneg (by omega) (by omega), Int.ediv_le_self _ (by omega)⟩
        refine r_iload_n (pc := 42) 4 dX1_blessedAmong_42 rfl rfl ?_
        refine r_iload (pc := 43) 0 dX1_blessedAmong_43 rfl ?_
        refine r_idiv (pc := 45) (w := (n) / (((lp) * (dz)) + (1))) dX1_blessedAmong_45 (iI_ne0 (by omega)) (iI_div (by omega) (by omega)) ?_
        refine r_iload_n (pc := 46) 1 dX1_blessedAmong_46 rfl rfl ?_
        refine r_imul (pc := 47) dX1_blessedAmong_47 ?_
        refine r_iload_n (pc := 48) 4 dX1_blessedAmong_48 rfl rfl ?_
        refine r_iload (pc := 49) 0 dX1_blessedAmong_49 rfl ?_
        refine r_irem (pc := 51) (w := (n) % (((lp) * (dz)) + (1))) dX1_blessedAmong_51 (iI_ne0 (by omega)) (iI_rem (by omega) (by omega)) ?_
        refine r_iload_n (pc := 52) 2 dX1_blessedAmong_52 rfl rfl ?_
        refine r_idiv (pc := 53) (w := ((n) % (((lp) * (dz)) + (1))) / (dz)) dX1_blessedAmong_53 (iI_ne0 (by omega)) (iI_div (by omega) (by omega)) ?_
        refine r_iload_n (pc := 54) 1 dX1_blessedAmong_54 rfl rfl ?_
        refine r_iconst (pc := 55) dX1_blessedAmong_55 ?_
        refine r_isub (pc := 56) dX1_blessedAmong_56 ?_
        refine r_callS (pc := 57) (As := [(.int (iI (((n) % (((lp) * (dz)) + (1))) / (dz)))), (.int (iI ((lp) - (1))))]) (S := [(.int (iI (((n) / (((lp) * (dz)) + (1))) * (lp))))]) dX1_blessedAmong_57 cs_X1_52 rfl (Nat.le_of_ble_eq_true rfl) (c_min l z _ g f _ _ (by constructor <;> omega) (by constructor <;> omega)) (Nat.zero_le _) (Nat.zero_le _) (fun r_57 g_57 f_57 q_57 => ?_)
        obtain ⟨rfl, rfl, rfl⟩ := q_57
        refine r_iadd (pc := 60) dX1_blessedAmong_60 ?_
        exact r_iret (pc := 61) dX1_blessedAmong_61 rfl rfl ⟨by first | (rw [blA, if_pos (by omega)]) | (rw [blA, if_neg (by omega), if_pos (by omega)]) | (rw [blA, if_neg (by omega), if_neg (by omega)]), rfl, rfl⟩
      · refine r_iload_n (pc := 31) 3 dX1_blessedAmong_31 rfl rfl ?_
        refine r_iload_n (pc := 32) 1 dX1_blessedAmong_32 rfl rfl ?_
        refine r_idiv (pc := 33) (w := (n) / (dz)) dX1_blessedAmong_33 (iI_ne0 (by omega)) (iI_div (by omega) (by omega)) ?_
        exact r_iret (pc := 34) dX1_blessedAmong_34 rfl rfl ⟨by first | (rw [blA, if_pos (by omega)]) | (rw [blA, if_neg (by omega), if_pos (by omega)]) | (rw [blA, if_neg (by omega), if_neg (by omega)]), rfl, rfl⟩
    · refine r_iconst (pc := 24) dX1_blessedAmong_24 ?_
      exact r_iret (pc := 25) dX1_blessedAmong_25 rfl rfl ⟨by first | (rw [blA, if_pos (by omega)]) | (rw [blA, if_neg (by omega), if_pos (by omega)]) | (rw [blA, if_neg (by omega), if_neg (by omega)]), rfl, rfl⟩

set_option maxRecDepth 100000 in
set_option maxHeartbeats 4000000 in
theorem c_blessedBetween (l : Launch) (z : Zv) (d : Nat) {g : Gm} {f : Fm} {b : Nat} {n m dz lp : Int} (hB : BL g b) (hdz : f (b + 2) 0 = dz) (hlp : f (b + 2) 1 = lp) (h0 : 2 ≤ dz ∧ dz ≤ 20) (h1 : 0 ≤ lp ∧ lp ≤ 9) (hn : 0 ≤ n ∧ n ≤ 1500000) (hm : 0 ≤ m ∧ m ≤ 40) : PM l z (d + 2) mX1_blessedBetween [(.ref b), (.int (iI (n))), (.int (iI (m)))] g f 0 0 (rdQ (.int (iI (blA dz lp (n + m) - blA dz lp n))) g f) := by
  refine PM.of (by decide +kernel) (Nat.le_of_ble_eq_true rfl) ?_
  refine r_aload_n (pc := 0) 0 dX1_blessedBetween_0 rfl rfl ?_
  refine r_iload_n (pc := 1) 1 dX1_blessedBetween_1 rfl rfl ?_
  refine r_iload_n (pc := 2) 2 dX1_blessedBetween_2 rfl rfl ?_
  refine r_iadd (pc := 3) dX1_blessedBetween_3 ?_
  refine r_callV (pc := 4) (As := [(.int (iI ((n) + (m))))]) (S := []) dX1_blessedBetween_4 cv_X1_57 hB.k rfl (Nat.le_of_ble_eq_true rfl) (c_blessedAmong l z _ hB hdz hlp h0 h1 (by omega)) (Nat.zero_le _) (Nat.zero_le _) (fun r_4 g_4 f_4 q_4 => ?_)
  obtain ⟨rfl, rfl, rfl⟩ := q_4
  refine r_aload_n (pc := 7) 0 dX1_blessedBetween_7 rfl rfl ?_
  refine r_iload_n (pc := 8) 1 dX1_blessedBetween_8 rfl rfl ?_
  refine r_callV (pc := 9) (As := [(.int (iI (n)))]) (S := [(.int (iI (blA dz lp ((n) + (m)))))]) dX1_blessedBetween_9 cv_X1_57 hB.k rfl (Nat.le_of_ble_eq_true rfl) (c_blessedAmong l z _ hB hdz hlp h0 h1 (by omega)) (Nat.zero_le _) (Nat.zero_le _) (fun r_9 g_9 f_9 q_9 => ?_)
  obtain ⟨rfl, rfl, rfl⟩ := q_9
  refine r_isub (pc := 12) dX1_blessedBetween_12 ?_
  exact r_iret (pc := 13) dX1_blessedBetween_13 rfl rfl ⟨rfl, rfl, rfl⟩

set_option maxRecDepth 100000 in
set_option maxHeartbeats 4000000 in
theorem c_say_add (l : Launch) (z : Zv) (d : Nat) {g : Gm} {f : Fm} {b : Nat} {c v : Int} (hS : SL g b) (h2 : 0 ≤ f b 2 ∧ f b 2 < 8) : PM l z d mX5_add [(.ref b), (.int (iI (c))), (.int (iI (v)))] g f 0 0 (rdQ (.int (iI (f b 2 + 1))) g (stF (stF (stF f (b + 1) (f b 2).toNat c) (b + 2) (f b 2).toNat v) b 2 (f b 2 + 1))) := by
  refine PM.of (by decide +kernel) (Nat.le_of_ble_eq_true rfl) ?_
  refine r_aload_n (pc := 0) 0 dX5_add_0 rfl rfl ?_
  refine r_getIv (pc := 1) (x := f b 2) dX5_add_1 fl_X5_18 rfl hS.k (by simp [stF]) ?_
  refine r_bipush (pc := 4) dX5_add_4 (by decide) ?_
  refine r_icmp_ge (pc := 6) (tgt := 39) dX5_add_6 (by decide) (by omega) (by omega) (fun c_6 => ?_) (fun c_6 => ?_)
  · exfalso; omega
  · refine r_aload_n (pc := 9) 0 dX5_add_9 rfl rfl ?_
    refine r_getR (pc := 10) (b := (b + 1)) dX5_add_10 fl_X5_9 rfl hS.k hS.r0 ?_
    refine r_aload_n (pc := 13) 0 dX5_add_13 rfl rfl ?_
    refine r_getIv (pc := 14) (x := f b 2) dX5_add_14 fl_X5_18 rfl hS.k (by simp [stF]) ?_
    refine r_iload_n (pc := 17) 1 dX5_add_17 rfl rfl ?_
    refine r_iast (pc := 18) dX5_add_18 hS.a0 (by omega) (by decide) ?_
    refine r_aload_n (pc := 19) 0 dX5_add_19 rfl rfl ?_
    refine r_getR (pc := 20) (b := (b + 2)) dX5_add_20 fl_X5_15 rfl hS.k hS.r1 ?_
    refine r_aload_n (pc := 23) 0 dX5_add_23 rfl rfl ?_
    refine r_getIv (pc := 24) (x := f b 2) dX5_add_24 fl_X5_18 rfl hS.k (by simp [stF]) ?_
    refine r_iload_n (pc := 27) 2 dX5_add_27 rfl rfl ?_
    refine r_iast (pc := 28) dX5_add_28 hS.a1 (by omega) (by decide) ?_
    refine r_aload_n (pc := 29) 0 dX5_add_29 rfl rfl ?_
    refine r_dup (pc := 30) dX5_add_30 rfl ?_
    refine r_getIv (pc := 31) (x := f b 2) dX5_add_31 fl_X5_18 rfl hS.k (by simp [stF]) ?_
    refine r_iconst (pc := 34) dX5_add_34 ?_
    refine r_iadd (pc := 35) dX5_add_35 ?_
    refine r_putI (pc := 36) dX5_add_36 fl_X5_18 rfl rfl hS.k ?_
    refine r_aload_n (pc := 39) 0 dX5_add_39 rfl rfl ?_
    refine r_getIv (pc := 40) (x := f b 2 + 1) dX5_add_40 fl_X5_18 rfl hS.k (by simp [stF]) ?_
    exact r_iret (pc := 43) dX5_add_43 rfl rfl ⟨rfl, rfl, rfl⟩

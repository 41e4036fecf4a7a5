/-- what can still be had from a day on, k days before the end -/
def bkF (n : Nat) (A : Nat → Nat → Bool) (D : Nat) : Nat → Nat → Bool
  | 0 => fun s => decide (s = 0)
  | k + 1 => dC (unB n (bkF n A D k) (A (D - (k + 1)))) n
def lwF (n h : Nat) (A B : Nat → Bool) : Nat → Nat
  | 0 => 2 ^ n - 1
  | s + 1 => if (h ||| s < lwF n h A B s ∧ A s = true) ∧ B (ndf (2 ^ n - 1) (h ||| s)) = true then h ||| s else lwF n h A B s
def bkD (n : Nat) (A : Nat → Nat → Bool) (D d t : Nat) : Bool := decide (t < 2 ^ n) && bkF n A D (D - d) t
def wyH (n : Nat) (A : Nat → Nat → Bool) (D : Nat) : Nat → Nat
  | 0 => 0
  | i + 1 => lwF n (wyH n A D i) (A i) (bkD n A D (i + 1)) (2 ^ n)
theorem lwF_r {n h : Nat} {A B : Nat → Bool} (hn : n ≤ 8) : ∀ s, lwF n h A B s < 2 ^ n
  | 0 => by have := pow8 hn; unfold lwF; omega
  | s + 1 => by
    have ih := lwF_r (h := h) (A := A) (B := B) hn s
    rw [lwF]
    split
    · rename_i q; omega
    · exact ih
theorem wyH_r {n D : Nat} {A : Nat → Nat → Bool} (hn : n ≤ 8) : ∀ i, wyH n A D i < 2 ^ n
  | 0 => Nat.two_pow_pos n
  | i + 1 => lwF_r hn _
theorem unB_c {n : Nat} {U V V' : Nat → Bool} (h : ∀ t, t < 2 ^ n → V t = V' t) : unB n U V = unB n U V' := by
  funext s
  rw [Bool.eq_iff_iff, unB_iff, unB_iff]
  constructor
  · rintro ⟨t1, h1, t2, h2, a, b, e⟩
    exact ⟨t1, h1, t2, h2, a, by rw [← h t2 h2]; exact b, e⟩
  · rintro ⟨t1, h1, t2, h2, a, b, e⟩
    exact ⟨t1, h1, t2, h2, a, by rw [h t2 h2]; exact b, e⟩

set_option maxRecDepth 100000 in
set_option maxHeartbeats 4000000 in
theorem s_fillJ (l : Launch) (z : Zv) (d : Nat) {g : Gm} {J : Nat → Nat → Int} {f : Fm} {a N : Nat} {v : Int} (hA : isA (gwJ g J) a 12 N) (hN : N ≤ 1000000) : PM l z d mJ7_fill_d0a16 [.ref a, .long (lI v)] (gwJ g J) f 0 0 (fun r g' f' => r = none ∧ f = f' ∧ ∃ J', gwJ g J' = g' ∧ (∀ b k, b ≠ a → J' b k = J b k) ∧ ∀ k, k < N → J' a k = v) := by
  refine PM.ofF (by decide +kernel) (Nat.le_of_ble_eq_true rfl) ?_
  have Lf : ∀ m i : Nat, m = N - i → i ≤ N → ∀ J1 : Nat → Nat → Int, (∀ b k, b ≠ a → J1 b k = J b k) → (∀ q, q < i → J1 a q = v) → PW l z d mJ7_fill_d0a16 0 0 (fun r g' f' => r = none ∧ f = f' ∧ ∃ J', gwJ g J' = g' ∧ (∀ b k, b ≠ a → J' b k = J b k) ∧ ∀ k, k < N → J' a k = v) 6 [(3, (.int (iI (((i : Nat) : Int))))), (4, (.int (iI (((N : Nat) : Int))))), (0, (.ref a)), (1, (.long (lI (v))))] [] (gwJ g J1) f 0 0 := by
    intro m
    induction m using Nat.strongRecOn with
    | _ m ih_Lf =>
      intro i hm hi0 J1 hJ1 hZ
      refine r_iload_n (pc := 6) 0 dJ7_fill_d0a16_6 rfl rfl ?_
      refine r_iload (pc := 7) 1 dJ7_fill_d0a16_7 rfl ?_
      refine r_icmp_ge (pc := 9) (tgt := 22) dJ7_fill_d0a16_9 (by decide) (by omega) (by omega) (fun c_9 => ?_) (fun c_9 => ?_)
      · exact r_vret (pc := 22) dJ7_fill_d0a16_22 rfl ⟨rfl, rfl, J1, rfl, hJ1, fun k hk => hZ k (by omega)⟩
      · refine r_aload_n (pc := 12) 2 dJ7_fill_d0a16_12 rfl rfl ?_
        refine r_iload_n (pc := 13) 0 dJ7_fill_d0a16_13 rfl rfl ?_
        refine r_lload_n (pc := 14) 3 dJ7_fill_d0a16_14 rfl rfl ?_
        refine r_last (pc := 15) dJ7_fill_d0a16_15 hA (by omega) (by omega) ?_
        refine r_iincv (pc := 16) (y := ((i + 1 : Nat) : Int)) (L2 := [(3, (.int (iI (((i + 1 : Nat) : Int))))), (4, (.int (iI (((N : Nat) : Int))))), (0, (.ref a)), (1, (.long (lI (v))))]) 0 dJ7_fill_d0a16_16 rfl (by omega) (by decide) rfl ?_
        refine r_goto (pc := 19) (tgt := 6) dJ7_fill_d0a16_19 (by decide) ?_
        refine r_sub (L2 := [(3, (.int (iI (((i + 1 : Nat) : Int))))), (4, (.int (iI (((N : Nat) : Int))))), (0, (.ref a)), (1, (.long (lI (v))))]) [0, 1, 2, 3] rfl ?_
        exact ih_Lf (N - (i + 1)) (by omega) (i + 1) (by omega) (by omega) (jS J1 a i v) (fun b k h => by rw [jS_n _ _ _ _ h]; exact hJ1 b k h) (fun q hq => by
          rcases Nat.lt_succ_iff_lt_or_eq.mp hq with h | h
          · rw [jS_i _ _ _ (by omega)]; exact hZ q h
          · subst h; exact jS_s _ _ _ _)
  refine r_iconst (pc := 0) dJ7_fill_d0a16_0 ?_
  refine r_istore_n (pc := 1) (L2 := [(3, (.int (iI (0)))), (0, (.ref a)), (1, (.long (lI (v))))]) dJ7_fill_d0a16_1 rfl (by decide) rfl ?_
  refine r_aload_n (pc := 2) 1 dJ7_fill_d0a16_2 rfl rfl ?_
  refine r_alenJ (pc := 3) (n := N) dJ7_fill_d0a16_3 hA ?_
  refine r_istore (pc := 4) (L2 := [(4, (.int (iI (((N : Nat) : Int))))), (3, (.int (iI (0)))), (0, (.ref a)), (1, (.long (lI (v))))]) dJ7_fill_d0a16_4 (by decide) rfl ?_
  refine r_sub (L2 := [(3, (.int (iI (((0 : Nat) : Int))))), (4, (.int (iI (((N : Nat) : Int))))), (0, (.ref a)), (1, (.long (lI (v))))]) [1, 0, 2, 3] rfl ?_
  exact Lf N 0 (by omega) (by omega) J (fun _ _ _ => rfl) (fun q hq => absurd hq (by omega))

theorem lcmp_same (x : Int64) : lg_cmp x x = iI 0 := by unfold lg_cmp; simp; rfl
set_option maxRecDepth 100000 in
set_option maxHeartbeats 4000000 in
theorem x_isEmpty (l : Launch) (z : Zv) (d : Nat) {g : Gm} {J : Nat → Nat → Int} {f : Fm} {p n : Nat} {dy : Nat} (hP : YL g p) (hdy : dy < 30) : PM l z d mX9_isEmpty [.ref p, .int (iI ((dy : Nat) : Int))] (gwJ g J) f 0 0 (fun r g' f' => gwJ g J = g' ∧ f = f' ∧ ∃ bb : Bool, r = some (.int (iI (b01 (bb = true)))) ∧ (bb = true ↔ ∀ s, s < 256 → fmB J (p + 2) dy s = false)) := by
  refine PM.of (by decide +kernel) (Nat.le_of_ble_eq_true rfl) ?_
  have Le : ∀ m i : Nat, m = 4 - i → i ≤ 4 → ∀ v : Int, (∀ j, j < 64 → (lB v j = true ↔ ∃ q, q < i ∧ lB (J (p + 2) (4 * dy + q)) j = true)) → PW l z d mX9_isEmpty 0 0 (fun r g' f' => gwJ g J = g' ∧ f = f' ∧ ∃ bb : Bool, r = some (.int (iI (b01 (bb = true)))) ∧ (bb = true ↔ ∀ s, s < 256 → fmB J (p + 2) dy s = false)) 5 [(4, (.int (iI (((i : Nat) : Int))))), (2, (.long (lI (v)))), (0, (.ref p)), (1, (.int (iI (((dy : Nat) : Int)))))] [] (gwJ g J) f 0 0 := by
    intro m
    induction m using Nat.strongRecOn with
    | _ m ih_Le =>
      intro i hm hi0 v hV
      refine r_iload (pc := 5) 0 dX9_isEmpty_5 rfl ?_
      refine r_iconst (pc := 7) dX9_isEmpty_7 ?_
      refine r_icmp_ge (pc := 8) (tgt := 31) dX9_isEmpty_8 (by decide) (by omega) (by omega) (fun c_8 => ?_) (fun c_8 => ?_)
      · have hi4 : i = 4 := by omega
        subst hi4
        have hz : lI v = lI 0 ↔ ∀ s, s < 256 → fmB J (p + 2) dy s = false := by
          constructor
          · intro h s hs
            by_cases q : fmB J (p + 2) dy s = true
            · exfalso
              have h1 := (hV (s % 64) (by omega)).mpr ⟨s / 64, by omega, q⟩
              unfold lB at h1
              rw [h] at h1
              have h2 := lB_0 (s % 64)
              unfold lB at h2
              rw [h1] at h2
              exact absurd h2 (by decide)
            · exact Bool.eq_false_iff.mpr q
          · intro h
            refine lB_z (fun j hj => Bool.eq_false_iff.mpr (fun q => ?_))
            obtain ⟨w, hw, hw2⟩ := (hV j hj).mp q
            have h3 := h (64 * w + j) (by omega)
            unfold fmB at h3
            rw [show (64 * w + j) / 64 = w by omega, show (64 * w + j) % 64 = j by omega, hw2] at h3
            exact absurd h3 (by decide)
        obtain ⟨cz, hcz, hcr, hc0⟩ : ∃ cz : Int, lg_cmp (lI v) (lI 0) = iI cz ∧ (-2147483648 ≤ cz ∧ cz ≤ 2147483647) ∧ (cz = 0 ↔ lI v = lI 0) := by
          by_cases h : lI v = lI 0
          · exact ⟨0, by rw [h]; exact lcmp_same (lI 0), by decide, ⟨fun _ => h, fun _ => rfl⟩⟩
          · by_cases h2 : lI v > lI 0
            · exact ⟨1, by unfold lg_cmp; rw [if_pos h2]; rfl, by decide, ⟨fun q => absurd q (by decide), fun q => absurd q h⟩⟩
            · exact ⟨-1, by unfold lg_cmp; rw [if_neg h2, if_neg h]; rfl, by decide, ⟨fun q => absurd q (by decide), fun q => absurd q h⟩⟩
        refine r_lload_n (pc := 31) 1 dX9_isEmpty_31 rfl rfl ?_
        refine r_lconst (pc := 32) (x := 0) dX9_isEmpty_32 (by decide) ?_
        refine r_lcmp (pc := 33) (w := cz) dX9_isEmpty_33  (hcz) ?_
        refine r_if_ne (pc := 34) (tgt := 41) dX9_isEmpty_34 (by decide) (by omega) (fun c_34 => ?_) (fun c_34 => ?_)
        · refine r_iconst (pc := 41) dX9_isEmpty_41 ?_
          exact r_iret (pc := 42) dX9_isEmpty_42 rfl rfl ⟨rfl, rfl, false, by rw [b01_f (by decide)], ⟨fun h => absurd h (by decide), fun h => absurd (hc0.mpr (hz.mpr h)) (by omega)⟩⟩
        · refine r_iconst (pc := 37) dX9_isEmpty_37 ?_
          refine r_goto (pc := 38) (tgt := 42) dX9_isEmpty_38 (by decide) ?_
          exact r_iret (pc := 42) dX9_isEmpty_42 rfl rfl ⟨rfl, rfl, true, by rw [b01_t rfl], ⟨fun _ => hz.mp (hc0.mp (by omega)), fun _ => rfl⟩⟩
      · refine r_lload_n (pc := 11) 1 dX9_isEmpty_11 rfl rfl ?_
        refine r_aload_n (pc := 12) 2 dX9_isEmpty_12 rfl rfl ?_
        refine r_getR (pc := 13) (b := (p + 2)) dX9_isEmpty_13 fl_X9_15 rfl hP.k hP.r1 ?_
        refine r_iload_n (pc := 16) 3 dX9_isEmpty_16 rfl rfl ?_
        refine r_iconst (pc := 17) dX9_isEmpty_17 ?_
        refine r_imul (pc := 18) dX9_isEmpty_18 ?_
        refine r_eqI (y := ((dy * 4 : Nat) : Int)) (Int.natCast_mul _ _ |>.symm) ?_
        refine r_iload (pc := 19) 0 dX9_isEmpty_19 rfl ?_
        refine r_iadd (pc := 21) dX9_isEmpty_21 ?_
        refine r_eqI (y := ((4 * dy + i : Nat) : Int)) (by omega) ?_
        refine r_lald (pc := 22) dX9_isEmpty_22 hP.a1 (by omega) (by decide) ?_
        refine r_lor (pc := 23) (w := (lI v ||| lI (glm (gwJ g J) (p + 2) (((4 * dy + i : Nat) : Int)).toNat)).toInt) dX9_isEmpty_23  ((lI_t _).symm) ?_
        refine r_lstore_n (pc := 24) (L2 := [(2, (.long (lI ((lI v ||| lI (glm (gwJ g J) (p + 2) (((4 * dy + i : Nat) : Int)).toNat)).toInt)))), (4, (.int (iI (((i : Nat) : Int))))), (0, (.ref p)), (1, (.int (iI (((dy : Nat) : Int)))))]) dX9_isEmpty_24 rfl (by decide) rfl ?_
        refine r_iincv (pc := 25) (y := ((i + 1 : Nat) : Int)) (L2 := [(4, (.int (iI (((i + 1 : Nat) : Int))))), (2, (.long (lI ((lI v ||| lI (glm (gwJ g J) (p + 2) (((4 * dy + i : Nat) : Int)).toNat)).toInt)))), (0, (.ref p)), (1, (.int (iI (((dy : Nat) : Int)))))]) 1 dX9_isEmpty_25 rfl (by omega) (by decide) rfl ?_
        refine r_goto (pc := 28) (tgt := 5) dX9_isEmpty_28 (by decide) ?_
        refine r_sub (L2 := [(4, (.int (iI (((i + 1 : Nat) : Int))))), (2, (.long (lI ((lI v ||| lI (glm (gwJ g J) (p + 2) (((4 * dy + i : Nat) : Int)).toNat)).toInt)))), (0, (.ref p)), (1, (.int (iI (((dy : Nat) : Int)))))]) [0, 1, 2, 3] rfl ?_
        exact ih_Le (4 - (i + 1)) (by omega) (i + 1) (by omega) (by omega) _ (fun j hj => by
          rw [lB_or, Bool.or_eq_true, hV j hj]
          constructor
          · rintro (⟨q, hq, h⟩ | h)
            · exact ⟨q, by omega, h⟩
            · exact ⟨i, by omega, h⟩
          · rintro ⟨q, hq, h⟩
            rcases Nat.lt_succ_iff_lt_or_eq.mp hq with w | w
            · exact Or.inl ⟨q, w, h⟩
            · subst w; exact Or.inr h)
  refine r_lconst (pc := 0) (x := 0) dX9_isEmpty_0 (by decide) ?_
  refine r_lstore_n (pc := 1) (L2 := [(2, (.long (lI (0)))), (0, (.ref p)), (1, (.int (iI (((dy : Nat) : Int)))))]) dX9_isEmpty_1 rfl (by decide) rfl ?_
  refine r_iconst (pc := 2) dX9_isEmpty_2 ?_
  refine r_istore (pc := 3) (L2 := [(4, (.int (iI (0)))), (2, (.long (lI (0)))), (0, (.ref p)), (1, (.int (iI (((dy : Nat) : Int)))))]) dX9_isEmpty_3 (by decide) rfl ?_
  refine r_sub (L2 := [(4, (.int (iI (((0 : Nat) : Int))))), (2, (.long (lI (0)))), (0, (.ref p)), (1, (.int (iI (((dy : Nat) : Int)))))]) [0, 1, 2, 3] rfl ?_
  exact Le 4 0 (by omega) (by omega) 0 (fun j hj => by rw [lB_0]; constructor; (intro h; exact absurd h (by decide)); (rintro ⟨q, hq, _⟩; exact absurd hq (by omega)))

set_option maxRecDepth 100000 in
set_option maxHeartbeats 4000000 in
theorem x_lowest (l : Launch) (z : Zv) (d : Nat) {g : Gm} {J : Nat → Nat → Int} {f : Fm} {p n : Nat} {dy h : Nat} (hP : YL g p) (hn8 : n ≤ 8) (h11 : f p 11 = ((2 ^ n - 1 : Nat) : Int)) (hdy : dy < 30) (hh : h < 2 ^ n) : PM l z (d + 1) mX9_lowestBehind [.ref p, .int (iI ((h : Nat) : Int)), .int (iI ((dy : Nat) : Int))] (gwJ g J) f 0 0 (rdQ (.int (iI ((lwF n h (fmB J (p + 2) dy) (fmB J (p + 3) (dy + 1)) (2 ^ n) : Nat) : Int))) (gwJ g J) f) := by
  have hp8 := pow8 hn8
  refine PM.of (by decide +kernel) (Nat.le_of_ble_eq_true rfl) ?_
  have Ll : ∀ m s : Nat, m = 2 ^ n - s → s ≤ 2 ^ n → PW l z (d + 1) mX9_lowestBehind 0 0 (rdQ (.int (iI ((lwF n h (fmB J (p + 2) dy) (fmB J (p + 3) (dy + 1)) (2 ^ n) : Nat) : Int))) (gwJ g J) f) 8 [(4, (.int (iI (((s : Nat) : Int))))), (3, (.int (iI (((lwF n h (fmB J (p + 2) dy) (fmB J (p + 3) (dy + 1)) s : Nat) : Int))))), (0, (.ref p)), (1, (.int (iI (((h : Nat) : Int))))), (2, (.int (iI (((dy : Nat) : Int)))))] [] (gwJ g J) f 0 0 := by
    intro m
    induction m using Nat.strongRecOn with
    | _ m ih_Ll =>
      intro s hm hs0
      have hlr := lwF_r (n := n) (h := h) (A := (fmB J (p + 2) dy)) (B := (fmB J (p + 3) (dy + 1))) hn8 s
      refine r_iload (pc := 8) 0 dX9_lowestBehind_8 rfl ?_
      refine r_aload_n (pc := 10) 2 dX9_lowestBehind_10 rfl rfl ?_
      refine r_getIv (pc := 11) (x := ((2 ^ n - 1 : Nat) : Int)) dX9_lowestBehind_11 fl_X9_35 rfl hP.k (h11) ?_
      refine r_icmp_gt (pc := 14) (tgt := 73) dX9_lowestBehind_14 (by decide) (by omega) (by omega) (fun c_14 => ?_) (fun c_14 => ?_)
      · refine r_iload_n (pc := 73) 1 dX9_lowestBehind_73 rfl rfl ?_
        have hse : s = 2 ^ n := by omega
        exact r_iret (pc := 74) dX9_lowestBehind_74 rfl rfl ⟨by rw [hse], rfl, rfl⟩
      · have hs : s < 2 ^ n := by omega
        have hor := Nat.or_lt_two_pow hh hs
        have hnd := ndf_le (2 ^ n - 1) (h ||| s)
        refine r_iload_n (pc := 17) 3 dX9_lowestBehind_17 rfl rfl ?_
        refine r_iload (pc := 18) 0 dX9_lowestBehind_18 rfl ?_
        refine r_ior (pc := 20) (w := ((h ||| s : Nat) : Int)) dX9_lowestBehind_20  (iI_or _ _) ?_
        refine r_istore (pc := 21) (L2 := [(5, (.int (iI (((h ||| s : Nat) : Int))))), (4, (.int (iI (((s : Nat) : Int))))), (3, (.int (iI (((lwF n h (fmB J (p + 2) dy) (fmB J (p + 3) (dy + 1)) s : Nat) : Int))))), (0, (.ref p)), (1, (.int (iI (((h : Nat) : Int))))), (2, (.int (iI (((dy : Nat) : Int)))))]) dX9_lowestBehind_21 (by decide) rfl ?_
        refine r_iload (pc := 23) 0 dX9_lowestBehind_23 rfl ?_
        refine r_iload_n (pc := 25) 2 dX9_lowestBehind_25 rfl rfl ?_
        refine r_icmp_ge (pc := 26) (tgt := 67) dX9_lowestBehind_26 (by decide) (by omega) (by omega) (fun c_26 => ?_) (fun c_26 => ?_)
        · refine r_iincv (pc := 67) (y := ((s + 1 : Nat) : Int)) (L2 := [(4, (.int (iI (((s + 1 : Nat) : Int))))), (5, (.int (iI (((h ||| s : Nat) : Int))))), (3, (.int (iI (((lwF n h (fmB J (p + 2) dy) (fmB J (p + 3) (dy + 1)) s : Nat) : Int))))), (0, (.ref p)), (1, (.int (iI (((h : Nat) : Int))))), (2, (.int (iI (((dy : Nat) : Int)))))]) 1 dX9_lowestBehind_67 rfl (by omega) (by decide) rfl ?_
          refine r_goto (pc := 70) (tgt := 8) dX9_lowestBehind_70 (by decide) ?_
          refine r_sub (L2 := [(4, (.int (iI (((s + 1 : Nat) : Int))))), (3, (.int (iI (((lwF n h (fmB J (p + 2) dy) (fmB J (p + 3) (dy + 1)) (s + 1) : Nat) : Int))))), (0, (.ref p)), (1, (.int (iI (((h : Nat) : Int))))), (2, (.int (iI (((dy : Nat) : Int)))))]) [0, 2, 3, 4, 5] (by rw [lwF, if_neg (fun q => by have := q.1.1; omega)]; rfl) ?_
          exact ih_Ll (2 ^ n - (s + 1)) (by omega) (s + 1) (by omega) (by omega)
        · refine r_aload_n (pc := 29) 3 dX9_lowestBehind_29 rfl rfl ?_
          refine r_getR (pc := 30) (b := (p + 2)) dX9_lowestBehind_30 fl_X9_15 rfl hP.k hP.r1 ?_
          refine r_iload_n (pc := 33) 5 dX9_lowestBehind_33 rfl rfl ?_
          refine r_iload (pc := 34) 1 dX9_lowestBehind_34 rfl ?_
          refine r_callS (pc := 36) (As := [(.ref (p + 2)), (.int (iI (((dy : Nat) : Int)))), (.int (iI (((s : Nat) : Int))))]) (S := []) dX9_lowestBehind_36 cs_X9_79 rfl (Nat.le_of_ble_eq_true rfl) (x_holds (a := p + 2) (N := 120) (dy := dy) (s := s) l z _ hP.a1 (by decide) (by omega) (by omega) (by omega)) (Nat.zero_le _) (Nat.zero_le _) (fun r_36 g_36 f_36 q_36 => ?_)
          obtain ⟨rfl, rfl, rfl⟩ := q_36
          refine r_if_eq (pc := 39) (tgt := 67) dX9_lowestBehind_39 (by decide) (b01_r) (fun c_39 => ?_) (fun c_39 => ?_)
          · replace c_39 := b01_z c_39
            refine r_iincv (pc := 67) (y := ((s + 1 : Nat) : Int)) (L2 := [(4, (.int (iI (((s + 1 : Nat) : Int))))), (5, (.int (iI (((h ||| s : Nat) : Int))))), (3, (.int (iI (((lwF n h (fmB J (p + 2) dy) (fmB J (p + 3) (dy + 1)) s : Nat) : Int))))), (0, (.ref p)), (1, (.int (iI (((h : Nat) : Int))))), (2, (.int (iI (((dy : Nat) : Int)))))]) 1 dX9_lowestBehind_67 rfl (by omega) (by decide) rfl ?_
            refine r_goto (pc := 70) (tgt := 8) dX9_lowestBehind_70 (by decide) ?_
            refine r_sub (L2 := [(4, (.int (iI (((s + 1 : Nat) : Int))))), (3, (.int (iI (((lwF n h (fmB J (p + 2) dy) (fmB J (p + 3) (dy + 1)) (s + 1) : Nat) : Int))))), (0, (.ref p)), (1, (.int (iI (((h : Nat) : Int))))), (2, (.int (iI (((dy : Nat) : Int)))))]) [0, 2, 3, 4, 5] (by rw [lwF, if_neg (fun q => c_39 q.1.2)]; rfl) ?_
            exact ih_Ll (2 ^ n - (s + 1)) (by omega) (s + 1) (by omega) (by omega)
          · replace c_39 := b01_nz c_39
            refine r_aload_n (pc := 42) 3 dX9_lowestBehind_42 rfl rfl ?_
            refine r_getR (pc := 43) (b := (p + 3)) dX9_lowestBehind_43 fl_X9_19 rfl hP.k hP.r2 ?_
            refine r_iload_n (pc := 46) 5 dX9_lowestBehind_46 rfl rfl ?_
            refine r_iconst (pc := 47) dX9_lowestBehind_47 ?_
            refine r_iadd (pc := 48) dX9_lowestBehind_48 ?_
            refine r_eqI (y := ((dy + 1 : Nat) : Int)) (Int.natCast_add _ _ |>.symm) ?_
            refine r_aload_n (pc := 49) 3 dX9_lowestBehind_49 rfl rfl ?_
            refine r_getIv (pc := 50) (x := ((2 ^ n - 1 : Nat) : Int)) dX9_lowestBehind_50 fl_X9_35 rfl hP.k (h11) ?_
            refine r_iload (pc := 53) 0 dX9_lowestBehind_53 rfl ?_
            refine r_iconst (pc := 55) dX9_lowestBehind_55 ?_
            refine r_ixor (pc := 56) (w := -(((h ||| s : Nat) : Int)) - 1) dX9_lowestBehind_56  (iI_not _) ?_
            refine r_iand (pc := 57) (w := ((ndf (2 ^ n - 1) (h ||| s) : Nat) : Int)) dX9_lowestBehind_57  (iI_andn _ _) ?_
            refine r_callS (pc := 58) (As := [(.ref (p + 3)), (.int (iI (((dy + 1 : Nat) : Int)))), (.int (iI (((ndf (2 ^ n - 1) (h ||| s) : Nat) : Int))))]) (S := []) dX9_lowestBehind_58 cs_X9_79 rfl (Nat.le_of_ble_eq_true rfl) (x_holds (a := p + 3) (N := 124) (dy := dy + 1) (s := ndf (2 ^ n - 1) (h ||| s)) l z _ hP.a2 (by decide) (by omega) (by omega) (by omega)) (Nat.zero_le _) (Nat.zero_le _) (fun r_58 g_58 f_58 q_58 => ?_)
            obtain ⟨rfl, rfl, rfl⟩ := q_58
            refine r_if_eq (pc := 61) (tgt := 67) dX9_lowestBehind_61 (by decide) (b01_r) (fun c_61 => ?_) (fun c_61 => ?_)
            · replace c_61 := b01_z c_61
              refine r_iincv (pc := 67) (y := ((s + 1 : Nat) : Int)) (L2 := [(4, (.int (iI (((s + 1 : Nat) : Int))))), (5, (.int (iI (((h ||| s : Nat) : Int))))), (3, (.int (iI (((lwF n h (fmB J (p + 2) dy) (fmB J (p + 3) (dy + 1)) s : Nat) : Int))))), (0, (.ref p)), (1, (.int (iI (((h : Nat) : Int))))), (2, (.int (iI (((dy : Nat) : Int)))))]) 1 dX9_lowestBehind_67 rfl (by omega) (by decide) rfl ?_
              refine r_goto (pc := 70) (tgt := 8) dX9_lowestBehind_70 (by decide) ?_
              refine r_sub (L2 := [(4, (.int (iI (((s + 1 : Nat) : Int))))), (3, (.int (iI (((lwF n h (fmB J (p + 2) dy) (fmB J (p + 3) (dy + 1)) (s + 1) : Nat) : Int))))), (0, (.ref p)), (1, (.int (iI (((h : Nat) : Int))))), (2, (.int (iI (((dy : Nat) : Int)))))]) [0, 2, 3, 4, 5] (by rw [lwF, if_neg (fun q => c_61 q.2)]; rfl) ?_
              exact ih_Ll (2 ^ n - (s + 1)) (by omega) (s + 1) (by omega) (by omega)
            · replace c_61 := b01_nz c_61
              refine r_iload (pc := 64) 0 dX9_lowestBehind_64 rfl ?_
              refine r_istore_n (pc := 66) (L2 := [(3, (.int (iI (((h ||| s : Nat) : Int))))), (5, (.int (iI (((h ||| s : Nat) : Int))))), (4, (.int (iI (((s : Nat) : Int))))), (0, (.ref p)), (1, (.int (iI (((h : Nat) : Int))))), (2, (.int (iI (((dy : Nat) : Int)))))]) dX9_lowestBehind_66 rfl (by decide) rfl ?_
              refine r_iincv (pc := 67) (y := ((s + 1 : Nat) : Int)) (L2 := [(4, (.int (iI (((s + 1 : Nat) : Int))))), (3, (.int (iI (((h ||| s : Nat) : Int))))), (5, (.int (iI (((h ||| s : Nat) : Int))))), (0, (.ref p)), (1, (.int (iI (((h : Nat) : Int))))), (2, (.int (iI (((dy : Nat) : Int)))))]) 2 dX9_lowestBehind_67 rfl (by omega) (by decide) rfl ?_
              refine r_goto (pc := 70) (tgt := 8) dX9_lowestBehind_70 (by decide) ?_
              refine r_sub (L2 := [(4, (.int (iI (((s + 1 : Nat) : Int))))), (3, (.int (iI (((lwF n h (fmB J (p + 2) dy) (fmB J (p + 3) (dy + 1)) (s + 1) : Nat) : Int))))), (0, (.ref p)), (1, (.int (iI (((h : Nat) : Int))))), (2, (.int (iI (((dy : Nat) : Int)))))]) [0, 1, 3, 4, 5] (by rw [lwF, if_pos ⟨⟨by omega, c_39⟩, c_61⟩]; rfl) ?_
              exact ih_Ll (2 ^ n - (s + 1)) (by omega) (s + 1) (by omega) (by omega)
  refine r_aload_n (pc := 0) 0 dX9_lowestBehind_0 rfl rfl ?_
  refine r_getIv (pc := 1) (x := ((2 ^ n - 1 : Nat) : Int)) dX9_lowestBehind_1 fl_X9_35 rfl hP.k (h11) ?_
  refine r_istore_n (pc := 4) (L2 := [(3, (.int (iI (((2 ^ n - 1 : Nat) : Int))))), (0, (.ref p)), (1, (.int (iI (((h : Nat) : Int))))), (2, (.int (iI (((dy : Nat) : Int)))))]) dX9_lowestBehind_4 rfl (by decide) rfl ?_
  refine r_iconst (pc := 5) dX9_lowestBehind_5 ?_
  refine r_istore (pc := 6) (L2 := [(4, (.int (iI (0)))), (3, (.int (iI (((2 ^ n - 1 : Nat) : Int))))), (0, (.ref p)), (1, (.int (iI (((h : Nat) : Int))))), (2, (.int (iI (((dy : Nat) : Int)))))]) dX9_lowestBehind_6 (by decide) rfl ?_
  refine r_sub (L2 := [(4, (.int (iI (((0 : Nat) : Int))))), (3, (.int (iI (((lwF n h (fmB J (p + 2) dy) (fmB J (p + 3) (dy + 1)) 0 : Nat) : Int))))), (0, (.ref p)), (1, (.int (iI (((h : Nat) : Int))))), (2, (.int (iI (((dy : Nat) : Int)))))]) [0, 1, 2, 3, 4] rfl ?_
  exact Ll (2 ^ n) 0 (by omega) (by omega)

set_option maxRecDepth 100000 in
set_option maxHeartbeats 4000000 in
theorem x_lookBack (l : Launch) (z : Zv) (d : Nat) {g : Gm} {J : Nat → Nat → Int} {f : Fm} {p n : Nat} {D : Nat} (hP : YL g p) (hn8 : n ≤ 8) (h10 : f p 10 = ((n : Nat) : Int)) (h11 : f p 11 = ((2 ^ n - 1 : Nat) : Int)) (h8 : f p 8 = ((D : Nat) : Int)) (hD : 0 < D ∧ D ≤ 30) : PM l z (d + 2) mX9_lookBack [.ref p] (gwJ g J) f 0 0 (fun r g' f' => r = none ∧ (∀ b, b ≠ p + 5 → b ≠ p + 6 → f' b = f b) ∧ ∃ J', gwJ g J' = g' ∧ (∀ b k, b ≠ p + 3 → J' b k = J b k) ∧ ∀ d, 1 ≤ d → d ≤ D → ∀ t, t < 256 → fmB J' (p + 3) d t = bkD n (fun d => fmB J (p + 2) d) D d t) := by
  have hp8 := pow8 hn8
  refine PM.of (by decide +kernel) (Nat.le_of_ble_eq_true rfl) ?_
  have Lk : ∀ m e : Nat, m = e → e < D → ∀ f1 : Fm, (∀ b, b ≠ p + 5 → b ≠ p + 6 → f1 b = f b) → (∀ s, s < 2 ^ n → f1 (p + 5) s = fI (bkF n (fun d => fmB J (p + 2) d) D (D - (e + 1))) s) → ∀ J1 : Nat → Nat → Int, (∀ b k, b ≠ p + 3 → J1 b k = J b k) → (∀ d, e < d → d ≤ D → ∀ t, t < 256 → fmB J1 (p + 3) d t = bkD n (fun d => fmB J (p + 2) d) D d t) → PW l z (d + 2) mX9_lookBack 0 0 (fun r g' f' => r = none ∧ (∀ b, b ≠ p + 5 → b ≠ p + 6 → f' b = f b) ∧ ∃ J', gwJ g J' = g' ∧ (∀ b k, b ≠ p + 3 → J' b k = J b k) ∧ ∀ d, 1 ≤ d → d ≤ D → ∀ t, t < 256 → fmB J' (p + 3) d t = bkD n (fun d => fmB J (p + 2) d) D d t) 19 [(1, (.int (iI (((e : Nat) : Int))))), (0, (.ref p))] [] (gwJ g J1) f1 0 0 := by
    intro m
    induction m using Nat.strongRecOn with
    | _ m ih_Lk =>
      intro e hm he0 f1 hF1 hU J1 hJ1 hB
      refine r_iload_n (pc := 19) 0 dX9_lookBack_19 rfl rfl ?_
      refine r_if_le (pc := 20) (tgt := 43) dX9_lookBack_20 (by decide) (by omega) (fun c_20 => ?_) (fun c_20 => ?_)
      · have he0 : e = 0 := by omega
        subst he0
        exact r_vret (pc := 43) dX9_lookBack_43 rfl ⟨rfl, hF1, J1, rfl, hJ1, fun d hd hd2 t ht => hB d (by omega) hd2 t ht⟩
      · obtain ⟨e, rfl⟩ : ∃ w, e = w + 1 := ⟨e - 1, by omega⟩
        refine r_aload_n (pc := 23) 1 dX9_lookBack_23 rfl rfl ?_
        refine r_iload_n (pc := 24) 0 dX9_lookBack_24 rfl rfl ?_
        refine r_callV (pc := 25) (As := [(.int (iI (((e + 1 : Nat) : Int))))]) (S := []) dX9_lookBack_25 cv_X9_61 hP.k rfl (Nat.le_of_ble_eq_true rfl) (x_unite (dy := e + 1) (n := n) (U := (bkF n (fun d => fmB J (p + 2) d) D (D - (e + 2)))) (J := J1) l z _ hP hn8 (by rw [hF1 p (by omega) (by omega)]; exact h10) (by rw [hF1 p (by omega) (by omega)]; exact h11) (by omega) hU) (Nat.zero_le _) (Nat.zero_le _) (fun r_25 g_25 f_25 q_25 => ?_)
        obtain ⟨rfl, rfl, hun1, hun2⟩ := q_25
        have hVe : unB n (bkF n (fun d => fmB J (p + 2) d) D (D - (e + 2))) (fmB J1 (p + 2) (e + 1)) = unB n (bkF n (fun d => fmB J (p + 2) d) D (D - (e + 2))) (fmB J (p + 2) (e + 1)) := unB_c (fun t ht => by unfold fmB; rw [hJ1 _ _ (by omega)])
        refine r_aload_n (pc := 28) 1 dX9_lookBack_28 rfl rfl ?_
        refine r_callV (pc := 29) (As := []) (S := []) dX9_lookBack_29 cv_X9_104 hP.k rfl (Nat.le_of_ble_eq_true rfl) (x_addParts (g := gwJ g J1) (n := n) l z _ hP hn8 (by rw [hun1 p (by omega) (by omega), hF1 p (by omega) (by omega)]; exact h10) (by rw [hun1 p (by omega) (by omega), hF1 p (by omega) (by omega)]; exact h11) hun2) (Nat.zero_le _) (Nat.zero_le _) (fun r_29 g_29 f_29 q_29 => ?_)
        obtain ⟨rfl, rfl, hap1, hap2⟩ := q_29
        refine r_aload_n (pc := 32) 1 dX9_lookBack_32 rfl rfl ?_
        refine r_iload_n (pc := 33) 0 dX9_lookBack_33 rfl rfl ?_
        refine r_callV (pc := 34) (As := [(.int (iI (((e + 1 : Nat) : Int))))]) (S := []) dX9_lookBack_34 cv_X9_101 hP.k rfl (Nat.le_of_ble_eq_true rfl) (x_keepU (dy := e + 1) (n := n) (U := (bkF n (fun d => fmB J (p + 2) d) D (D - (e + 1)))) l z _ hP hn8 (by rw [hap1 p (by omega), hun1 p (by omega) (by omega), hF1 p (by omega) (by omega)]; exact h11) (by omega) (fun s hs => by rw [hap2 s hs, show D - (e + 1) = (D - (e + 1) - 1) + 1 by omega]; show _ = fI (dC (unB n (bkF n (fun d => fmB J (p + 2) d) D (D - (e + 1) - 1)) (fmB J (p + 2) (D - (D - (e + 1) - 1 + 1)))) n) s; rw [show D - (D - (e + 1) - 1 + 1) = e + 1 by omega, show D - (e + 1) - 1 = D - (e + 2) by omega, ← hVe])) (Nat.zero_le _) (Nat.zero_le _) (fun r_34 g_34 f_34 q_34 => ?_)
        obtain ⟨rfl, rfl, J3, rfl, hk1, hk2⟩ := q_34
        refine r_iinc (pc := 37) (L2 := [(1, (.int (iI (((e + 1 : Nat) : Int) + (-1))))), (0, (.ref p))]) 0 dX9_lookBack_37 rfl (by decide) rfl ?_
        refine r_goto (pc := 40) (tgt := 19) dX9_lookBack_40 (by decide) ?_
        refine r_sub (L2 := [(1, (.int (iI (((e : Nat) : Int))))), (0, (.ref p))]) [0, 1] (by rw [show ((e : Nat) : Int) = ((e + 1 : Nat) : Int) + (-1) by omega]; rfl) ?_
        exact ih_Lk e (by omega) e rfl (by omega) f_29 (fun b h1 h2 => by rw [hap1 b h1, hun1 b h1 h2]; exact hF1 b h1 h2) (fun s hs => by rw [hap2 s hs, show D - (e + 1) = (D - (e + 1) - 1) + 1 by omega]; show _ = fI (dC (unB n (bkF n (fun d => fmB J (p + 2) d) D (D - (e + 1) - 1)) (fmB J (p + 2) (D - (D - (e + 1) - 1 + 1)))) n) s; rw [show D - (D - (e + 1) - 1 + 1) = e + 1 by omega, show D - (e + 1) - 1 = D - (e + 2) by omega, ← hVe]) J3 (fun b k h => by rw [hk1 b k (Or.inl h)]; exact hJ1 b k h) (fun d hd hd2 t ht => by
          by_cases w : d = e + 1
          · subst w; rw [hk2 t ht]; rfl
          · have hfm := hB d (by omega) hd2 t ht
            unfold fmB at hfm ⊢
            rw [hk1 _ _ (by omega)]; exact hfm)
  refine r_aload_n (pc := 0) 0 dX9_lookBack_0 rfl rfl ?_
  refine r_callV (pc := 1) (As := []) (S := []) dX9_lookBack_1 cv_X9_48 hP.k rfl (Nat.le_of_ble_eq_true rfl) (x_startU (g := gwJ g J) l z _ hP) (Nat.zero_le _) (Nat.zero_le _) (fun r_1 g_1 f_1 q_1 => ?_)
  obtain ⟨rfl, rfl, hs1, hs2⟩ := q_1
  refine r_aload_n (pc := 4) 0 dX9_lookBack_4 rfl rfl ?_
  refine r_aload_n (pc := 5) 0 dX9_lookBack_5 rfl rfl ?_
  refine r_getIv (pc := 6) (x := ((D : Nat) : Int)) dX9_lookBack_6 fl_X9_38 rfl hP.k ((congrFun (hs1 p (by omega)) 8).trans h8) ?_
  refine r_callV (pc := 9) (As := [(.int (iI (((D : Nat) : Int))))]) (S := []) dX9_lookBack_9 cv_X9_101 hP.k rfl (Nat.le_of_ble_eq_true rfl) (x_keepU (dy := D) (n := n) (U := (bkF n (fun d => fmB J (p + 2) d) D 0)) l z _ hP hn8 (by rw [hs1 p (by omega)]; exact h11) (by omega) (fun s hs => hs2 s (by omega))) (Nat.zero_le _) (Nat.zero_le _) (fun r_9 g_9 f_9 q_9 => ?_)
  obtain ⟨rfl, rfl, J2, rfl, hj1, hj2⟩ := q_9
  refine r_aload_n (pc := 12) 0 dX9_lookBack_12 rfl rfl ?_
  refine r_getIv (pc := 13) (x := ((D : Nat) : Int)) dX9_lookBack_13 fl_X9_38 rfl hP.k ((congrFun (hs1 p (by omega)) 8).trans h8) ?_
  refine r_iconst (pc := 16) dX9_lookBack_16 ?_
  refine r_isub (pc := 17) dX9_lookBack_17 ?_
  refine r_istore_n (pc := 18) (L2 := [(1, (.int (iI ((((D : Nat) : Int)) - (1))))), (0, (.ref p))]) dX9_lookBack_18 rfl (by decide) rfl ?_
  refine r_sub (L2 := [(1, (.int (iI (((D - 1 : Nat) : Int))))), (0, (.ref p))]) [0, 1] (by rw [show ((D - 1 : Nat) : Int) = ((D : Nat) : Int) - 1 by omega]; rfl) ?_
  exact Lk (D - 1) (D - 1) rfl (by omega) f_1 (fun b h1 h2 => hs1 b h1) (fun s hs => by rw [show D - (D - 1 + 1) = 0 by omega]; exact hs2 s (by omega)) J2 (fun b k h => hj1 b k (Or.inl h)) (fun d hd hd2 t ht => by rw [show d = D by omega, hj2 t ht]; unfold bkD; rw [Nat.sub_self])

/-- a Day that is laid out -/
def DYo (f : Fm) (y n a2 : Nat) (wa wt : Nat → Nat) (dz lp : Int) (b0 b1 : Nat) : Prop := DW f y n wa wt ∧ f y 12 = ((a2 : Nat) : Int) ∧ a2 < 2 ^ n ∧ (∀ t, t < 2 ^ n → f (y + 7) t = ((nxM wt n t : Nat) : Int) ∧ f (y + 8) t = ((lvN wa t n : Nat) : Int)) ∧ ∀ t, t < 2 ^ n → f (y + 9) t = blM dz lp b0 wa n (m1K n a2) t ∧ f (y + 10) t = blM dz lp b1 wa n a2 t
theorem DYo.mem {f f' : Fm} {y n a2 : Nat} {wa wt : Nat → Nat} {dz lp : Int} {b0 b1 : Nat} (h : DYo f y n a2 wa wt dz lp b0 b1) (hf : ∀ q, q = y + 4 ∨ q = y + 6 ∨ q = y + 7 ∨ q = y + 8 ∨ q = y + 9 ∨ q = y + 10 → f' q = f q) (h11 : f' y 11 = f y 11) (h12 : f' y 12 = f y 12) : DYo f' y n a2 wa wt dz lp b0 b1 := by
  unfold DYo DW at h ⊢
  rw [hf (y + 4) (by omega), hf (y + 6) (by omega), hf (y + 7) (by omega), hf (y + 8) (by omega), hf (y + 9) (by omega), hf (y + 10) (by omega), h11, h12]
  exact h
def gnV (dz lp : Int) (b0 b1 : Nat) (wa : Nat → Nat) (n a2 s i : Nat) : Int := if a2.testBit i = true then blM dz lp b1 wa n a2 (s ||| 2 ^ i) - blM dz lp b1 wa n a2 s else blM dz lp b0 wa n (m1K n a2) (s ||| 2 ^ i) - blM dz lp b0 wa n (m1K n a2) s
theorem or_lt {n s i : Nat} (hs : s < 2 ^ n) (hi : i < n) : s ||| 2 ^ i < 2 ^ n := Nat.or_lt_two_pow hs (pow_i hi)

set_option maxRecDepth 100000 in
set_option maxHeartbeats 4000000 in
theorem x_gain (l : Launch) (z : Zv) (d : Nat) {g : Gm} {f : Fm} {y n a2 b0 b1 s i : Nat} {wa wt : Nat → Nat} {dz lp : Int} (hY : DL g y) (hL : DYo f y n a2 wa wt dz lp b0 b1) (hs : s < 2 ^ n) (hi : i < n) : PM l z d mX2_gain [.ref y, .int (iI ((i : Nat) : Int)), .int (iI ((s : Nat) : Int))] g f 0 0 (rdQ (.int (iI (gnV dz lp b0 b1 wa n a2 s i))) g f) := by
  refine PM.of (by decide +kernel) (Nat.le_of_ble_eq_true rfl) ?_
  have hn8 := hL.1.1
  have hp8 := pow8 hn8
  have hor := or_lt hs hi
  have ha2 := hL.2.2.1
  refine r_iload_n (pc := 0) 2 dX2_gain_0 rfl rfl ?_
  refine r_iconst (pc := 1) dX2_gain_1 ?_
  refine r_iload_n (pc := 2) 1 dX2_gain_2 rfl rfl ?_
  refine r_ishl (pc := 3) (w := ((2 ^ i : Nat) : Int)) dX2_gain_3  (iI_shl1 (by omega)) ?_
  refine r_ior (pc := 4) (w := ((s ||| (2 ^ i) : Nat) : Int)) dX2_gain_4  (iI_or _ _) ?_
  refine r_istore_n (pc := 5) (L2 := [(3, (.int (iI (((s ||| (2 ^ i) : Nat) : Int))))), (0, (.ref y)), (1, (.int (iI (((i : Nat) : Int))))), (2, (.int (iI (((s : Nat) : Int)))))]) dX2_gain_5 rfl (by decide) rfl ?_
  refine r_aload_n (pc := 6) 1 dX2_gain_6 rfl rfl ?_
  refine r_getIv (pc := 7) (x := ((a2 : Nat) : Int)) dX2_gain_7 fl_X2_57 rfl hY.k (hL.2.1) ?_
  refine r_iload_n (pc := 10) 2 dX2_gain_10 rfl rfl ?_
  refine r_ishr (pc := 11) (w := ((a2 / 2 ^ i : Nat) : Int)) dX2_gain_11  (iI_shr (by omega) (by omega)) ?_
  refine r_iconst (pc := 12) dX2_gain_12 ?_
  refine r_iand (pc := 13) (w := (((a2 / 2 ^ i) &&& 1 : Nat) : Int)) dX2_gain_13  (iI_and _ _) ?_
  refine r_eqI (y := b01 (a2.testBit i = true)) (bitI a2 i) ?_
  refine r_if_ne (pc := 14) (tgt := 33) dX2_gain_14 (by decide) (b01_r) (fun c_14 => ?_) (fun c_14 => ?_)
  · replace c_14 := b01_nz c_14
    refine r_aload_n (pc := 33) 1 dX2_gain_33 rfl rfl ?_
    refine r_getR (pc := 34) (b := (y + 10)) dX2_gain_34 fl_X2_37 rfl hY.k hY.r7 ?_
    refine r_iload_n (pc := 37) 0 dX2_gain_37 rfl rfl ?_
    refine r_ialdv (pc := 38) (w := blM dz lp b1 wa n a2 (s ||| (2 ^ i))) dX2_gain_38 hY.a7 (by omega) (by decide) ((hL.2.2.2.2 _ hor).2) ?_
    refine r_aload_n (pc := 39) 1 dX2_gain_39 rfl rfl ?_
    refine r_getR (pc := 40) (b := (y + 10)) dX2_gain_40 fl_X2_37 rfl hY.k hY.r7 ?_
    refine r_iload_n (pc := 43) 3 dX2_gain_43 rfl rfl ?_
    refine r_ialdv (pc := 44) (w := blM dz lp b1 wa n a2 s) dX2_gain_44 hY.a7 (by omega) (by decide) ((hL.2.2.2.2 _ hs).2) ?_
    refine r_isub (pc := 45) dX2_gain_45 ?_
    exact r_iret (pc := 46) dX2_gain_46 rfl rfl ⟨by unfold gnV; rw [if_pos c_14], rfl, rfl⟩
  · replace c_14 := b01_z c_14
    refine r_aload_n (pc := 17) 1 dX2_gain_17 rfl rfl ?_
    refine r_getR (pc := 18) (b := (y + 9)) dX2_gain_18 fl_X2_34 rfl hY.k hY.r6 ?_
    refine r_iload_n (pc := 21) 0 dX2_gain_21 rfl rfl ?_
    refine r_ialdv (pc := 22) (w := blM dz lp b0 wa n (m1K n a2) (s ||| (2 ^ i))) dX2_gain_22 hY.a6 (by omega) (by decide) ((hL.2.2.2.2 _ hor).1) ?_
    refine r_aload_n (pc := 23) 1 dX2_gain_23 rfl rfl ?_
    refine r_getR (pc := 24) (b := (y + 9)) dX2_gain_24 fl_X2_34 rfl hY.k hY.r6 ?_
    refine r_iload_n (pc := 27) 3 dX2_gain_27 rfl rfl ?_
    refine r_ialdv (pc := 28) (w := blM dz lp b0 wa n (m1K n a2) s) dX2_gain_28 hY.a6 (by omega) (by decide) ((hL.2.2.2.2 _ hs).1) ?_
    refine r_isub (pc := 29) dX2_gain_29 ?_
    refine r_goto (pc := 30) (tgt := 46) dX2_gain_30 (by decide) ?_
    exact r_iret (pc := 46) dX2_gain_46 rfl rfl ⟨by unfold gnV; rw [if_neg c_14], rfl, rfl⟩

set_option maxRecDepth 100000 in
set_option maxHeartbeats 4000000 in
theorem x_layOut0 (l : Launch) (z : Zv) (d : Nat) {g : Gm} {f : Fm} {y b n : Nat} {K : Nat → Int} {D0 M0 : Int} (hY : DL g y) (hB : BL g b) (hK : BK g f b K) (hO : KO K D0 M0) (hD0 : D0 ≤ 1000000) (hn : K 77 = ((n : Nat) : Int)) (hby : b + 10 ≤ y) (hy : y + 12 ≤ 195) (hM0 : M0 ≤ 1100000) (h9 : f y 9 = 0) (h10 : f y 10 = 0) : PM l z (d + 5) mX2_layOut [.ref y, .ref b] g f 0 0 (fun r g' f' => r = none ∧ g = g' ∧ (∀ q, q ≠ y → q ≠ y + 2 → q ≠ y + 3 → q ≠ y + 4 → q ≠ y + 5 → q ≠ y + 6 → q ≠ y + 7 → q ≠ y + 8 → q ≠ y + 9 → q ≠ y + 10 → f' q = f q) ∧ DYo f' y n (wmk (fun c => decide (ovK K c ≠ 0)) n) (waK K (K 42) (hdK K)) (wtK K (K 42) (hdK K) n) (K 40) (K 41) (bkK K 0) (bkK K 1) ∧ (∀ c, c < n → f' (y + 5) c = ((swN (ovK K) (waK K (K 42) (hdK K)) (ovK K c) c : Nat) : Int)) ∧ f' y 9 = 1 ∧ f' y 10 = 1) := by
  have hn8 : n ≤ 8 := by have := hO.n; omega
  have hbb : K 43 = ((bkK K 0 : Nat) : Int) ∧ K 44 = ((bkK K 1 : Nat) : Int) ∧ bkK K 0 ≤ 1100000 ∧ bkK K 1 ≤ 1100000 := by
    have h1 := hO.b0
    have h2 := hO.b1
    have e1 : bkK K 0 = (K 43).toNat := rfl
    have e2 : bkK K 1 = (K 44).toNat := rfl
    omega
  refine PM.of (by decide +kernel) (Nat.le_of_ble_eq_true rfl) ?_
  refine r_aload_n (pc := 0) 0 dX2_layOut_0 rfl rfl ?_
  refine r_getIv (pc := 1) (x := 0) dX2_layOut_1 fl_X2_47 rfl hY.k (h10) ?_
  refine r_if_eq (pc := 4) (tgt := 8) dX2_layOut_4 (by decide) (by omega) (fun c_4 => ?_) (fun c_4 => ?_)
  · refine r_aload_n (pc := 8) 0 dX2_layOut_8 rfl rfl ?_
    refine r_aload_n (pc := 9) 1 dX2_layOut_9 rfl rfl ?_
    refine r_callV (pc := 10) (As := [(.ref b)]) (S := []) dX2_layOut_10 cv_X2_72 hY.k rfl (Nat.le_of_ble_eq_true rfl) (x_learnWants l z _ hY hB hK hO hD0 hn hby hy h9) (Nat.zero_le _) (Nat.zero_le _) (fun r_10 g_10 f_10 q_10 => ?_)
    obtain ⟨rfl, rfl, hI1, hq9⟩ := q_10
    have hK1 : BK g f_10 b K := hK.mem (fun q hq => hI1.1 q (by omega) (by omega) (by omega) (by omega) (by omega))
    refine r_aload_n (pc := 13) 0 dX2_layOut_13 rfl rfl ?_
    refine r_aload_n (pc := 14) 1 dX2_layOut_14 rfl rfl ?_
    refine r_callV (pc := 15) (As := [(.ref b)]) (S := []) dX2_layOut_15 cv_X2_76 hY.k rfl (Nat.le_of_ble_eq_true rfl) (x_learnWaits l z _ hY hB hK1 hO hD0 hn hby hy) (Nat.zero_le _) (Nat.zero_le _) (fun r_15 g_15 f_15 q_15 => ?_)
    obtain ⟨rfl, rfl, hI2⟩ := q_15
    have hW : DW f_15 y n (waK K (K 42) (hdK K)) (wtK K (K 42) (hdK K) n) := ⟨hn8, by rw [hI2.1 y (by omega) (by omega) (by omega)]; exact hI1.2.2.1, fun c hc => ⟨by rw [hI2.1 (y + 4) (by omega) (by omega) (by omega)]; exact (hI1.2.2.2.2 c hc).1, waK_r hO (by omega)⟩, fun c hc => ⟨hI2.2 c hc, wmk_8 _ hn8⟩⟩
    refine r_aload_n (pc := 18) 0 dX2_layOut_18 rfl rfl ?_
    refine r_callV (pc := 19) (As := []) (S := []) dX2_layOut_19 cv_X2_79 hY.k rfl (Nat.le_of_ble_eq_true rfl) (x_layOutSets l z _ hY hW) (Nat.zero_le _) (Nat.zero_le _) (fun r_19 g_19 f_19 q_19 => ?_)
    obtain ⟨rfl, rfl, hI3⟩ := q_19
    refine r_aload_n (pc := 22) 0 dX2_layOut_22 rfl rfl ?_
    refine r_aload_n (pc := 23) 1 dX2_layOut_23 rfl rfl ?_
    refine r_callV (pc := 24) (As := [(.ref b)]) (S := []) dX2_layOut_24 cv_X2_82 hY.k rfl (Nat.le_of_ble_eq_true rfl) (x_layOutLoaves (a2 := (wmk (fun c => decide (ovK K c ≠ 0)) n)) (wa := (waK K (K 42) (hdK K))) (dz := K 40) (lp := K 41) (b0 := bkK K 0) (b1 := bkK K 1) l z _ hY hB hby hn8 (by rw [hI3.1 y (by omega) (by omega)]; exact hW.2.1) (by rw [hI3.1 y (by omega) (by omega), hI2.1 y (by omega) (by omega) (by omega)]; exact hI1.2.2.2.1) (fun c hc => waK_r hO (by omega)) (fun s hs => (hI3.2 s hs).2) (by rw [hI3.1 (b + 2) (by omega) (by omega), hI2.1 (b + 2) (by omega) (by omega) (by omega)]; exact hK1.te (t := 0) (by decide)) (by rw [hI3.1 (b + 2) (by omega) (by omega), hI2.1 (b + 2) (by omega) (by omega) (by omega)]; exact hK1.te (t := 1) (by decide)) hO.dz hO.lp ((by rw [hI3.1 (b + 2) (by omega) (by omega), hI2.1 (b + 2) (by omega) (by omega) (by omega)]; exact hK1.te (t := 3) (by decide) : f_19 (b + 2) 3 = K 43).trans hbb.1) ((by rw [hI3.1 (b + 2) (by omega) (by omega), hI2.1 (b + 2) (by omega) (by omega) (by omega)]; exact hK1.te (t := 4) (by decide) : f_19 (b + 2) 4 = K 44).trans hbb.2.1) ⟨hbb.2.2.1, hbb.2.2.2⟩) (Nat.zero_le _) (Nat.zero_le _) (fun r_24 g_24 f_24 q_24 => ?_)
    obtain ⟨rfl, rfl, hI4⟩ := q_24
    refine r_aload_n (pc := 27) 0 dX2_layOut_27 rfl rfl ?_
    refine r_iconst (pc := 28) dX2_layOut_28 ?_
    refine r_putB (pc := 29) dX2_layOut_29 fl_X2_47 rfl rfl (by omega) hY.k ?_
    have hdy : DYo f_24 y n (wmk (fun c => decide (ovK K c ≠ 0)) n) (waK K (K 42) (hdK K)) (wtK K (K 42) (hdK K) n) (K 40) (K 41) (bkK K 0) (bkK K 1) := ⟨⟨hn8, by rw [hI4.1 y (by omega) (by omega), hI3.1 y (by omega) (by omega)]; exact hW.2.1, fun c hc => by rw [hI4.1 (y + 4) (by omega) (by omega), hI3.1 (y + 4) (by omega) (by omega)]; exact hW.2.2.1 c hc, fun c hc => by rw [hI4.1 (y + 6) (by omega) (by omega), hI3.1 (y + 6) (by omega) (by omega)]; exact hW.2.2.2 c hc⟩, by rw [hI4.1 y (by omega) (by omega), hI3.1 y (by omega) (by omega), hI2.1 y (by omega) (by omega) (by omega)]; exact hI1.2.2.2.1, wmk_lt _ n, fun t ht => by rw [hI4.1 (y + 7) (by omega) (by omega), hI4.1 (y + 8) (by omega) (by omega)]; exact hI3.2 t ht, hI4.2⟩
    exact r_vret (pc := 32) dX2_layOut_32 rfl ⟨rfl, rfl, fun q h0 h2 h3 h4 h5 h6 h7 h8 h9 h10 => by rw [stF_n _ _ _ h0, hI4.1 q h9 h10, hI3.1 q h7 h8, hI2.1 q h2 h3 h6]; exact hI1.1 q h0 h2 h3 h4 h5, DYo.mem (f := f_24) hdy (fun q hq => stF_n _ _ _ (by omega)) (stF_i _ _ _ (by decide)) (stF_i _ _ _ (by decide)), fun c hc => rdn (by omega) (by rw [hI4.1 (y + 5) (by omega) (by omega), hI3.1 (y + 5) (by omega) (by omega), hI2.1 (y + 5) (by omega) (by omega) (by omega)]; exact (hI1.2.2.2.2 c hc).2), rdi (by decide) (by rw [hI4.1 y (by omega) (by omega), hI3.1 y (by omega) (by omega), hI2.1 y (by omega) (by omega) (by omega)]; exact hq9), stF_s _ _ _ _⟩
  · exact absurd c_4 (by decide)

/-- a Day whose sets are laid out -/
def PDs (f : Fm) (y : Nat) (K : Nat → Int) (n : Nat) : Prop := DW f y n (waK K (K 42) (hdK K)) (wtK K (K 42) (hdK K) n) ∧ f y 12 = (((wmk (fun c => decide (ovK K c ≠ 0)) n) : Nat) : Int) ∧ ∀ t, t < 2 ^ n → f (y + 7) t = ((nxM (wtK K (K 42) (hdK K) n) n t : Nat) : Int) ∧ f (y + 8) t = ((lvN (waK K (K 42) (hdK K)) t n : Nat) : Int)
theorem DYo.pds {f : Fm} {y n : Nat} {K : Nat → Int} (h : DYK f y K n) : PDs f y K n := ⟨h.1, h.2.1, h.2.2.2.1⟩
theorem PDs.mv {f f1 : Fm} {y n : Nat} {K : Nat → Int} (h : PDs f y K n) (hf : ∀ q, y ≤ q → q ≤ y + 10 → f1 q = f q) : PDs f1 y K n := by
  unfold PDs DW at h ⊢
  rw [hf y (by omega) (by omega), hf (y + 4) (by omega) (by omega), hf (y + 6) (by omega) (by omega), hf (y + 7) (by omega) (by omega), hf (y + 8) (by omega) (by omega)]
  exact h
theorem lvN_c {wa wb : Nat → Nat} {s : Nat} : ∀ n, (∀ c, c < n → wa c = wb c) → lvN wa s n = lvN wb s n
  | 0, _ => rfl
  | n + 1, h => by rw [lvN_s, lvN_s, lvN_c n (fun c hc => h c (by omega)), h n (by omega)]
theorem nxM_c {wt wu : Nat → Nat} {n s : Nat} (h : ∀ c, c < n → wt c = wu c) : nxM wt n s = nxM wu n s := by
  unfold nxM
  apply wmk_c
  intro i hi
  unfold nxP
  rw [h i hi]
theorem nDy_nx {K : Nat → Int} {D M : Int} {n : Nat} (hO : KO K D M) : nDy (nxK K n) ↔ nDy K := by
  unfold nDy
  rw [nxK_o K n (show 81 < 42 ∨ 44 < 81 by omega)]
  by_cases q : K 81 = -1
  · exact ⟨fun _ => Or.inl q, fun _ => Or.inl q⟩
  · have h := (lwE_o hO (fun j hj => nxK_o K n hj)).2.2 q
    rw [(lawK_e h.1 h.2.1 h.2.2).1]
theorem wa_nx {K : Nat → Int} {D M : Int} {n c : Nat} (hO : KO K D M) (hd : nDy K) (hc : c < 8) : waK (nxK K n) (nxK K n 42) (hdK (nxK K n)) c = (waK K (K 42) (hdK K)) c := by
  unfold waK hdK
  rw [nxK_o K n (show 5 * c + 3 < 42 ∨ 44 < 5 * c + 3 by omega), wantK_e (lwE_o hO (fun j hj => nxK_o K n hj)) _ _ hc, wantK_dy hd _ (K 42)]
theorem wt_nx {K : Nat → Int} {D M : Int} {n c : Nat} (hO : KO K D M) (hn : n ≤ 8) (hd : nDy K) (hc : c < 8) : wtK (nxK K n) (nxK K n 42) (hdK (nxK K n)) n c = (wtK K (K 42) (hdK K) n) c := by
  rw [wtK_e (lwE_o hO (fun j hj => nxK_o K n hj)) _ _ hn hc, wtK_dy hd _ (K 42)]
  unfold wtK
  apply wmk_c
  intro i hi
  unfold hdK
  rw [nxK_o K n (show 5 * c + 3 < 42 ∨ 44 < 5 * c + 3 by omega)]
theorem ov_nx {K : Nat → Int} {n c : Nat} (hc : c < 8) : ovK (nxK K n) c = ovK K c := by
  unfold ovK
  rw [nxK_o K n (by omega)]
theorem a2_nx {K : Nat → Int} {n : Nat} (hn : n ≤ 8) : wmk (fun c => decide (ovK (nxK K n) c ≠ 0)) n = (wmk (fun c => decide (ovK K c ≠ 0)) n) := wmk_c n (fun i hi => by rw [ov_nx (by omega)])
theorem PDs.nx {f : Fm} {y n : Nat} {K : Nat → Int} {D M : Int} (h : PDs f y K n) (hO : KO K D M) (hn : n ≤ 8) (hd : nDy K) : PDs f y (nxK K n) n := by
  obtain ⟨⟨d1, d2, d3, d4⟩, d5, d6⟩ := h
  have ea : ∀ c, c < n → waK (nxK K n) (nxK K n 42) (hdK (nxK K n)) c = (waK K (K 42) (hdK K)) c := fun c hc => wa_nx hO hd (by omega)
  have et : ∀ c, c < n → wtK (nxK K n) (nxK K n 42) (hdK (nxK K n)) n c = (wtK K (K 42) (hdK K) n) c := fun c hc => wt_nx hO hn hd (by omega)
  refine ⟨⟨d1, d2, fun c hc => by rw [ea c hc]; exact d3 c hc, fun c hc => by rw [et c hc]; exact d4 c hc⟩, by rw [a2_nx hn]; exact d5, fun t ht => ?_⟩
  rw [nxM_c et, lvN_c n ea]
  exact d6 t ht
theorem dyL_01 : ∀ (cls : List Cl) (dy : Int), dy = 0 ∨ dy = 1 → dyL dy cls = 0 ∨ dyL dy cls = 1
  | [], _, h => h
  | c :: cls, dy, h => dyL_01 cls (dyC dy c) (by unfold dyC dyO; split; exact Or.inr rfl; split; exact Or.inr rfl; exact h)
theorem lv_sw {ov wa : Nat → Nat} {o m n : Nat} (hm : ∀ k, k < n → m.testBit k = decide (ov k = o)) : ∀ j, j ≤ n → lvN wa m j = swN ov wa o j
  | 0, _ => rfl
  | j + 1, h => by
    rw [lvN_s, swN_s, lv_sw hm j (by omega), hm j (by omega)]
    by_cases e : ov j = o
    · rw [if_pos (decide_eq_true e), if_pos e]
    · rw [if_neg (by simp [e]), if_neg e]
theorem BK.nx {g : Gm} {f f' : Fm} {b n : Nat} {K : Nat → Int} {D M : Int} (h : BK g f b K) (hO : KO K D M) (hb : b + 10 ≤ 195) (hf : ∀ q, q ≠ b + 2 → f' q = f q) (h0 : f' (b + 2) 0 = f (b + 2) 0) (h1 : f' (b + 2) 1 = f (b + 2) 1) (h2 : f' (b + 2) 2 = nxK K n 42) (h3 : f' (b + 2) 3 = nxK K n 43) (h4 : f' (b + 2) 4 = nxK K n 44) : BK g f' b (nxK K n) := by
  have e : ∀ j, j < 42 ∨ 44 < j → nxK K n j = K j := fun j h => nxK_o K n h
  refine ⟨by rw [hf b (by omega), e _ (by omega)]; exact h.n, by rw [hf b (by omega), e _ (by omega)]; exact h.nl, by rw [hf b (by omega), e _ (by omega)]; exact h.fo, fun w c hw hc => by rw [hf _ (by omega), e _ (by omega)]; exact h.tr hw hc, fun t ht => ?_, by rw [hf _ (by omega), e _ (by omega)]; exact h.sm, fun i hi => by rw [hf _ (by omega), hf _ (by omega), e _ (by omega), e _ (by omega)]; exact h.si hi, by rw [hf _ (by omega), e _ (by omega)]; exact h.cm, fun i hi => by rw [hf _ (by omega), hf _ (by omega), e _ (by omega), e _ (by omega)]; exact h.ci hi, fun i hi => ?_, h.lk⟩
  · rcases (show t = 0 ∨ t = 1 ∨ t = 2 ∨ t = 3 ∨ t = 4 by omega) with rfl | rfl | rfl | rfl | rfl
    · rw [h0, e _ (by omega)]; exact h.te (by decide)
    · rw [h1, e _ (by omega)]; exact h.te (by decide)
    · exact h2
    · exact h3
    · exact h4
  · rw [e 80 (by omega)] at hi
    obtain ⟨q, a1, a2⟩ := h.lw i hi
    have h80 := hO.nl
    have hw := hO.lw i hi
    rw [(lawK_e (K := K) (K' := nxK K n) (i := i) (e _ (by omega)) (by unfold kT; omega) (fun j hj => ⟨e _ (by omega), e _ (by omega)⟩)).1]
    exact ⟨q, a1, a2.mem (gx.rf g) (fun a h3 h4 => hf a (by omega))⟩
/-- a call that tries things on paper: the paper's rows may change -/
def PpO (g : Gm) (f : Fm) (g' : Gm) (f' : Fm) : Prop := (g' = g ∨ g' = cpR g 68 78 6) ∧ ∀ q, q < 75 ∨ (84 < q ∧ q < 123) ∨ 134 < q → f' q = f q
def nvP (K : Nat → Int) (n c : Nat) : Nat → Int
  | 0 => 1
  | d + 1 => nvP K n c d * ((orK (KD K n d) n ((c : Nat) : Int) 0 : Nat) : Int)
def nvA (K : Nat → Int) (n : Nat) (c m : Int) : Int := if (0 ≤ c ∧ c < (n : Int)) ∧ (1 ≤ m ∧ m ≤ 4) then nvP K n c.toNat m.toNat else -1

set_option maxRecDepth 100000 in
set_option maxHeartbeats 4000000 in
theorem x_layOutPaperDay (l : Launch) (z : Zv) (d : Nat) {g : Gm} {f : Fm} {n : Nat} {K : Nat → Int} {D0 M0 : Int} (hX : XL g) (hB : BK g f 75 K) (hO : KO K D0 M0) (hD0 : D0 ≤ 1000000) (hM0 : M0 ≤ 1100000) (hn : K 77 = ((n : Nat) : Int)) {i : Int} (hi : 0 ≤ i ∧ i ≤ 100) (hp : i ≠ 0 → nDy K → PDs f 123 K n) : PM l z (d + 5) mX10_layOutPaperDay [.ref 64, .int (iI i)] g f 0 0 (fun r g' f' => r = none ∧ g = g' ∧ (∀ q, q < 123 ∨ 133 < q → f' q = f q) ∧ DYK f' 123 K n) := by
  have hn8 : n ≤ 8 := by have := hO.n; omega
  have hbb : K 43 = ((bkK K 0 : Nat) : Int) ∧ K 44 = ((bkK K 1 : Nat) : Int) ∧ bkK K 0 ≤ 1100000 ∧ bkK K 1 ≤ 1100000 := ⟨(bkK_r (o := 0) hO hM0 (by decide)).1, (bkK_r (o := 1) hO hM0 (by decide)).1, (bkK_r (o := 0) hO hM0 (by decide)).2, (bkK_r (o := 1) hO hM0 (by decide)).2⟩
  refine PM.of (by decide +kernel) (Nat.le_of_ble_eq_true rfl) ?_
  refine r_aload_n (pc := 0) 0 dX10_layOutPaperDay_0 rfl rfl ?_
  refine r_getR (pc := 1) (b := 75) dX10_layOutPaperDay_1 fl_X10_16 rfl hX.k hX.r1 ?_
  refine r_callV (pc := 4) (As := []) (S := []) dX10_layOutPaperDay_4 cv_X10_321 hX.o1.k rfl (Nat.le_of_ble_eq_true rfl) (x_inForce l z _ hX.o1 hB hO) (Nat.zero_le _) (Nat.zero_le _) (fun r_4 g_4 f_4 q_4 => ?_)
  obtain ⟨rfl, rfl, hq⟩ := q_4
  rcases hq with ⟨h81, rfl⟩ | ⟨q, h81, rfl, hLw⟩
  · refine r_astore_nN (pc := 7) (L2 := [(2, .null), (0, (.ref 64)), (1, (.int (iI (i))))]) dX10_layOutPaperDay_7 rfl (by decide) rfl ?_
    refine r_iload_n (pc := 8) 2 dX10_layOutPaperDay_8 rfl rfl ?_
    refine r_if_eq (pc := 9) (tgt := 23) dX10_layOutPaperDay_9 (by decide) (by omega) (fun c_9 => ?_) (fun c_9 => ?_)
    · refine r_aload_n (pc := 23) 1 dX10_layOutPaperDay_23 rfl rfl ?_
      refine r_getR (pc := 24) (b := 123) dX10_layOutPaperDay_24 fl_X10_41 rfl hX.k hX.r6 ?_
      refine r_callV (pc := 27) (As := []) (S := []) dX10_layOutPaperDay_27 cv_X10_279 hX.o6.k rfl (Nat.le_of_ble_eq_true rfl) (x_daydrop l z _ hX.o6) (Nat.zero_le _) (Nat.zero_le _) (fun r_27 g_27 f_27 q_27 => ?_)
      obtain ⟨rfl, rfl, rfl⟩ := q_27
      have hBd : BK g (stF (stF f 123 9 0) 123 10 0) 75 K := hB.mem (fun q hq => by rw [stF_n _ _ _ (by omega), stF_n _ _ _ (by omega)])
      refine r_aload_n (pc := 30) 1 dX10_layOutPaperDay_30 rfl rfl ?_
      refine r_getR (pc := 31) (b := 123) dX10_layOutPaperDay_31 fl_X10_41 rfl hX.k hX.r6 ?_
      refine r_aload_n (pc := 34) 1 dX10_layOutPaperDay_34 rfl rfl ?_
      refine r_getR (pc := 35) (b := 75) dX10_layOutPaperDay_35 fl_X10_16 rfl hX.k hX.r1 ?_
      refine r_callV (pc := 38) (As := [(.ref 75)]) (S := []) dX10_layOutPaperDay_38 cv_X10_115 hX.o6.k rfl (Nat.le_of_ble_eq_true rfl) (x_learnWants (y := 123) (b := 75) (K := K) (n := n) l z d hX.o6 hX.o1 hBd hO hD0 hn (by omega) (by omega) (by rw [stF_i _ _ _ (by decide), stF_s])) (Nat.zero_le _) (Nat.zero_le _) (fun r_38 g_38 f_38 q_38 => ?_)
      obtain ⟨rfl, rfl, hI1, hq9⟩ := q_38
      have hK1 : BK g f_38 75 K := hBd.mem (fun q hq => hI1.1 q (by omega) (by omega) (by omega) (by omega) (by omega))
      refine r_aload_n (pc := 41) 1 dX10_layOutPaperDay_41 rfl rfl ?_
      refine r_getR (pc := 42) (b := 123) dX10_layOutPaperDay_42 fl_X10_41 rfl hX.k hX.r6 ?_
      refine r_aload_n (pc := 45) 1 dX10_layOutPaperDay_45 rfl rfl ?_
      refine r_getR (pc := 46) (b := 75) dX10_layOutPaperDay_46 fl_X10_16 rfl hX.k hX.r1 ?_
      refine r_callV (pc := 49) (As := [(.ref 75)]) (S := []) dX10_layOutPaperDay_49 cv_X10_282 hX.o6.k rfl (Nat.le_of_ble_eq_true rfl) (x_learnWaits (y := 123) (b := 75) (K := K) (n := n) l z d hX.o6 hX.o1 hK1 hO hD0 hn (by omega) (by omega)) (Nat.zero_le _) (Nat.zero_le _) (fun r_49 g_49 f_49 q_49 => ?_)
      obtain ⟨rfl, rfl, hI2⟩ := q_49
      have hW : DW f_49 123 n (waK K (K 42) (hdK K)) (wtK K (K 42) (hdK K) n) := ⟨hn8, by rw [hI2.1 123 (by omega) (by omega) (by omega)]; exact hI1.2.2.1, fun c hc => ⟨by rw [hI2.1 (123 + 4) (by omega) (by omega) (by omega)]; exact (hI1.2.2.2.2 c hc).1, waK_r hO (by omega)⟩, fun c hc => ⟨hI2.2 c hc, wmk_8 _ hn8⟩⟩
      refine r_aload_n (pc := 52) 1 dX10_layOutPaperDay_52 rfl rfl ?_
      refine r_getR (pc := 53) (b := 123) dX10_layOutPaperDay_53 fl_X10_41 rfl hX.k hX.r6 ?_
      refine r_callV (pc := 56) (As := []) (S := []) dX10_layOutPaperDay_56 cv_X10_329 hX.o6.k rfl (Nat.le_of_ble_eq_true rfl) (x_layOutSets l z (d + 3) hX.o6 hW) (Nat.zero_le _) (Nat.zero_le _) (fun r_56 g_56 f_56 q_56 => ?_)
      obtain ⟨rfl, rfl, hI3⟩ := q_56
      have hPD : PDs f_56 123 K n := ⟨⟨hn8, by rw [hI3.1 123 (by omega) (by omega)]; exact hW.2.1, fun c hc => by rw [hI3.1 (123 + 4) (by omega) (by omega)]; exact hW.2.2.1 c hc, fun c hc => by rw [hI3.1 (123 + 6) (by omega) (by omega)]; exact hW.2.2.2 c hc⟩, by rw [hI3.1 123 (by omega) (by omega), hI2.1 123 (by omega) (by omega) (by omega)]; exact hI1.2.2.2.1, hI3.2⟩
      have hfr : ∀ q, q < 123 ∨ 133 < q → f_56 q = f q := fun q hq => by rw [hI3.1 q (by omega) (by omega), hI2.1 q (by omega) (by omega) (by omega), hI1.1 q (by omega) (by omega) (by omega) (by omega) (by omega), stF_n _ _ _ (by omega), stF_n _ _ _ (by omega)]
      refine r_aload_n (pc := 59) 1 dX10_layOutPaperDay_59 rfl rfl ?_
      refine r_getR (pc := 60) (b := 123) dX10_layOutPaperDay_60 fl_X10_41 rfl hX.k hX.r6 ?_
      refine r_aload_n (pc := 63) 1 dX10_layOutPaperDay_63 rfl rfl ?_
      refine r_getR (pc := 64) (b := 75) dX10_layOutPaperDay_64 fl_X10_16 rfl hX.k hX.r1 ?_
      refine r_callV (pc := 67) (As := [(.ref 75)]) (S := []) dX10_layOutPaperDay_67 cv_X10_332 hX.o6.k rfl (Nat.le_of_ble_eq_true rfl) (x_layOutLoaves (y := 123) (b := 75) (a2 := (wmk (fun c => decide (ovK K c ≠ 0)) n)) (wa := (waK K (K 42) (hdK K))) (dz := K 40) (lp := K 41) (b0 := bkK K 0) (b1 := bkK K 1) l z (d + 1) hX.o6 hX.o1 (by omega) hn8 hPD.1.2.1 hPD.2.1 (fun c hc => waK_r hO (by omega)) (fun s hs => (hPD.2.2 s hs).2) (by rw [hfr 77 (by omega)]; exact hB.te (t := 0) (by decide)) (by rw [hfr 77 (by omega)]; exact hB.te (t := 1) (by decide)) hO.dz hO.lp ((by rw [hfr 77 (by omega)]; exact hB.te (t := 3) (by decide) : f_56 77 3 = K 43).trans hbb.1) ((by rw [hfr 77 (by omega)]; exact hB.te (t := 4) (by decide) : f_56 77 4 = K 44).trans hbb.2.1) ⟨hbb.2.2.1, hbb.2.2.2⟩) (Nat.zero_le _) (Nat.zero_le _) (fun r_67 g_67 f_67 q_67 => ?_)
      obtain ⟨rfl, rfl, hI4⟩ := q_67
      exact r_vret (pc := 70) dX10_layOutPaperDay_70 rfl ⟨rfl, rfl, fun q hq => (hI4.1 q (by omega) (by omega)).trans (hfr q hq), ⟨by unfold DW; rw [hI4.1 123 (by omega) (by omega), hI4.1 (123 + 4) (by omega) (by omega), hI4.1 (123 + 6) (by omega) (by omega)]; exact hPD.1, by rw [hI4.1 123 (by omega) (by omega)]; exact hPD.2.1, wmk_lt _ n, fun t ht => by rw [hI4.1 (123 + 7) (by omega) (by omega), hI4.1 (123 + 8) (by omega) (by omega)]; exact hPD.2.2 t ht, hI4.2⟩⟩
    · refine r_aload_nN (pc := 12) 0 dX10_layOutPaperDay_12 rfl rfl ?_
      refine r_ifnullN (pc := 13) (tgt := 59) dX10_layOutPaperDay_13 (by decide) ?_
      have hPD : PDs f 123 K n := hp (by omega) (Or.inl h81)
      have hfr : ∀ q, q < 123 ∨ 133 < q → f q = f q := fun _ _ => rfl
      refine r_aload_n (pc := 59) 1 dX10_layOutPaperDay_59 rfl rfl ?_
      refine r_getR (pc := 60) (b := 123) dX10_layOutPaperDay_60 fl_X10_41 rfl hX.k hX.r6 ?_
      refine r_aload_n (pc := 63) 1 dX10_layOutPaperDay_63 rfl rfl ?_
      refine r_getR (pc := 64) (b := 75) dX10_layOutPaperDay_64 fl_X10_16 rfl hX.k hX.r1 ?_
      refine r_callV (pc := 67) (As := [(.ref 75)]) (S := []) dX10_layOutPaperDay_67 cv_X10_332 hX.o6.k rfl (Nat.le_of_ble_eq_true rfl) (x_layOutLoaves (y := 123) (b := 75) (a2 := (wmk (fun c => decide (ovK K c ≠ 0)) n)) (wa := (waK K (K 42) (hdK K))) (dz := K 40) (lp := K 41) (b0 := bkK K 0) (b1 := bkK K 1) l z (d + 1) hX.o6 hX.o1 (by omega) hn8 hPD.1.2.1 hPD.2.1 (fun c hc => waK_r hO (by omega)) (fun s hs => (hPD.2.2 s hs).2) (by rw [hfr 77 (by omega)]; exact hB.te (t := 0) (by decide)) (by rw [hfr 77 (by omega)]; exact hB.te (t := 1) (by decide)) hO.dz hO.lp ((by rw [hfr 77 (by omega)]; exact hB.te (t := 3) (by decide) : f 77 3 = K 43).trans hbb.1) ((by rw [hfr 77 (by omega)]; exact hB.te (t := 4) (by decide) : f 77 4 = K 44).trans hbb.2.1) ⟨hbb.2.2.1, hbb.2.2.2⟩) (Nat.zero_le _) (Nat.zero_le _) (fun r_67 g_67 f_67 q_67 => ?_)
      obtain ⟨rfl, rfl, hI4⟩ := q_67
      exact r_vret (pc := 70) dX10_layOutPaperDay_70 rfl ⟨rfl, rfl, fun q hq => (hI4.1 q (by omega) (by omega)).trans (hfr q hq), ⟨by unfold DW; rw [hI4.1 123 (by omega) (by omega), hI4.1 (123 + 4) (by omega) (by omega), hI4.1 (123 + 6) (by omega) (by omega)]; exact hPD.1, by rw [hI4.1 123 (by omega) (by omega)]; exact hPD.2.1, wmk_lt _ n, fun t ht => by rw [hI4.1 (123 + 7) (by omega) (by omega), hI4.1 (123 + 8) (by omega) (by omega)]; exact hPD.2.2 t ht, hI4.2⟩⟩
  · have hdy1 := dyL_01 (lawK K (K 81).toNat) 0 (Or.inl rfl)
    refine r_astore_n (pc := 7) (L2 := [(2, (.ref (q + 2))), (0, (.ref 64)), (1, (.int (iI (i))))]) dX10_layOutPaperDay_7 rfl (by decide) rfl ?_
    refine r_iload_n (pc := 8) 2 dX10_layOutPaperDay_8 rfl rfl ?_
    refine r_if_eq (pc := 9) (tgt := 23) dX10_layOutPaperDay_9 (by decide) (by omega) (fun c_9 => ?_) (fun c_9 => ?_)
    · refine r_aload_n (pc := 23) 1 dX10_layOutPaperDay_23 rfl rfl ?_
      refine r_getR (pc := 24) (b := 123) dX10_layOutPaperDay_24 fl_X10_41 rfl hX.k hX.r6 ?_
      refine r_callV (pc := 27) (As := []) (S := []) dX10_layOutPaperDay_27 cv_X10_279 hX.o6.k rfl (Nat.le_of_ble_eq_true rfl) (x_daydrop l z _ hX.o6) (Nat.zero_le _) (Nat.zero_le _) (fun r_27 g_27 f_27 q_27 => ?_)
      obtain ⟨rfl, rfl, rfl⟩ := q_27
      have hBd : BK g (stF (stF f 123 9 0) 123 10 0) 75 K := hB.mem (fun q hq => by rw [stF_n _ _ _ (by omega), stF_n _ _ _ (by omega)])
      refine r_aload_n (pc := 30) 1 dX10_layOutPaperDay_30 rfl rfl ?_
      refine r_getR (pc := 31) (b := 123) dX10_layOutPaperDay_31 fl_X10_41 rfl hX.k hX.r6 ?_
      refine r_aload_n (pc := 34) 1 dX10_layOutPaperDay_34 rfl rfl ?_
      refine r_getR (pc := 35) (b := 75) dX10_layOutPaperDay_35 fl_X10_16 rfl hX.k hX.r1 ?_
      refine r_callV (pc := 38) (As := [(.ref 75)]) (S := []) dX10_layOutPaperDay_38 cv_X10_115 hX.o6.k rfl (Nat.le_of_ble_eq_true rfl) (x_learnWants (y := 123) (b := 75) (K := K) (n := n) l z d hX.o6 hX.o1 hBd hO hD0 hn (by omega) (by omega) (by rw [stF_i _ _ _ (by decide), stF_s])) (Nat.zero_le _) (Nat.zero_le _) (fun r_38 g_38 f_38 q_38 => ?_)
      obtain ⟨rfl, rfl, hI1, hq9⟩ := q_38
      have hK1 : BK g f_38 75 K := hBd.mem (fun q hq => hI1.1 q (by omega) (by omega) (by omega) (by omega) (by omega))
      refine r_aload_n (pc := 41) 1 dX10_layOutPaperDay_41 rfl rfl ?_
      refine r_getR (pc := 42) (b := 123) dX10_layOutPaperDay_42 fl_X10_41 rfl hX.k hX.r6 ?_
      refine r_aload_n (pc := 45) 1 dX10_layOutPaperDay_45 rfl rfl ?_
      refine r_getR (pc := 46) (b := 75) dX10_layOutPaperDay_46 fl_X10_16 rfl hX.k hX.r1 ?_
      refine r_callV (pc := 49) (As := [(.ref 75)]) (S := []) dX10_layOutPaperDay_49 cv_X10_282 hX.o6.k rfl (Nat.le_of_ble_eq_true rfl) (x_learnWaits (y := 123) (b := 75) (K := K) (n := n) l z d hX.o6 hX.o1 hK1 hO hD0 hn (by omega) (by omega)) (Nat.zero_le _) (Nat.zero_le _) (fun r_49 g_49 f_49 q_49 => ?_)
      obtain ⟨rfl, rfl, hI2⟩ := q_49
      have hW : DW f_49 123 n (waK K (K 42) (hdK K)) (wtK K (K 42) (hdK K) n) := ⟨hn8, by rw [hI2.1 123 (by omega) (by omega) (by omega)]; exact hI1.2.2.1, fun c hc => ⟨by rw [hI2.1 (123 + 4) (by omega) (by omega) (by omega)]; exact (hI1.2.2.2.2 c hc).1, waK_r hO (by omega)⟩, fun c hc => ⟨hI2.2 c hc, wmk_8 _ hn8⟩⟩
      refine r_aload_n (pc := 52) 1 dX10_layOutPaperDay_52 rfl rfl ?_
      refine r_getR (pc := 53) (b := 123) dX10_layOutPaperDay_53 fl_X10_41 rfl hX.k hX.r6 ?_
      refine r_callV (pc := 56) (As := []) (S := []) dX10_layOutPaperDay_56 cv_X10_329 hX.o6.k rfl (Nat.le_of_ble_eq_true rfl) (x_layOutSets l z (d + 3) hX.o6 hW) (Nat.zero_le _) (Nat.zero_le _) (fun r_56 g_56 f_56 q_56 => ?_)
      obtain ⟨rfl, rfl, hI3⟩ := q_56
      have hPD : PDs f_56 123 K n := ⟨⟨hn8, by rw [hI3.1 123 (by omega) (by omega)]; exact hW.2.1, fun c hc => by rw [hI3.1 (123 + 4) (by omega) (by omega)]; exact hW.2.2.1 c hc, fun c hc => by rw [hI3.1 (123 + 6) (by omega) (by omega)]; exact hW.2.2.2 c hc⟩, by rw [hI3.1 123 (by omega) (by omega), hI2.1 123 (by omega) (by omega) (by omega)]; exact hI1.2.2.2.1, hI3.2⟩
      have hfr : ∀ q, q < 123 ∨ 133 < q → f_56 q = f q := fun q hq => by rw [hI3.1 q (by omega) (by omega), hI2.1 q (by omega) (by omega) (by omega), hI1.1 q (by omega) (by omega) (by omega) (by omega) (by omega), stF_n _ _ _ (by omega), stF_n _ _ _ (by omega)]
      refine r_aload_n (pc := 59) 1 dX10_layOutPaperDay_59 rfl rfl ?_
      refine r_getR (pc := 60) (b := 123) dX10_layOutPaperDay_60 fl_X10_41 rfl hX.k hX.r6 ?_
      refine r_aload_n (pc := 63) 1 dX10_layOutPaperDay_63 rfl rfl ?_
      refine r_getR (pc := 64) (b := 75) dX10_layOutPaperDay_64 fl_X10_16 rfl hX.k hX.r1 ?_
      refine r_callV (pc := 67) (As := [(.ref 75)]) (S := []) dX10_layOutPaperDay_67 cv_X10_332 hX.o6.k rfl (Nat.le_of_ble_eq_true rfl) (x_layOutLoaves (y := 123) (b := 75) (a2 := (wmk (fun c => decide (ovK K c ≠ 0)) n)) (wa := (waK K (K 42) (hdK K))) (dz := K 40) (lp := K 41) (b0 := bkK K 0) (b1 := bkK K 1) l z (d + 1) hX.o6 hX.o1 (by omega) hn8 hPD.1.2.1 hPD.2.1 (fun c hc => waK_r hO (by omega)) (fun s hs => (hPD.2.2 s hs).2) (by rw [hfr 77 (by omega)]; exact hB.te (t := 0) (by decide)) (by rw [hfr 77 (by omega)]; exact hB.te (t := 1) (by decide)) hO.dz hO.lp ((by rw [hfr 77 (by omega)]; exact hB.te (t := 3) (by decide) : f_56 77 3 = K 43).trans hbb.1) ((by rw [hfr 77 (by omega)]; exact hB.te (t := 4) (by decide) : f_56 77 4 = K 44).trans hbb.2.1) ⟨hbb.2.2.1, hbb.2.2.2⟩) (Nat.zero_le _) (Nat.zero_le _) (fun r_67 g_67 f_67 q_67 => ?_)
      obtain ⟨rfl, rfl, hI4⟩ := q_67
      exact r_vret (pc := 70) dX10_layOutPaperDay_70 rfl ⟨rfl, rfl, fun q hq => (hI4.1 q (by omega) (by omega)).trans (hfr q hq), ⟨by unfold DW; rw [hI4.1 123 (by omega) (by omega), hI4.1 (123 + 4) (by omega) (by omega), hI4.1 (123 + 6) (by omega) (by omega)]; exact hPD.1, by rw [hI4.1 123 (by omega) (by omega)]; exact hPD.2.1, wmk_lt _ n, fun t ht => by rw [hI4.1 (123 + 7) (by omega) (by omega), hI4.1 (123 + 8) (by omega) (by omega)]; exact hPD.2.2 t ht, hI4.2⟩⟩
    · refine r_aload_n (pc := 12) 0 dX10_layOutPaperDay_12 rfl rfl ?_
      refine r_ifnull (pc := 13) dX10_layOutPaperDay_13 ?_
      refine r_aload_n (pc := 16) 0 dX10_layOutPaperDay_16 rfl rfl ?_
      refine r_getIv (pc := 17) (x := dyL 0 (lawK K (K 81).toNat)) dX10_layOutPaperDay_17 fl_X10_324 rfl hLw.k (hLw.ad) ?_
      refine r_if_eq (pc := 20) (tgt := 59) dX10_layOutPaperDay_20 (by decide) (by omega) (fun c_20 => ?_) (fun c_20 => ?_)
      · have hPD : PDs f 123 K n := hp (by omega) (Or.inr c_20)
        have hfr : ∀ q, q < 123 ∨ 133 < q → f q = f q := fun _ _ => rfl
        refine r_aload_n (pc := 59) 1 dX10_layOutPaperDay_59 rfl rfl ?_
        refine r_getR (pc := 60) (b := 123) dX10_layOutPaperDay_60 fl_X10_41 rfl hX.k hX.r6 ?_
        refine r_aload_n (pc := 63) 1 dX10_layOutPaperDay_63 rfl rfl ?_
        refine r_getR (pc := 64) (b := 75) dX10_layOutPaperDay_64 fl_X10_16 rfl hX.k hX.r1 ?_
        refine r_callV (pc := 67) (As := [(.ref 75)]) (S := []) dX10_layOutPaperDay_67 cv_X10_332 hX.o6.k rfl (Nat.le_of_ble_eq_true rfl) (x_layOutLoaves (y := 123) (b := 75) (a2 := (wmk (fun c => decide (ovK K c ≠ 0)) n)) (wa := (waK K (K 42) (hdK K))) (dz := K 40) (lp := K 41) (b0 := bkK K 0) (b1 := bkK K 1) l z (d + 1) hX.o6 hX.o1 (by omega) hn8 hPD.1.2.1 hPD.2.1 (fun c hc => waK_r hO (by omega)) (fun s hs => (hPD.2.2 s hs).2) (by rw [hfr 77 (by omega)]; exact hB.te (t := 0) (by decide)) (by rw [hfr 77 (by omega)]; exact hB.te (t := 1) (by decide)) hO.dz hO.lp ((by rw [hfr 77 (by omega)]; exact hB.te (t := 3) (by decide) : f 77 3 = K 43).trans hbb.1) ((by rw [hfr 77 (by omega)]; exact hB.te (t := 4) (by decide) : f 77 4 = K 44).trans hbb.2.1) ⟨hbb.2.2.1, hbb.2.2.2⟩) (Nat.zero_le _) (Nat.zero_le _) (fun r_67 g_67 f_67 q_67 => ?_)
        obtain ⟨rfl, rfl, hI4⟩ := q_67
        exact r_vret (pc := 70) dX10_layOutPaperDay_70 rfl ⟨rfl, rfl, fun q hq => (hI4.1 q (by omega) (by omega)).trans (hfr q hq), ⟨by unfold DW; rw [hI4.1 123 (by omega) (by omega), hI4.1 (123 + 4) (by omega) (by omega), hI4.1 (123 + 6) (by omega) (by omega)]; exact hPD.1, by rw [hI4.1 123 (by omega) (by omega)]; exact hPD.2.1, wmk_lt _ n, fun t ht => by rw [hI4.1 (123 + 7) (by omega) (by omega), hI4.1 (123 + 8) (by omega) (by omega)]; exact hPD.2.2 t ht, hI4.2⟩⟩
      · refine r_aload_n (pc := 23) 1 dX10_layOutPaperDay_23 rfl rfl ?_
        refine r_getR (pc := 24) (b := 123) dX10_layOutPaperDay_24 fl_X10_41 rfl hX.k hX.r6 ?_
        refine r_callV (pc := 27) (As := []) (S := []) dX10_layOutPaperDay_27 cv_X10_279 hX.o6.k rfl (Nat.le_of_ble_eq_true rfl) (x_daydrop l z _ hX.o6) (Nat.zero_le _) (Nat.zero_le _) (fun r_27 g_27 f_27 q_27 => ?_)
        obtain ⟨rfl, rfl, rfl⟩ := q_27
        have hBd : BK g (stF (stF f 123 9 0) 123 10 0) 75 K := hB.mem (fun q hq => by rw [stF_n _ _ _ (by omega), stF_n _ _ _ (by omega)])
        refine r_aload_n (pc := 30) 1 dX10_layOutPaperDay_30 rfl rfl ?_
        refine r_getR (pc := 31) (b := 123) dX10_layOutPaperDay_31 fl_X10_41 rfl hX.k hX.r6 ?_
        refine r_aload_n (pc := 34) 1 dX10_layOutPaperDay_34 rfl rfl ?_
        refine r_getR (pc := 35) (b := 75) dX10_layOutPaperDay_35 fl_X10_16 rfl hX.k hX.r1 ?_
        refine r_callV (pc := 38) (As := [(.ref 75)]) (S := []) dX10_layOutPaperDay_38 cv_X10_115 hX.o6.k rfl (Nat.le_of_ble_eq_true rfl) (x_learnWants (y := 123) (b := 75) (K := K) (n := n) l z d hX.o6 hX.o1 hBd hO hD0 hn (by omega) (by omega) (by rw [stF_i _ _ _ (by decide), stF_s])) (Nat.zero_le _) (Nat.zero_le _) (fun r_38 g_38 f_38 q_38 => ?_)
        obtain ⟨rfl, rfl, hI1, hq9⟩ := q_38
        have hK1 : BK g f_38 75 K := hBd.mem (fun q hq => hI1.1 q (by omega) (by omega) (by omega) (by omega) (by omega))
        refine r_aload_n (pc := 41) 1 dX10_layOutPaperDay_41 rfl rfl ?_
        refine r_getR (pc := 42) (b := 123) dX10_layOutPaperDay_42 fl_X10_41 rfl hX.k hX.r6 ?_
        refine r_aload_n (pc := 45) 1 dX10_layOutPaperDay_45 rfl rfl ?_
        refine r_getR (pc := 46) (b := 75) dX10_layOutPaperDay_46 fl_X10_16 rfl hX.k hX.r1 ?_
        refine r_callV (pc := 49) (As := [(.ref 75)]) (S := []) dX10_layOutPaperDay_49 cv_X10_282 hX.o6.k rfl (Nat.le_of_ble_eq_true rfl) (x_learnWaits (y := 123) (b := 75) (K := K) (n := n) l z d hX.o6 hX.o1 hK1 hO hD0 hn (by omega) (by omega)) (Nat.zero_le _) (Nat.zero_le _) (fun r_49 g_49 f_49 q_49 => ?_)
        obtain ⟨rfl, rfl, hI2⟩ := q_49
        have hW : DW f_49 123 n (waK K (K 42) (hdK K)) (wtK K (K 42) (hdK K) n) := ⟨hn8, by rw [hI2.1 123 (by omega) (by omega) (by omega)]; exact hI1.2.2.1, fun c hc => ⟨by rw [hI2.1 (123 + 4) (by omega) (by omega) (by omega)]; exact (hI1.2.2.2.2 c hc).1, waK_r hO (by omega)⟩, fun c hc => ⟨hI2.2 c hc, wmk_8 _ hn8⟩⟩
        refine r_aload_n (pc := 52) 1 dX10_layOutPaperDay_52 rfl rfl ?_
        refine r_getR (pc := 53) (b := 123) dX10_layOutPaperDay_53 fl_X10_41 rfl hX.k hX.r6 ?_
        refine r_callV (pc := 56) (As := []) (S := []) dX10_layOutPaperDay_56 cv_X10_329 hX.o6.k rfl (Nat.le_of_ble_eq_true rfl) (x_layOutSets l z (d + 3) hX.o6 hW) (Nat.zero_le _) (Nat.zero_le _) (fun r_56 g_56 f_56 q_56 => ?_)
        obtain ⟨rfl, rfl, hI3⟩ := q_56
        have hPD : PDs f_56 123 K n := ⟨⟨hn8, by rw [hI3.1 123 (by omega) (by omega)]; exact hW.2.1, fun c hc => by rw [hI3.1 (123 + 4) (by omega) (by omega)]; exact hW.2.2.1 c hc, fun c hc => by rw [hI3.1 (123 + 6) (by omega) (by omega)]; exact hW.2.2.2 c hc⟩, by rw [hI3.1 123 (by omega) (by omega), hI2.1 123 (by omega) (by omega) (by omega)]; exact hI1.2.2.2.1, hI3.2⟩
        have hfr : ∀ q, q < 123 ∨ 133 < q → f_56 q = f q := fun q hq => by rw [hI3.1 q (by omega) (by omega), hI2.1 q (by omega) (by omega) (by omega), hI1.1 q (by omega) (by omega) (by omega) (by omega) (by omega), stF_n _ _ _ (by omega), stF_n _ _ _ (by omega)]
        refine r_aload_n (pc := 59) 1 dX10_layOutPaperDay_59 rfl rfl ?_
        refine r_getR (pc := 60) (b := 123) dX10_layOutPaperDay_60 fl_X10_41 rfl hX.k hX.r6 ?_
        refine r_aload_n (pc := 63) 1 dX10_layOutPaperDay_63 rfl rfl ?_
        refine r_getR (pc := 64) (b := 75) dX10_layOutPaperDay_64 fl_X10_16 rfl hX.k hX.r1 ?_
        refine r_callV (pc := 67) (As := [(.ref 75)]) (S := []) dX10_layOutPaperDay_67 cv_X10_332 hX.o6.k rfl (Nat.le_of_ble_eq_true rfl) (x_layOutLoaves (y := 123) (b := 75) (a2 := (wmk (fun c => decide (ovK K c ≠ 0)) n)) (wa := (waK K (K 42) (hdK K))) (dz := K 40) (lp := K 41) (b0 := bkK K 0) (b1 := bkK K 1) l z (d + 1) hX.o6 hX.o1 (by omega) hn8 hPD.1.2.1 hPD.2.1 (fun c hc => waK_r hO (by omega)) (fun s hs => (hPD.2.2 s hs).2) (by rw [hfr 77 (by omega)]; exact hB.te (t := 0) (by decide)) (by rw [hfr 77 (by omega)]; exact hB.te (t := 1) (by decide)) hO.dz hO.lp ((by rw [hfr 77 (by omega)]; exact hB.te (t := 3) (by decide) : f_56 77 3 = K 43).trans hbb.1) ((by rw [hfr 77 (by omega)]; exact hB.te (t := 4) (by decide) : f_56 77 4 = K 44).trans hbb.2.1) ⟨hbb.2.2.1, hbb.2.2.2⟩) (Nat.zero_le _) (Nat.zero_le _) (fun r_67 g_67 f_67 q_67 => ?_)
        obtain ⟨rfl, rfl, hI4⟩ := q_67
        exact r_vret (pc := 70) dX10_layOutPaperDay_70 rfl ⟨rfl, rfl, fun q hq => (hI4.1 q (by omega) (by omega)).trans (hfr q hq), ⟨by unfold DW; rw [hI4.1 123 (by omega) (by omega), hI4.1 (123 + 4) (by omega) (by omega), hI4.1 (123 + 6) (by omega) (by omega)]; exact hPD.1, by rw [hI4.1 123 (by omega) (by omega)]; exact hPD.2.1, wmk_lt _ n, fun t ht => by rw [hI4.1 (123 + 7) (by omega) (by omega), hI4.1 (123 + 8) (by omega) (by omega)]; exact hPD.2.2 t ht, hI4.2⟩⟩

set_option maxRecDepth 100000 in
set_option maxHeartbeats 4000000 in
theorem x_passOn (l : Launch) (z : Zv) (d : Nat) {g : Gm} {f : Fm} {y b n : Nat} {K : Nat → Int} {D0 M0 : Int} (hY : DL g y) (hB : BL g b) (hK : BK g f b K) (hO : KO K D0 M0) (hL : DYK f y K n) (hb10 : b + 10 ≤ 195) (hby : b + 10 ≤ y) : PM l z (d + 1) mX2_passOn [.ref y, .ref b] g f 0 0 (fun r g' f' => r = none ∧ g = g' ∧ (∀ q, q ≠ b + 2 → f' q = f q) ∧ BK g f' b (nxK K n)) := by
  have hn8 : n ≤ 8 := hL.1.1
  have hp8 := pow8 hn8
  have hm1 : ndf (2 ^ n - 1) (wmk (fun c => decide (ovK K c ≠ 0)) n) < 2 ^ n := by have := ndf_le (2 ^ n - 1) (wmk (fun c => decide (ovK K c ≠ 0)) n); omega
  have hs0 : lvN (waK K (K 42) (hdK K)) (ndf (2 ^ n - 1) (wmk (fun c => decide (ovK K c ≠ 0)) n)) n = swN (ovK K) (waK K (K 42) (hdK K)) 0 n := lv_sw (fun k hk => by
    show (m1K n (wmk (fun c => decide (ovK K c ≠ 0)) n)).testBit k = _
    rw [m1_bit, ov_bit K hk, decide_eq_true hk]; by_cases e : ovK K k = 0 <;> simp [e]) n (Nat.le_refl _)
  have hs1 : lvN (waK K (K 42) (hdK K)) (wmk (fun c => decide (ovK K c ≠ 0)) n) n = swN (ovK K) (waK K (K 42) (hdK K)) 1 n := lv_sw (fun k hk => by
    rw [ov_bit K hk]
    have := ovK_r (c := k) hO (by omega)
    rcases (show ovK K k = 0 ∨ ovK K k = 1 by omega) with e | e <;> simp [e]) n (Nat.le_refl _)
  refine PM.of (by decide +kernel) (Nat.le_of_ble_eq_true rfl) ?_
  refine r_aload_n (pc := 0) 0 dX2_passOn_0 rfl rfl ?_
  refine r_callV (pc := 1) (As := []) (S := []) dX2_passOn_1 cv_X2_85 hY.k rfl (Nat.le_of_ble_eq_true rfl) (x_every (n := n) l z _ hY hL.1.2.1 hn8) (Nat.zero_le _) (Nat.zero_le _) (fun r_1 g_1 f_1 q_1 => ?_)
  obtain ⟨rfl, rfl, rfl⟩ := q_1
  refine r_istore_n (pc := 4) (L2 := [(2, (.int (iI (((2 ^ n - 1 : Nat) : Int))))), (0, (.ref y)), (1, (.ref b))]) dX2_passOn_4 rfl (by decide) rfl ?_
  refine r_aload_n (pc := 5) 2 dX2_passOn_5 rfl rfl ?_
  refine r_getR (pc := 6) (b := (b + 2)) dX2_passOn_6 fl_X2_89 rfl hB.k hB.r1 ?_
  refine r_iconst (pc := 9) dX2_passOn_9 ?_
  refine r_dup2 (pc := 10) dX2_passOn_10 rfl rfl ?_
  refine r_ialdv (pc := 11) (w := K 43) dX2_passOn_11 hB.a1 (by decide) (by decide) (hK.te (t := 3) (by decide)) ?_
  refine r_aload_n (pc := 12) 1 dX2_passOn_12 rfl rfl ?_
  refine r_getR (pc := 13) (b := (y + 8)) dX2_passOn_13 fl_X2_31 rfl hY.k hY.r5 ?_
  refine r_iload_n (pc := 16) 0 dX2_passOn_16 rfl rfl ?_
  refine r_aload_n (pc := 17) 1 dX2_passOn_17 rfl rfl ?_
  refine r_getIv (pc := 18) (x := ((wmk (fun c => decide (ovK K c ≠ 0)) n : Nat) : Int)) dX2_passOn_18 fl_X2_57 rfl hY.k (hL.2.1) ?_
  refine r_iconst (pc := 21) dX2_passOn_21 ?_
  refine r_ixor (pc := 22) (w := -(((wmk (fun c => decide (ovK K c ≠ 0)) n : Nat) : Int)) - 1) dX2_passOn_22  (iI_not _) ?_
  refine r_iand (pc := 23) (w := ((ndf (2 ^ n - 1) (wmk (fun c => decide (ovK K c ≠ 0)) n) : Nat) : Int)) dX2_passOn_23  (iI_andn _ _) ?_
  refine r_ialdv (pc := 24) (w := ((lvN (waK K (K 42) (hdK K)) (ndf (2 ^ n - 1) (wmk (fun c => decide (ovK K c ≠ 0)) n)) n : Nat) : Int)) dX2_passOn_24 hY.a5 (by have := hm1; omega) (by decide) ((hL.2.2.2.1 _ (hm1)).2) ?_
  refine r_iadd (pc := 25) dX2_passOn_25 ?_
  refine r_iastv (pc := 26) (i := 3) dX2_passOn_26 hB.a1 (by decide) (by decide) rfl ?_
  refine r_aload_n (pc := 27) 2 dX2_passOn_27 rfl rfl ?_
  refine r_getR (pc := 28) (b := (b + 2)) dX2_passOn_28 fl_X2_89 rfl hB.k hB.r1 ?_
  refine r_iconst (pc := 31) dX2_passOn_31 ?_
  refine r_dup2 (pc := 32) dX2_passOn_32 rfl rfl ?_
  refine r_ialdv (pc := 33) (w := K 44) dX2_passOn_33 hB.a1 (by decide) (by decide) (rdi (by decide) (hK.te (t := 4) (by decide))) ?_
  refine r_aload_n (pc := 34) 1 dX2_passOn_34 rfl rfl ?_
  refine r_getR (pc := 35) (b := (y + 8)) dX2_passOn_35 fl_X2_31 rfl hY.k hY.r5 ?_
  refine r_aload_n (pc := 38) 1 dX2_passOn_38 rfl rfl ?_
  refine r_getIv (pc := 39) (x := ((wmk (fun c => decide (ovK K c ≠ 0)) n : Nat) : Int)) dX2_passOn_39 fl_X2_57 rfl hY.k (rdn (by omega) (hL.2.1)) ?_
  refine r_ialdv (pc := 42) (w := ((lvN (waK K (K 42) (hdK K)) (wmk (fun c => decide (ovK K c ≠ 0)) n) n : Nat) : Int)) dX2_passOn_42 hY.a5 (by have := hL.2.2.1; omega) (by decide) (rdn (by omega) ((hL.2.2.2.1 _ (hL.2.2.1)).2)) ?_
  refine r_iadd (pc := 43) dX2_passOn_43 ?_
  refine r_iastv (pc := 44) (i := 4) dX2_passOn_44 hB.a1 (by decide) (by decide) rfl ?_
  refine r_aload_n (pc := 45) 2 dX2_passOn_45 rfl rfl ?_
  refine r_getR (pc := 46) (b := (b + 2)) dX2_passOn_46 fl_X2_89 rfl hB.k hB.r1 ?_
  refine r_iconst (pc := 49) dX2_passOn_49 ?_
  refine r_dup2 (pc := 50) dX2_passOn_50 rfl rfl ?_
  refine r_ialdv (pc := 51) (w := K 42) dX2_passOn_51 hB.a1 (by decide) (by decide) (rdi (by decide) (rdi (by decide) (hK.te (t := 2) (by decide)))) ?_
  refine r_iconst (pc := 52) dX2_passOn_52 ?_
  refine r_iadd (pc := 53) dX2_passOn_53 ?_
  refine r_iastv (pc := 54) (i := 2) dX2_passOn_54 hB.a1 (by decide) (by decide) rfl ?_
  refine r_vret (pc := 55) dX2_passOn_55 rfl ⟨rfl, rfl, fun q hq => by rw [stF_n _ _ _ hq, stF_n _ _ _ hq, stF_n _ _ _ hq], hK.nx hO hb10 (fun q hq => by rw [stF_n _ _ _ hq, stF_n _ _ _ hq, stF_n _ _ _ hq]) (by rw [stF_i _ _ _ (by decide), stF_i _ _ _ (by decide), stF_i _ _ _ (by decide)]) (by rw [stF_i _ _ _ (by decide), stF_i _ _ _ (by decide), stF_i _ _ _ (by decide)]) ?_ ?_ ?_⟩
  · rw [stF_s]; unfold nxK; rw [if_pos rfl]
  · rw [stF_i _ _ _ (by decide), stF_i _ _ _ (by decide), stF_s]; unfold nxK; rw [if_neg (by decide), if_pos rfl, hs0]
  · rw [stF_i _ _ _ (by decide), stF_s]; unfold nxK; rw [if_neg (by decide), if_neg (by decide), if_pos rfl, hs1]

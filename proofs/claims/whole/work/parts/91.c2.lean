theorem sLo_r {K : Nat → Int} {D0 M0 : Int} {n b : Nat} (hO : KO K D0 M0) (hn : K 77 = ((n : Nat) : Int)) (h : 0 < sWy K n b) : -400000000 ≤ sLo K n b ∧ sLo K n b ≤ 400000000 := by
  have := hO.n
  exact tbL_r (by omega) (fun s i hi => co_rK hO hn hi) h
theorem fsU_le (P : Nat → Bool) (n : Nat) : ∀ m, fsU P n m ≤ n
  | 0 => Nat.le_refl _
  | m + 1 => by rw [fsU]; split; omega; exact fsU_le P n m
theorem sRw_r (K : Nat → Int) (n b p : Nat) : sRw K n b p ≤ n := fsU_le _ _ _
/-- what best, fairest and wrong answer -/
def bsA (K : Nat → Int) (n : Nat) (w : Int) : Int := if w < 0 then -1 else if w = 0 then (if 0 < sWy K n 0 then -(sLo K n 0) else -1) else if w = 1 then ((sWy K n 0 : Nat) : Int) else if 0 < sWy K n 0 ∧ w - 2 < (n : Int) then ((sRw K n 0 (w - 2).toNat : Nat) : Int) else -1
def faA (K : Nat → Int) (n : Nat) (w : Int) : Int := if w < 0 then -1 else if w = 0 then (if 0 < sWy K n 1 then sLo K n 1 else -1) else if 0 < sWy K n 1 ∧ w - 1 < (n : Int) then ((sRw K n 1 (w - 1).toNat : Nat) : Int) else -1
def wrA (K : Nat → Int) (n : Nat) (w : Int) : Int := if w < 0 then -1 else if w = 0 then (if 0 < sWy K n 2 then sLo K n 2 else -1) else if w = 1 then ((sWy K n 2 : Nat) : Int) else if 0 < sWy K n 2 ∧ w - 2 < (n : Int) then ((sRw K n 2 (w - 2).toNat : Nat) : Int) else -1
theorem bsA_neg {K : Nat → Int} {n : Nat} {w : Int} (h : w < 0) : bsA K n w = -1 := by unfold bsA; rw [if_pos h]
theorem bsA_0p {K : Nat → Int} {n : Nat} {w : Int} (h : w = 0) (hp : 0 < sWy K n 0) : bsA K n w = -(sLo K n 0) := by unfold bsA; rw [if_neg (show ¬ w < 0 by omega), if_pos h, if_pos hp]
theorem bsA_0n {K : Nat → Int} {n : Nat} {w : Int} (h : w = 0) (hp : ¬ 0 < sWy K n 0) : bsA K n w = -1 := by unfold bsA; rw [if_neg (show ¬ w < 0 by omega), if_pos h, if_neg hp]
theorem bsA_1 {K : Nat → Int} {n : Nat} {w : Int} (h : w = 1) : bsA K n w = ((sWy K n 0 : Nat) : Int) := by unfold bsA; rw [if_neg (show ¬ w < 0 by omega), if_neg (show ¬ w = 0 by omega), if_pos h]
theorem bsA_r {K : Nat → Int} {n : Nat} {w : Int} (h : 1 < w) : bsA K n w = if 0 < sWy K n 0 ∧ w - 2 < (n : Int) then ((sRw K n 0 (w - 2).toNat : Nat) : Int) else -1 := by unfold bsA; rw [if_neg (show ¬ w < 0 by omega), if_neg (show ¬ w = 0 by omega), if_neg (show ¬ w = 1 by omega)]
theorem faA_neg {K : Nat → Int} {n : Nat} {w : Int} (h : w < 0) : faA K n w = -1 := by unfold faA; rw [if_pos h]
theorem faA_0p {K : Nat → Int} {n : Nat} {w : Int} (h : w = 0) (hp : 0 < sWy K n 1) : faA K n w = sLo K n 1 := by unfold faA; rw [if_neg (show ¬ w < 0 by omega), if_pos h, if_pos hp]
theorem faA_0n {K : Nat → Int} {n : Nat} {w : Int} (h : w = 0) (hp : ¬ 0 < sWy K n 1) : faA K n w = -1 := by unfold faA; rw [if_neg (show ¬ w < 0 by omega), if_pos h, if_neg hp]
theorem faA_r {K : Nat → Int} {n : Nat} {w : Int} (h : 0 < w) : faA K n w = if 0 < sWy K n 1 ∧ w - 1 < (n : Int) then ((sRw K n 1 (w - 1).toNat : Nat) : Int) else -1 := by unfold faA; rw [if_neg (show ¬ w < 0 by omega), if_neg (show ¬ w = 0 by omega)]
theorem wrA_neg {K : Nat → Int} {n : Nat} {w : Int} (h : w < 0) : wrA K n w = -1 := by unfold wrA; rw [if_pos h]
theorem wrA_0p {K : Nat → Int} {n : Nat} {w : Int} (h : w = 0) (hp : 0 < sWy K n 2) : wrA K n w = sLo K n 2 := by unfold wrA; rw [if_neg (show ¬ w < 0 by omega), if_pos h, if_pos hp]
theorem wrA_0n {K : Nat → Int} {n : Nat} {w : Int} (h : w = 0) (hp : ¬ 0 < sWy K n 2) : wrA K n w = -1 := by unfold wrA; rw [if_neg (show ¬ w < 0 by omega), if_pos h, if_neg hp]
theorem wrA_1 {K : Nat → Int} {n : Nat} {w : Int} (h : w = 1) : wrA K n w = ((sWy K n 2 : Nat) : Int) := by unfold wrA; rw [if_neg (show ¬ w < 0 by omega), if_neg (show ¬ w = 0 by omega), if_pos h]
theorem wrA_r {K : Nat → Int} {n : Nat} {w : Int} (h : 1 < w) : wrA K n w = if 0 < sWy K n 2 ∧ w - 2 < (n : Int) then ((sRw K n 2 (w - 2).toNat : Nat) : Int) else -1 := by unfold wrA; rw [if_neg (show ¬ w < 0 by omega), if_neg (show ¬ w = 0 by omega), if_neg (show ¬ w = 1 by omega)]
theorem bsA_no {K : Nat → Int} {n : Nat} {w : Int} (h0 : ¬ 0 < sWy K n 0) (h1 : w ≠ 1) : bsA K n w = -1 := by
  rcases (show w < 0 ∨ w = 0 ∨ 0 < w by omega) with q | q | q
  · exact bsA_neg q
  · exact bsA_0n q h0
  · rw [bsA_r (by omega), if_neg (fun h => h0 h.1)]
theorem faA_no {K : Nat → Int} {n : Nat} {w : Int} (h0 : ¬ 0 < sWy K n 1) : faA K n w = -1 := by
  rcases (show w < 0 ∨ w = 0 ∨ 0 < w by omega) with q | q | q
  · exact faA_neg q
  · exact faA_0n q h0
  · rw [faA_r (by omega), if_neg (fun h => h0 h.1)]
theorem wrA_no {K : Nat → Int} {n : Nat} {w : Int} (h0 : ¬ 0 < sWy K n 2) (h1 : w ≠ 1) : wrA K n w = -1 := by
  rcases (show w < 0 ∨ w = 0 ∨ 0 < w by omega) with q | q | q
  · exact wrA_neg q
  · exact wrA_0n q h0
  · rw [wrA_r (by omega), if_neg (fun h => h0 h.1)]
def TdK (f : Fm) (K : Nat → Int) (n : Nat) : Prop := (f 111 9 = 0 ∨ (f 111 9 = 1 ∧ DA f 111 K n)) ∧ (f 111 10 = 0 ∨ (f 111 10 = 1 ∧ f 111 9 = 1 ∧ DA f 111 K n ∧ DYK f 111 K n))
def SrC (f : Fm) (e : Nat) (K : Nat → Int) (n b : Nat) : Prop := f e 4 = 0 ∨ (f e 4 = 1 ∧ SrK f e K n b)
theorem DA.mv {f f1 : Fm} {y n : Nat} {K : Nat → Int} (h : DA f y K n) (hf : ∀ q, y ≤ q → q ≤ y + 10 → f1 q = f q) : DA f1 y K n := by
  unfold DA at h ⊢
  rw [hf y (by omega) (by omega), hf (y + 4) (by omega) (by omega), hf (y + 5) (by omega) (by omega)]
  exact h
theorem SrK.mv {f f1 : Fm} {e n b : Nat} {K : Nat → Int} (h : SrK f e K n b) (hf : ∀ q, e ≤ q → q ≤ e + 4 → f1 q = f q) : SrK f1 e K n b := by
  unfold SrK at h ⊢
  rw [hf e (by omega) (by omega), hf (e + 4) (by omega) (by omega)]
  exact h
theorem TdK.mv {f f1 : Fm} {n : Nat} {K : Nat → Int} (h : TdK f K n) (hf : ∀ q, 111 ≤ q → q ≤ 121 → f1 q = f q) : TdK f1 K n := by
  unfold TdK at h ⊢
  rw [hf 111 (by omega) (by omega)]
  obtain ⟨h1, h2⟩ := h
  refine ⟨?_, ?_⟩
  · rcases h1 with h1 | h1
    · exact Or.inl h1
    · exact Or.inr ⟨h1.1, h1.2.mv hf⟩
  · rcases h2 with h2 | h2
    · exact Or.inl h2
    · exact Or.inr ⟨h2.1, h2.2.1, h2.2.2.1.mv hf, DYo.mv h2.2.2.2 hf⟩
theorem SrC.mv {f f1 : Fm} {e n b : Nat} {K : Nat → Int} (h : SrC f e K n b) (hf : ∀ q, e ≤ q → q ≤ e + 4 → f1 q = f q) : SrC f1 e K n b := by
  unfold SrC at h ⊢
  rw [hf e (by omega) (by omega)]
  rcases h with h | h
  · exact Or.inl h
  · exact Or.inr ⟨h.1, h.2.mv hf⟩

set_option maxRecDepth 100000 in
set_option maxHeartbeats 4000000 in
theorem m_best (l : Launch) (z : Zv) {g : Gm} {f : Fm} {K : Nat → Int} {D0 M0 : Int} {n : Nat} (hM : ML g) (hK : f 166 = K) (hO : KO K D0 M0) (hD0 : D0 ≤ 1000000) (hM0 : M0 ≤ 1100000) (hn : K 77 = ((n : Nat) : Int)) (hb20 : ∃ bk : Bool, f 164 20 = b01 (bk = true)) {w : Int} (hw : -2147483648 ≤ w ∧ w ≤ 2147483647) {D : Nat} (hD : 274 ≤ D) : PM l z D mX11_best [.ref 164, .int (iI w)] g f 0 0 (fun r g' f' => r = some (.int (iI (bsA K n w))) ∧ g = g' ∧ (∀ a, a ≠ 164 → a ≠ 175 → a ≠ 176 → a ≠ 177 → a ≠ 178 → a ≠ 179 → a ≠ 182 → a ≠ 183 → a ≠ 184 → f' a = f a) ∧ (∀ q, q ≠ 18 → q ≠ 19 → q ≠ 20 → q ≠ 22 → q ≠ 23 → f' 164 q = f 164 q) ∧ (∃ bk : Bool, f' 164 20 = b01 (bk = true))) := by
  obtain ⟨d, rfl⟩ : ∃ d, D = d + 274 := ⟨D - 274, by omega⟩
  have hn8 : n ≤ 8 := by have := hO.n; omega
  have hwr := sWy_r K n 0 hn8
  have hlr := fun h => sLo_r (b := 0) hO hn h
  refine PM.of (by decide +kernel) (Nat.le_of_ble_eq_true rfl) ?_
  refine r_iload_n (pc := 0) 1 dX11_best_0 rfl rfl ?_
  refine r_if_ge (pc := 1) (tgt := 6) dX11_best_1 (by decide) (by omega) (fun c_1 => ?_) (fun c_1 => ?_)
  · refine r_aload_n (pc := 6) 0 dX11_best_6 rfl rfl ?_
    refine r_iconst (pc := 7) dX11_best_7 ?_
    refine r_callV (pc := 8) (As := [(.int (iI (0)))]) (S := []) dX11_best_8 cv_X11_327 hM.k rfl (Nat.le_of_ble_eq_true rfl) (m_finds (b := 0) (K := K) l z hM hK hO hD0 hM0 hn hb20 (by decide) (D := d + 273) (by omega)) (Nat.zero_le _) (Nat.zero_le _) (fun r_8 g_8 f_8 q_8 => ?_)
    obtain ⟨rfl, rfl, hfn⟩ := q_8
    refine r_if_ne (pc := 11) (tgt := 25) dX11_best_11 (by decide) (b01_r) (fun c_11 => ?_) (fun c_11 => ?_)
    · replace c_11 := b01_nz c_11
      refine r_iload_n (pc := 25) 1 dX11_best_25 rfl rfl ?_
      refine r_if_ne (pc := 26) (tgt := 39) dX11_best_26 (by decide) (by omega) (fun c_26 => ?_) (fun c_26 => ?_)
      · refine r_iload_n (pc := 39) 1 dX11_best_39 rfl rfl ?_
        refine r_iconst (pc := 40) dX11_best_40 ?_
        refine r_icmp_ne (pc := 41) (tgt := 53) dX11_best_41 (by decide) (by omega) (by omega) (fun c_41 => ?_) (fun c_41 => ?_)
        · refine r_aload_n (pc := 53) 0 dX11_best_53 rfl rfl ?_
          refine r_iload_n (pc := 54) 1 dX11_best_54 rfl rfl ?_
          refine r_iconst (pc := 55) dX11_best_55 ?_
          refine r_isub (pc := 56) dX11_best_56 ?_
          refine r_callV (pc := 57) (As := [(.int (iI ((w) - (2))))]) (S := []) dX11_best_57 cv_X11_330 hM.k rfl (Nat.le_of_ble_eq_true rfl) (m_rowOf (n := n) l z _ hM (by rw [hfn.1 166 (by decide) (by decide) (by decide) (by decide) (by decide) (by decide) (by decide) (by decide) (by decide), hK]; exact hn) hn8 (by omega)) (Nat.zero_le _) (Nat.zero_le _) (fun r_57 g_57 f_57 q_57 => ?_)
          obtain ⟨rfl, rfl, rfl⟩ := q_57
          have hrv : (if 0 ≤ w - 2 ∧ w - 2 ≤ (n : Int) - 1 then f_8 184 (w - 2).toNat else -1) = bsA K n w := by
            rw [bsA_r (by omega)]
            by_cases hq : w - 2 < (n : Int)
            · rw [if_pos (show 0 ≤ w - 2 ∧ w - 2 ≤ (n : Int) - 1 by omega), if_pos (show 0 < sWy K n 0 ∧ w - 2 < (n : Int) from ⟨by omega, hq⟩)]; exact hfn.2.2.2.2.2 (by omega) _ (by omega)
            · rw [if_neg (show ¬ (0 ≤ w - 2 ∧ w - 2 ≤ (n : Int) - 1) by omega), if_neg (show ¬ (0 < sWy K n 0 ∧ w - 2 < (n : Int)) from fun h => hq h.2)]
          exact r_iret (pc := 60) dX11_best_60 rfl rfl ⟨by rw [hrv], rfl, ⟨hfn.1, hfn.2.1, hfn.2.2.1⟩⟩
        · refine r_aload_n (pc := 44) 0 dX11_best_44 rfl rfl ?_
          refine r_getR (pc := 45) (b := 183) dX11_best_45 fl_X11_73 rfl hM.k hM.r31 ?_
          refine r_iconst (pc := 48) dX11_best_48 ?_
          refine r_ialdv (pc := 49) (w := ((sWy K n 0 : Nat) : Int)) dX11_best_49 hM.a31 (by decide) (by decide) (hfn.2.2.2.2.1) ?_
          refine r_goto (pc := 50) (tgt := 60) dX11_best_50 (by decide) ?_
          exact r_iret (pc := 60) dX11_best_60 rfl rfl ⟨by first | (rw [bsA_neg (by omega)]; done) | (rw [bsA_0p (by omega) (by omega)]; done) | (rw [bsA_0n (by omega) (by omega)]; done) | (rw [bsA_1 (by omega)]; done) | (rw [bsA_1 (by omega), show ((sWy K n 0 : Nat) : Int) = 0 by omega]; done) | (rw [bsA_no (by omega) (by omega)]; done), rfl, ⟨hfn.1, hfn.2.1, hfn.2.2.1⟩⟩
      · refine r_aload_n (pc := 29) 0 dX11_best_29 rfl rfl ?_
        refine r_getR (pc := 30) (b := 182) dX11_best_30 fl_X11_70 rfl hM.k hM.r30 ?_
        refine r_iconst (pc := 33) dX11_best_33 ?_
        refine r_ialdv (pc := 34) (w := sLo K n 0) dX11_best_34 hM.a30 (by decide) (by decide) (hfn.2.2.2.1) ?_
        refine r_ineg (pc := 35) dX11_best_35 ?_
        refine r_goto (pc := 36) (tgt := 60) dX11_best_36 (by decide) ?_
        exact r_iret (pc := 60) dX11_best_60 rfl rfl ⟨by first | (rw [bsA_neg (by omega)]; done) | (rw [bsA_0p (by omega) (by omega)]; done) | (rw [bsA_0n (by omega) (by omega)]; done) | (rw [bsA_1 (by omega)]; done) | (rw [bsA_1 (by omega), show ((sWy K n 0 : Nat) : Int) = 0 by omega]; done) | (rw [bsA_no (by omega) (by omega)]; done), rfl, ⟨hfn.1, hfn.2.1, hfn.2.2.1⟩⟩
    · replace c_11 := b01_z c_11
      refine r_iload_n (pc := 14) 1 dX11_best_14 rfl rfl ?_
      refine r_iconst (pc := 15) dX11_best_15 ?_
      refine r_icmp_ne (pc := 16) (tgt := 23) dX11_best_16 (by decide) (by omega) (by omega) (fun c_16 => ?_) (fun c_16 => ?_)
      · refine r_iconst (pc := 23) dX11_best_23 ?_
        exact r_iret (pc := 24) dX11_best_24 rfl rfl ⟨by first | (rw [bsA_neg (by omega)]; done) | (rw [bsA_0p (by omega) (by omega)]; done) | (rw [bsA_0n (by omega) (by omega)]; done) | (rw [bsA_1 (by omega)]; done) | (rw [bsA_1 (by omega), show ((sWy K n 0 : Nat) : Int) = 0 by omega]; done) | (rw [bsA_no (by omega) (by omega)]; done), rfl, ⟨hfn.1, hfn.2.1, hfn.2.2.1⟩⟩
      · refine r_iconst (pc := 19) dX11_best_19 ?_
        refine r_goto (pc := 20) (tgt := 24) dX11_best_20 (by decide) ?_
        exact r_iret (pc := 24) dX11_best_24 rfl rfl ⟨by first | (rw [bsA_neg (by omega)]; done) | (rw [bsA_0p (by omega) (by omega)]; done) | (rw [bsA_0n (by omega) (by omega)]; done) | (rw [bsA_1 (by omega)]; done) | (rw [bsA_1 (by omega), show ((sWy K n 0 : Nat) : Int) = 0 by omega]; done) | (rw [bsA_no (by omega) (by omega)]; done), rfl, ⟨hfn.1, hfn.2.1, hfn.2.2.1⟩⟩
  · refine r_iconst (pc := 4) dX11_best_4 ?_
    exact r_iret (pc := 5) dX11_best_5 rfl rfl ⟨by first | (rw [bsA_neg (by omega)]; done) | (rw [bsA_0p (by omega) (by omega)]; done) | (rw [bsA_0n (by omega) (by omega)]; done) | (rw [bsA_1 (by omega)]; done) | (rw [bsA_1 (by omega), show ((sWy K n 0 : Nat) : Int) = 0 by omega]; done) | (rw [bsA_no (by omega) (by omega)]; done), rfl, ⟨fun _ _ _ _ _ _ _ _ _ _ => rfl, fun _ _ _ _ _ _ => rfl, hb20⟩⟩

set_option maxRecDepth 100000 in
set_option maxHeartbeats 4000000 in
theorem x_best (l : Launch) (z : Zv) (d : Nat) {g : Gm} {f : Fm} {n : Nat} {K : Nat → Int} {D0 M0 : Int} (hX : XL g) (hB : BK g f 65 K) (hO : KO K D0 M0) (hD0 : D0 ≤ 1000000) (hM0 : M0 ≤ 1100000) (hn : K 77 = ((n : Nat) : Int)) (hT : TdK f K n) (hS : SrC f 135 K n 0) {w : Int} (hw : -2147483648 ≤ w ∧ w ≤ 2147483647) : PM l z (d + 6) mX10_best [.ref 64, .int (iI w)] g f 0 0 (fun r g' f' => r = some (.int (iI (bsA K n w))) ∧ g = g' ∧ (∀ q, q < 111 ∨ 121 < q → q < 135 ∨ 139 < q → f' q = f q) ∧ TdK f' K n ∧ SrC f' 135 K n 0) := by
  have hn8 : n ≤ 8 := by have := hO.n; omega
  have hwr := sWy_r K n 0 hn8
  have hlr := fun h => sLo_r (b := 0) hO hn h
  refine PM.of (by decide +kernel) (Nat.le_of_ble_eq_true rfl) ?_
  refine r_aload_n (pc := 0) 0 dX10_best_0 rfl rfl ?_
  refine r_getR (pc := 1) (b := 111) dX10_best_1 fl_X10_37 rfl hX.k hX.r5 ?_
  refine r_aload_n (pc := 4) 0 dX10_best_4 rfl rfl ?_
  refine r_getR (pc := 5) (b := 65) dX10_best_5 fl_X10_10 rfl hX.k hX.r0 ?_
  refine r_callV (pc := 8) (As := [(.ref 65)]) (S := []) dX10_best_8 cv_X10_185 hX.o5.k rfl (Nat.le_of_ble_eq_true rfl) (x_layOutK (y := 111) (b := 65) (K := K) (n := n) l z _ hX.o5 hX.o0 hB hO hD0 hn (by omega) (by omega) hM0 hT.1 hT.2) (Nat.zero_le _) (Nat.zero_le _) (fun r_8 g_8 f_8 q_8 => ?_)
  obtain ⟨rfl, rfl, hl1, hl2, hl3, hl4, hl5⟩ := q_8
  have hB1 : BK g f_8 65 K := hB.mem (fun q hq => hl1 q (by omega) (by omega) (by omega) (by omega) (by omega) (by omega) (by omega) (by omega) (by omega) (by omega))
  refine r_aload_n (pc := 11) 0 dX10_best_11 rfl rfl ?_
  refine r_callV (pc := 12) (As := []) (S := []) dX10_best_12 cv_X10_191 hX.k rfl (Nat.le_of_ble_eq_true rfl) (x_searchBest (K := K) (n := n) l z _ hX hB1 hO hD0 hM0 hn hl2 (hS.mv (fun q h1 h2 => hl1 q (by omega) (by omega) (by omega) (by omega) (by omega) (by omega) (by omega) (by omega) (by omega) (by omega)))) (Nat.zero_le _) (Nat.zero_le _) (fun r_12 g_12 f_12 q_12 => ?_)
  obtain ⟨rfl, rfl, hs1, hs2, hs3⟩ := q_12
  have hB2 : BK g f_12 65 K := hB1.mem (fun q hq => hs1 q (by omega))
  refine r_astore_n (pc := 15) (L2 := [(2, (.ref 135)), (0, (.ref 64)), (1, (.int (iI (w))))]) dX10_best_15 rfl (by decide) rfl ?_
  refine r_iload_n (pc := 16) 2 dX10_best_16 rfl rfl ?_
  refine r_if_ne (pc := 17) (tgt := 37) dX10_best_17 (by decide) (by omega) (fun c_17 => ?_) (fun c_17 => ?_)
  · refine r_iload_n (pc := 37) 2 dX10_best_37 rfl rfl ?_
    refine r_iconst (pc := 38) dX10_best_38 ?_
    refine r_icmp_ne (pc := 39) (tgt := 49) dX10_best_39 (by decide) (by omega) (by omega) (fun c_39 => ?_) (fun c_39 => ?_)
    · refine r_aload_n (pc := 49) 0 dX10_best_49 rfl rfl ?_
      refine r_iload_n (pc := 50) 2 dX10_best_50 rfl rfl ?_
      refine r_iconst (pc := 51) dX10_best_51 ?_
      refine r_isub (pc := 52) dX10_best_52 ?_
      refine r_aload_n (pc := 53) 1 dX10_best_53 rfl rfl ?_
      refine r_getR (pc := 54) (b := 65) dX10_best_54 fl_X10_10 rfl hX.k hX.r0 ?_
      refine r_getIv (pc := 57) (x := ((n : Nat) : Int)) dX10_best_57 fl_X10_89 rfl hX.o0.k (hB2.n.trans hn) ?_
      refine r_callV (pc := 60) (As := [(.int (iI ((w) - (2)))), (.int (iI (((n : Nat) : Int))))]) (S := []) dX10_best_60 cv_X10_201 hX.o7.k rfl (Nat.le_of_ble_eq_true rfl) (x_placedW (e := 135) (n := n) (wy := sWy K n 0) l z _ hX.o7 hn8 hwr (by omega) hs3.2.1) (Nat.zero_le _) (Nat.zero_le _) (fun r_60 g_60 f_60 q_60 => ?_)
      obtain ⟨rfl, rfl, rfl⟩ := q_60
      have hrv : (if 0 < sWy K n 0 ∧ 0 ≤ w - 2 ∧ w - 2 < (n : Int) then f_12 (135 + 4) (w - 2).toNat else -1) = bsA K n w := by
        by_cases hw0 : w < 0
        · rw [bsA_neg hw0, if_neg (show ¬ (0 < sWy K n 0 ∧ 0 ≤ w - 2 ∧ w - 2 < (n : Int)) from fun h => by omega)]
        · rw [bsA_r (by omega)]
          by_cases hq : 0 < sWy K n 0 ∧ w - 2 < (n : Int)
          · rw [if_pos (show 0 < sWy K n 0 ∧ 0 ≤ w - 2 ∧ w - 2 < (n : Int) from ⟨hq.1, by omega, hq.2⟩), if_pos hq]; exact hs3.2.2 hq.1 _ (by omega)
          · rw [if_neg (show ¬ (0 < sWy K n 0 ∧ 0 ≤ w - 2 ∧ w - 2 < (n : Int)) from fun h => hq ⟨h.1, h.2.2⟩), if_neg hq]
      exact r_iret (pc := 63) dX10_best_63 rfl rfl ⟨by rw [hrv], rfl, ⟨fun q h1 h2 => by rw [hs1 q (by omega), hl1 q (by omega) (by omega) (by omega) (by omega) (by omega) (by omega) (by omega) (by omega) (by omega) (by omega)], ⟨Or.inr ⟨(congrFun (hs1 111 (by omega)) 9).trans hl4, hl3.mv (fun q h1 h2 => hs1 q (by omega))⟩, Or.inr ⟨(congrFun (hs1 111 (by omega)) 10).trans hl5, (congrFun (hs1 111 (by omega)) 9).trans hl4, hl3.mv (fun q h1 h2 => hs1 q (by omega)), DYo.mv hl2 (fun q h1 h2 => hs1 q (by omega))⟩⟩, Or.inr ⟨hs2, hs3⟩⟩⟩
    · refine r_aload_n (pc := 42) 0 dX10_best_42 rfl rfl ?_
      refine r_getIv (pc := 43) (x := ((sWy K n 0 : Nat) : Int)) dX10_best_43 fl_X10_195 rfl hX.o7.k (hs3.2.1) ?_
      refine r_goto (pc := 46) (tgt := 63) dX10_best_46 (by decide) ?_
      exact r_iret (pc := 63) dX10_best_63 rfl rfl ⟨by first | (rw [bsA_neg (by omega)]; done) | (rw [bsA_0p (by omega) (by omega)]; done) | (rw [bsA_0n (by omega) (by omega)]; done) | (rw [bsA_1 (by omega)]; done) | (rw [bsA_1 (by omega), show ((sWy K n 0 : Nat) : Int) = 0 by omega]; done) | (rw [bsA_no (by omega) (by omega)]; done), rfl, ⟨fun q h1 h2 => by rw [hs1 q (by omega), hl1 q (by omega) (by omega) (by omega) (by omega) (by omega) (by omega) (by omega) (by omega) (by omega) (by omega)], ⟨Or.inr ⟨(congrFun (hs1 111 (by omega)) 9).trans hl4, hl3.mv (fun q h1 h2 => hs1 q (by omega))⟩, Or.inr ⟨(congrFun (hs1 111 (by omega)) 10).trans hl5, (congrFun (hs1 111 (by omega)) 9).trans hl4, hl3.mv (fun q h1 h2 => hs1 q (by omega)), DYo.mv hl2 (fun q h1 h2 => hs1 q (by omega))⟩⟩, Or.inr ⟨hs2, hs3⟩⟩⟩
  · refine r_aload_n (pc := 20) 0 dX10_best_20 rfl rfl ?_
    refine r_getIv (pc := 21) (x := ((sWy K n 0 : Nat) : Int)) dX10_best_21 fl_X10_195 rfl hX.o7.k (hs3.2.1) ?_
    refine r_if_le (pc := 24) (tgt := 35) dX10_best_24 (by decide) (by omega) (fun c_24 => ?_) (fun c_24 => ?_)
    · refine r_iconst (pc := 35) dX10_best_35 ?_
      exact r_iret (pc := 36) dX10_best_36 rfl rfl ⟨by first | (rw [bsA_neg (by omega)]; done) | (rw [bsA_0p (by omega) (by omega)]; done) | (rw [bsA_0n (by omega) (by omega)]; done) | (rw [bsA_1 (by omega)]; done) | (rw [bsA_1 (by omega), show ((sWy K n 0 : Nat) : Int) = 0 by omega]; done) | (rw [bsA_no (by omega) (by omega)]; done), rfl, ⟨fun q h1 h2 => by rw [hs1 q (by omega), hl1 q (by omega) (by omega) (by omega) (by omega) (by omega) (by omega) (by omega) (by omega) (by omega) (by omega)], ⟨Or.inr ⟨(congrFun (hs1 111 (by omega)) 9).trans hl4, hl3.mv (fun q h1 h2 => hs1 q (by omega))⟩, Or.inr ⟨(congrFun (hs1 111 (by omega)) 10).trans hl5, (congrFun (hs1 111 (by omega)) 9).trans hl4, hl3.mv (fun q h1 h2 => hs1 q (by omega)), DYo.mv hl2 (fun q h1 h2 => hs1 q (by omega))⟩⟩, Or.inr ⟨hs2, hs3⟩⟩⟩
    · refine r_aload_n (pc := 27) 0 dX10_best_27 rfl rfl ?_
      refine r_getIv (pc := 28) (x := sLo K n 0) dX10_best_28 fl_X10_198 rfl hX.o7.k (hs3.1) ?_
      refine r_ineg (pc := 31) dX10_best_31 ?_
      refine r_goto (pc := 32) (tgt := 36) dX10_best_32 (by decide) ?_
      exact r_iret (pc := 36) dX10_best_36 rfl rfl ⟨by first | (rw [bsA_neg (by omega)]; done) | (rw [bsA_0p (by omega) (by omega)]; done) | (rw [bsA_0n (by omega) (by omega)]; done) | (rw [bsA_1 (by omega)]; done) | (rw [bsA_1 (by omega), show ((sWy K n 0 : Nat) : Int) = 0 by omega]; done) | (rw [bsA_no (by omega) (by omega)]; done), rfl, ⟨fun q h1 h2 => by rw [hs1 q (by omega), hl1 q (by omega) (by omega) (by omega) (by omega) (by omega) (by omega) (by omega) (by omega) (by omega) (by omega)], ⟨Or.inr ⟨(congrFun (hs1 111 (by omega)) 9).trans hl4, hl3.mv (fun q h1 h2 => hs1 q (by omega))⟩, Or.inr ⟨(congrFun (hs1 111 (by omega)) 10).trans hl5, (congrFun (hs1 111 (by omega)) 9).trans hl4, hl3.mv (fun q h1 h2 => hs1 q (by omega)), DYo.mv hl2 (fun q h1 h2 => hs1 q (by omega))⟩⟩, Or.inr ⟨hs2, hs3⟩⟩⟩

set_option maxRecDepth 100000 in
set_option maxHeartbeats 4000000 in
theorem m_fairest (l : Launch) (z : Zv) {g : Gm} {f : Fm} {K : Nat → Int} {D0 M0 : Int} {n : Nat} (hM : ML g) (hK : f 166 = K) (hO : KO K D0 M0) (hD0 : D0 ≤ 1000000) (hM0 : M0 ≤ 1100000) (hn : K 77 = ((n : Nat) : Int)) (hb20 : ∃ bk : Bool, f 164 20 = b01 (bk = true)) {w : Int} (hw : -2147483648 ≤ w ∧ w ≤ 2147483647) {D : Nat} (hD : 274 ≤ D) : PM l z D mX11_fairest [.ref 164, .int (iI w)] g f 0 0 (fun r g' f' => r = some (.int (iI (faA K n w))) ∧ g = g' ∧ (∀ a, a ≠ 164 → a ≠ 175 → a ≠ 176 → a ≠ 177 → a ≠ 178 → a ≠ 179 → a ≠ 182 → a ≠ 183 → a ≠ 184 → f' a = f a) ∧ (∀ q, q ≠ 18 → q ≠ 19 → q ≠ 20 → q ≠ 22 → q ≠ 23 → f' 164 q = f 164 q) ∧ (∃ bk : Bool, f' 164 20 = b01 (bk = true))) := by
  obtain ⟨d, rfl⟩ : ∃ d, D = d + 274 := ⟨D - 274, by omega⟩
  have hn8 : n ≤ 8 := by have := hO.n; omega
  have hwr := sWy_r K n 1 hn8
  have hlr := fun h => sLo_r (b := 1) hO hn h
  refine PM.of (by decide +kernel) (Nat.le_of_ble_eq_true rfl) ?_
  refine r_iload_n (pc := 0) 1 dX11_fairest_0 rfl rfl ?_
  refine r_if_lt (pc := 1) (tgt := 12) dX11_fairest_1 (by decide) (by omega) (fun c_1 => ?_) (fun c_1 => ?_)
  · refine r_iconst (pc := 12) dX11_fairest_12 ?_
    exact r_iret (pc := 13) dX11_fairest_13 rfl rfl ⟨by first | (rw [faA_neg (by omega)]; done) | (rw [faA_0p (by omega) (by omega)]; done) | (rw [faA_0n (by omega) (by omega)]; done) | (rw [faA_no (by omega)]; done), rfl, ⟨fun _ _ _ _ _ _ _ _ _ _ => rfl, fun _ _ _ _ _ _ => rfl, hb20⟩⟩
  · refine r_aload_n (pc := 4) 0 dX11_fairest_4 rfl rfl ?_
    refine r_iconst (pc := 5) dX11_fairest_5 ?_
    refine r_callV (pc := 6) (As := [(.int (iI (1)))]) (S := []) dX11_fairest_6 cv_X11_327 hM.k rfl (Nat.le_of_ble_eq_true rfl) (m_finds (b := 1) (K := K) l z hM hK hO hD0 hM0 hn hb20 (by decide) (D := d + 273) (by omega)) (Nat.zero_le _) (Nat.zero_le _) (fun r_6 g_6 f_6 q_6 => ?_)
    obtain ⟨rfl, rfl, hfn⟩ := q_6
    refine r_if_ne (pc := 9) (tgt := 14) dX11_fairest_9 (by decide) (b01_r) (fun c_9 => ?_) (fun c_9 => ?_)
    · replace c_9 := b01_nz c_9
      refine r_iload_n (pc := 14) 1 dX11_fairest_14 rfl rfl ?_
      refine r_if_ne (pc := 15) (tgt := 27) dX11_fairest_15 (by decide) (by omega) (fun c_15 => ?_) (fun c_15 => ?_)
      · refine r_aload_n (pc := 27) 0 dX11_fairest_27 rfl rfl ?_
        refine r_iload_n (pc := 28) 1 dX11_fairest_28 rfl rfl ?_
        refine r_iconst (pc := 29) dX11_fairest_29 ?_
        refine r_isub (pc := 30) dX11_fairest_30 ?_
        refine r_callV (pc := 31) (As := [(.int (iI ((w) - (1))))]) (S := []) dX11_fairest_31 cv_X11_330 hM.k rfl (Nat.le_of_ble_eq_true rfl) (m_rowOf (n := n) l z _ hM (by rw [hfn.1 166 (by decide) (by decide) (by decide) (by decide) (by decide) (by decide) (by decide) (by decide) (by decide), hK]; exact hn) hn8 (by omega)) (Nat.zero_le _) (Nat.zero_le _) (fun r_31 g_31 f_31 q_31 => ?_)
        obtain ⟨rfl, rfl, rfl⟩ := q_31
        have hrv : (if 0 ≤ w - 1 ∧ w - 1 ≤ (n : Int) - 1 then f_6 184 (w - 1).toNat else -1) = faA K n w := by
          rw [faA_r (by omega)]
          by_cases hq : w - 1 < (n : Int)
          · rw [if_pos (show 0 ≤ w - 1 ∧ w - 1 ≤ (n : Int) - 1 by omega), if_pos (show 0 < sWy K n 1 ∧ w - 1 < (n : Int) from ⟨by omega, hq⟩)]; exact hfn.2.2.2.2.2 (by omega) _ (by omega)
          · rw [if_neg (show ¬ (0 ≤ w - 1 ∧ w - 1 ≤ (n : Int) - 1) by omega), if_neg (show ¬ (0 < sWy K n 1 ∧ w - 1 < (n : Int)) from fun h => hq h.2)]
        exact r_iret (pc := 34) dX11_fairest_34 rfl rfl ⟨by rw [hrv], rfl, ⟨hfn.1, hfn.2.1, hfn.2.2.1⟩⟩
      · refine r_aload_n (pc := 18) 0 dX11_fairest_18 rfl rfl ?_
        refine r_getR (pc := 19) (b := 182) dX11_fairest_19 fl_X11_70 rfl hM.k hM.r30 ?_
        refine r_iconst (pc := 22) dX11_fairest_22 ?_
        refine r_ialdv (pc := 23) (w := sLo K n 1) dX11_fairest_23 hM.a30 (by decide) (by decide) (hfn.2.2.2.1) ?_
        refine r_goto (pc := 24) (tgt := 34) dX11_fairest_24 (by decide) ?_
        exact r_iret (pc := 34) dX11_fairest_34 rfl rfl ⟨by first | (rw [faA_neg (by omega)]; done) | (rw [faA_0p (by omega) (by omega)]; done) | (rw [faA_0n (by omega) (by omega)]; done) | (rw [faA_no (by omega)]; done), rfl, ⟨hfn.1, hfn.2.1, hfn.2.2.1⟩⟩
    · replace c_9 := b01_z c_9
      refine r_iconst (pc := 12) dX11_fairest_12 ?_
      exact r_iret (pc := 13) dX11_fairest_13 rfl rfl ⟨by first | (rw [faA_neg (by omega)]; done) | (rw [faA_0p (by omega) (by omega)]; done) | (rw [faA_0n (by omega) (by omega)]; done) | (rw [faA_no (by omega)]; done), rfl, ⟨hfn.1, hfn.2.1, hfn.2.2.1⟩⟩

set_option maxRecDepth 100000 in
set_option maxHeartbeats 4000000 in
theorem x_fairest (l : Launch) (z : Zv) (d : Nat) {g : Gm} {f : Fm} {n : Nat} {K : Nat → Int} {D0 M0 : Int} (hX : XL g) (hB : BK g f 65 K) (hO : KO K D0 M0) (hD0 : D0 ≤ 1000000) (hM0 : M0 ≤ 1100000) (hn : K 77 = ((n : Nat) : Int)) (hT : TdK f K n) (hS : SrC f 140 K n 1) {w : Int} (hw : -2147483648 ≤ w ∧ w ≤ 2147483647) : PM l z (d + 6) mX10_fairest [.ref 64, .int (iI w)] g f 0 0 (fun r g' f' => r = some (.int (iI (faA K n w))) ∧ g = g' ∧ (∀ q, q < 111 ∨ 121 < q → q < 140 ∨ 144 < q → f' q = f q) ∧ TdK f' K n ∧ SrC f' 140 K n 1) := by
  have hn8 : n ≤ 8 := by have := hO.n; omega
  have hwr := sWy_r K n 1 hn8
  have hlr := fun h => sLo_r (b := 1) hO hn h
  refine PM.of (by decide +kernel) (Nat.le_of_ble_eq_true rfl) ?_
  refine r_aload_n (pc := 0) 0 dX10_fairest_0 rfl rfl ?_
  refine r_getR (pc := 1) (b := 111) dX10_fairest_1 fl_X10_37 rfl hX.k hX.r5 ?_
  refine r_aload_n (pc := 4) 0 dX10_fairest_4 rfl rfl ?_
  refine r_getR (pc := 5) (b := 65) dX10_fairest_5 fl_X10_10 rfl hX.k hX.r0 ?_
  refine r_callV (pc := 8) (As := [(.ref 65)]) (S := []) dX10_fairest_8 cv_X10_185 hX.o5.k rfl (Nat.le_of_ble_eq_true rfl) (x_layOutK (y := 111) (b := 65) (K := K) (n := n) l z _ hX.o5 hX.o0 hB hO hD0 hn (by omega) (by omega) hM0 hT.1 hT.2) (Nat.zero_le _) (Nat.zero_le _) (fun r_8 g_8 f_8 q_8 => ?_)
  obtain ⟨rfl, rfl, hl1, hl2, hl3, hl4, hl5⟩ := q_8
  have hB1 : BK g f_8 65 K := hB.mem (fun q hq => hl1 q (by omega) (by omega) (by omega) (by omega) (by omega) (by omega) (by omega) (by omega) (by omega) (by omega))
  refine r_aload_n (pc := 11) 0 dX10_fairest_11 rfl rfl ?_
  refine r_callV (pc := 12) (As := []) (S := []) dX10_fairest_12 cv_X10_204 hX.k rfl (Nat.le_of_ble_eq_true rfl) (x_searchFairest (K := K) (n := n) l z _ hX hB1 hO hD0 hM0 hn hl2 (hS.mv (fun q h1 h2 => hl1 q (by omega) (by omega) (by omega) (by omega) (by omega) (by omega) (by omega) (by omega) (by omega) (by omega)))) (Nat.zero_le _) (Nat.zero_le _) (fun r_12 g_12 f_12 q_12 => ?_)
  obtain ⟨rfl, rfl, hs1, hs2, hs3⟩ := q_12
  have hB2 : BK g f_12 65 K := hB1.mem (fun q hq => hs1 q (by omega))
  refine r_astore_n (pc := 15) (L2 := [(2, (.ref 140)), (0, (.ref 64)), (1, (.int (iI (w))))]) dX10_fairest_15 rfl (by decide) rfl ?_
  refine r_iload_n (pc := 16) 2 dX10_fairest_16 rfl rfl ?_
  refine r_if_ne (pc := 17) (tgt := 36) dX10_fairest_17 (by decide) (by omega) (fun c_17 => ?_) (fun c_17 => ?_)
  · refine r_aload_n (pc := 36) 0 dX10_fairest_36 rfl rfl ?_
    refine r_iload_n (pc := 37) 2 dX10_fairest_37 rfl rfl ?_
    refine r_iconst (pc := 38) dX10_fairest_38 ?_
    refine r_isub (pc := 39) dX10_fairest_39 ?_
    refine r_aload_n (pc := 40) 1 dX10_fairest_40 rfl rfl ?_
    refine r_getR (pc := 41) (b := 65) dX10_fairest_41 fl_X10_10 rfl hX.k hX.r0 ?_
    refine r_getIv (pc := 44) (x := ((n : Nat) : Int)) dX10_fairest_44 fl_X10_89 rfl hX.o0.k (hB2.n.trans hn) ?_
    refine r_callV (pc := 47) (As := [(.int (iI ((w) - (1)))), (.int (iI (((n : Nat) : Int))))]) (S := []) dX10_fairest_47 cv_X10_201 hX.o8.k rfl (Nat.le_of_ble_eq_true rfl) (x_placedW (e := 140) (n := n) (wy := sWy K n 1) l z _ hX.o8 hn8 hwr (by omega) hs3.2.1) (Nat.zero_le _) (Nat.zero_le _) (fun r_47 g_47 f_47 q_47 => ?_)
    obtain ⟨rfl, rfl, rfl⟩ := q_47
    have hrv : (if 0 < sWy K n 1 ∧ 0 ≤ w - 1 ∧ w - 1 < (n : Int) then f_12 (140 + 4) (w - 1).toNat else -1) = faA K n w := by
      by_cases hw0 : w < 0
      · rw [faA_neg hw0, if_neg (show ¬ (0 < sWy K n 1 ∧ 0 ≤ w - 1 ∧ w - 1 < (n : Int)) from fun h => by omega)]
      · rw [faA_r (by omega)]
        by_cases hq : 0 < sWy K n 1 ∧ w - 1 < (n : Int)
        · rw [if_pos (show 0 < sWy K n 1 ∧ 0 ≤ w - 1 ∧ w - 1 < (n : Int) from ⟨hq.1, by omega, hq.2⟩), if_pos hq]; exact hs3.2.2 hq.1 _ (by omega)
        · rw [if_neg (show ¬ (0 < sWy K n 1 ∧ 0 ≤ w - 1 ∧ w - 1 < (n : Int)) from fun h => hq ⟨h.1, h.2.2⟩), if_neg hq]
    exact r_iret (pc := 50) dX10_fairest_50 rfl rfl ⟨by rw [hrv], rfl, ⟨fun q h1 h2 => by rw [hs1 q (by omega), hl1 q (by omega) (by omega) (by omega) (by omega) (by omega) (by omega) (by omega) (by omega) (by omega) (by omega)], ⟨Or.inr ⟨(congrFun (hs1 111 (by omega)) 9).trans hl4, hl3.mv (fun q h1 h2 => hs1 q (by omega))⟩, Or.inr ⟨(congrFun (hs1 111 (by omega)) 10).trans hl5, (congrFun (hs1 111 (by omega)) 9).trans hl4, hl3.mv (fun q h1 h2 => hs1 q (by omega)), DYo.mv hl2 (fun q h1 h2 => hs1 q (by omega))⟩⟩, Or.inr ⟨hs2, hs3⟩⟩⟩
  · refine r_aload_n (pc := 20) 0 dX10_fairest_20 rfl rfl ?_
    refine r_getIv (pc := 21) (x := ((sWy K n 1 : Nat) : Int)) dX10_fairest_21 fl_X10_195 rfl hX.o8.k (hs3.2.1) ?_
    refine r_if_le (pc := 24) (tgt := 34) dX10_fairest_24 (by decide) (by omega) (fun c_24 => ?_) (fun c_24 => ?_)
    · refine r_iconst (pc := 34) dX10_fairest_34 ?_
      exact r_iret (pc := 35) dX10_fairest_35 rfl rfl ⟨by first | (rw [faA_neg (by omega)]; done) | (rw [faA_0p (by omega) (by omega)]; done) | (rw [faA_0n (by omega) (by omega)]; done) | (rw [faA_no (by omega)]; done), rfl, ⟨fun q h1 h2 => by rw [hs1 q (by omega), hl1 q (by omega) (by omega) (by omega) (by omega) (by omega) (by omega) (by omega) (by omega) (by omega) (by omega)], ⟨Or.inr ⟨(congrFun (hs1 111 (by omega)) 9).trans hl4, hl3.mv (fun q h1 h2 => hs1 q (by omega))⟩, Or.inr ⟨(congrFun (hs1 111 (by omega)) 10).trans hl5, (congrFun (hs1 111 (by omega)) 9).trans hl4, hl3.mv (fun q h1 h2 => hs1 q (by omega)), DYo.mv hl2 (fun q h1 h2 => hs1 q (by omega))⟩⟩, Or.inr ⟨hs2, hs3⟩⟩⟩
    · refine r_aload_n (pc := 27) 0 dX10_fairest_27 rfl rfl ?_
      refine r_getIv (pc := 28) (x := sLo K n 1) dX10_fairest_28 fl_X10_198 rfl hX.o8.k (hs3.1) ?_
      refine r_goto (pc := 31) (tgt := 35) dX10_fairest_31 (by decide) ?_
      exact r_iret (pc := 35) dX10_fairest_35 rfl rfl ⟨by first | (rw [faA_neg (by omega)]; done) | (rw [faA_0p (by omega) (by omega)]; done) | (rw [faA_0n (by omega) (by omega)]; done) | (rw [faA_no (by omega)]; done), rfl, ⟨fun q h1 h2 => by rw [hs1 q (by omega), hl1 q (by omega) (by omega) (by omega) (by omega) (by omega) (by omega) (by omega) (by omega) (by omega) (by omega)], ⟨Or.inr ⟨(congrFun (hs1 111 (by omega)) 9).trans hl4, hl3.mv (fun q h1 h2 => hs1 q (by omega))⟩, Or.inr ⟨(congrFun (hs1 111 (by omega)) 10).trans hl5, (congrFun (hs1 111 (by omega)) 9).trans hl4, hl3.mv (fun q h1 h2 => hs1 q (by omega)), DYo.mv hl2 (fun q h1 h2 => hs1 q (by omega))⟩⟩, Or.inr ⟨hs2, hs3⟩⟩⟩

set_option maxRecDepth 100000 in
set_option maxHeartbeats 4000000 in
theorem m_wrong (l : Launch) (z : Zv) {g : Gm} {f : Fm} {K : Nat → Int} {D0 M0 : Int} {n : Nat} (hM : ML g) (hK : f 166 = K) (hO : KO K D0 M0) (hD0 : D0 ≤ 1000000) (hM0 : M0 ≤ 1100000) (hn : K 77 = ((n : Nat) : Int)) (hb20 : ∃ bk : Bool, f 164 20 = b01 (bk = true)) {w : Int} (hw : -2147483648 ≤ w ∧ w ≤ 2147483647) {D : Nat} (hD : 274 ≤ D) : PM l z D mX11_wrong [.ref 164, .int (iI w)] g f 0 0 (fun r g' f' => r = some (.int (iI (wrA K n w))) ∧ g = g' ∧ (∀ a, a ≠ 164 → a ≠ 175 → a ≠ 176 → a ≠ 177 → a ≠ 178 → a ≠ 179 → a ≠ 182 → a ≠ 183 → a ≠ 184 → f' a = f a) ∧ (∀ q, q ≠ 18 → q ≠ 19 → q ≠ 20 → q ≠ 22 → q ≠ 23 → f' 164 q = f 164 q) ∧ (∃ bk : Bool, f' 164 20 = b01 (bk = true))) := by
  obtain ⟨d, rfl⟩ : ∃ d, D = d + 274 := ⟨D - 274, by omega⟩
  have hn8 : n ≤ 8 := by have := hO.n; omega
  have hwr := sWy_r K n 2 hn8
  have hlr := fun h => sLo_r (b := 2) hO hn h
  refine PM.of (by decide +kernel) (Nat.le_of_ble_eq_true rfl) ?_
  refine r_iload_n (pc := 0) 1 dX11_wrong_0 rfl rfl ?_
  refine r_if_ge (pc := 1) (tgt := 6) dX11_wrong_1 (by decide) (by omega) (fun c_1 => ?_) (fun c_1 => ?_)
  · refine r_aload_n (pc := 6) 0 dX11_wrong_6 rfl rfl ?_
    refine r_iconst (pc := 7) dX11_wrong_7 ?_
    refine r_callV (pc := 8) (As := [(.int (iI (2)))]) (S := []) dX11_wrong_8 cv_X11_327 hM.k rfl (Nat.le_of_ble_eq_true rfl) (m_finds (b := 2) (K := K) l z hM hK hO hD0 hM0 hn hb20 (by decide) (D := d + 273) (by omega)) (Nat.zero_le _) (Nat.zero_le _) (fun r_8 g_8 f_8 q_8 => ?_)
    obtain ⟨rfl, rfl, hfn⟩ := q_8
    refine r_if_ne (pc := 11) (tgt := 25) dX11_wrong_11 (by decide) (b01_r) (fun c_11 => ?_) (fun c_11 => ?_)
    · replace c_11 := b01_nz c_11
      refine r_iload_n (pc := 25) 1 dX11_wrong_25 rfl rfl ?_
      refine r_if_ne (pc := 26) (tgt := 38) dX11_wrong_26 (by decide) (by omega) (fun c_26 => ?_) (fun c_26 => ?_)
      · refine r_iload_n (pc := 38) 1 dX11_wrong_38 rfl rfl ?_
        refine r_iconst (pc := 39) dX11_wrong_39 ?_
        refine r_icmp_ne (pc := 40) (tgt := 52) dX11_wrong_40 (by decide) (by omega) (by omega) (fun c_40 => ?_) (fun c_40 => ?_)
        · refine r_aload_n (pc := 52) 0 dX11_wrong_52 rfl rfl ?_
          refine r_iload_n (pc := 53) 1 dX11_wrong_53 rfl rfl ?_
          refine r_iconst (pc := 54) dX11_wrong_54 ?_
          refine r_isub (pc := 55) dX11_wrong_55 ?_
          refine r_callV (pc := 56) (As := [(.int (iI ((w) - (2))))]) (S := []) dX11_wrong_56 cv_X11_330 hM.k rfl (Nat.le_of_ble_eq_true rfl) (m_rowOf (n := n) l z _ hM (by rw [hfn.1 166 (by decide) (by decide) (by decide) (by decide) (by decide) (by decide) (by decide) (by decide) (by decide), hK]; exact hn) hn8 (by omega)) (Nat.zero_le _) (Nat.zero_le _) (fun r_56 g_56 f_56 q_56 => ?_)
          obtain ⟨rfl, rfl, rfl⟩ := q_56
          have hrv : (if 0 ≤ w - 2 ∧ w - 2 ≤ (n : Int) - 1 then f_8 184 (w - 2).toNat else -1) = wrA K n w := by
            rw [wrA_r (by omega)]
            by_cases hq : w - 2 < (n : Int)
            · rw [if_pos (show 0 ≤ w - 2 ∧ w - 2 ≤ (n : Int) - 1 by omega), if_pos (show 0 < sWy K n 2 ∧ w - 2 < (n : Int) from ⟨by omega, hq⟩)]; exact hfn.2.2.2.2.2 (by omega) _ (by omega)
            · rw [if_neg (show ¬ (0 ≤ w - 2 ∧ w - 2 ≤ (n : Int) - 1) by omega), if_neg (show ¬ (0 < sWy K n 2 ∧ w - 2 < (n : Int)) from fun h => hq h.2)]
          exact r_iret (pc := 59) dX11_wrong_59 rfl rfl ⟨by rw [hrv], rfl, ⟨hfn.1, hfn.2.1, hfn.2.2.1⟩⟩
        · refine r_aload_n (pc := 43) 0 dX11_wrong_43 rfl rfl ?_
          refine r_getR (pc := 44) (b := 183) dX11_wrong_44 fl_X11_73 rfl hM.k hM.r31 ?_
          refine r_iconst (pc := 47) dX11_wrong_47 ?_
          refine r_ialdv (pc := 48) (w := ((sWy K n 2 : Nat) : Int)) dX11_wrong_48 hM.a31 (by decide) (by decide) (hfn.2.2.2.2.1) ?_
          refine r_goto (pc := 49) (tgt := 59) dX11_wrong_49 (by decide) ?_
          exact r_iret (pc := 59) dX11_wrong_59 rfl rfl ⟨by first | (rw [wrA_neg (by omega)]; done) | (rw [wrA_0p (by omega) (by omega)]; done) | (rw [wrA_0n (by omega) (by omega)]; done) | (rw [wrA_1 (by omega)]; done) | (rw [wrA_1 (by omega), show ((sWy K n 2 : Nat) : Int) = 0 by omega]; done) | (rw [wrA_no (by omega) (by omega)]; done), rfl, ⟨hfn.1, hfn.2.1, hfn.2.2.1⟩⟩
      · refine r_aload_n (pc := 29) 0 dX11_wrong_29 rfl rfl ?_
        refine r_getR (pc := 30) (b := 182) dX11_wrong_30 fl_X11_70 rfl hM.k hM.r30 ?_
        refine r_iconst (pc := 33) dX11_wrong_33 ?_
        refine r_ialdv (pc := 34) (w := sLo K n 2) dX11_wrong_34 hM.a30 (by decide) (by decide) (hfn.2.2.2.1) ?_
        refine r_goto (pc := 35) (tgt := 59) dX11_wrong_35 (by decide) ?_
        exact r_iret (pc := 59) dX11_wrong_59 rfl rfl ⟨by first | (rw [wrA_neg (by omega)]; done) | (rw [wrA_0p (by omega) (by omega)]; done) | (rw [wrA_0n (by omega) (by omega)]; done) | (rw [wrA_1 (by omega)]; done) | (rw [wrA_1 (by omega), show ((sWy K n 2 : Nat) : Int) = 0 by omega]; done) | (rw [wrA_no (by omega) (by omega)]; done), rfl, ⟨hfn.1, hfn.2.1, hfn.2.2.1⟩⟩
    · replace c_11 := b01_z c_11
      refine r_iload_n (pc := 14) 1 dX11_wrong_14 rfl rfl ?_
      refine r_iconst (pc := 15) dX11_wrong_15 ?_
      refine r_icmp_ne (pc := 16) (tgt := 23) dX11_wrong_16 (by decide) (by omega) (by omega) (fun c_16 => ?_) (fun c_16 => ?_)
      · refine r_iconst (pc := 23) dX11_wrong_23 ?_
        exact r_iret (pc := 24) dX11_wrong_24 rfl rfl ⟨by first | (rw [wrA_neg (by omega)]; done) | (rw [wrA_0p (by omega) (by omega)]; done) | (rw [wrA_0n (by omega) (by omega)]; done) | (rw [wrA_1 (by omega)]; done) | (rw [wrA_1 (by omega), show ((sWy K n 2 : Nat) : Int) = 0 by omega]; done) | (rw [wrA_no (by omega) (by omega)]; done), rfl, ⟨hfn.1, hfn.2.1, hfn.2.2.1⟩⟩
      · refine r_iconst (pc := 19) dX11_wrong_19 ?_
        refine r_goto (pc := 20) (tgt := 24) dX11_wrong_20 (by decide) ?_
        exact r_iret (pc := 24) dX11_wrong_24 rfl rfl ⟨by first | (rw [wrA_neg (by omega)]; done) | (rw [wrA_0p (by omega) (by omega)]; done) | (rw [wrA_0n (by omega) (by omega)]; done) | (rw [wrA_1 (by omega)]; done) | (rw [wrA_1 (by omega), show ((sWy K n 2 : Nat) : Int) = 0 by omega]; done) | (rw [wrA_no (by omega) (by omega)]; done), rfl, ⟨hfn.1, hfn.2.1, hfn.2.2.1⟩⟩
  · refine r_iconst (pc := 4) dX11_wrong_4 ?_
    exact r_iret (pc := 5) dX11_wrong_5 rfl rfl ⟨by first | (rw [wrA_neg (by omega)]; done) | (rw [wrA_0p (by omega) (by omega)]; done) | (rw [wrA_0n (by omega) (by omega)]; done) | (rw [wrA_1 (by omega)]; done) | (rw [wrA_1 (by omega), show ((sWy K n 2 : Nat) : Int) = 0 by omega]; done) | (rw [wrA_no (by omega) (by omega)]; done), rfl, ⟨fun _ _ _ _ _ _ _ _ _ _ => rfl, fun _ _ _ _ _ _ => rfl, hb20⟩⟩

set_option maxRecDepth 100000 in
set_option maxHeartbeats 4000000 in
theorem x_wrong (l : Launch) (z : Zv) (d : Nat) {g : Gm} {f : Fm} {n : Nat} {K : Nat → Int} {D0 M0 : Int} (hX : XL g) (hB : BK g f 65 K) (hO : KO K D0 M0) (hD0 : D0 ≤ 1000000) (hM0 : M0 ≤ 1100000) (hn : K 77 = ((n : Nat) : Int)) (hT : TdK f K n) (hS : SrC f 145 K n 2) {w : Int} (hw : -2147483648 ≤ w ∧ w ≤ 2147483647) : PM l z (d + 6) mX10_wrong [.ref 64, .int (iI w)] g f 0 0 (fun r g' f' => r = some (.int (iI (wrA K n w))) ∧ g = g' ∧ (∀ q, q < 111 ∨ 121 < q → q < 145 ∨ 149 < q → f' q = f q) ∧ TdK f' K n ∧ SrC f' 145 K n 2) := by
  have hn8 : n ≤ 8 := by have := hO.n; omega
  have hwr := sWy_r K n 2 hn8
  have hlr := fun h => sLo_r (b := 2) hO hn h
  refine PM.of (by decide +kernel) (Nat.le_of_ble_eq_true rfl) ?_
  refine r_aload_n (pc := 0) 0 dX10_wrong_0 rfl rfl ?_
  refine r_getR (pc := 1) (b := 111) dX10_wrong_1 fl_X10_37 rfl hX.k hX.r5 ?_
  refine r_aload_n (pc := 4) 0 dX10_wrong_4 rfl rfl ?_
  refine r_getR (pc := 5) (b := 65) dX10_wrong_5 fl_X10_10 rfl hX.k hX.r0 ?_
  refine r_callV (pc := 8) (As := [(.ref 65)]) (S := []) dX10_wrong_8 cv_X10_185 hX.o5.k rfl (Nat.le_of_ble_eq_true rfl) (x_layOutK (y := 111) (b := 65) (K := K) (n := n) l z _ hX.o5 hX.o0 hB hO hD0 hn (by omega) (by omega) hM0 hT.1 hT.2) (Nat.zero_le _) (Nat.zero_le _) (fun r_8 g_8 f_8 q_8 => ?_)
  obtain ⟨rfl, rfl, hl1, hl2, hl3, hl4, hl5⟩ := q_8
  have hB1 : BK g f_8 65 K := hB.mem (fun q hq => hl1 q (by omega) (by omega) (by omega) (by omega) (by omega) (by omega) (by omega) (by omega) (by omega) (by omega))
  refine r_aload_n (pc := 11) 0 dX10_wrong_11 rfl rfl ?_
  refine r_callV (pc := 12) (As := []) (S := []) dX10_wrong_12 cv_X10_260 hX.k rfl (Nat.le_of_ble_eq_true rfl) (x_searchFalse (K := K) (n := n) l z _ hX hB1 hO hD0 hM0 hn hl2 (hS.mv (fun q h1 h2 => hl1 q (by omega) (by omega) (by omega) (by omega) (by omega) (by omega) (by omega) (by omega) (by omega) (by omega)))) (Nat.zero_le _) (Nat.zero_le _) (fun r_12 g_12 f_12 q_12 => ?_)
  obtain ⟨rfl, rfl, hs1, hs2, hs3⟩ := q_12
  have hB2 : BK g f_12 65 K := hB1.mem (fun q hq => hs1 q (by omega))
  refine r_astore_n (pc := 15) (L2 := [(2, (.ref 145)), (0, (.ref 64)), (1, (.int (iI (w))))]) dX10_wrong_15 rfl (by decide) rfl ?_
  refine r_iload_n (pc := 16) 2 dX10_wrong_16 rfl rfl ?_
  refine r_if_ne (pc := 17) (tgt := 36) dX10_wrong_17 (by decide) (by omega) (fun c_17 => ?_) (fun c_17 => ?_)
  · refine r_iload_n (pc := 36) 2 dX10_wrong_36 rfl rfl ?_
    refine r_iconst (pc := 37) dX10_wrong_37 ?_
    refine r_icmp_ne (pc := 38) (tgt := 48) dX10_wrong_38 (by decide) (by omega) (by omega) (fun c_38 => ?_) (fun c_38 => ?_)
    · refine r_aload_n (pc := 48) 0 dX10_wrong_48 rfl rfl ?_
      refine r_iload_n (pc := 49) 2 dX10_wrong_49 rfl rfl ?_
      refine r_iconst (pc := 50) dX10_wrong_50 ?_
      refine r_isub (pc := 51) dX10_wrong_51 ?_
      refine r_aload_n (pc := 52) 1 dX10_wrong_52 rfl rfl ?_
      refine r_getR (pc := 53) (b := 65) dX10_wrong_53 fl_X10_10 rfl hX.k hX.r0 ?_
      refine r_getIv (pc := 56) (x := ((n : Nat) : Int)) dX10_wrong_56 fl_X10_89 rfl hX.o0.k (hB2.n.trans hn) ?_
      refine r_callV (pc := 59) (As := [(.int (iI ((w) - (2)))), (.int (iI (((n : Nat) : Int))))]) (S := []) dX10_wrong_59 cv_X10_201 hX.o9.k rfl (Nat.le_of_ble_eq_true rfl) (x_placedW (e := 145) (n := n) (wy := sWy K n 2) l z _ hX.o9 hn8 hwr (by omega) hs3.2.1) (Nat.zero_le _) (Nat.zero_le _) (fun r_59 g_59 f_59 q_59 => ?_)
      obtain ⟨rfl, rfl, rfl⟩ := q_59
      have hrv : (if 0 < sWy K n 2 ∧ 0 ≤ w - 2 ∧ w - 2 < (n : Int) then f_12 (145 + 4) (w - 2).toNat else -1) = wrA K n w := by
        by_cases hw0 : w < 0
        · rw [wrA_neg hw0, if_neg (show ¬ (0 < sWy K n 2 ∧ 0 ≤ w - 2 ∧ w - 2 < (n : Int)) from fun h => by omega)]
        · rw [wrA_r (by omega)]
          by_cases hq : 0 < sWy K n 2 ∧ w - 2 < (n : Int)
          · rw [if_pos (show 0 < sWy K n 2 ∧ 0 ≤ w - 2 ∧ w - 2 < (n : Int) from ⟨hq.1, by omega, hq.2⟩), if_pos hq]; exact hs3.2.2 hq.1 _ (by omega)
          · rw [if_neg (show ¬ (0 < sWy K n 2 ∧ 0 ≤ w - 2 ∧ w - 2 < (n : Int)) from fun h => hq ⟨h.1, h.2.2⟩), if_neg hq]
      exact r_iret (pc := 62) dX10_wrong_62 rfl rfl ⟨by rw [hrv], rfl, ⟨fun q h1 h2 => by rw [hs1 q (by omega), hl1 q (by omega) (by omega) (by omega) (by omega) (by omega) (by omega) (by omega) (by omega) (by omega) (by omega)], ⟨Or.inr ⟨(congrFun (hs1 111 (by omega)) 9).trans hl4, hl3.mv (fun q h1 h2 => hs1 q (by omega))⟩, Or.inr ⟨(congrFun (hs1 111 (by omega)) 10).trans hl5, (congrFun (hs1 111 (by omega)) 9).trans hl4, hl3.mv (fun q h1 h2 => hs1 q (by omega)), DYo.mv hl2 (fun q h1 h2 => hs1 q (by omega))⟩⟩, Or.inr ⟨hs2, hs3⟩⟩⟩
    · refine r_aload_n (pc := 41) 0 dX10_wrong_41 rfl rfl ?_
      refine r_getIv (pc := 42) (x := ((sWy K n 2 : Nat) : Int)) dX10_wrong_42 fl_X10_195 rfl hX.o9.k (hs3.2.1) ?_
      refine r_goto (pc := 45) (tgt := 62) dX10_wrong_45 (by decide) ?_
      exact r_iret (pc := 62) dX10_wrong_62 rfl rfl ⟨by first | (rw [wrA_neg (by omega)]; done) | (rw [wrA_0p (by omega) (by omega)]; done) | (rw [wrA_0n (by omega) (by omega)]; done) | (rw [wrA_1 (by omega)]; done) | (rw [wrA_1 (by omega), show ((sWy K n 2 : Nat) : Int) = 0 by omega]; done) | (rw [wrA_no (by omega) (by omega)]; done), rfl, ⟨fun q h1 h2 => by rw [hs1 q (by omega), hl1 q (by omega) (by omega) (by omega) (by omega) (by omega) (by omega) (by omega) (by omega) (by omega) (by omega)], ⟨Or.inr ⟨(congrFun (hs1 111 (by omega)) 9).trans hl4, hl3.mv (fun q h1 h2 => hs1 q (by omega))⟩, Or.inr ⟨(congrFun (hs1 111 (by omega)) 10).trans hl5, (congrFun (hs1 111 (by omega)) 9).trans hl4, hl3.mv (fun q h1 h2 => hs1 q (by omega)), DYo.mv hl2 (fun q h1 h2 => hs1 q (by omega))⟩⟩, Or.inr ⟨hs2, hs3⟩⟩⟩
  · refine r_aload_n (pc := 20) 0 dX10_wrong_20 rfl rfl ?_
    refine r_getIv (pc := 21) (x := ((sWy K n 2 : Nat) : Int)) dX10_wrong_21 fl_X10_195 rfl hX.o9.k (hs3.2.1) ?_
    refine r_if_le (pc := 24) (tgt := 34) dX10_wrong_24 (by decide) (by omega) (fun c_24 => ?_) (fun c_24 => ?_)
    · refine r_iconst (pc := 34) dX10_wrong_34 ?_
      exact r_iret (pc := 35) dX10_wrong_35 rfl rfl ⟨by first | (rw [wrA_neg (by omega)]; done) | (rw [wrA_0p (by omega) (by omega)]; done) | (rw [wrA_0n (by omega) (by omega)]; done) | (rw [wrA_1 (by omega)]; done) | (rw [wrA_1 (by omega), show ((sWy K n 2 : Nat) : Int) = 0 by omega]; done) | (rw [wrA_no (by omega) (by omega)]; done), rfl, ⟨fun q h1 h2 => by rw [hs1 q (by omega), hl1 q (by omega) (by omega) (by omega) (by omega) (by omega) (by omega) (by omega) (by omega) (by omega) (by omega)], ⟨Or.inr ⟨(congrFun (hs1 111 (by omega)) 9).trans hl4, hl3.mv (fun q h1 h2 => hs1 q (by omega))⟩, Or.inr ⟨(congrFun (hs1 111 (by omega)) 10).trans hl5, (congrFun (hs1 111 (by omega)) 9).trans hl4, hl3.mv (fun q h1 h2 => hs1 q (by omega)), DYo.mv hl2 (fun q h1 h2 => hs1 q (by omega))⟩⟩, Or.inr ⟨hs2, hs3⟩⟩⟩
    · refine r_aload_n (pc := 27) 0 dX10_wrong_27 rfl rfl ?_
      refine r_getIv (pc := 28) (x := sLo K n 2) dX10_wrong_28 fl_X10_198 rfl hX.o9.k (hs3.1) ?_
      refine r_goto (pc := 31) (tgt := 35) dX10_wrong_31 (by decide) ?_
      exact r_iret (pc := 35) dX10_wrong_35 rfl rfl ⟨by first | (rw [wrA_neg (by omega)]; done) | (rw [wrA_0p (by omega) (by omega)]; done) | (rw [wrA_0n (by omega) (by omega)]; done) | (rw [wrA_1 (by omega)]; done) | (rw [wrA_1 (by omega), show ((sWy K n 2 : Nat) : Int) = 0 by omega]; done) | (rw [wrA_no (by omega) (by omega)]; done), rfl, ⟨fun q h1 h2 => by rw [hs1 q (by omega), hl1 q (by omega) (by omega) (by omega) (by omega) (by omega) (by omega) (by omega) (by omega) (by omega) (by omega)], ⟨Or.inr ⟨(congrFun (hs1 111 (by omega)) 9).trans hl4, hl3.mv (fun q h1 h2 => hs1 q (by omega))⟩, Or.inr ⟨(congrFun (hs1 111 (by omega)) 10).trans hl5, (congrFun (hs1 111 (by omega)) 9).trans hl4, hl3.mv (fun q h1 h2 => hs1 q (by omega)), DYo.mv hl2 (fun q h1 h2 => hs1 q (by omega))⟩⟩, Or.inr ⟨hs2, hs3⟩⟩⟩

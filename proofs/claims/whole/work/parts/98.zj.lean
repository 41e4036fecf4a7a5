/-! row -/
theorem xrw_ok {g : Gm} {f : Fm} (hI : Inv g f) (c0 : Int) {t : Nat} : ∀ j, 3 * j ≤ t → KO (rwS (f 170) (f 166) c0 j).1 9999 999999 ∧ BK g (xrw f t j).1 65 (rwS (f 170) (f 166) c0 j).1 ∧ (xrw f t j).2 = (rwS (f 170) (f 166) c0 j).2.1 ∧ (xrw f t j).1 64 15 = (rwS (f 170) (f 166) c0 j).2.2 - c0 ∧ ∀ q, q ≠ 64 → q ≠ 65 → q ≠ 66 → (xrw f t j).1 q = f q
  | 0, _ => ⟨hI.KO, hI.BK.mem (fun q hq => stF_n _ _ _ (by omega)), rfl, by show stF f 64 15 0 64 15 = c0 - c0; rw [stF_s]; omega, fun q a _ _ => stF_n _ _ _ a⟩
  | j + 1, h => by
    obtain ⟨i1, i2, i3, i4, i5⟩ := xrw_ok hI c0 (t := t) j (by omega)
    have hS := hI.T.2.2.2
    have s0 := hS (3 * j)
    have s1 := hS (3 * j + 1)
    have s2 := hS (3 * j + 2)
    have e8 : (xrw f t j).1 108 = f 108 := i5 108 (by decide) (by decide) (by decide)
    have e5 : (xrw f t j).1 65 5 = (rwS (f 170) (f 166) c0 j).1 77 := i2.n
    rw [xrw, rwS]
    unfold welT
    rw [e8, e5]
    generalize xrw f t j = X at i2 i3 i4 i5 e8 e5 ⊢
    generalize rwS (f 170) (f 166) c0 j = R at i1 i2 i3 i4 e5 ⊢
    by_cases c : R.1 77 < 8 ∧ (0 ≤ f 170 (3 * j) ∧ f 170 (3 * j) ≤ 40) ∧ (0 ≤ f 170 (3 * j + 1) ∧ f 170 (3 * j + 1) ≤ 9) ∧ (0 ≤ f 170 (3 * j + 2) ∧ f 170 (3 * j + 2) ≤ 1)
    · have c' : 3 * j + 3 ≤ t ∧ R.1 77 < 8 ∧ (0 ≤ f 108 (3 * j) ∧ f 108 (3 * j) ≤ 40) ∧ (0 ≤ f 108 (3 * j + 1) ∧ f 108 (3 * j + 1) ≤ 9) ∧ (0 ≤ f 108 (3 * j + 2) ∧ f 108 (3 * j + 2) ≤ 1) := by omega
      have v0 : f 108 (3 * j) = f 170 (3 * j) := by omega
      have v1 : f 108 (3 * j + 1) = f 170 (3 * j + 1) := by omega
      have v2 : f 108 (3 * j + 2) = f 170 (3 * j + 2) := by omega
      rw [if_pos c, if_pos c', v0, v1, v2]
      refine ⟨i1.add c.1 c.2.1 c.2.2.1 c.2.2.2, ?_, by show X.2 + 1 = R.2.1 + 1; rw [i3], ?_, fun q a1 a2 a3 => ?_⟩
      · show BK g (wel X.1 65 (f 170 (3 * j)) (f 170 (3 * j + 1)) (f 170 (3 * j + 2)) (R.1 77)) 65 (addK R.1 (f 170 (3 * j)) (f 170 (3 * j + 1)) (f 170 (3 * j + 2)))
        refine i2.add i1 c.1 (fun q hq => wel_o _ _ _ _ _ _ (by omega) (by omega)) (wel_5 _ _ _ _ _ _) ?_ ?_ rfl
        · simp [wel, stF]
        · simp [wel, stF]
      · show wel X.1 65 (f 170 (3 * j)) (f 170 (3 * j + 1)) (f 170 (3 * j + 2)) (R.1 77) 64 15 = R.2.2 - c0
        rw [wel_o _ _ _ _ _ _ (by decide) (by decide)]; exact i4
      · show wel X.1 65 (f 170 (3 * j)) (f 170 (3 * j + 1)) (f 170 (3 * j + 2)) (R.1 77) q = f q
        rw [wel_o _ _ _ _ _ _ a2 (by omega)]; exact i5 q a1 a2 a3
    · have c' : ¬ (3 * j + 3 ≤ t ∧ R.1 77 < 8 ∧ (0 ≤ f 108 (3 * j) ∧ f 108 (3 * j) ≤ 40) ∧ (0 ≤ f 108 (3 * j + 1) ∧ f 108 (3 * j + 1) ≤ 9) ∧ (0 ≤ f 108 (3 * j + 2) ∧ f 108 (3 * j + 2) ≤ 1)) := by omega
      rw [if_neg c, if_neg c']
      refine ⟨i1, i2.mem (fun q hq => stF_n _ _ _ ?_), i3, ?_, fun q a1 a2 a3 => ?_⟩
      · omega
      · show stF X.1 64 15 (X.1 64 15 + 1) 64 15 = R.2.2 + 1 - c0
        rw [stF_s, i4]; omega
      · show stF X.1 64 15 (X.1 64 15 + 1) q = f q
        rw [stF_n _ _ _ a1]; exact i5 q a1 a2 a3
theorem xrw_end {g : Gm} {f : Fm} (hI : Inv g f) {t : Nat} (ht : f 164 9 = (t : Int)) : KO (rwF f).1 9999 999999 ∧ BK g (xrw f t ((f 164 9 + 2) / 3).toNat).1 65 (rwF f).1 ∧ (xrw f t ((f 164 9 + 2) / 3).toNat).2 = (rwF f).2.1 ∧ (xrw f t ((f 164 9 + 2) / 3).toNat).1 64 15 = (rwF f).2.2 ∧ ∀ q, q ≠ 64 → q ≠ 65 → q ≠ 66 → (xrw f t ((f 164 9 + 2) / 3).toNat).1 q = f q := by
  unfold rwF
  rw [ht]
  have eN : ((t : Int) / 3).toNat = t / 3 := by omega
  rw [eN]
  by_cases h3 : (t : Int) % 3 = 0
  · rw [if_pos h3, show (((t : Int) + 2) / 3).toNat = t / 3 by omega]
    obtain ⟨i1, i2, i3, i4, i5⟩ := xrw_ok hI 0 (t := t) (t / 3) (by omega)
    exact ⟨i1, i2, i3, by rw [i4]; omega, i5⟩
  · rw [if_neg h3, show (((t : Int) + 2) / 3).toNat = t / 3 + 1 by omega]
    obtain ⟨i1, i2, i3, i4, i5⟩ := xrw_ok hI 1 (t := t) (t / 3) (by omega)
    rw [xrw, if_neg (by omega)]
    refine ⟨i1, i2.mem (fun q hq => stF_n _ _ _ ?_), i3, ?_, fun q a1 a2 a3 => ?_⟩
    · omega
    · show stF (xrw f t (t / 3)).1 64 15 ((xrw f t (t / 3)).1 64 15 + 1) 64 15 = _
      rw [stF_s, i4]; omega
    · show stF (xrw f t (t / 3)).1 64 15 ((xrw f t (t / 3)).1 64 15 + 1) q = f q
      rw [stF_n _ _ _ a1]; exact i5 q a1 a2 a3
theorem stF_id {f : Fm} {a i : Nat} {v : Int} (h : f a i = v) : stF f a i v = f := by
  funext q j
  unfold stF
  split
  · rename_i hq; obtain ⟨rfl, rfl⟩ := hq; exact h.symm
  · rfl
theorem xnRow_o {g : Gm} {f : Fm} (hI : Inv g f) {t : Nat} (ht : f 164 9 = (t : Int)) {q : Nat} (h : 164 ≤ q) : xnRow f q = f q := by
  unfold xnRow
  rw [hI.T.1]
  split
  · exact xrf_o _ _ (by omega) (by omega)
  · rw [stF_n _ _ _ (by omega), drp_n _ (by omega) (by omega) (by omega) (by omega) (by omega), stF_n _ _ _ (by omega), show (f 164 9).toNat = t by omega]
    exact (xrw_end hI ht).2.2.2.2 q (by omega) (by omega) (by omega)
theorem op_row (l : Launch) (z : Zv) : OpOK l z Inv mX10_row mX11_row [] := by
  intro g f hI
  obtain ⟨t1, t2, t3, t4⟩ := hI.T
  obtain ⟨t, ht⟩ : ∃ t : Nat, f 164 9 = (t : Int) := ⟨(f 164 9).toNat, by omega⟩
  refine PM.mono (PM.room (x_row l z 297 hI.X (by rw [t1]; exact ht) (by omega) hI.n5 (fun i => (t4 i).1)) (Nat.zero_le _) (Nat.zero_le _)) (fun r0 g1 f1 hq => ?_)
  obtain ⟨rfl, rfl, rfl⟩ := hq
  have e0 : ∀ q, 164 ≤ q → xnRow f q = f q := fun q hq => xnRow_o hI ht hq
  obtain ⟨x, hx, hr⟩ := inIt (xaRow f)
  refine ⟨x, hx, hr, hI.M.k, PM.mono (m_row l z 298 hI.M (by rw [e0 166 (by decide)]; exact hI.KO.n) (by rw [e0 164 (by decide)]; exact ht) (by omega) (fun i => by rw [e0 170 (by decide)]; have := t4 i; omega)) (fun r0 g2 f2 hq => ?_)⟩
  obtain ⟨rfl, rfl, rfl⟩ := hq
  have er : rwF (xnRow f) = rwF f := by unfold rwF; rw [e0 170 (by decide), e0 166 (by decide), e0 164 (by decide)]
  unfold aRow nRow xaRow
  rw [er, e0 164 (by decide), t1]
  obtain ⟨k1, k2, k3, k4, k5⟩ := xrw_end hI ht
  have et : (f 164 9).toNat = t := by omega
  by_cases c1 : f 164 9 = 0
  · rw [if_pos c1, if_pos c1, if_pos c1]
    refine ⟨rfl, ?_⟩
    rw [stF_id (show xnRow f 164 9 = 0 by rw [e0 164 (by decide)]; exact c1)]
    unfold xnRow
    rw [t1, if_pos c1]
    exact hI.ref (by unfold rfK; omega)
  · rw [if_neg c1, if_neg c1, if_neg c1, et]
    refine ⟨by rw [k3], ?_⟩
    unfold xnRow
    rw [t1, if_neg c1, et]
    generalize xrw f t ((f 164 9 + 2) / 3).toNat = X at k2 k3 k4 k5 ⊢
    generalize rwF f = R at k1 k2 k3 k4 ⊢
    generalize hF : gd (rwM (stF (stF (drp (stF X.1 107 4 0)) 64 16 0) 164 9 0) R.1 R.2.2) = F
    have ho : ∀ q, q ≠ 164 → q ≠ 166 → q ≠ 64 → F q = drp (stF X.1 107 4 0) q := fun q a1 a2 a3 => by rw [← hF, gd_n _ a1, rwM_o _ _ _ a2 a1, stF_n _ _ _ a1, stF_n _ _ _ a3]
    have ho2 : ∀ q, q ≠ 164 → q ≠ 166 → q ≠ 64 → q ≠ 111 → q ≠ 135 → q ≠ 140 → q ≠ 145 → q ≠ 150 → q ≠ 107 → F q = X.1 q := fun q a1 a2 a3 a4 a5 a6 a7 a8 a9 => by rw [ho q a1 a2 a3, drp_n _ a4 a5 a6 a7 a8, stF_n _ _ _ a9]
    have hq : ∀ q, 75 ≤ q → q ≠ 164 → q ≠ 166 → q ≠ 111 → q ≠ 135 → q ≠ 140 → q ≠ 145 → q ≠ 150 → q ≠ 107 → F q = f q := fun q a0 a1 a2 a4 a5 a6 a7 a8 a9 => by rw [ho2 q a1 a2 (by omega) a4 a5 a6 a7 a8 a9, k5 q (by omega) (by omega) (by omega)]
    have h166 : F 166 = R.1 := by rw [← hF, gd_n _ (by decide), rwM_k]
    have h164 : ∀ i, i ≠ 0 → i ≠ 5 → i ≠ 9 → F 164 i = f 164 i := fun i a0 a5 a9 => by
      rw [← hF, gd_i _ a0]
      unfold rwM
      rw [stF_i _ _ _ a5, updA_n _ _ (by decide), stF_i _ _ _ a9, stF_n _ _ _ (by decide), drp_n _ (by decide) (by decide) (by decide) (by decide) (by decide), stF_n _ _ _ (by decide), k5 164 (by decide) (by decide) (by decide)]
    have h5 : F 164 5 = R.2.2 := by rw [← hF, gd_i _ (by decide), rwM_c]
    have h9 : F 164 9 = 0 := by
      rw [← hF, gd_i _ (by decide)]
      unfold rwM
      rw [stF_i _ _ _ (by decide), updA_n _ _ (by decide), stF_s]
    have h0 : F 164 0 = 0 := by rw [← hF, gd_0]
    have h64 : F 64 = upK (X.1 64) 16 0 := by rw [← hF, gd_n _ (by decide), rwM_o _ _ _ (by decide) (by decide), stF_n _ _ _ (by decide), stF_u, drp_n _ (by decide) (by decide) (by decide) (by decide) (by decide), stF_n _ _ _ (by decide)]
    have h107 : F 107 = upK (f 107) 4 0 := by rw [ho 107 (by decide) (by decide) (by decide), drp_n _ (by decide) (by decide) (by decide) (by decide) (by decide), stF_u, k5 107 (by decide) (by decide) (by decide)]
    have dr := drp_0 (stF X.1 107 4 0)
    refine ⟨hI.G, ⟨by rw [h166]; exact k1, ?_⟩, hI.I.mv (fun q p => hq q (by omega) (by omega) (by omega) (by omega) (by omega) (by omega) (by omega) (by omega) (by omega)), hI.R.mv (hq _ (by decide) (by decide) (by decide) (by decide) (by decide) (by decide) (by decide) (by decide) (by decide)) (hq _ (by decide) (by decide) (by decide) (by decide) (by decide) (by decide) (by decide) (by decide) (by decide)), ⟨by rw [h64, upK_s, h0], by rw [h64, upK_n _ _ (by decide), h5]; exact k4⟩, ⟨by rw [h107, upK_s, h9], by rw [h9]; decide, by rw [h107, upK_n _ _ (by decide), h164 10 (by decide) (by decide) (by decide)]; exact t3, by rw [hq 170 (by decide) (by decide) (by decide) (by decide) (by decide) (by decide) (by decide) (by decide) (by decide), hq 108 (by decide) (by decide) (by decide) (by decide) (by decide) (by decide) (by decide) (by decide) (by decide)]; exact t4⟩, hI.D.mv (congrFun (hq 157 (by decide) (by decide) (by decide) (by decide) (by decide) (by decide) (by decide) (by decide) (by decide)) _) (h164 43 (by decide) (by decide) (by decide)) (hq _ (by decide) (by decide) (by decide) (by decide) (by decide) (by decide) (by decide) (by decide) (by decide)) (hq _ (by decide) (by decide) (by decide) (by decide) (by decide) (by decide) (by decide) (by decide) (by decide)) (hq _ (by decide) (by decide) (by decide) (by decide) (by decide) (by decide) (by decide) (by decide) (by decide)) (hq _ (by decide) (by decide) (by decide) (by decide) (by decide) (by decide) (by decide) (by decide) (by decide)), hI.W.mv (hq _ (by decide) (by decide) (by decide) (by decide) (by decide) (by decide) (by decide) (by decide) (by decide)) (by rw [h164 20 (by decide) (by decide) (by decide)]; exact hI.W.2), IC.dr (by rw [ho 111 (by decide) (by decide) (by decide)]; exact dr.1) (by rw [ho 111 (by decide) (by decide) (by decide)]; exact dr.2.1) (by rw [ho 135 (by decide) (by decide) (by decide)]; exact dr.2.2.1) (by rw [ho 140 (by decide) (by decide) (by decide)]; exact dr.2.2.2.1) (by rw [ho 145 (by decide) (by decide) (by decide)]; exact dr.2.2.2.2.1) (by rw [ho 150 (by decide) (by decide) (by decide)]; exact dr.2.2.2.2.2)⟩
    rw [h166]
    have hg := hI.g195
    exact k2.mem (fun q p => ho2 q (by omega) (by omega) (by omega) (by omega) (by omega) (by omega) (by omega) (by omega) (by omega))

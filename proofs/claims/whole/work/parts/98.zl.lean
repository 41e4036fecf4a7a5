theorem xrf_161 (f : Fm) (k : Int) : xrf f k 161 = upK (f 161) (if -4 < k then -k - 1 else -k - 2).toNat (f 161 (if -4 < k then -k - 1 else -k - 2).toNat + 1) := by unfold xrf; rw [stF_n _ _ _ (by decide), stF_u]
theorem rfs_165 (f : Fm) (k : Int) : rfs f k 165 = upK (f 165) (-k).toNat (f 165 (-k).toNat + 1) := by unfold rfs; rw [stF_u, stF_n _ _ _ (by decide)]
theorem inv_bad {g : Gm} {f fe F1 : Fm} {t T x : Nat} (hI : Inv g f) (hC : CF 107 t f fe) (h3 : fe 107 3 = ((pl (f 108) t x : Nat) : Int)) (hR : RdP (xrf (stF fe 107 4 0) (-6)) F1 (f 108) t T) (h10 : F1 164 10 = ((pl (f 108) t x : Nat) : Int)) : Inv g (rfs F1 (-6)) := by
  obtain ⟨t1, t2, t3, t4⟩ := hI.T
  obtain ⟨c1, c2⟩ := hC
  obtain ⟨r4, ro, ri, r9, r14, rl, re, rt⟩ := hR
  have hr : ∀ q, q ≠ 164 → q ≠ 165 → q ≠ 172 → q ≠ 173 → q ≠ 174 → q ≠ 64 → q ≠ 161 → q ≠ 107 → q ≠ 109 → q ≠ 110 → rfs F1 (-6) q = f q := fun q a1 a2 a3 a4 a5 a6 a7 a8 a9 a10 => by rw [rfs_o _ _ a1 a2, ro q a1 a3 a4 a5, xrf_o _ _ a6 a7, stF_n _ _ _ a8, c1 q a8 (by omega) (by omega)]
  have hi : ∀ i, i ≠ 0 → i ≠ 9 → i ≠ 10 → i ≠ 14 → i ≠ 15 → i ≠ 16 → i ≠ 17 → rfs F1 (-6) 164 i = f 164 i := fun i a0 a1 a2 a3 a4 a5 a6 => by rw [rfs_i _ _ a0, ri i a1 a2 a3 a4 a5 a6, xrf_o _ _ (by decide) (by decide), stF_n _ _ _ (by decide), c1 164 (by decide) (by decide) (by decide)]
  have h107 : rfs F1 (-6) 107 = upK (fe 107) 4 0 := by rw [rfs_o _ _ (by decide) (by decide), ro 107 (by decide) (by decide) (by decide) (by decide), xrf_o _ _ (by decide) (by decide), stF_u]
  have h64 : rfs F1 (-6) 64 = xrf (stF fe 107 4 0) (-6) 64 := by rw [rfs_o _ _ (by decide) (by decide), ro 64 (by decide) (by decide) (by decide) (by decide)]
  refine hI.fr (fun q hq => hr q (by omega) (by omega) (by omega) (by omega) (by omega) (by omega) (by omega) (by omega) (by omega) (by omega)) (hI.R.rf (k := -6) (by unfold rfK; omega) ?_ ?_) ⟨?_, ?_⟩ ⟨?_, ?_, ?_, ?_⟩ (hI.D.mv (congrFun (hr 157 (by decide) (by decide) (by decide) (by decide) (by decide) (by decide) (by decide) (by decide) (by decide) (by decide)) _) (hi 43 (by decide) (by decide) (by decide) (by decide) (by decide) (by decide) (by decide)) (hr _ (by decide) (by decide) (by decide) (by decide) (by decide) (by decide) (by decide) (by decide) (by decide) (by decide)) (hr _ (by decide) (by decide) (by decide) (by decide) (by decide) (by decide) (by decide) (by decide) (by decide) (by decide)) (hr _ (by decide) (by decide) (by decide) (by decide) (by decide) (by decide) (by decide) (by decide) (by decide) (by decide)) (hr _ (by decide) (by decide) (by decide) (by decide) (by decide) (by decide) (by decide) (by decide) (by decide) (by decide))) (hI.W.mv (hr _ (by decide) (by decide) (by decide) (by decide) (by decide) (by decide) (by decide) (by decide) (by decide) (by decide)) (by rw [hi 20 (by decide) (by decide) (by decide) (by decide) (by decide) (by decide) (by decide)]; exact hI.W.2))
  · rw [rfs_o _ _ (by decide) (by decide), ro 161 (by decide) (by decide) (by decide) (by decide)]
    rw [xrf_161, xrf_161, stF_n _ _ _ (by decide), c1 161 (by decide) (by decide) (by decide)]
  · rw [rfs_165, rfs_165, ro 165 (by decide) (by decide) (by decide) (by decide), xrf_o _ _ (by decide) (by decide), stF_n _ _ _ (by decide), c1 165 (by decide) (by decide) (by decide)]
  · rw [h64, xrf_16, rfs_0]
  · rw [h64, xrf_15, stF_n _ _ _ (by decide), c1 64 (by decide) (by decide) (by decide), hi 5 (by decide) (by decide) (by decide) (by decide) (by decide) (by decide) (by decide)]; exact hI.S.2
  · rw [h107, upK_s, rfs_i _ _ (by decide), r9]
  · rw [rfs_i _ _ (by decide), r9]; decide
  · rw [h107, upK_n _ _ (by decide), h3, rfs_i _ _ (by decide), h10]
  · rw [hr 170 (by decide) (by decide) (by decide) (by decide) (by decide) (by decide) (by decide) (by decide) (by decide) (by decide), hr 108 (by decide) (by decide) (by decide) (by decide) (by decide) (by decide) (by decide) (by decide) (by decide) (by decide)]; exact t4
theorem op_law (l : Launch) (z : Zv) : OpOK l z Inv mX10_law mX11_law [] := by
  intro g f hI
  have hg := hI.g195
  obtain ⟨t1, t2, t3, t4⟩ := hI.T
  have hby : ∀ i, 0 ≤ f 108 i ∧ f 108 i ≤ 255 := fun i => (t4 i).1
  obtain ⟨t, ht⟩ : ∃ t : Nat, f 164 9 = ((t : Nat) : Int) := ⟨(f 164 9).toNat, by omega⟩
  have h80 := hI.KO.nl
  obtain ⟨nl, hnl⟩ : ∃ nl : Nat, f 166 80 = ((nl : Nat) : Int) := ⟨(f 166 80).toNat, by omega⟩
  have e6 : f 65 6 = f 166 80 := hI.BK.nl
  have ht4 : t ≤ 400 := by omega
  have hn6 : nl ≤ 6 := by omega
  refine PM.mono (x_law l z (t := t) (nl := nl) hI.X (by rw [e6]; exact hnl) hn6 (by rw [t1]; exact ht) ht4 hby hg (D := 300) (by decide)) (fun r0 g1 f1 hq => ?_)
  rcases hq with ⟨h6, rfl, rfl, rfl⟩ | ⟨h6, x, fe, hs, rfl, rfl, h3, hC, rfl⟩ | ⟨h6, cls, g1', fe, hs, rfl, hgx, hgn, hL, h3, hrow, rfl, rfl⟩
  · have e0 : ∀ q, 164 ≤ q → xrf (stF f 107 4 0) (-5) q = f q := fun q hq => by rw [xrf_o _ _ (by omega) (by omega), stF_n _ _ _ (by omega)]
    refine ⟨-5, by decide, rfl, hI.M.k, PM.mono (m_law l z (A := f 170) (B := f 108) (t := t) (nl := nl) hI.M (fun k hk => by rw [e0 169 (by decide)]; exact hI.W.1 k hk) (fun i => by rw [e0 170 (by decide)]) t4 (by rw [e0 164 (by decide)]; exact ht) ht4 (by rw [e0 166 (by decide)]; exact hnl) hn6 (D := 300) (by decide)) (fun r0 g2 f2 hq => ?_)⟩
    obtain ⟨rfl, hq⟩ := hq
    rcases hq with ⟨q6, rfl, rfl⟩ | ⟨q6, _⟩ | ⟨q6, _⟩
    · refine ⟨rfl, ?_⟩
      rw [← xrf_st (by decide) (by decide)]
      exact (inv_cut hI).ref (by unfold rfK; omega)
    · exact absurd q6 (by omega)
    · exact absurd q6 (by omega)
  · have hcf := hC.1
    have e0 : ∀ q, 164 ≤ q → xrf (stF fe 107 4 0) (-6) q = f q := fun q hq => by rw [xrf_o _ _ (by omega) (by omega), stF_n _ _ _ (by omega), hcf q (by omega) (by omega) (by omega)]
    refine ⟨-6, by decide, rfl, hI.M.k, PM.mono (m_law l z (A := f 170) (B := f 108) (t := t) (nl := nl) hI.M (fun k hk => by rw [e0 169 (by decide)]; exact hI.W.1 k hk) (fun i => by rw [e0 170 (by decide)]) t4 (by rw [e0 164 (by decide)]; exact ht) ht4 (by rw [e0 166 (by decide)]; exact hnl) hn6 (D := 300) (by decide)) (fun r0 g2 f2 hq => ?_)⟩
    obtain ⟨rfl, hq⟩ := hq
    rcases hq with ⟨q6, _⟩ | ⟨q6, T, F1, x2, hR, hs2, h10, rfl, rfl⟩ | ⟨q6, T, F1, cls, hR, hs2, _⟩
    · exact absurd q6 (by omega)
    · rw [hs] at hs2
      cases hs2
      exact ⟨rfl, inv_bad hI hC h3 hR h10⟩
    · rw [hs] at hs2; cases hs2
  · have e0 : ∀ q, 164 ≤ q → q < gnx g → stF (stF (stF fe 107 4 0) 65 6 ((nl + 1 : Nat) : Int)) 64 16 0 q = f q := fun q hq hq2 => by rw [stF_n _ _ _ (by omega), stF_n _ _ _ (by omega), stF_n _ _ _ (by omega), hrow q (by omega) (by omega) (by omega) hq2]
    have hM : ML (stR g1' 68 nl (some (gnx g + 2))) := ML_st (hI.M.gx hgx) (hI.X.gx hgx) _ _
    refine ⟨((nl : Nat) : Int), by omega, rfl, hM.k, PM.mono (m_law l z (A := f 170) (B := f 108) (t := t) (nl := nl) hM (fun k hk => by rw [e0 169 (by decide) (by omega)]; exact hI.W.1 k hk) (fun i => by rw [e0 170 (by decide) (by omega)]) t4 (by rw [e0 164 (by decide) (by omega)]; exact ht) ht4 (by rw [e0 166 (by decide) (by omega)]; exact hnl) hn6 (D := 300) (by decide)) (fun r0 g2 f2 hq => ?_)⟩
    obtain ⟨rfl, hq⟩ := hq
    rcases hq with ⟨q6, _⟩ | ⟨q6, T, F1, x2, hR, hs2, _⟩ | ⟨q6, T, F1, cls2, hR, hs2, h10, hT1, rfl, k80, hKw, hFo, hF0, hFi⟩
    · exact absurd q6 (by omega)
    · rw [hs] at hs2; cases hs2
    · exact ⟨rfl, inv_law hI hnl h6 hs hgx hL h3 hrow hR h10 hT1 k80 hKw hFo hF0 hFi⟩

/-! image, back -/
theorem imU_y {F G : Nat → Int} {s j i : Nat} (h : s ≤ i ∧ i < s + j) : imU F G s j i = F (i - s) := by unfold imU; rw [if_pos h]
theorem imU_n {F G : Nat → Int} {s j i : Nat} (h : ¬ (s ≤ i ∧ i < s + j)) : imU F G s j i = G i := by unfold imU; rw [if_neg h]
theorem inv_im0 {g : Gm} {f : Fm} (h : Inv g f) : Inv (cpR g 68 89 6) (gd (stF (updA (stF (stF (cpB f 86 65) 106 0 1) 64 16 0) 167 (imU (f 166) (f 167) 0 4888)) 168 0 1)) := by
  generalize hF : gd (stF (updA (stF (stF (cpB f 86 65) 106 0 1) 64 16 0) 167 (imU (f 166) (f 167) 0 4888)) 168 0 1) = F
  have ho : ∀ q, q ≠ 64 → q ≠ 106 → q ≠ 164 → q ≠ 167 → q ≠ 168 → F q = cpB f 86 65 q := fun q a1 a2 a3 a4 a5 => by rw [← hF, gd_n _ a3, stF_n _ _ _ a5, updA_n _ _ a4, stF_n _ _ _ a1, stF_n _ _ _ a2]
  have hr : ∀ q, q ≠ 64 → q ≠ 106 → q ≠ 164 → q ≠ 167 → q ≠ 168 → (q < 86 ∨ 95 < q) → F q = f q := fun q a1 a2 a3 a4 a5 a6 => by rw [ho q a1 a2 a3 a4 a5, cpB_n (by omega)]
  have h167 : F 167 = imU (f 166) (f 167) 0 4888 := by rw [← hF, gd_n _ (by decide), stF_n _ _ _ (by decide), updA_s]
  have h168 : F 168 = upK (f 168) 0 1 := by rw [← hF, gd_n _ (by decide), stF_u, updA_n _ _ (by decide), stF_n _ _ _ (by decide), stF_n _ _ _ (by decide), cpB_n (by omega)]
  have h106 : F 106 = upK (f 106) 0 1 := by rw [← hF, gd_n _ (by decide), stF_n _ _ _ (by decide), updA_n _ _ (by decide), stF_n _ _ _ (by decide), stF_u, cpB_n (by omega)]
  have h64 : F 64 = upK (f 64) 16 0 := by rw [← hF, gd_n _ (by decide), stF_n _ _ _ (by decide), updA_n _ _ (by decide), stF_u, stF_n _ _ _ (by decide), cpB_n (by omega)]
  have h164 : F 164 = upK (f 164) 0 0 := by rw [← hF]; unfold gd; rw [stF_u, stF_n _ _ _ (by decide), updA_n _ _ (by decide), stF_n _ _ _ (by decide), stF_n _ _ _ (by decide), cpB_n (by omega)]
  have hq : ∀ q, 106 < q → q ≠ 164 → q ≠ 167 → q ≠ 168 → F q = f q := fun q a1 a2 a3 a4 => hr q (by omega) (by omega) a2 a3 a4 (by omega)
  have hi : ∀ i, i ≠ 0 → F 164 i = f 164 i := fun i a => by rw [h164, upK_n _ _ a]
  have hG : IG (cpR g 68 89 6) := h.G.cp (show TX g 68 from h.BK.lk) h.X.i0.a2.1
  have h166 : F 166 = f 166 := hq 166 (by decide) (by decide) (by decide) (by decide)
  have hrow : ∀ {r : Nat} {K : Nat → Int}, r + 9 < 106 → 65 ≤ r → BK (cpR g 68 89 6) (cpB f 86 65) r K → BK (cpR g 68 89 6) F r K := fun a1 a2 a3 => a3.mem (fun q p => by
    have hg : 195 ≤ gnx g := h.g195
    exact ho q (by omega) (by omega) (by omega) (by omega) (by omega))
  have hBc : BK (cpR g 68 89 6) F 65 (f 166) := hrow (by decide) (by decide) (h.BK.cpo (b := 86) (q := 65) (by omega) (by decide))
  refine ⟨hG, ⟨by rw [h166]; exact h.KO, by rw [h166]; exact hBc⟩, ?_, h.R.mv (hq _ (by decide) (by decide) (by decide) (by decide)) (hq _ (by decide) (by decide) (by decide) (by decide)), ⟨by rw [h64, h164, upK_s, upK_s], by rw [h64, hi 5 (by decide), upK_n _ _ (by decide)]; exact h.S.2⟩, h.T.mv (congrFun (hq 107 (by decide) (by decide) (by decide) (by decide)) _) (congrFun (hq 107 (by decide) (by decide) (by decide) (by decide)) _) (hi 9 (by decide)) (hi 10 (by decide)) (hq _ (by decide) (by decide) (by decide) (by decide)) (hq _ (by decide) (by decide) (by decide) (by decide)), h.D.mv (congrFun (hq 157 (by decide) (by decide) (by decide) (by decide)) _) (hi 43 (by decide)) (hq _ (by decide) (by decide) (by decide) (by decide)) (hq _ (by decide) (by decide) (by decide) (by decide)) (hq _ (by decide) (by decide) (by decide) (by decide)) (hq _ (by decide) (by decide) (by decide) (by decide)), h.W.mv (hq _ (by decide) (by decide) (by decide) (by decide)) (by rw [hi 20 (by decide)]; exact h.W.2), h.C.mv (fun q p => hq q (by omega) (by omega) (by omega) (by omega))⟩
  intro k hk
  rw [h106, h168]
  by_cases hkk : k = 0
  · subst hkk
    rw [upK_s, upK_s]
    have he : ∀ j, j < 4888 → kR F 0 j = f 166 j := fun j hj => by unfold kR; rw [h167, imU_y (by omega), show 4888 * 0 + j - 0 = j by omega]
    refine ⟨rfl, Or.inr ⟨rfl, h.KO.eq he, ?_⟩⟩
    have h1 : BK (cpR g (65 + 3) (86 + 3) 6) (cpB f 86 65) 86 (f 166) := h.BK.cp h.KO (by omega) (by decide) h.G.2.2.2.2.1
    exact (hrow (by decide) (by decide) h1).eq h.KO he
  · have hk2 : k = 1 := by omega
    subst hk2
    rw [upK_n _ _ (by decide), upK_n _ _ (by decide)]
    have he : ∀ j, j < 4888 → kR F 1 j = kR f 1 j := fun j hj => by unfold kR; rw [h167, imU_n (by omega)]
    refine ⟨(h.I 1 (by decide)).1, (h.I 1 (by decide)).2.imp id (fun p => ⟨p.1, p.2.1.eq he, ?_⟩)⟩
    exact (hrow (by decide) (by decide) (p.2.2.cpo (b := 86) (q := 65) (by omega) (by decide))).eq p.2.1 he
theorem inv_bk0 {g : Gm} {f : Fm} (h : Inv g f) (hk : f 168 0 = 1) : Inv (cpR g 89 68 6) (gd (updA (stF (drp (cpB f 65 86)) 64 16 0) 166 (imU (fun i => f 167 (0 + i)) (f 166) 0 4888))) := by
  generalize hF : gd (updA (stF (drp (cpB f 65 86)) 64 16 0) 166 (imU (fun i => f 167 (0 + i)) (f 166) 0 4888)) = F
  obtain ⟨hkO, hkB⟩ : KO (kR f 0) 9999 999999 ∧ BK g f 86 (kR f 0) := by
    rcases (h.I 0 (by decide)).2 with p | p
    · rw [hk] at p; exact absurd p (by decide)
    · exact p.2
  have ho : ∀ q, q ≠ 64 → q ≠ 164 → q ≠ 166 → F q = drp (cpB f 65 86) q := fun q a1 a2 a3 => by rw [← hF, gd_n _ a2, updA_n _ _ a3, stF_n _ _ _ a1]
  have hr : ∀ q, q ≠ 64 → q ≠ 164 → q ≠ 166 → q ≠ 111 → q ≠ 135 → q ≠ 140 → q ≠ 145 → q ≠ 150 → F q = cpB f 65 86 q := fun q a1 a2 a3 a4 a5 a6 a7 a8 => by rw [ho q a1 a2 a3, drp_n _ a4 a5 a6 a7 a8]
  have h166 : F 166 = imU (fun i => f 167 (0 + i)) (f 166) 0 4888 := by rw [← hF, gd_n _ (by decide), updA_s]
  have h64 : F 64 = upK (f 64) 16 0 := by rw [← hF, gd_n _ (by decide), updA_n _ _ (by decide), stF_u, drp_n _ (by decide) (by decide) (by decide) (by decide) (by decide), cpB_n (by omega)]
  have h164 : F 164 = upK (f 164) 0 0 := by rw [← hF]; unfold gd; rw [stF_u, updA_n _ _ (by decide), stF_n _ _ _ (by decide), drp_n _ (by decide) (by decide) (by decide) (by decide) (by decide), cpB_n (by omega)]
  have hq : ∀ q, 75 ≤ q → q ≠ 164 → q ≠ 166 → q ≠ 111 → q ≠ 135 → q ≠ 140 → q ≠ 145 → q ≠ 150 → F q = f q := fun q a1 a2 a3 a4 a5 a6 a7 a8 => by rw [hr q (by omega) a2 a3 a4 a5 a6 a7 a8, cpB_n (by omega)]
  have hi : ∀ i, i ≠ 0 → F 164 i = f 164 i := fun i a => by rw [h164, upK_n _ _ a]
  have hG : IG (cpR g 89 68 6) := h.G.cp (show TX g 89 from hkB.lk) h.X.o0.a2.1
  have he : ∀ j, j < 4888 → F 166 j = kR f 0 j := fun j hj => by rw [h166, imU_y (by omega)]; show f 167 (0 + (j - 0)) = f 167 (4888 * 0 + j); congr 1
  have hrow : ∀ {r : Nat} {K : Nat → Int}, r + 9 < 106 → 65 ≤ r → BK (cpR g 89 68 6) (cpB f 65 86) r K → BK (cpR g 89 68 6) F r K := fun a1 a2 a3 => a3.mem (fun q p => by
    have hg : 195 ≤ gnx g := h.g195
    exact hr q (by omega) (by omega) (by omega) (by omega) (by omega) (by omega) (by omega) (by omega))
  have dr := drp_0 (cpB f 65 86)
  refine ⟨hG, ⟨hkO.eq he, ?_⟩, ?_, h.R.mv (hq _ (by decide) (by decide) (by decide) (by decide) (by decide) (by decide) (by decide) (by decide)) (hq _ (by decide) (by decide) (by decide) (by decide) (by decide) (by decide) (by decide) (by decide)), ⟨by rw [h64, h164, upK_s, upK_s], by rw [h64, hi 5 (by decide), upK_n _ _ (by decide)]; exact h.S.2⟩, h.T.mv (congrFun (hq 107 (by decide) (by decide) (by decide) (by decide) (by decide) (by decide) (by decide) (by decide)) _) (congrFun (hq 107 (by decide) (by decide) (by decide) (by decide) (by decide) (by decide) (by decide) (by decide)) _) (hi 9 (by decide)) (hi 10 (by decide)) (hq _ (by decide) (by decide) (by decide) (by decide) (by decide) (by decide) (by decide) (by decide)) (hq _ (by decide) (by decide) (by decide) (by decide) (by decide) (by decide) (by decide) (by decide)), h.D.mv (congrFun (hq 157 (by decide) (by decide) (by decide) (by decide) (by decide) (by decide) (by decide) (by decide)) _) (hi 43 (by decide)) (hq _ (by decide) (by decide) (by decide) (by decide) (by decide) (by decide) (by decide) (by decide)) (hq _ (by decide) (by decide) (by decide) (by decide) (by decide) (by decide) (by decide) (by decide)) (hq _ (by decide) (by decide) (by decide) (by decide) (by decide) (by decide) (by decide) (by decide)) (hq _ (by decide) (by decide) (by decide) (by decide) (by decide) (by decide) (by decide) (by decide)), h.W.mv (hq _ (by decide) (by decide) (by decide) (by decide) (by decide) (by decide) (by decide) (by decide)) (by rw [hi 20 (by decide)]; exact h.W.2), IC.dr (by rw [ho 111 (by decide) (by decide) (by decide)]; exact dr.1) (by rw [ho 111 (by decide) (by decide) (by decide)]; exact dr.2.1) (by rw [ho 135 (by decide) (by decide) (by decide)]; exact dr.2.2.1) (by rw [ho 140 (by decide) (by decide) (by decide)]; exact dr.2.2.2.1) (by rw [ho 145 (by decide) (by decide) (by decide)]; exact dr.2.2.2.2.1) (by rw [ho 150 (by decide) (by decide) (by decide)]; exact dr.2.2.2.2.2)⟩
  · have h1 : BK (cpR g (86 + 3) (65 + 3) 6) (cpB f 65 86) 65 (kR f 0) := hkB.cp hkO (by omega) (by decide) h.BK.lk
    exact (hrow (by decide) (by decide) h1).eq hkO he
  · intro k hk
    have e6 : F 106 = f 106 := hq 106 (by decide) (by decide) (by decide) (by decide) (by decide) (by decide) (by decide) (by decide)
    have e8 : F 168 = f 168 := hq 168 (by decide) (by decide) (by decide) (by decide) (by decide) (by decide) (by decide) (by decide)
    have e7 : kR F k = kR f k := by unfold kR; rw [hq 167 (by decide) (by decide) (by decide) (by decide) (by decide) (by decide) (by decide) (by decide)]
    rw [e6, e8, e7]
    exact ⟨(h.I k hk).1, (h.I k hk).2.imp id (fun p => ⟨p.1, p.2.1, hrow (by omega) (by omega) (p.2.2.cpo (b := 65) (q := 86) (by omega) (by decide))⟩)⟩
theorem inv_im1 {g : Gm} {f : Fm} (h : Inv g f) : Inv (cpR g 68 99 6) (gd (stF (updA (stF (stF (cpB f 96 65) 106 1 1) 64 16 0) 167 (imU (f 166) (f 167) 4888 4888)) 168 1 1)) := by
  generalize hF : gd (stF (updA (stF (stF (cpB f 96 65) 106 1 1) 64 16 0) 167 (imU (f 166) (f 167) 4888 4888)) 168 1 1) = F
  have ho : ∀ q, q ≠ 64 → q ≠ 106 → q ≠ 164 → q ≠ 167 → q ≠ 168 → F q = cpB f 96 65 q := fun q a1 a2 a3 a4 a5 => by rw [← hF, gd_n _ a3, stF_n _ _ _ a5, updA_n _ _ a4, stF_n _ _ _ a1, stF_n _ _ _ a2]
  have hr : ∀ q, q ≠ 64 → q ≠ 106 → q ≠ 164 → q ≠ 167 → q ≠ 168 → (q < 96 ∨ 105 < q) → F q = f q := fun q a1 a2 a3 a4 a5 a6 => by rw [ho q a1 a2 a3 a4 a5, cpB_n (by omega)]
  have h167 : F 167 = imU (f 166) (f 167) 4888 4888 := by rw [← hF, gd_n _ (by decide), stF_n _ _ _ (by decide), updA_s]
  have h168 : F 168 = upK (f 168) 1 1 := by rw [← hF, gd_n _ (by decide), stF_u, updA_n _ _ (by decide), stF_n _ _ _ (by decide), stF_n _ _ _ (by decide), cpB_n (by omega)]
  have h106 : F 106 = upK (f 106) 1 1 := by rw [← hF, gd_n _ (by decide), stF_n _ _ _ (by decide), updA_n _ _ (by decide), stF_n _ _ _ (by decide), stF_u, cpB_n (by omega)]
  have h64 : F 64 = upK (f 64) 16 0 := by rw [← hF, gd_n _ (by decide), stF_n _ _ _ (by decide), updA_n _ _ (by decide), stF_u, stF_n _ _ _ (by decide), cpB_n (by omega)]
  have h164 : F 164 = upK (f 164) 0 0 := by rw [← hF]; unfold gd; rw [stF_u, stF_n _ _ _ (by decide), updA_n _ _ (by decide), stF_n _ _ _ (by decide), stF_n _ _ _ (by decide), cpB_n (by omega)]
  have hq : ∀ q, 106 < q → q ≠ 164 → q ≠ 167 → q ≠ 168 → F q = f q := fun q a1 a2 a3 a4 => hr q (by omega) (by omega) a2 a3 a4 (by omega)
  have hi : ∀ i, i ≠ 0 → F 164 i = f 164 i := fun i a => by rw [h164, upK_n _ _ a]
  have hG : IG (cpR g 68 99 6) := h.G.cp (show TX g 68 from h.BK.lk) h.X.i1.a2.1
  have h166 : F 166 = f 166 := hq 166 (by decide) (by decide) (by decide) (by decide)
  have hrow : ∀ {r : Nat} {K : Nat → Int}, r + 9 < 106 → 65 ≤ r → BK (cpR g 68 99 6) (cpB f 96 65) r K → BK (cpR g 68 99 6) F r K := fun a1 a2 a3 => a3.mem (fun q p => by
    have hg : 195 ≤ gnx g := h.g195
    exact ho q (by omega) (by omega) (by omega) (by omega) (by omega))
  have hBc : BK (cpR g 68 99 6) F 65 (f 166) := hrow (by decide) (by decide) (h.BK.cpo (b := 96) (q := 65) (by omega) (by decide))
  refine ⟨hG, ⟨by rw [h166]; exact h.KO, by rw [h166]; exact hBc⟩, ?_, h.R.mv (hq _ (by decide) (by decide) (by decide) (by decide)) (hq _ (by decide) (by decide) (by decide) (by decide)), ⟨by rw [h64, h164, upK_s, upK_s], by rw [h64, hi 5 (by decide), upK_n _ _ (by decide)]; exact h.S.2⟩, h.T.mv (congrFun (hq 107 (by decide) (by decide) (by decide) (by decide)) _) (congrFun (hq 107 (by decide) (by decide) (by decide) (by decide)) _) (hi 9 (by decide)) (hi 10 (by decide)) (hq _ (by decide) (by decide) (by decide) (by decide)) (hq _ (by decide) (by decide) (by decide) (by decide)), h.D.mv (congrFun (hq 157 (by decide) (by decide) (by decide) (by decide)) _) (hi 43 (by decide)) (hq _ (by decide) (by decide) (by decide) (by decide)) (hq _ (by decide) (by decide) (by decide) (by decide)) (hq _ (by decide) (by decide) (by decide) (by decide)) (hq _ (by decide) (by decide) (by decide) (by decide)), h.W.mv (hq _ (by decide) (by decide) (by decide) (by decide)) (by rw [hi 20 (by decide)]; exact h.W.2), h.C.mv (fun q p => hq q (by omega) (by omega) (by omega) (by omega))⟩
  intro k hk
  rw [h106, h168]
  by_cases hkk : k = 1
  · subst hkk
    rw [upK_s, upK_s]
    have he : ∀ j, j < 4888 → kR F 1 j = f 166 j := fun j hj => by unfold kR; rw [h167, imU_y (by omega), show 4888 * 1 + j - 4888 = j by omega]
    refine ⟨rfl, Or.inr ⟨rfl, h.KO.eq he, ?_⟩⟩
    have h1 : BK (cpR g (65 + 3) (96 + 3) 6) (cpB f 96 65) 96 (f 166) := h.BK.cp h.KO (by omega) (by decide) h.G.2.2.2.2.2
    exact (hrow (by decide) (by decide) h1).eq h.KO he
  · have hk2 : k = 0 := by omega
    subst hk2
    rw [upK_n _ _ (by decide), upK_n _ _ (by decide)]
    have he : ∀ j, j < 4888 → kR F 0 j = kR f 0 j := fun j hj => by unfold kR; rw [h167, imU_n (by omega)]
    refine ⟨(h.I 0 (by decide)).1, (h.I 0 (by decide)).2.imp id (fun p => ⟨p.1, p.2.1.eq he, ?_⟩)⟩
    exact (hrow (by decide) (by decide) (p.2.2.cpo (b := 96) (q := 65) (by omega) (by decide))).eq p.2.1 he
theorem inv_bk1 {g : Gm} {f : Fm} (h : Inv g f) (hk : f 168 1 = 1) : Inv (cpR g 99 68 6) (gd (updA (stF (drp (cpB f 65 96)) 64 16 0) 166 (imU (fun i => f 167 (4888 + i)) (f 166) 0 4888))) := by
  generalize hF : gd (updA (stF (drp (cpB f 65 96)) 64 16 0) 166 (imU (fun i => f 167 (4888 + i)) (f 166) 0 4888)) = F
  obtain ⟨hkO, hkB⟩ : KO (kR f 1) 9999 999999 ∧ BK g f 96 (kR f 1) := by
    rcases (h.I 1 (by decide)).2 with p | p
    · rw [hk] at p; exact absurd p (by decide)
    · exact p.2
  have ho : ∀ q, q ≠ 64 → q ≠ 164 → q ≠ 166 → F q = drp (cpB f 65 96) q := fun q a1 a2 a3 => by rw [← hF, gd_n _ a2, updA_n _ _ a3, stF_n _ _ _ a1]
  have hr : ∀ q, q ≠ 64 → q ≠ 164 → q ≠ 166 → q ≠ 111 → q ≠ 135 → q ≠ 140 → q ≠ 145 → q ≠ 150 → F q = cpB f 65 96 q := fun q a1 a2 a3 a4 a5 a6 a7 a8 => by rw [ho q a1 a2 a3, drp_n _ a4 a5 a6 a7 a8]
  have h166 : F 166 = imU (fun i => f 167 (4888 + i)) (f 166) 0 4888 := by rw [← hF, gd_n _ (by decide), updA_s]
  have h64 : F 64 = upK (f 64) 16 0 := by rw [← hF, gd_n _ (by decide), updA_n _ _ (by decide), stF_u, drp_n _ (by decide) (by decide) (by decide) (by decide) (by decide), cpB_n (by omega)]
  have h164 : F 164 = upK (f 164) 0 0 := by rw [← hF]; unfold gd; rw [stF_u, updA_n _ _ (by decide), stF_n _ _ _ (by decide), drp_n _ (by decide) (by decide) (by decide) (by decide) (by decide), cpB_n (by omega)]
  have hq : ∀ q, 75 ≤ q → q ≠ 164 → q ≠ 166 → q ≠ 111 → q ≠ 135 → q ≠ 140 → q ≠ 145 → q ≠ 150 → F q = f q := fun q a1 a2 a3 a4 a5 a6 a7 a8 => by rw [hr q (by omega) a2 a3 a4 a5 a6 a7 a8, cpB_n (by omega)]
  have hi : ∀ i, i ≠ 0 → F 164 i = f 164 i := fun i a => by rw [h164, upK_n _ _ a]
  have hG : IG (cpR g 99 68 6) := h.G.cp (show TX g 99 from hkB.lk) h.X.o0.a2.1
  have he : ∀ j, j < 4888 → F 166 j = kR f 1 j := fun j hj => by rw [h166, imU_y (by omega)]; show f 167 (4888 + (j - 0)) = f 167 (4888 * 1 + j); congr 1
  have hrow : ∀ {r : Nat} {K : Nat → Int}, r + 9 < 106 → 65 ≤ r → BK (cpR g 99 68 6) (cpB f 65 96) r K → BK (cpR g 99 68 6) F r K := fun a1 a2 a3 => a3.mem (fun q p => by
    have hg : 195 ≤ gnx g := h.g195
    exact hr q (by omega) (by omega) (by omega) (by omega) (by omega) (by omega) (by omega) (by omega))
  have dr := drp_0 (cpB f 65 96)
  refine ⟨hG, ⟨hkO.eq he, ?_⟩, ?_, h.R.mv (hq _ (by decide) (by decide) (by decide) (by decide) (by decide) (by decide) (by decide) (by decide)) (hq _ (by decide) (by decide) (by decide) (by decide) (by decide) (by decide) (by decide) (by decide)), ⟨by rw [h64, h164, upK_s, upK_s], by rw [h64, hi 5 (by decide), upK_n _ _ (by decide)]; exact h.S.2⟩, h.T.mv (congrFun (hq 107 (by decide) (by decide) (by decide) (by decide) (by decide) (by decide) (by decide) (by decide)) _) (congrFun (hq 107 (by decide) (by decide) (by decide) (by decide) (by decide) (by decide) (by decide) (by decide)) _) (hi 9 (by decide)) (hi 10 (by decide)) (hq _ (by decide) (by decide) (by decide) (by decide) (by decide) (by decide) (by decide) (by decide)) (hq _ (by decide) (by decide) (by decide) (by decide) (by decide) (by decide) (by decide) (by decide)), h.D.mv (congrFun (hq 157 (by decide) (by decide) (by decide) (by decide) (by decide) (by decide) (by decide) (by decide)) _) (hi 43 (by decide)) (hq _ (by decide) (by decide) (by decide) (by decide) (by decide) (by decide) (by decide) (by decide)) (hq _ (by decide) (by decide) (by decide) (by decide) (by decide) (by decide) (by decide) (by decide)) (hq _ (by decide) (by decide) (by decide) (by decide) (by decide) (by decide) (by decide) (by decide)) (hq _ (by decide) (by decide) (by decide) (by decide) (by decide) (by decide) (by decide) (by decide)), h.W.mv (hq _ (by decide) (by decide) (by decide) (by decide) (by decide) (by decide) (by decide) (by decide)) (by rw [hi 20 (by decide)]; exact h.W.2), IC.dr (by rw [ho 111 (by decide) (by decide) (by decide)]; exact dr.1) (by rw [ho 111 (by decide) (by decide) (by decide)]; exact dr.2.1) (by rw [ho 135 (by decide) (by decide) (by decide)]; exact dr.2.2.1) (by rw [ho 140 (by decide) (by decide) (by decide)]; exact dr.2.2.2.1) (by rw [ho 145 (by decide) (by decide) (by decide)]; exact dr.2.2.2.2.1) (by rw [ho 150 (by decide) (by decide) (by decide)]; exact dr.2.2.2.2.2)⟩
  · have h1 : BK (cpR g (96 + 3) (65 + 3) 6) (cpB f 65 96) 65 (kR f 1) := hkB.cp hkO (by omega) (by decide) h.BK.lk
    exact (hrow (by decide) (by decide) h1).eq hkO he
  · intro k hk
    have e6 : F 106 = f 106 := hq 106 (by decide) (by decide) (by decide) (by decide) (by decide) (by decide) (by decide) (by decide)
    have e8 : F 168 = f 168 := hq 168 (by decide) (by decide) (by decide) (by decide) (by decide) (by decide) (by decide) (by decide)
    have e7 : kR F k = kR f k := by unfold kR; rw [hq 167 (by decide) (by decide) (by decide) (by decide) (by decide) (by decide) (by decide) (by decide)]
    rw [e6, e8, e7]
    exact ⟨(h.I k hk).1, (h.I k hk).2.imp id (fun p => ⟨p.1, p.2.1, hrow (by omega) (by omega) (p.2.2.cpo (b := 65) (q := 96) (by omega) (by decide))⟩)⟩
theorem op_image (l : Launch) (z : Zv) (k : Int) (h_k : inR k) : OpOK l z Inv mX10_image mX11_image [.int (iI k)] := by
  intro g f hI
  refine PM.mono (PM.room (x_image l z 298 hI.X (show TX g 68 from hI.BK.lk) h_k) (Nat.zero_le _) (Nat.zero_le _)) (fun r0 g1 f1 hq => ?_)
  obtain ⟨rfl, rfl, rfl⟩ := hq
  obtain ⟨x, hx, hr⟩ := inIt (if ¬ (0 ≤ k ∧ k ≤ 1) then -1 else 0)
  have hM : ML (xgImage g k) := by
    unfold xgImage
    split
    · exact hI.M
    · split
      · exact (hI.G.cp (show TX g 68 from hI.BK.lk) hI.X.i0.a2.1).2.1
      · exact (hI.G.cp (show TX g 68 from hI.BK.lk) hI.X.i1.a2.1).2.1
  refine ⟨x, hx, hr, hM.k, PM.mono (m_image l z 299 hM h_k) (fun r0 g2 f2 hq => ?_)⟩
  obtain ⟨rfl, rfl, rfl⟩ := hq
  refine ⟨by unfold aImage; rfl, ?_⟩
  unfold nImage xgImage
  by_cases c1 : ¬ (0 ≤ k ∧ k ≤ 1)
  · rw [if_pos c1, if_pos c1]
    unfold xnImage
    rw [if_pos c1]; exact hI.ref (by unfold rfK; omega)
  · rw [if_neg c1, if_neg c1]
    unfold xnImage
    rw [if_neg c1]
    rcases (show k = 0 ∨ k = 1 by omega) with rfl | rfl
    · have := inv_im0 hI
      simp only [if_true]
      have e1 : stF (stF (cpB f 86 65) 106 (0 : Int).toNat 1) 64 16 0 166 = f 166 := by rw [stF_n _ _ _ (by decide), stF_n _ _ _ (by decide), cpB_n (by omega)]
      have e2 : stF (stF (cpB f 86 65) 106 (0 : Int).toNat 1) 64 16 0 167 = f 167 := by rw [stF_n _ _ _ (by decide), stF_n _ _ _ (by decide), cpB_n (by omega)]
      rw [e1, e2]
      exact this
    · have := inv_im1 hI
      simp only [show ¬ ((1 : Int) = 0) by decide, if_false]
      have e1 : stF (stF (cpB f 96 65) 106 (1 : Int).toNat 1) 64 16 0 166 = f 166 := by rw [stF_n _ _ _ (by decide), stF_n _ _ _ (by decide), cpB_n (by omega)]
      have e2 : stF (stF (cpB f 96 65) 106 (1 : Int).toNat 1) 64 16 0 167 = f 167 := by rw [stF_n _ _ _ (by decide), stF_n _ _ _ (by decide), cpB_n (by omega)]
      rw [e1, e2]
      exact this
theorem op_back (l : Launch) (z : Zv) (k : Int) (h_k : inR k) : OpOK l z Inv mX10_back mX11_back [.int (iI k)] := by
  intro g f hI
  have h01 : ∀ i, i < 2 → (f 106 i = f 168 i) ∧ 0 ≤ f 168 i ∧ f 168 i ≤ 1 := fun i hi => by
    refine ⟨(hI.I i hi).1, ?_⟩
    rcases (hI.I i hi).2 with p | p
    · omega
    · have := p.1; omega
  refine PM.mono (PM.room (x_back l z 298 hI.X hI.G.2.2.2.2.1 hI.G.2.2.2.2.2 (fun i hi => by rw [(h01 i hi).1]; exact (h01 i hi).2) h_k) (Nat.zero_le _) (Nat.zero_le _)) (fun r0 g1 f1 hq => ?_)
  obtain ⟨rfl, rfl, rfl⟩ := hq
  have e0 : ∀ q, 164 ≤ q → xnBack f k q = f q := by
    intro q hq
    unfold xnBack
    split
    · exact xrf_o _ _ (by omega) (by omega)
    · split
      · exact xrf_o _ _ (by omega) (by omega)
      · rw [stF_n _ _ _ (by omega), drp_n _ (by omega) (by omega) (by omega) (by omega) (by omega), cpB_n (by omega)]
  have hM : ML (xgBack g f k) := by
    unfold xgBack
    split
    · exact hI.M
    · split
      · exact hI.M
      · split
        · exact (hI.G.cp hI.G.2.2.2.2.1 hI.X.o0.a2.1).2.1
        · exact (hI.G.cp hI.G.2.2.2.2.2 hI.X.o0.a2.1).2.1
  obtain ⟨x, hx, hr⟩ := inIt (xaBack f k)
  refine ⟨x, hx, hr, hM.k, PM.mono (m_back l z 299 hM (fun i hi => by rw [e0 168 (by decide)]; exact (h01 i hi).2) h_k) (fun r0 g2 f2 hq => ?_)⟩
  obtain ⟨rfl, rfl, rfl⟩ := hq
  unfold aBack nBack xaBack xgBack
  rw [e0 168 (by decide), e0 167 (by decide), e0 166 (by decide)]
  by_cases c1 : ¬ (0 ≤ k ∧ k ≤ 1)
  · rw [if_pos c1, if_pos c1, if_pos c1, if_pos c1]
    refine ⟨rfl, ?_⟩
    unfold xnBack
    rw [if_pos c1]; exact hI.ref (by unfold rfK; omega)
  · rw [if_neg c1, if_neg c1, if_neg c1, if_neg c1]
    have hk2 : k.toNat < 2 := by omega
    have e6 : f 106 k.toNat = f 168 k.toNat := (h01 _ hk2).1
    rw [e6]
    by_cases c2 : f 168 k.toNat = 0
    · rw [if_pos c2, if_pos c2, if_pos c2]
      refine ⟨rfl, ?_⟩
      unfold xnBack
      rw [if_neg c1, e6, if_pos c2]; exact hI.ref (by unfold rfK; omega)
    · rw [if_neg c2, if_neg c2, if_neg c2]
      refine ⟨rfl, ?_⟩
      unfold xnBack
      rw [if_neg c1, e6, if_neg c2]
      have h1 := (h01 _ hk2).2
      rcases (show k = 0 ∨ k = 1 by omega) with rfl | rfl
      · simp only [if_true]
        exact inv_bk0 hI (by have : f 168 0 ≠ 0 := c2; have : 0 ≤ f 168 0 ∧ f 168 0 ≤ 1 := h1; omega)
      · simp only [show ¬ ((1 : Int) = 0) by decide, if_false]
        exact inv_bk1 hI (by have : f 168 1 ≠ 0 := c2; have : 0 ≤ f 168 1 ∧ f 168 1 ≤ 1 := h1; omega)

/-! Refusals; what changes what is kept. -/
theorem xrf_o (f : Fm) (k : Int) {q : Nat} (h1 : q ≠ 64) (h2 : q ≠ 161) : xrf f k q = f q := by unfold xrf; rw [stF_n _ _ _ h1, stF_n _ _ _ h2]
theorem rfs_o (f : Fm) (k : Int) {q : Nat} (h1 : q ≠ 164) (h2 : q ≠ 165) : rfs f k q = f q := by unfold rfs; rw [stF_n _ _ _ h2, stF_n _ _ _ h1]
theorem xrf_16 (f : Fm) (k : Int) : xrf f k 64 16 = k := by unfold xrf; rw [stF_s]
theorem xrf_15 (f : Fm) (k : Int) : xrf f k 64 15 = f 64 15 := by unfold xrf; rw [stF_i _ _ _ (by decide), stF_n _ _ _ (by decide)]
theorem rfs_0 (f : Fm) (k : Int) : rfs f k 164 0 = k := by unfold rfs; rw [stF_n _ _ _ (by decide), stF_s]
theorem rfs_i (f : Fm) (k : Int) {i : Nat} (h : i ≠ 0) : rfs f k 164 i = f 164 i := by unfold rfs; rw [stF_n _ _ _ (by decide), stF_i _ _ _ h]
theorem drp_n (f : Fm) {q : Nat} (h1 : q ≠ 111) (h2 : q ≠ 135) (h3 : q ≠ 140) (h4 : q ≠ 145) (h5 : q ≠ 150) : drp f q = f q := by unfold drp; rw [stF_n _ _ _ h5, stF_n _ _ _ h4, stF_n _ _ _ h3, stF_n _ _ _ h2, stF_n _ _ _ h1, stF_n _ _ _ h1]
theorem drp_0 (f : Fm) : drp f 111 9 = 0 ∧ drp f 111 10 = 0 ∧ drp f 135 4 = 0 ∧ drp f 140 4 = 0 ∧ drp f 145 4 = 0 ∧ drp f 150 6 = 0 := by simp [drp, stF]
def rfK (k : Int) : Prop := k = -1 ∨ k = -2 ∨ k = -3 ∨ k = -5 ∨ k = -6
theorem IR.rf {f f' : Fm} {k : Int} (h : IR f) (hk : rfK k) (h1 : f' 161 = xrf f k 161) (h2 : f' 165 = rfs f k 165) : IR f' := by
  obtain ⟨r0, r1, r2, r3, r4⟩ := h
  unfold IR
  rw [h1, h2]
  rcases hk with rfl | rfl | rfl | rfl | rfl <;> simp [xrf, rfs, stF, r0, r1, r2, r3, r4]
section INV2
variable {g : Gm} {f f' : Fm}
theorem Inv.ref (h : Inv g f) {k : Int} (hk : rfK k) : Inv g (rfs (xrf f k) k) := by
  have ho : ∀ q, q ≠ 64 → q ≠ 161 → q ≠ 164 → q ≠ 165 → rfs (xrf f k) k q = f q := fun q a b c d => by rw [rfs_o _ _ c d, xrf_o _ _ a b]
  have hi : ∀ i, i ≠ 0 → rfs (xrf f k) k 164 i = f 164 i := fun i a => by rw [rfs_i _ _ a, xrf_o _ _ (by decide) (by decide)]
  have h64 : rfs (xrf f k) k 64 = xrf f k 64 := rfs_o _ _ (by decide) (by decide)
  refine h.fr (fun q hq => ho q (by omega) (by omega) (by omega) (by omega)) (h.R.rf hk (rfs_o _ _ (by decide) (by decide)) ?_) ?_ (h.T.mv (congrFun (ho 107 (by decide) (by decide) (by decide) (by decide)) _) (congrFun (ho 107 (by decide) (by decide) (by decide) (by decide)) _) (hi 9 (by decide)) (hi 10 (by decide)) (ho 108 (by decide) (by decide) (by decide) (by decide)) (ho 170 (by decide) (by decide) (by decide) (by decide))) (h.D.mv (congrFun (ho 157 (by decide) (by decide) (by decide) (by decide)) _) (hi 43 (by decide)) (ho _ (by decide) (by decide) (by decide) (by decide)) (ho _ (by decide) (by decide) (by decide) (by decide)) (ho _ (by decide) (by decide) (by decide) (by decide)) (ho _ (by decide) (by decide) (by decide) (by decide))) (h.W.mv (ho _ (by decide) (by decide) (by decide) (by decide)) (by rw [hi 20 (by decide)]; exact h.W.2))
  · unfold rfs
    funext i
    simp [stF, xrf_o]
  · exact ⟨by rw [h64, xrf_16, rfs_0], by rw [h64, xrf_15, hi 5 (by decide)]; exact h.S.2⟩
theorem IC.dr (h1 : f' 111 9 = 0) (h2 : f' 111 10 = 0) (h3 : f' 135 4 = 0) (h4 : f' 140 4 = 0) (h5 : f' 145 4 = 0) (h6 : f' 150 6 = 0) : IC f' := ⟨⟨Or.inl h1, Or.inl h2⟩, Or.inl h3, Or.inl h4, Or.inl h5, Or.inl h6⟩
theorem Inv.go (h : Inv g f) (hf : ∀ q, q ≠ 64 → ¬ (65 ≤ q ∧ q ≤ 74) → q ≠ 111 → q ≠ 135 → q ≠ 140 → q ≠ 145 → q ≠ 150 → q ≠ 164 → q ≠ 166 → f' q = f q) (h6 : f' 64 16 = f' 164 0) (h5 : f' 64 15 = f 64 15) (h1 : ∀ i, i ≠ 0 → f' 164 i = f 164 i) (hB : IB g f') (hC : IC f') : Inv g f' := by
  have ho : ∀ q, 75 ≤ q → q ≠ 111 → q ≠ 135 → q ≠ 140 → q ≠ 145 → q ≠ 150 → q ≠ 164 → q ≠ 166 → f' q = f q := fun q a b c d e i j k => hf q (by omega) (by omega) b c d e i j k
  refine ⟨h.G, hB, h.I.mv (fun q hq => hf q (by omega) (by omega) (by omega) (by omega) (by omega) (by omega) (by omega) (by omega) (by omega)), h.R.mv (ho _ (by decide) (by decide) (by decide) (by decide) (by decide) (by decide) (by decide) (by decide)) (ho _ (by decide) (by decide) (by decide) (by decide) (by decide) (by decide) (by decide) (by decide)), ⟨h6, by rw [h5, h1 5 (by decide)]; exact h.S.2⟩, h.T.mv (congrFun (ho 107 (by decide) (by decide) (by decide) (by decide) (by decide) (by decide) (by decide) (by decide)) _) (congrFun (ho 107 (by decide) (by decide) (by decide) (by decide) (by decide) (by decide) (by decide) (by decide)) _) (h1 9 (by decide)) (h1 10 (by decide)) (ho _ (by decide) (by decide) (by decide) (by decide) (by decide) (by decide) (by decide) (by decide)) (ho _ (by decide) (by decide) (by decide) (by decide) (by decide) (by decide) (by decide) (by decide)), h.D.mv (congrFun (ho 157 (by decide) (by decide) (by decide) (by decide) (by decide) (by decide) (by decide) (by decide)) _) (h1 43 (by decide)) (ho _ (by decide) (by decide) (by decide) (by decide) (by decide) (by decide) (by decide) (by decide)) (ho _ (by decide) (by decide) (by decide) (by decide) (by decide) (by decide) (by decide) (by decide)) (ho _ (by decide) (by decide) (by decide) (by decide) (by decide) (by decide) (by decide) (by decide)) (ho _ (by decide) (by decide) (by decide) (by decide) (by decide) (by decide) (by decide) (by decide)), h.W.mv (ho _ (by decide) (by decide) (by decide) (by decide) (by decide) (by decide) (by decide) (by decide)) (by rw [h1 20 (by decide)]; exact h.W.2), hC⟩
end INV2
section KCH
variable {K K' : Nat → Int} {D M : Int} {g : Gm} {f f' : Fm} {b : Nat}
theorem KO.kt (h : KO K D M) {i : Nat} (hi : (i : Int) < K 80) : kT K i ≤ 400 := by have := (h.lw i hi).1; unfold kT; omega
theorem KO.le (h : KO K D M) (hl : ∀ j, 82 ≤ j → K' j = K j) {i : Nat} (hi : (i : Int) < K 80) : lawK K' i = lawK K i ∧ lawR K' i = lawR K i := lawK_e (hl _ (by omega)) (h.kt hi) (fun j _ => ⟨hl _ (by omega), hl _ (by omega)⟩)
theorem KO.ll (h : KO K D M) (hl : ∀ j, j = 80 ∨ 82 ≤ j → K' j = K j) : ∀ i : Nat, (i : Int) < K' 80 → (1 ≤ K' (82 + i) ∧ K' (82 + i) ≤ 400) ∧ (∃ cls, lawR K' i = .ok cls) ∧ ∀ j : Nat, (j : Int) < K' (82 + i) → (0 ≤ K' (88 + 400 * i + j) ∧ K' (88 + 400 * i + j) ≤ 355) ∧ (0 ≤ K' (2488 + 400 * i + j) ∧ K' (2488 + 400 * i + j) ≤ 10000009) := by
  intro i hi
  rw [hl 80 (by omega)] at hi
  rw [hl (82 + i) (by omega), (h.le (fun j hj => hl j (by omega)) hi).2]
  refine ⟨(h.lw i hi).1, (h.lw i hi).2.1, fun j hj => ?_⟩
  rw [hl (88 + 400 * i + j) (by omega), hl (2488 + 400 * i + j) (by omega)]
  exact (h.lw i hi).2.2 j hj
theorem BK.ll (h : BK g f b K) (hO : KO K D M) (hl : ∀ j, j = 80 ∨ 82 ≤ j → K' j = K j) (hf : ∀ q, 195 ≤ q → f' q = f q) : ∀ i : Nat, (i : Int) < K' 80 → ∃ q, grm g (b + 3) i = some (q + 2) ∧ LawAt g f' q (lawK K' i) := by
  intro i hi
  rw [hl 80 (by omega)] at hi
  rw [(hO.le (fun j hj => hl j (by omega)) hi).1]
  obtain ⟨q, h1, h2⟩ := h.lw i hi
  exact ⟨q, h1, h2.mem (gx.rf g) (fun a h3 _ => hf a h3)⟩
end KCH
theorem addK_77 (K : Nat → Int) (x y v : Int) : addK K x y v 77 = K 77 + 1 := by unfold addK; rw [if_pos rfl]
theorem addK_o {K : Nat → Int} (hn : 0 ≤ K 77 ∧ K 77 < 8) (x y v : Int) {j : Nat} (h : 40 ≤ j) (h2 : j ≠ 77) : addK K x y v j = K j := by unfold addK; rw [if_neg h2, if_neg (by omega), if_neg (by omega), if_neg (by omega), if_neg (by omega)]
theorem addK_w {K : Nat → Int} (hn : 0 ≤ K 77 ∧ K 77 < 8) (x y v : Int) {w c : Nat} (hw : w < 5) (hc : c < 8) : addK K x y v (5 * c + w) = if (c : Int) = K 77 then (if w = 0 then x else if w = 1 then y else if w = 2 then v else 0) else K (5 * c + w) := by
  unfold addK
  rw [if_neg (by omega)]
  by_cases h : (c : Int) = K 77
  · rw [if_pos h]
    rcases (show w = 0 ∨ w = 1 ∨ w = 2 ∨ w = 3 ∨ w = 4 by omega) with rfl | rfl | rfl | rfl | rfl
    · rw [if_pos (by omega), if_pos rfl]
    · rw [if_neg (by omega), if_pos (by omega), if_neg (by omega), if_pos rfl]
    · rw [if_neg (by omega), if_neg (by omega), if_pos (by omega), if_neg (by omega), if_neg (by omega), if_pos rfl]
    · rw [if_neg (by omega), if_neg (by omega), if_neg (by omega), if_pos (by omega), if_neg (by omega), if_neg (by omega), if_neg (by omega)]
    · rw [if_neg (by omega), if_neg (by omega), if_neg (by omega), if_pos (by omega), if_neg (by omega), if_neg (by omega), if_neg (by omega)]
  · rw [if_neg h, if_neg (by omega), if_neg (by omega), if_neg (by omega), if_neg (by omega)]
theorem KO.add {K : Nat → Int} {D M : Int} (h : KO K D M) (hn : K 77 < 8) {x y v : Int} (hx : 0 ≤ x ∧ x ≤ 40) (hy : 0 ≤ y ∧ y ≤ 9) (hv : 0 ≤ v ∧ v ≤ 1) : KO (addK K x y v) D M := by
  have h0 := h.n
  have hn2 : 0 ≤ K 77 ∧ K 77 < 8 := ⟨h0.1, hn⟩
  have e : ∀ {j : Nat}, 40 ≤ j → j ≠ 77 → addK K x y v j = K j := fun a b => addK_o hn2 x y v a b
  have ew : ∀ {w c : Nat}, w < 5 → c < 8 → addK K x y v (5 * c + w) = if (c : Int) = K 77 then (if w = 0 then x else if w = 1 then y else if w = 2 then v else 0) else K (5 * c + w) := fun a b => addK_w hn2 x y v a b
  refine ⟨by rw [addK_77]; omega, fun c hc => ?_, by rw [e (by decide) (by decide)]; exact h.dz, by rw [e (by decide) (by decide)]; exact h.lp, by rw [e (by decide) (by decide)]; exact h.dy, by rw [e (by decide) (by decide)]; exact h.b0, by rw [e (by decide) (by decide)]; exact h.b1, by rw [e (by decide) (by decide)]; exact h.sm, by rw [e (by decide) (by decide)]; exact h.cm, fun i hi => ?_, fun i hi => ?_, by rw [e (by decide) (by decide)]; exact h.nl, by rw [e (by decide) (by decide), e (by decide) (by decide)]; exact h.fo, h.ll (fun j hj => e (by omega) (by omega))⟩
  · have hf := h.f hc
    have w0 := ew (w := 0) (c := c) (by decide) hc
    have w1 := ew (w := 1) (c := c) (by decide) hc
    have w2 := ew (w := 2) (c := c) (by decide) hc
    have w3 := ew (w := 3) (c := c) (by decide) hc
    have w4 := ew (w := 4) (c := c) (by decide) hc
    rw [Nat.add_zero] at w0
    rw [w0, w1, w2, w3, w4]
    by_cases q : (c : Int) = K 77
    · simp only [q, if_true]; simp; omega
    · simp only [q, if_false]; exact hf
  · rw [e (by decide) (by decide)] at hi
    have h8 := h.sm
    have := h.si i hi
    rw [e (j := 45 + 2 * i) (by omega) (by omega), e (j := 46 + 2 * i) (by omega) (by omega), addK_77]; omega
  · rw [e (by decide) (by decide)] at hi
    have h8 := h.cm
    have := h.ci i hi
    rw [e (j := 61 + 2 * i) (by omega) (by omega), e (j := 62 + 2 * i) (by omega) (by omega), addK_77]; omega
theorem wel_w (f : Fm) (x y v : Int) {n : Int} (hn : 0 ≤ n ∧ n < 8) {w c : Nat} (hw : w < 5) (hc : c < 8) : wel f 65 x y v n 66 (8 * w + c) = if (c : Int) = n then (if w = 0 then x else if w = 1 then y else if w = 2 then v else 0) else f 66 (8 * w + c) := by
  unfold wel
  by_cases h : (c : Int) = n
  · rw [if_pos h]
    rcases (show w = 0 ∨ w = 1 ∨ w = 2 ∨ w = 3 ∨ w = 4 by omega) with rfl | rfl | rfl | rfl | rfl
    · rw [stF_n _ _ _ (by decide), stF_i _ _ _ (by omega), stF_i _ _ _ (by omega), stF_i _ _ _ (by omega), stF_i _ _ _ (by omega), show 8 * 0 + c = (0 * 8 + n).toNat by omega, stF_s]; rfl
    · rw [stF_n _ _ _ (by decide), stF_i _ _ _ (by omega), stF_i _ _ _ (by omega), stF_i _ _ _ (by omega), show 8 * 1 + c = (1 * 8 + n).toNat by omega, stF_s]; rfl
    · rw [stF_n _ _ _ (by decide), stF_i _ _ _ (by omega), stF_i _ _ _ (by omega), show 8 * 2 + c = (2 * 8 + n).toNat by omega, stF_s]; rfl
    · rw [stF_n _ _ _ (by decide), stF_i _ _ _ (by omega), show 8 * 3 + c = (3 * 8 + n).toNat by omega, stF_s]; rfl
    · rw [stF_n _ _ _ (by decide), show 8 * 4 + c = (4 * 8 + n).toNat by omega, stF_s]; rfl
  · rw [if_neg h, stF_n _ _ _ (by decide), stF_i _ _ _ (by omega), stF_i _ _ _ (by omega), stF_i _ _ _ (by omega), stF_i _ _ _ (by omega), stF_i _ _ _ (by omega)]
theorem BK.add {g : Gm} {f f' : Fm} {K : Nat → Int} {D M : Int} (h : BK g f 65 K) (hO : KO K D M) (hn : K 77 < 8) {x y v : Int} (hf : ∀ q, (67 ≤ q ∧ q ≤ 74) ∨ 195 ≤ q → f' q = f q) (h5 : f' 65 5 = K 77 + 1) (h6 : f' 65 6 = f 65 6) (h7 : f' 65 7 = f 65 7) (h66 : f' 66 = wel f 65 x y v (K 77) 66) : BK g f' 65 (addK K x y v) := by
  have h0 := hO.n
  have hn2 : 0 ≤ K 77 ∧ K 77 < 8 := ⟨h0.1, hn⟩
  have e : ∀ {j : Nat}, 40 ≤ j → j ≠ 77 → addK K x y v j = K j := fun a b => addK_o hn2 x y v a b
  refine ⟨by rw [addK_77]; exact h5, by rw [e (by decide) (by decide), h6]; exact h.nl, by rw [e (by decide) (by decide), h7]; exact h.fo, fun w c hw hc => ?_, fun t ht => ?_, ?_, fun i hi => ?_, ?_, fun i hi => ?_, h.ll hO (fun j hj => e (by omega) (by omega)) (fun q hq => hf q (by omega)), h.lk⟩
  · show f' 66 (8 * w + c) = _
    rw [h66, wel_w f x y v hn2 hw hc, addK_w hn2 x y v hw hc, ← h.tr hw hc]
  · show f' 67 t = _
    rw [hf 67 (by omega), e (by omega) (by omega)]; exact h.te ht
  · show f' 69 2 = _
    rw [hf 69 (by omega), e (by decide) (by decide)]; exact h.sm
  · show f' 70 i = _ ∧ f' 71 i = _
    rw [hf 70 (by omega), hf 71 (by omega), e (by omega) (by omega), e (by omega) (by omega)]; exact h.si hi
  · show f' 72 2 = _
    rw [hf 72 (by omega), e (by decide) (by decide)]; exact h.cm
  · show f' 73 i = _ ∧ f' 74 i = _
    rw [hf 73 (by omega), hf 74 (by omega), e (by omega) (by omega), e (by omega) (by omega)]; exact h.ci hi

/-! feed, image, back -/
theorem sbyN (x : Int) {j : Nat} (hj : j < 4) : (0 ≤ ((byN x (24 - 8 * j) : Nat) : Int) ∧ ((byN x (24 - 8 * j) : Nat) : Int) ≤ 255) ∧ (sby x (24 - 8 * j) = ((byN x (24 - 8 * j) : Nat) : Int) ∧ ((byN x (24 - 8 * j) : Nat) : Int) < 128 ∨ sby x (24 - 8 * j) = ((byN x (24 - 8 * j) : Nat) : Int) - 256 ∧ 128 ≤ ((byN x (24 - 8 * j) : Nat) : Int)) := by
  rcases (show j = 0 ∨ j = 1 ∨ j = 2 ∨ j = 3 by omega) with rfl | rfl | rfl | rfl
  · unfold sby byN
    simp only [show (2 : Nat) ^ (24 - 8 * 0) = 16777216 by decide, show (2 : Int) ^ (24 - 8 * 0) = 16777216 by decide]
    omega
  · unfold sby byN
    simp only [show (2 : Nat) ^ (24 - 8 * 1) = 65536 by decide, show (2 : Int) ^ (24 - 8 * 1) = 65536 by decide]
    omega
  · unfold sby byN
    simp only [show (2 : Nat) ^ (24 - 8 * 2) = 256 by decide, show (2 : Int) ^ (24 - 8 * 2) = 256 by decide]
    omega
  · unfold sby byN
    simp only [show (2 : Nat) ^ (24 - 8 * 3) = 1 by decide, show (2 : Int) ^ (24 - 8 * 3) = 1 by decide]
    omega
theorem ad1_8 (f : Fm) (t : Nat) (x : Int) (k : Nat) : ad1 f 107 t x k 108 = upK (f 108) t ((byN x k : Nat) : Int) := by unfold ad1; rw [stF_n _ _ _ (by decide), stF_u]
theorem ad1_o (f : Fm) (t : Nat) (x : Int) (k : Nat) {q : Nat} (h1 : q ≠ 107) (h2 : q ≠ 108) : ad1 f 107 t x k q = f q := by unfold ad1; rw [stF_n _ _ _ h1, stF_n _ _ _ h2]
theorem ad1_3 (f : Fm) (t : Nat) (x : Int) (k : Nat) : ad1 f 107 t x k 107 3 = f 107 3 := by unfold ad1; rw [stF_i _ _ _ (by decide), stF_n _ _ _ (by decide)]
theorem ad4_8 (f : Fm) (t : Nat) (x : Int) : ad4 f 107 t x 108 = upK (upK (upK (upK (f 108) t ((byN x 24 : Nat) : Int)) (t + 1) ((byN x 16 : Nat) : Int)) (t + 2) ((byN x 8 : Nat) : Int)) (t + 3) ((byN x 0 : Nat) : Int) := by unfold ad4; rw [ad1_8, ad1_8, ad1_8, ad1_8]
theorem ad4_o (f : Fm) (t : Nat) (x : Int) {q : Nat} (h1 : q ≠ 107) (h2 : q ≠ 108) : ad4 f 107 t x q = f q := by unfold ad4; rw [ad1_o _ _ _ _ h1 h2, ad1_o _ _ _ _ h1 h2, ad1_o _ _ _ _ h1 h2, ad1_o _ _ _ _ h1 h2]
theorem ad4_3 (f : Fm) (t : Nat) (x : Int) : ad4 f 107 t x 107 3 = f 107 3 := by unfold ad4; rw [ad1_3, ad1_3, ad1_3, ad1_3]
def adF (f : Fm) (t : Nat) (x1 x2 x3 x4 x5 : Int) : Fm := ad4 (ad4 (ad4 (ad4 (ad4 f 107 t x1) 107 (t + 4) x2) 107 (t + 8) x3) 107 (t + 12) x4) 107 (t + 16) x5
theorem adF_o (f : Fm) (t : Nat) (x1 x2 x3 x4 x5 : Int) {q : Nat} (h1 : q ≠ 107) (h2 : q ≠ 108) : adF f t x1 x2 x3 x4 x5 q = f q := by unfold adF; rw [ad4_o _ _ _ h1 h2, ad4_o _ _ _ h1 h2, ad4_o _ _ _ h1 h2, ad4_o _ _ _ h1 h2, ad4_o _ _ _ h1 h2]
theorem adF_3 (f : Fm) (t : Nat) (x1 x2 x3 x4 x5 : Int) : adF f t x1 x2 x3 x4 x5 107 3 = f 107 3 := by unfold adF; rw [ad4_3, ad4_3, ad4_3, ad4_3, ad4_3]
theorem adF_4 (f : Fm) (t : Nat) (x1 x2 x3 x4 x5 : Int) : adF f t x1 x2 x3 x4 x5 107 4 = ((t + 20 : Nat) : Int) := by unfold adF; rw [ad4_4]
theorem adF_8 (f : Fm) (t : Nat) (x1 x2 x3 x4 x5 : Int) (i : Nat) : adF f t x1 x2 x3 x4 x5 108 i = if t ≤ i ∧ i < t + 20 then ((byN (fvX x1 x2 x3 x4 x5 ((i - t) / 4)) (24 - 8 * ((i - t) % 4)) : Nat) : Int) else f 108 i := by
  unfold adF
  rw [ad4_8, ad4_8, ad4_8, ad4_8, ad4_8]
  by_cases h : t ≤ i ∧ i < t + 20
  · rw [if_pos h]
    obtain ⟨j, rfl⟩ : ∃ j, i = t + j := ⟨i - t, by omega⟩
    rcases (show j = 0 ∨ j = 1 ∨ j = 2 ∨ j = 3 ∨ j = 4 ∨ j = 5 ∨ j = 6 ∨ j = 7 ∨ j = 8 ∨ j = 9 ∨ j = 10 ∨ j = 11 ∨ j = 12 ∨ j = 13 ∨ j = 14 ∨ j = 15 ∨ j = 16 ∨ j = 17 ∨ j = 18 ∨ j = 19 by omega) with rfl | rfl | rfl | rfl | rfl | rfl | rfl | rfl | rfl | rfl | rfl | rfl | rfl | rfl | rfl | rfl | rfl | rfl | rfl | rfl <;> first | (simp [upK, fvX]; done) | (simp [upK, fvX, Nat.add_assoc]; done)
  · rw [if_neg h]
    unfold upK
    repeat rw [if_neg (by omega)]
theorem op_feed (l : Launch) (z : Zv) (a b c d e : Int) (h_a : inR a) (h_b : inR b) (h_c : inR c) (h_d : inR d) (h_e : inR e) : OpOK l z Inv mX10_feed mX11_feed [.int (iI a), .int (iI b), .int (iI c), .int (iI d), .int (iI e)] := by
  intro g f hI
  obtain ⟨t1, t2, t3, t4⟩ := hI.T
  refine PM.mono (PM.room (x_feed l z 299 hI.X (by rw [t1]; exact t2)) (Nat.zero_le _) (Nat.zero_le _)) (fun r0 g1 f1 hq => ?_)
  obtain ⟨rfl, rfl, rfl⟩ := hq
  obtain ⟨t, ht⟩ : ∃ t : Nat, f 164 9 = (t : Int) := ⟨(f 164 9).toNat, by omega⟩
  have ex : xnFeed f a b c d e = if f 107 4 + 20 ≤ 400 then adF f t a b c d e else f := by unfold xnFeed adF; rw [t1, ht, Int.toNat_natCast]
  rw [ex]
  obtain ⟨x, hx, hr⟩ := inIt (xaFeed f)
  have e0 : ∀ q, 164 ≤ q → (if f 107 4 + 20 ≤ 400 then adF f t a b c d e else f) q = f q := by
    intro q hq
    split
    · exact adF_o _ _ _ _ _ _ _ (by omega) (by omega)
    · rfl
  refine ⟨x, hx, hr, hI.M.k, PM.mono (m_feed l z 300 hI.M (by rw [e0 164 (by decide)]; exact t2) h_a h_b h_c h_d h_e) (fun r0 g2 f2 hq => ?_)⟩
  obtain ⟨rfl, rfl, rfl⟩ := hq
  unfold aFeed nFeed xaFeed
  rw [e0 164 (by decide), t1]
  by_cases c1 : f 164 9 + 20 ≤ 400
  · rw [if_pos c1, if_pos c1, if_pos c1]
    refine ⟨rfl, ?_⟩
    rw [ht, Int.toNat_natCast]
    have hv : ∀ (F : Fm) q, q ≠ 171 → fv5 F a b c d e q = F q := fun F q hq => by unfold fv5; rw [stF_n _ _ _ hq, stF_n _ _ _ hq, stF_n _ _ _ hq, stF_n _ _ _ hq, stF_n _ _ _ hq]
    generalize hF : adF f t a b c d e = F
    have hFo : ∀ q, q ≠ 107 → q ≠ 108 → F q = f q := fun q a1 a2 => by rw [← hF]; exact adF_o _ _ _ _ _ _ _ a1 a2
    have ho : ∀ q, q ≠ 164 → q ≠ 170 → q ≠ 171 → stF (updA (fv5 F a b c d e) 170 (imU (fdT (fvX a b c d e)) (fv5 F a b c d e 170) t 20)) 164 9 ((t : Int) + 20) q = F q := fun q a1 a2 a3 => by rw [stF_n _ _ _ a1, updA_n _ _ a2, hv _ _ a3]
    have hi : ∀ i, i ≠ 9 → stF (updA (fv5 F a b c d e) 170 (imU (fdT (fvX a b c d e)) (fv5 F a b c d e 170) t 20)) 164 9 ((t : Int) + 20) 164 i = f 164 i := fun i a => by rw [stF_i _ _ _ a, updA_n _ _ (by decide), hv _ _ (by decide), hFo _ (by decide) (by decide)]
    have h170 : stF (updA (fv5 F a b c d e) 170 (imU (fdT (fvX a b c d e)) (fv5 F a b c d e 170) t 20)) 164 9 ((t : Int) + 20) 170 = imU (fdT (fvX a b c d e)) (f 170) t 20 := by rw [stF_n _ _ _ (by decide), updA_s, hv _ _ (by decide), hFo _ (by decide) (by decide)]
    have hr : ∀ q, q ≠ 107 → q ≠ 108 → q ≠ 164 → q ≠ 170 → q ≠ 171 → stF (updA (fv5 F a b c d e) 170 (imU (fdT (fvX a b c d e)) (fv5 F a b c d e 170) t 20)) 164 9 ((t : Int) + 20) q = f q := fun q a1 a2 a3 a4 a5 => by rw [ho q a3 a4 a5, hFo q a1 a2]
    refine hI.fr (fun q hq => hr q (by omega) (by omega) (by omega) (by omega) (by omega)) (hI.R.mv (hr _ (by decide) (by decide) (by decide) (by decide) (by decide)) (hr _ (by decide) (by decide) (by decide) (by decide) (by decide))) (hI.S.mv (congrFun (hr 64 (by decide) (by decide) (by decide) (by decide) (by decide)) _) (congrFun (hr 64 (by decide) (by decide) (by decide) (by decide) (by decide)) _) (hi 0 (by decide)) (hi 5 (by decide))) ⟨?_, ?_, ?_, ?_⟩ (hI.D.mv (congrFun (hr 157 (by decide) (by decide) (by decide) (by decide) (by decide)) _) (hi 43 (by decide)) (hr _ (by decide) (by decide) (by decide) (by decide) (by decide)) (hr _ (by decide) (by decide) (by decide) (by decide) (by decide)) (hr _ (by decide) (by decide) (by decide) (by decide) (by decide)) (hr _ (by decide) (by decide) (by decide) (by decide) (by decide))) (hI.W.mv (hr _ (by decide) (by decide) (by decide) (by decide) (by decide)) (by rw [hi 20 (by decide)]; exact hI.W.2))
    · rw [stF_s, ho 107 (by decide) (by decide) (by decide), ← hF, adF_4]; omega
    · rw [stF_s]; omega
    · rw [hi 10 (by decide), ho 107 (by decide) (by decide) (by decide), ← hF, adF_3]; exact t3
    · rw [h170, ho 108 (by decide) (by decide) (by decide), ← hF]
      intro i
      rw [adF_8]
      unfold imU
      by_cases hj : t ≤ i ∧ i < t + 20
      · rw [if_pos hj, if_pos hj]
        exact sbyN _ (by omega)
      · rw [if_neg hj, if_neg hj]
        exact t4 i
  · rw [if_neg c1, if_neg c1, if_neg c1]; exact ⟨rfl, hI⟩
theorem KO.eq {K K' : Nat → Int} {D M : Int} (h : KO K D M) (he : ∀ j, j < 4888 → K' j = K j) : KO K' D M := by
  have h8 := h.sm
  have h9 := h.cm
  have hl := h.nl
  refine ⟨by rw [he 77 (by decide)]; exact h.n, fun c hc => ?_, by rw [he 40 (by decide)]; exact h.dz, by rw [he 41 (by decide)]; exact h.lp, by rw [he 42 (by decide)]; exact h.dy, by rw [he 43 (by decide)]; exact h.b0, by rw [he 44 (by decide)]; exact h.b1, by rw [he 78 (by decide)]; exact h8, by rw [he 79 (by decide)]; exact h9, fun i hi => ?_, fun i hi => ?_, by rw [he 80 (by decide)]; exact hl, by rw [he 81 (by decide), he 80 (by decide)]; exact h.fo, fun i hi => ?_⟩
  · rw [he (5 * c) (by omega), he (5 * c + 1) (by omega), he (5 * c + 2) (by omega), he (5 * c + 3) (by omega), he (5 * c + 4) (by omega)]; exact h.f hc
  · rw [he 78 (by decide)] at hi
    rw [he (45 + 2 * i) (by omega), he (46 + 2 * i) (by omega), he 77 (by decide)]; exact h.si i hi
  · rw [he 79 (by decide)] at hi
    rw [he (61 + 2 * i) (by omega), he (62 + 2 * i) (by omega), he 77 (by decide)]; exact h.ci i hi
  · rw [he 80 (by decide)] at hi
    have hw := h.lw i hi
    have hr := (lawK_e (K := K) (K' := K') (i := i) (he _ (by omega)) (h.kt hi) (fun j hj => ⟨he _ (by omega), he _ (by omega)⟩)).2
    rw [he (82 + i) (by omega), hr]
    refine ⟨hw.1, hw.2.1, fun j hj => ?_⟩
    rw [he (88 + 400 * i + j) (by omega), he (2488 + 400 * i + j) (by omega)]
    exact hw.2.2 j hj
theorem BK.eq {g : Gm} {f : Fm} {b : Nat} {K K' : Nat → Int} {D M : Int} (h : BK g f b K) (hO : KO K D M) (he : ∀ j, j < 4888 → K' j = K j) : BK g f b K' := by
  have hl := hO.nl
  refine ⟨by rw [he 77 (by decide)]; exact h.n, by rw [he 80 (by decide)]; exact h.nl, by rw [he 81 (by decide)]; exact h.fo, fun w c hw hc => by rw [he _ (by omega)]; exact h.tr hw hc, fun t ht => by rw [he _ (by omega)]; exact h.te ht, by rw [he 78 (by decide)]; exact h.sm, fun i hi => by rw [he (45 + 2 * i) (by omega), he (46 + 2 * i) (by omega)]; exact h.si hi, by rw [he 79 (by decide)]; exact h.cm, fun i hi => by rw [he (61 + 2 * i) (by omega), he (62 + 2 * i) (by omega)]; exact h.ci hi, fun i hi => ?_, h.lk⟩
  rw [he 80 (by decide)] at hi
  rw [(lawK_e (K := K) (K' := K') (i := i) (he _ (by omega)) (hO.kt hi) (fun j hj => ⟨he _ (by omega), he _ (by omega)⟩)).1]
  exact h.lw i hi
theorem TX.cp {g : Gm} {a c q : Nat} (ha : TX g a) (hq : TX g q) : TX (cpR g a c 6) q := by
  have e := cpR_sh g a c 6
  intro i p hp
  by_cases h : q = c
  · subst h
    have hr : grm (cpR g a q 6) q i = if i < 6 then grm g a i else grm g q i := by
      by_cases hi : i < 6
      · rw [if_pos hi]; simp [grm, cpR, hi]
      · rw [if_neg hi]; simp [grm, cpR, hi]
    rw [hr] at hp
    by_cases hi : i < 6
    · rw [if_pos hi] at hp; exact (ha i p hp).to e
    · rw [if_neg hi] at hp; exact (hq i p hp).to e
  · rw [cpR_rm g h] at hp; exact (hq i p hp).to e
theorem IG.cp {g : Gm} {a c : Nat} (h : IG g) (ha : TX g a) (hc : gkd g c = 15) : IG (cpR g a c 6) := by
  obtain ⟨h1, h2, h3, h4, h5, h6⟩ := h
  have e := cpR_sh g a c 6
  exact ⟨h1.to e (cpR_hr hc), h2.to e (cpR_hr hc), h3, ha.cp h4, ha.cp h5, ha.cp h6⟩

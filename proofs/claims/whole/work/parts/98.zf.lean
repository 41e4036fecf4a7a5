/-! terms, force, sight, claim, forget, end, feed -/
theorem KO.ter {K : Nat → Int} (h : KO K 9999 999999) {w : Nat} {v : Int} (hv : w = 0 ∧ 2 ≤ v ∧ v ≤ 20 ∨ w = 1 ∧ 0 ≤ v ∧ v ≤ 9 ∨ w = 2 ∧ 0 ≤ v ∧ v ≤ 9999 ∨ w = 3 ∧ 0 ≤ v ∧ v ≤ 999999 ∨ w = 4 ∧ 0 ≤ v ∧ v ≤ 999999) : KO (upK K (40 + w) v) 9999 999999 := by
  have e : ∀ {j : Nat}, j < 40 ∨ 45 ≤ j → upK K (40 + w) v j = K j := fun a => upK_n _ _ (by omega)
  refine ⟨by rw [e (by decide)]; exact h.n, fun c' hc' => ?_, ?_, ?_, ?_, ?_, ?_, by rw [e (by decide)]; exact h.sm, by rw [e (by decide)]; exact h.cm, fun i hi => ?_, fun i hi => ?_, by rw [e (by decide)]; exact h.nl, by rw [e (j := 81) (by decide), e (j := 80) (by decide)]; exact h.fo, h.ll (fun j hj => e (by omega))⟩
  · rw [e (j := 5 * c') (by omega), e (j := 5 * c' + 1) (by omega), e (j := 5 * c' + 2) (by omega), e (j := 5 * c' + 3) (by omega), e (j := 5 * c' + 4) (by omega)]; exact h.f hc'
  · have := h.dz
    unfold upK; split <;> omega
  · have := h.lp
    unfold upK; split <;> omega
  · have := h.dy
    unfold upK; split <;> omega
  · have := h.b0
    unfold upK; split <;> omega
  · have := h.b1
    unfold upK; split <;> omega
  · rw [e (by decide)] at hi
    rw [e (j := 45 + 2 * i) (by omega), e (j := 46 + 2 * i) (by omega), e (j := 77) (by decide)]; exact h.si i hi
  · rw [e (by decide)] at hi
    rw [e (j := 61 + 2 * i) (by omega), e (j := 62 + 2 * i) (by omega), e (j := 77) (by decide)]; exact h.ci i hi
theorem BK.ter {g : Gm} {f f' : Fm} {K : Nat → Int} {D M : Int} (h : BK g f 65 K) (hO : KO K D M) {w : Nat} (hw : w < 5) {v : Int} (hf : ∀ q, q ≠ 67 → (65 ≤ q ∧ q ≤ 74) ∨ 195 ≤ q → f' q = f q) (h67 : f' 67 = upK (f 67) w v) : BK g f' 65 (upK K (40 + w) v) := by
  have e : ∀ {j : Nat}, j < 40 ∨ 45 ≤ j → upK K (40 + w) v j = K j := fun a => upK_n _ _ (by omega)
  refine ⟨by rw [e (by decide), hf 65 (by omega) (by omega)]; exact h.n, by rw [e (by decide), hf 65 (by omega) (by omega)]; exact h.nl, by rw [e (by decide), hf 65 (by omega) (by omega)]; exact h.fo, fun w' c' hw' hc' => ?_, fun t ht => ?_, ?_, fun i hi => ?_, ?_, fun i hi => ?_, h.ll hO (fun j hj => e (by omega)) (fun q hq => hf q (by omega) (by omega)), h.lk⟩
  · show f' 66 (8 * w' + c') = _
    rw [hf 66 (by omega) (by omega), e (by omega)]; exact h.tr hw' hc'
  · show f' 67 t = _
    rw [h67]
    by_cases q : t = w
    · subst q; rw [upK_s, upK_s]
    · rw [upK_n _ _ q, upK_n _ _ (by omega)]; exact h.te ht
  · show f' 69 2 = _
    rw [hf 69 (by omega) (by omega), e (by decide)]; exact h.sm
  · show f' 70 i = _ ∧ f' 71 i = _
    rw [hf 70 (by omega) (by omega), hf 71 (by omega) (by omega), e (j := 45 + 2 * i) (by omega), e (j := 46 + 2 * i) (by omega)]; exact h.si hi
  · show f' 72 2 = _
    rw [hf 72 (by omega) (by omega), e (by decide)]; exact h.cm
  · show f' 73 i = _ ∧ f' 74 i = _
    rw [hf 73 (by omega) (by omega), hf 74 (by omega) (by omega), e (j := 61 + 2 * i) (by omega), e (j := 62 + 2 * i) (by omega)]; exact h.ci hi
theorem xnTerms_o (f : Fm) (w v : Int) {q : Nat} (h : 164 ≤ q) : xnTerms f w v q = f q := by
  unfold xnTerms
  split
  · exact xrf_o _ _ (by omega) (by omega)
  · rw [stF_n _ _ _ (by omega), drp_n _ (by omega) (by omega) (by omega) (by omega) (by omega), stF_n _ _ _ (by omega)]
theorem op_terms (l : Launch) (z : Zv) (w v : Int) (h_w : inR w) (h_v : inR v) : OpOK l z Inv mX10_terms mX11_terms [.int (iI w), .int (iI v)] := by
  intro g f hI
  refine PM.mono (PM.room (x_terms l z 298 hI.X h_w h_v) (Nat.zero_le _) (Nat.zero_le _)) (fun r0 g1 f1 hq => ?_)
  obtain ⟨rfl, rfl, rfl⟩ := hq
  have e1 : xnTerms f w v 166 = f 166 := xnTerms_o f w v (by decide)
  obtain ⟨x, hx, hr⟩ := inIt (xaTerms f w v)
  refine ⟨x, hx, hr, hI.M.k, PM.mono (m_terms l z 298 hI.M h_w h_v) (fun r0 g2 f2 hq => ?_)⟩
  obtain ⟨rfl, rfl, rfl⟩ := hq
  unfold aTerms nTerms
  rw [e1]
  unfold xaTerms xnTerms
  by_cases c1 : ¬ (w = 0 ∧ 2 ≤ v ∧ v ≤ 20 ∨ w = 1 ∧ 0 ≤ v ∧ v ≤ 9 ∨ w = 2 ∧ 0 ≤ v ∧ v ≤ 9999 ∨ w = 3 ∧ 0 ≤ v ∧ v ≤ 999999 ∨ w = 4 ∧ 0 ≤ v ∧ v ≤ 999999)
  · rw [if_pos c1, if_pos c1, if_pos c1, if_pos c1]; exact ⟨rfl, hI.ref (by unfold rfK; omega)⟩
  · rw [if_neg c1, if_neg c1, if_neg c1, if_neg c1]
    have hv := Decidable.not_not.mp c1
    obtain ⟨wn, rfl⟩ : ∃ wn : Nat, w = (wn : Int) := ⟨w.toNat, by omega⟩
    have i1 : ((wn : Int)).toNat = wn := by omega
    have i2 : (40 + (wn : Int)).toNat = 40 + wn := by omega
    rw [i1, i2]
    have ht : f 67 wn = f 166 (40 + wn) := hI.BK.te (by omega)
    exact ⟨by rw [ht], inv_one hI (by omega) (hI.KO.ter (by omega)) (hI.BK.ter hI.KO (by omega) (fun q a1 a2 => stF_n _ _ _ a1) (stF_u _ _ _ _))⟩
theorem KO.fce {K : Nat → Int} {D M : Int} (h : KO K D M) {v : Int} (hv : -1 ≤ v ∧ v < K 80) : KO (upK K 81 v) D M := by
  have e : ∀ {j : Nat}, j ≠ 81 → upK K 81 v j = K j := fun a => upK_n _ _ a
  refine ⟨by rw [e (by decide)]; exact h.n, fun c' hc' => ?_, by rw [e (by decide)]; exact h.dz, by rw [e (by decide)]; exact h.lp, by rw [e (by decide)]; exact h.dy, by rw [e (by decide)]; exact h.b0, by rw [e (by decide)]; exact h.b1, by rw [e (by decide)]; exact h.sm, by rw [e (by decide)]; exact h.cm, fun i hi => ?_, fun i hi => ?_, by rw [e (by decide)]; exact h.nl, by rw [upK_s, e (j := 80) (by decide)]; exact hv, h.ll (fun j hj => e (by omega))⟩
  · rw [e (j := 5 * c') (by omega), e (j := 5 * c' + 1) (by omega), e (j := 5 * c' + 2) (by omega), e (j := 5 * c' + 3) (by omega), e (j := 5 * c' + 4) (by omega)]; exact h.f hc'
  · rw [e (by decide)] at hi
    rw [e (j := 45 + 2 * i) (by have := h.sm; omega), e (j := 46 + 2 * i) (by have := h.sm; omega), e (j := 77) (by decide)]; exact h.si i hi
  · rw [e (by decide)] at hi
    rw [e (j := 61 + 2 * i) (by have := h.cm; omega), e (j := 62 + 2 * i) (by have := h.cm; omega), e (j := 77) (by decide)]; exact h.ci i hi
theorem BK.fce {g : Gm} {f f' : Fm} {K : Nat → Int} {D M : Int} (h : BK g f 65 K) (hO : KO K D M) {v : Int} (hf : ∀ q, q ≠ 65 → (65 ≤ q ∧ q ≤ 74) ∨ 195 ≤ q → f' q = f q) (h65 : f' 65 = upK (f 65) 7 v) : BK g f' 65 (upK K 81 v) := by
  have e : ∀ {j : Nat}, j ≠ 81 → upK K 81 v j = K j := fun a => upK_n _ _ a
  refine ⟨by rw [e (by decide), h65, upK_n _ _ (by decide)]; exact h.n, by rw [e (by decide), h65, upK_n _ _ (by decide)]; exact h.nl, by rw [upK_s, h65, upK_s], fun w' c' hw' hc' => ?_, fun t ht => ?_, ?_, fun i hi => ?_, ?_, fun i hi => ?_, h.ll hO (fun j hj => e (by omega)) (fun q hq => hf q (by omega) (by omega)), h.lk⟩
  · show f' 66 (8 * w' + c') = _
    rw [hf 66 (by omega) (by omega), e (by omega)]; exact h.tr hw' hc'
  · show f' 67 t = _
    rw [hf 67 (by omega) (by omega), e (by omega)]; exact h.te ht
  · show f' 69 2 = _
    rw [hf 69 (by omega) (by omega), e (by decide)]; exact h.sm
  · show f' 70 i = _ ∧ f' 71 i = _
    rw [hf 70 (by omega) (by omega), hf 71 (by omega) (by omega), e (j := 45 + 2 * i) (by omega), e (j := 46 + 2 * i) (by omega)]; exact h.si hi
  · show f' 72 2 = _
    rw [hf 72 (by omega) (by omega), e (by decide)]; exact h.cm
  · show f' 73 i = _ ∧ f' 74 i = _
    rw [hf 73 (by omega) (by omega), hf 74 (by omega) (by omega), e (j := 61 + 2 * i) (by omega), e (j := 62 + 2 * i) (by omega)]; exact h.ci hi
theorem xnForce_o (f : Fm) (n : Int) {q : Nat} (h : 164 ≤ q) : xnForce f n q = f q := by
  unfold xnForce
  split
  · exact xrf_o _ _ (by omega) (by omega)
  · rw [stF_n _ _ _ (by omega), drp_n _ (by omega) (by omega) (by omega) (by omega) (by omega), stF_n _ _ _ (by omega)]
theorem op_force (l : Launch) (z : Zv) (n : Int) (h_n : inR n) : OpOK l z Inv mX10_force mX11_force [.int (iI n)] := by
  intro g f hI
  have e6 : f 65 6 = f 166 80 := hI.BK.nl
  have e7 : f 65 7 = f 166 81 := hI.BK.fo
  refine PM.mono (PM.room (x_force l z 298 hI.X (by rw [e6]; exact hI.KO.nl) h_n) (Nat.zero_le _) (Nat.zero_le _)) (fun r0 g1 f1 hq => ?_)
  obtain ⟨rfl, rfl, rfl⟩ := hq
  have e1 : xnForce f n 166 = f 166 := xnForce_o f n (by decide)
  obtain ⟨x, hx, hr⟩ := inIt (xaForce f n)
  refine ⟨x, hx, hr, hI.M.k, PM.mono (m_force l z 299 hI.M (by rw [e1]; exact hI.KO.nl) h_n) (fun r0 g2 f2 hq => ?_)⟩
  obtain ⟨rfl, rfl, rfl⟩ := hq
  unfold aForce nForce
  rw [e1]
  unfold xaForce xnForce
  rw [e6, e7]
  by_cases c1 : ¬ (-1 ≤ n ∧ n ≤ f 166 80 - 1)
  · rw [if_pos c1, if_pos c1, if_pos c1]; exact ⟨rfl, hI.ref (by unfold rfK; omega)⟩
  · rw [if_neg c1, if_neg c1, if_neg c1]
    exact ⟨rfl, inv_one hI (by omega) (hI.KO.fce (by omega)) (hI.BK.fce hI.KO (fun q a1 a2 => stF_n _ _ _ a1) (stF_u _ _ _ _))⟩
/-- one saying more -/
def syK (K : Nat → Int) (a m : Nat) (c v : Int) : Nat → Int := upK (upK (upK K (a + 2 * (K m).toNat) c) (a + 2 * (K m).toNat + 1) v) m (K m + 1)
theorem KE_of {K K' : Nat → Int} {D M : Int} (hO : KO K D M) (h : ∀ j, j ≤ 44 ∨ 81 ≤ j → K' j = K j) : KE K K' := by
  refine ⟨⟨fun j hj => h j (by omega), h 81 (by omega), fun hq => ?_⟩, fun j h1 h2 => h j (by omega)⟩
  have hf := hO.fo
  exact ⟨h _ (by omega), hO.kt (by omega), fun j hj => ⟨h _ (by omega), h _ (by omega)⟩⟩
theorem syK_m (K : Nat → Int) (a m : Nat) (c v : Int) : syK K a m c v m = K m + 1 := upK_s _ _ _
theorem syK_o {K : Nat → Int} {a m : Nat} {c v : Int} (hm : 0 ≤ K m ∧ K m < 8) {j : Nat} (h : j < a ∨ a + 16 ≤ j) (h2 : j ≠ m) : syK K a m c v j = K j := by
  unfold syK; rw [upK_n _ _ h2, upK_n _ _ (by omega), upK_n _ _ (by omega)]
theorem syK_0 {K : Nat → Int} {a m : Nat} {c v : Int} (hm : 0 ≤ K m ∧ K m < 8) (ha : a + 16 ≤ m) {i : Nat} (hi : i < 8) : syK K a m c v (a + 2 * i) = if i = (K m).toNat then c else K (a + 2 * i) := by
  unfold syK
  rw [upK_n _ _ (by omega), upK_n _ _ (by omega)]
  by_cases q : i = (K m).toNat
  · rw [if_pos q, q, upK_s]
  · rw [if_neg q, upK_n _ _ (by omega)]
theorem syK_1 {K : Nat → Int} {a m : Nat} {c v : Int} (hm : 0 ≤ K m ∧ K m < 8) (ha : a + 16 ≤ m) {i : Nat} (hi : i < 8) : syK K a m c v (a + 1 + 2 * i) = if i = (K m).toNat then v else K (a + 1 + 2 * i) := by
  unfold syK
  rw [upK_n _ _ (by omega)]
  by_cases q : i = (K m).toNat
  · rw [if_pos q, q, show a + 1 + 2 * (K m).toNat = a + 2 * (K m).toNat + 1 by omega, upK_s]
  · rw [if_neg q, upK_n _ _ (by omega), upK_n _ _ (by omega)]
theorem KO.say {K : Nat → Int} {D M : Int} (h : KO K D M) {a m : Nat} (ham : (a = 45 ∧ m = 78) ∨ (a = 61 ∧ m = 79)) {c v : Int} (hc : 0 ≤ c ∧ c < K 77) (hv : 0 ≤ v ∧ v ≤ 20) (hm : K m < 8) : KO (syK K a m c v) D M := by
  have h8 := h.sm
  have h9 := h.cm
  have hm2 : 0 ≤ K m ∧ K m < 8 := by rcases ham with ⟨rfl, rfl⟩ | ⟨rfl, rfl⟩ <;> omega
  have e : ∀ {j : Nat}, j < a ∨ a + 16 ≤ j → j ≠ m → syK K a m c v j = K j := fun p q => syK_o hm2 p q
  have e1 : ∀ {j : Nat}, j < 45 → syK K a m c v j = K j := fun p => e (by omega) (by omega)
  have e2 : ∀ {j : Nat}, 80 ≤ j → syK K a m c v j = K j := fun p => e (by omega) (by omega)
  have e7 : syK K a m c v 77 = K 77 := e (by omega) (by omega)
  refine ⟨by rw [e7]; exact h.n, fun c' hc' => ?_, by rw [e1 (by decide)]; exact h.dz, by rw [e1 (by decide)]; exact h.lp, by rw [e1 (by decide)]; exact h.dy, by rw [e1 (by decide)]; exact h.b0, by rw [e1 (by decide)]; exact h.b1, ?_, ?_, ?_, ?_, by rw [e2 (by decide)]; exact h.nl, by rw [e2 (j := 81) (by decide), e2 (j := 80) (by decide)]; exact h.fo, h.ll (fun j hj => e2 (by omega))⟩
  · rw [e1 (j := 5 * c') (by omega), e1 (j := 5 * c' + 1) (by omega), e1 (j := 5 * c' + 2) (by omega), e1 (j := 5 * c' + 3) (by omega), e1 (j := 5 * c' + 4) (by omega)]; exact h.f hc'
  · rcases ham with ⟨rfl, rfl⟩ | ⟨rfl, rfl⟩
    · rw [syK_m]; omega
    · rw [e (by omega) (by omega)]; exact h8
  · rcases ham with ⟨rfl, rfl⟩ | ⟨rfl, rfl⟩
    · rw [e (by omega) (by omega)]; exact h9
    · rw [syK_m]; omega
  · rcases ham with ⟨rfl, rfl⟩ | ⟨rfl, rfl⟩
    · intro i hi
      rw [syK_m] at hi
      rw [syK_0 hm2 (by omega) (by omega), show 46 + 2 * i = 45 + 1 + 2 * i by omega, syK_1 hm2 (by omega) (by omega), e7]
      by_cases q : i = (K 78).toNat
      · rw [if_pos q, if_pos q]; exact ⟨hc, hv⟩
      · rw [if_neg q, if_neg q]; exact h.si i (by omega)
    · intro i hi
      rw [e (by omega) (by omega)] at hi
      rw [e (j := 45 + 2 * i) (by omega) (by omega), e (j := 46 + 2 * i) (by omega) (by omega), e7]
      exact h.si i hi
  · rcases ham with ⟨rfl, rfl⟩ | ⟨rfl, rfl⟩
    · intro i hi
      rw [e (by omega) (by omega)] at hi
      rw [e (j := 61 + 2 * i) (by omega) (by omega), e (j := 62 + 2 * i) (by omega) (by omega), e7]
      exact h.ci i hi
    · intro i hi
      rw [syK_m] at hi
      rw [syK_0 hm2 (by omega) (by omega), show 62 + 2 * i = 61 + 1 + 2 * i by omega, syK_1 hm2 (by omega) (by omega), e7]
      by_cases q : i = (K 79).toNat
      · rw [if_pos q, if_pos q]; exact ⟨hc, hv⟩
      · rw [if_neg q, if_neg q]; exact h.ci i (by omega)
theorem BK.say {g : Gm} {f f' : Fm} {K : Nat → Int} {D M : Int} (h : BK g f 65 K) (hO : KO K D M) {a m b : Nat} (ham : (a = 45 ∧ m = 78 ∧ b = 69) ∨ (a = 61 ∧ m = 79 ∧ b = 72)) {c v : Int} (hm : K m < 8) (hf : ∀ q, q ≠ b → q ≠ b + 1 → q ≠ b + 2 → (65 ≤ q ∧ q ≤ 74) ∨ 195 ≤ q → f' q = f q) (hb : f' b 2 = K m + 1) (hb1 : f' (b + 1) = upK (f (b + 1)) (K m).toNat c) (hb2 : f' (b + 2) = upK (f (b + 2)) (K m).toNat v) : BK g f' 65 (syK K a m c v) := by
  have h8 := hO.sm
  have h9 := hO.cm
  have hm2 : 0 ≤ K m ∧ K m < 8 := by rcases ham with ⟨rfl, rfl, rfl⟩ | ⟨rfl, rfl, rfl⟩ <;> omega
  have e : ∀ {j : Nat}, j < a ∨ a + 16 ≤ j → j ≠ m → syK K a m c v j = K j := fun p q => syK_o hm2 p q
  have e1 : ∀ {j : Nat}, j < 45 → syK K a m c v j = K j := fun p => e (by omega) (by omega)
  have e2 : ∀ {j : Nat}, 80 ≤ j → syK K a m c v j = K j := fun p => e (by omega) (by omega)
  have e7 : syK K a m c v 77 = K 77 := e (by omega) (by omega)
  have f65 : f' 65 = f 65 := hf 65 (by omega) (by omega) (by omega) (by omega)
  refine ⟨by rw [e7, f65]; exact h.n, by rw [e2 (by decide), f65]; exact h.nl, by rw [e2 (by decide), f65]; exact h.fo, fun w' c' hw' hc' => ?_, fun t ht => ?_, ?_, ?_, ?_, ?_, h.ll hO (fun j hj => e2 (by omega)) (fun q hq => hf q (by omega) (by omega) (by omega) (by omega)), h.lk⟩
  · show f' 66 (8 * w' + c') = _
    rw [hf 66 (by omega) (by omega) (by omega) (by omega), e1 (by omega)]; exact h.tr hw' hc'
  · show f' 67 t = _
    rw [hf 67 (by omega) (by omega) (by omega) (by omega), e1 (by omega)]; exact h.te ht
  · show f' 69 2 = _
    rcases ham with ⟨rfl, rfl, rfl⟩ | ⟨rfl, rfl, rfl⟩
    · rw [syK_m, hb]
    · rw [hf 69 (by omega) (by omega) (by omega) (by omega), e (by omega) (by omega)]; exact h.sm
  · intro i hi
    show f' 70 i = _ ∧ f' 71 i = _
    rcases ham with ⟨rfl, rfl, rfl⟩ | ⟨rfl, rfl, rfl⟩
    · rw [show f' 70 = upK (f 70) (K 78).toNat c from hb1, show f' 71 = upK (f 71) (K 78).toNat v from hb2, syK_0 hm2 (by omega) hi, show 46 + 2 * i = 45 + 1 + 2 * i by omega, syK_1 hm2 (by omega) hi]
      by_cases q : i = (K 78).toNat
      · rw [if_pos q, if_pos q, q, upK_s, upK_s]; exact ⟨rfl, rfl⟩
      · rw [if_neg q, if_neg q, upK_n _ _ q, upK_n _ _ q]; exact h.si hi
    · rw [hf 70 (by omega) (by omega) (by omega) (by omega), hf 71 (by omega) (by omega) (by omega) (by omega), e (j := 45 + 2 * i) (by omega) (by omega), e (j := 46 + 2 * i) (by omega) (by omega)]; exact h.si hi
  · show f' 72 2 = _
    rcases ham with ⟨rfl, rfl, rfl⟩ | ⟨rfl, rfl, rfl⟩
    · rw [hf 72 (by omega) (by omega) (by omega) (by omega), e (by omega) (by omega)]; exact h.cm
    · rw [syK_m, hb]
  · intro i hi
    show f' 73 i = _ ∧ f' 74 i = _
    rcases ham with ⟨rfl, rfl, rfl⟩ | ⟨rfl, rfl, rfl⟩
    · rw [hf 73 (by omega) (by omega) (by omega) (by omega), hf 74 (by omega) (by omega) (by omega) (by omega), e (j := 61 + 2 * i) (by omega) (by omega), e (j := 62 + 2 * i) (by omega) (by omega)]; exact h.ci hi
    · rw [show f' 73 = upK (f 73) (K 79).toNat c from hb1, show f' 74 = upK (f 74) (K 79).toNat v from hb2, syK_0 hm2 (by omega) hi, show 62 + 2 * i = 61 + 1 + 2 * i by omega, syK_1 hm2 (by omega) hi]
      by_cases q : i = (K 79).toNat
      · rw [if_pos q, if_pos q, q, upK_s, upK_s]; exact ⟨rfl, rfl⟩
      · rw [if_neg q, if_neg q, upK_n _ _ q, upK_n _ _ q]; exact h.ci hi

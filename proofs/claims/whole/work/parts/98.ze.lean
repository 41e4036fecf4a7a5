/-! customer, put, terms, force -/
def upK (K : Nat → Int) (i : Nat) (v : Int) : Nat → Int := fun j => if j = i then v else K j
theorem stF_u (f : Fm) (a i : Nat) (v : Int) : stF f a i v a = upK (f a) i v := by funext j; simp [stF, upK]
theorem upK_s (K : Nat → Int) (i : Nat) (v : Int) : upK K i v i = v := by unfold upK; rw [if_pos rfl]
theorem upK_n (K : Nat → Int) {i j : Nat} (v : Int) (h : j ≠ i) : upK K i v j = K j := by unfold upK; rw [if_neg h]
theorem gd_n (f : Fm) {q : Nat} (h : q ≠ 164) : gd f q = f q := stF_n _ _ _ h
theorem gd_0 (f : Fm) : gd f 164 0 = 0 := stF_s _ _ _ _
theorem gd_i (f : Fm) {i : Nat} (h : i ≠ 0) : gd f 164 i = f 164 i := stF_i _ _ _ h
theorem xnCustomer_o (f : Fm) (b r v : Int) {q : Nat} (h : 164 ≤ q) : xnCustomer f b r v q = f q := by
  unfold xnCustomer
  split
  · exact xrf_o _ _ (by omega) (by omega)
  · split
    · exact xrf_o _ _ (by omega) (by omega)
    · rw [stF_n _ _ _ (by omega), wel_o _ _ _ _ _ _ (by omega) (by omega), drp_n _ (by omega) (by omega) (by omega) (by omega) (by omega)]
theorem op_customer (l : Launch) (z : Zv) (b r v : Int) (h_b : inR b) (h_r : inR r) (h_v : inR v) : OpOK l z Inv mX10_customer mX11_customer [.int (iI b), .int (iI r), .int (iI v)] := by
  intro g f hI
  have hn := hI.KO.n
  have e5 : f 65 5 = f 166 77 := hI.BK.n
  refine PM.mono (PM.room (x_customer l z 298 hI.X hI.n5 h_b h_r h_v) (Nat.zero_le _) (Nat.zero_le _)) (fun r0 g1 f1 hq => ?_)
  obtain ⟨rfl, rfl, rfl⟩ := hq
  have e1 : xnCustomer f b r v 166 = f 166 := xnCustomer_o f b r v (by decide)
  obtain ⟨x, hx, hr⟩ := inIt (xaCustomer f b r v)
  refine ⟨x, hx, hr, hI.M.k, PM.mono (m_customer l z 298 hI.M (by rw [e1]; exact hn) h_b h_r h_v) (fun r0 g2 f2 hq => ?_)⟩
  obtain ⟨rfl, rfl, rfl⟩ := hq
  have ea : aCustomer (xnCustomer f b r v) b r v = xaCustomer f b r v := by unfold aCustomer xaCustomer; rw [e1, e5]
  refine ⟨by rw [ea], ?_⟩
  unfold nCustomer
  rw [e1]
  unfold xnCustomer
  rw [e5]
  by_cases c1 : ¬ ((0 ≤ b ∧ b ≤ 40) ∧ (0 ≤ r ∧ r ≤ 9) ∧ (0 ≤ v ∧ v ≤ 1))
  · rw [if_pos c1, if_pos c1]; exact hI.ref (by unfold rfK; omega)
  · rw [if_neg c1, if_neg c1]
    by_cases c2 : f 166 77 = 8
    · rw [if_pos c2, if_pos c2]; exact hI.ref (by unfold rfK; omega)
    · rw [if_neg c2, if_neg c2]
      have hb : (0 ≤ b ∧ b ≤ 40) ∧ (0 ≤ r ∧ r ≤ 9) ∧ (0 ≤ v ∧ v ≤ 1) := Decidable.not_not.mp c1
      have ho : ∀ q, q ≠ 64 → q ≠ 65 → q ≠ 66 → q ≠ 111 → q ≠ 135 → q ≠ 140 → q ≠ 145 → q ≠ 150 → q ≠ 164 → q ≠ 166 → gd (updA (stF (wel (drp f) 65 b r v (f 166 77)) 64 16 0) 166 (addK (f 166) b r v)) q = f q := fun q a1 a2 a3 a4 a5 a6 a7 a8 a9 a10 => by rw [gd_n _ a9, updA_n _ _ a10, stF_n _ _ _ a1, wel_o _ _ _ _ _ _ a2 a3, drp_n _ a4 a5 a6 a7 a8]
      have h64 : gd (updA (stF (wel (drp f) 65 b r v (f 166 77)) 64 16 0) 166 (addK (f 166) b r v)) 64 = stF (wel (drp f) 65 b r v (f 166 77)) 64 16 0 64 := by rw [gd_n _ (by decide), updA_n _ _ (by decide)]
      have hd : ∀ q, q = 111 ∨ q = 135 ∨ q = 140 ∨ q = 145 ∨ q = 150 → gd (updA (stF (wel (drp f) 65 b r v (f 166 77)) 64 16 0) 166 (addK (f 166) b r v)) q = drp f q := fun q hq => by rw [gd_n _ (by omega), updA_n _ _ (by omega), stF_n _ _ _ (by omega), wel_o _ _ _ _ _ _ (by omega) (by omega)]
      have h166 : gd (updA (stF (wel (drp f) 65 b r v (f 166 77)) 64 16 0) 166 (addK (f 166) b r v)) 166 = addK (f 166) b r v := by rw [gd_n _ (by decide), updA_s]
      have h65 : ∀ q, q = 65 ∨ q = 66 → gd (updA (stF (wel (drp f) 65 b r v (f 166 77)) 64 16 0) 166 (addK (f 166) b r v)) q = wel (drp f) 65 b r v (f 166 77) q := fun q hq => by rw [gd_n _ (by omega), updA_n _ _ (by omega), stF_n _ _ _ (by omega)]
      have dr := drp_0 f
      refine hI.go (fun q a1 a2 a4 a5 a6 a7 a8 a9 a10 => ho q a1 (by omega) (by omega) a4 a5 a6 a7 a8 a9 a10) ?_ ?_ (fun i hi => ?_) ⟨?_, ?_⟩ (IC.dr (by rw [hd 111 (by omega)]; exact dr.1) (by rw [hd 111 (by omega)]; exact dr.2.1) (by rw [hd 135 (by omega)]; exact dr.2.2.1) (by rw [hd 140 (by omega)]; exact dr.2.2.2.1) (by rw [hd 145 (by omega)]; exact dr.2.2.2.2.1) (by rw [hd 150 (by omega)]; exact dr.2.2.2.2.2))
      · rw [h64, stF_s, gd_0]
      · rw [h64, stF_i _ _ _ (by decide), wel_o _ _ _ _ _ _ (by decide) (by decide), drp_n _ (by decide) (by decide) (by decide) (by decide) (by decide)]
      · rw [gd_i _ hi, updA_n _ _ (by decide), stF_n _ _ _ (by decide), wel_o _ _ _ _ _ _ (by decide) (by decide), drp_n _ (by decide) (by decide) (by decide) (by decide) (by decide)]
      · rw [h166]; exact hI.KO.add (by omega) hb.1 hb.2.1 hb.2.2
      · rw [h166]
        refine hI.BK.add hI.KO (by omega) (fun q hq => ho q (by omega) (by omega) (by omega) (by omega) (by omega) (by omega) (by omega) (by omega) (by omega) (by omega)) ?_ ?_ ?_ ?_
        · rw [h65 65 (by omega), wel_5]
        · rw [h65 65 (by omega)]; simp [wel, stF, drp]
        · rw [h65 65 (by omega)]; simp [wel, stF, drp]
        · rw [h65 66 (by omega)]
          funext i
          simp [wel, stF, drp]
theorem KO.put {K : Nat → Int} {D M : Int} (h : KO K D M) {c w : Nat} (hc : c < 8) {v : Int} (hv : 0 ≤ v ∧ (w = 0 ∧ v ≤ 40 ∨ w = 1 ∧ v ≤ 9 ∨ w = 2 ∧ v ≤ 1 ∨ w = 3 ∧ v ≤ 9999 ∨ w = 4 ∧ v ≤ 999999)) : KO (upK K (5 * c + w) v) D M := by
  have e : ∀ {j : Nat}, 40 ≤ j → upK K (5 * c + w) v j = K j := fun a => upK_n _ _ (by omega)
  refine ⟨by rw [e (by decide)]; exact h.n, fun c' hc' => ?_, by rw [e (by decide)]; exact h.dz, by rw [e (by decide)]; exact h.lp, by rw [e (by decide)]; exact h.dy, by rw [e (by decide)]; exact h.b0, by rw [e (by decide)]; exact h.b1, by rw [e (by decide)]; exact h.sm, by rw [e (by decide)]; exact h.cm, fun i hi => ?_, fun i hi => ?_, by rw [e (by decide)]; exact h.nl, by rw [e (j := 81) (by decide), e (j := 80) (by decide)]; exact h.fo, h.ll (fun j hj => e (by omega))⟩
  · have hf := h.f hc'
    unfold upK
    refine ⟨?_, ?_, ?_, ?_, ?_⟩
    · split <;> omega
    · split <;> omega
    · split <;> omega
    · split <;> omega
    · split <;> omega
  · rw [e (by decide)] at hi
    rw [e (j := 45 + 2 * i) (by omega), e (j := 46 + 2 * i) (by omega), e (j := 77) (by decide)]; exact h.si i hi
  · rw [e (by decide)] at hi
    rw [e (j := 61 + 2 * i) (by omega), e (j := 62 + 2 * i) (by omega), e (j := 77) (by decide)]; exact h.ci i hi
theorem BK.put {g : Gm} {f f' : Fm} {K : Nat → Int} {D M : Int} (h : BK g f 65 K) (hO : KO K D M) {c w : Nat} (hc : c < 8) (hw : w < 5) {v : Int} (hf : ∀ q, q ≠ 66 → (65 ≤ q ∧ q ≤ 74) ∨ 195 ≤ q → f' q = f q) (h66 : f' 66 = upK (f 66) (8 * w + c) v) : BK g f' 65 (upK K (5 * c + w) v) := by
  have e : ∀ {j : Nat}, 40 ≤ j → upK K (5 * c + w) v j = K j := fun a => upK_n _ _ (by omega)
  refine ⟨by rw [e (by decide), hf 65 (by omega) (by omega)]; exact h.n, by rw [e (by decide), hf 65 (by omega) (by omega)]; exact h.nl, by rw [e (by decide), hf 65 (by omega) (by omega)]; exact h.fo, fun w' c' hw' hc' => ?_, fun t ht => ?_, ?_, fun i hi => ?_, ?_, fun i hi => ?_, h.ll hO (fun j hj => e (by omega)) (fun q hq => hf q (by omega) (by omega)), h.lk⟩
  · show f' 66 (8 * w' + c') = _
    rw [h66]
    by_cases q : 8 * w' + c' = 8 * w + c
    · have q1 : w' = w := by omega
      have q2 : c' = c := by omega
      subst q1; subst q2
      rw [upK_s, upK_s]
    · rw [upK_n _ _ q, upK_n _ _ (by omega)]; exact h.tr hw' hc'
  · show f' 67 t = _
    rw [hf 67 (by omega) (by omega), e (by omega)]; exact h.te ht
  · show f' 69 2 = _
    rw [hf 69 (by omega) (by omega), e (by decide)]; exact h.sm
  · show f' 70 i = _ ∧ f' 71 i = _
    rw [hf 70 (by omega) (by omega), hf 71 (by omega) (by omega), e (j := 45 + 2 * i) (by omega), e (j := 46 + 2 * i) (by omega)]; exact h.si hi
  · show f' 72 2 = _
    rw [hf 72 (by omega) (by omega), e (by decide)]; exact h.cm
  · show f' 73 i = _ ∧ f' 74 i = _
    rw [hf 73 (by omega) (by omega), hf 74 (by omega) (by omega), e (j := 61 + 2 * i) (by omega), e (j := 62 + 2 * i) (by omega)]; exact h.ci hi
/-- one int of a row of the bakery and one of what is kept, all answers dropped -/
theorem inv_one {g : Gm} {f : Fm} (h : Inv g f) {a i j : Nat} {v : Int} (ha : 65 ≤ a ∧ a ≤ 74) (hO : KO (upK (f 166) j v) 9999 999999) (hB : BK g (stF f a i v) 65 (upK (f 166) j v)) : Inv g (gd (stF (stF (drp (stF f a i v)) 64 16 0) 166 j v)) := by
  have ho : ∀ q, q ≠ 64 → q ≠ a → q ≠ 111 → q ≠ 135 → q ≠ 140 → q ≠ 145 → q ≠ 150 → q ≠ 164 → q ≠ 166 → gd (stF (stF (drp (stF f a i v)) 64 16 0) 166 j v) q = f q := fun q a1 a2 a4 a5 a6 a7 a8 a9 a10 => by rw [gd_n _ a9, stF_n _ _ _ a10, stF_n _ _ _ a1, drp_n _ a4 a5 a6 a7 a8, stF_n _ _ _ a2]
  have hd : ∀ q, q = 111 ∨ q = 135 ∨ q = 140 ∨ q = 145 ∨ q = 150 → gd (stF (stF (drp (stF f a i v)) 64 16 0) 166 j v) q = drp (stF f a i v) q := fun q hq => by rw [gd_n _ (by omega), stF_n _ _ _ (by omega), stF_n _ _ _ (by omega)]
  have h166 : gd (stF (stF (drp (stF f a i v)) 64 16 0) 166 j v) 166 = upK (f 166) j v := by rw [gd_n _ (by decide), stF_u, stF_n _ _ _ (by decide), drp_n _ (by decide) (by decide) (by decide) (by decide) (by decide), stF_n _ _ _ (by omega)]
  have h64 : gd (stF (stF (drp (stF f a i v)) 64 16 0) 166 j v) 64 = stF (drp (stF f a i v)) 64 16 0 64 := by rw [gd_n _ (by decide), stF_n _ _ _ (by decide)]
  have dr := drp_0 (stF f a i v)
  refine h.go (fun q a1 a2 a4 a5 a6 a7 a8 a9 a10 => ho q a1 (by omega) a4 a5 a6 a7 a8 a9 a10) ?_ ?_ (fun i hi => ?_) ⟨?_, ?_⟩ (IC.dr (by rw [hd 111 (by omega)]; exact dr.1) (by rw [hd 111 (by omega)]; exact dr.2.1) (by rw [hd 135 (by omega)]; exact dr.2.2.1) (by rw [hd 140 (by omega)]; exact dr.2.2.2.1) (by rw [hd 145 (by omega)]; exact dr.2.2.2.2.1) (by rw [hd 150 (by omega)]; exact dr.2.2.2.2.2))
  · rw [h64, stF_s, gd_0]
  · rw [h64, stF_i _ _ _ (by decide), drp_n _ (by decide) (by decide) (by decide) (by decide) (by decide), stF_n _ _ _ (by omega)]
  · rw [gd_i _ hi, stF_n _ _ _ (by decide), stF_n _ _ _ (by decide), drp_n _ (by decide) (by decide) (by decide) (by decide) (by decide), stF_n _ _ _ (by omega)]
  · rw [h166]; exact hO
  · rw [h166]
    refine hB.mem (fun q hq => ?_)
    have hg := h.g195
    rw [gd_n _ (by omega), stF_n _ _ _ (by omega), stF_n _ _ _ (by omega), drp_n _ (by omega) (by omega) (by omega) (by omega) (by omega)]
theorem xnPut_o (f : Fm) (c w v : Int) {q : Nat} (h : 164 ≤ q) : xnPut f c w v q = f q := by
  unfold xnPut
  split
  · exact xrf_o _ _ (by omega) (by omega)
  · split
    · exact xrf_o _ _ (by omega) (by omega)
    · rw [stF_n _ _ _ (by omega), drp_n _ (by omega) (by omega) (by omega) (by omega) (by omega), stF_n _ _ _ (by omega)]
theorem op_put (l : Launch) (z : Zv) (c w v : Int) (h_c : inR c) (h_w : inR w) (h_v : inR v) : OpOK l z Inv mX10_put mX11_put [.int (iI c), .int (iI w), .int (iI v)] := by
  intro g f hI
  have hn := hI.KO.n
  have e5 : f 65 5 = f 166 77 := hI.BK.n
  refine PM.mono (PM.room (x_put l z 298 hI.X hI.n5 h_c h_w h_v) (Nat.zero_le _) (Nat.zero_le _)) (fun r0 g1 f1 hq => ?_)
  obtain ⟨rfl, rfl, rfl⟩ := hq
  have e1 : xnPut f c w v 166 = f 166 := xnPut_o f c w v (by decide)
  obtain ⟨x, hx, hr⟩ := inIt (xaPut f c w v)
  refine ⟨x, hx, hr, hI.M.k, PM.mono (m_put l z 298 hI.M (by rw [e1]; exact hn) h_c h_w h_v) (fun r0 g2 f2 hq => ?_)⟩
  obtain ⟨rfl, rfl, rfl⟩ := hq
  unfold aPut nPut
  rw [e1]
  unfold xaPut xnPut
  rw [e5]
  by_cases c1 : ¬ (0 ≤ v ∧ (w = 0 ∧ v ≤ 40 ∨ w = 1 ∧ v ≤ 9 ∨ w = 2 ∧ v ≤ 1 ∨ w = 3 ∧ v ≤ 9999 ∨ w = 4 ∧ v ≤ 999999))
  · rw [if_pos c1, if_pos c1, if_pos c1, if_pos c1]; exact ⟨rfl, hI.ref (by unfold rfK; omega)⟩
  · rw [if_neg c1, if_neg c1, if_neg c1, if_neg c1]
    by_cases c2 : ¬ (0 ≤ c ∧ c < f 166 77)
    · rw [if_pos c2, if_pos c2, if_pos c2, if_pos c2]; exact ⟨rfl, hI.ref (by unfold rfK; omega)⟩
    · rw [if_neg c2, if_neg c2, if_neg c2, if_neg c2]
      have hv := Decidable.not_not.mp c1
      have hc := Decidable.not_not.mp c2
      obtain ⟨cn, rfl⟩ : ∃ cn : Nat, c = (cn : Int) := ⟨c.toNat, by omega⟩
      obtain ⟨wn, rfl⟩ : ∃ wn : Nat, w = (wn : Int) := ⟨w.toNat, by omega⟩
      have i1 : ((wn : Int) * 8 + (cn : Int)).toNat = 8 * wn + cn := by omega
      have i2 : (5 * (cn : Int) + (wn : Int)).toNat = 5 * cn + wn := by omega
      rw [i1, i2]
      have ht : f 66 (8 * wn + cn) = f 166 (5 * cn + wn) := hI.BK.tr (by omega) (by omega)
      refine ⟨by rw [ht], inv_one hI (by omega) (hI.KO.put (by omega) (by omega)) (hI.BK.put hI.KO (by omega) (by omega) (fun q a1 a2 => stF_n _ _ _ a1) (stF_u _ _ _ _))⟩

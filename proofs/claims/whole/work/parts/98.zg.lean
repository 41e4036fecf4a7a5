/-! sight, claim, forget, end, feed -/
theorem inv_say {g : Gm} {f f' : Fm} (h : Inv g f) {a m b : Nat} (ham : (a = 45 ∧ m = 78 ∧ b = 69) ∨ (a = 61 ∧ m = 79 ∧ b = 72)) {c v : Int} (hc : 0 ≤ c ∧ c < f 166 77) (hv : 0 ≤ v ∧ v ≤ 20) (hm : f 166 m < 8) (hf : ∀ q, q ≠ 64 → q ≠ b → q ≠ b + 1 → q ≠ b + 2 → (q ≠ 145 ∨ b = 69) → q ≠ 164 → q ≠ 166 → f' q = f q) (h6 : f' 64 16 = f' 164 0) (h5 : f' 64 15 = f 64 15) (h1 : ∀ i, i ≠ 0 → f' 164 i = f 164 i) (h166 : f' 166 = syK (f 166) a m c v) (hb : f' b 2 = f 166 m + 1) (hb1 : f' (b + 1) = upK (f (b + 1)) (f 166 m).toNat c) (hb2 : f' (b + 2) = upK (f (b + 2)) (f 166 m).toNat v) (h145 : b = 72 → f' 145 4 = 0) : Inv g f' := by
  have hO := h.KO
  have h8 := hO.sm
  have h9 := hO.cm
  have hn := hO.n
  have hm2 : 0 ≤ f 166 m ∧ f 166 m < 8 := by rcases ham with ⟨rfl, rfl, rfl⟩ | ⟨rfl, rfl, rfl⟩ <;> omega
  have hKE : KE (f 166) (syK (f 166) a m c v) := KE_of hO (fun j hj => syK_o hm2 (by omega) (by omega))
  have e77 : syK (f 166) a m c v 77 = f 166 77 := syK_o hm2 (by omega) (by omega)
  have hn8 : (f 166 77).toNat ≤ 8 := by omega
  have hC : ICn f (f 166) (f 166 77).toNat := h.C
  refine h.go (fun q a1 a2 a4 a5 a6 a7 a8 a9 a10 => hf q a1 (by omega) (by omega) (by omega) (Or.inl a7) a9 a10) h6 h5 h1 ⟨?_, ?_⟩ ?_
  · rw [h166]; exact hO.say (by omega) hc hv hm
  · rw [h166]
    exact h.BK.say hO ham hm (fun q a1 a2 a3 a4 => hf q (by omega) a1 a2 a3 (by omega) (by omega) (by omega)) hb hb1 hb2
  · unfold IC
    rw [h166, e77]
    have hr : ∀ q, 111 ≤ q → q ≤ 151 → (q ≠ 145 ∨ b = 69) → f' q = f q := fun q p1 p2 p3 => hf q (by omega) (by omega) (by omega) (by omega) p3 (by omega) (by omega)
    refine ⟨(hKE.td hn8 hC.1).mv (fun q p1 p2 => hr q (by omega) (by omega) (by omega)), (hKE.sr hn8 (by omega) hC.2.1).mv (fun q p1 p2 => hr q (by omega) (by omega) (by omega)), (hKE.sr hn8 (by omega) hC.2.2.1).mv (fun q p1 p2 => hr q (by omega) (by omega) (by omega)), ?_, ?_⟩
    · rcases ham with ⟨rfl, rfl, rfl⟩ | ⟨rfl, rfl, rfl⟩
      · exact (hKE.sr hn8 (Or.inr (Or.inr ⟨rfl, syK_o hm2 (by omega) (by omega), by omega, fun j p1 p2 => syK_o hm2 (by omega) (by omega)⟩)) hC.2.2.2.1).mv (fun q p1 p2 => hr q (by omega) (by omega) (Or.inr rfl))
      · exact Or.inl (h145 rfl)
    · have e1 : f' 150 = f 150 := hr 150 (by omega) (by omega) (by omega)
      have e2 : f' 151 = f 151 := hr 151 (by omega) (by omega) (by omega)
      have h5 := hKE.pl hn8 hC.2.2.2.2
      unfold PlC PlK at h5 ⊢
      rw [e1, e2]; exact h5
theorem xnSay_o (f : Fm) (b : Nat) (c v : Int) (hb : b ≤ 72) {q : Nat} (h : 164 ≤ q) : xnSay f b c v q = f q := by
  unfold xnSay
  split
  · exact xrf_o _ _ (by omega) (by omega)
  · split
    · exact xrf_o _ _ (by omega) (by omega)
    · split
      · exact xrf_o _ _ (by omega) (by omega)
      · rw [stF_n _ _ _ (by omega), stF_n _ _ _ (by omega), stF_n _ _ _ (by omega), stF_n _ _ _ (by omega)]
theorem IC.d145 {f : Fm} {g : Gm} (h : Inv g f) : Inv g (stF f 145 4 0) := by
  have hC : ICn f (f 166) (f 166 77).toNat := h.C
  have hf : ∀ q, q ≠ 145 → stF f 145 4 0 q = f q := fun q hq => stF_n _ _ _ hq
  refine h.cl (gP.rf g) (fun q hq => hf q (by omega)) ⟨hC.1.mv (fun q p1 p2 => hf q (by omega)), hC.2.1.mv (fun q p1 p2 => hf q (by omega)), hC.2.2.1.mv (fun q p1 p2 => hf q (by omega)), Or.inl (stF_s _ _ _ _), ?_⟩
  have h5 := hC.2.2.2.2
  unfold PlC PlK at h5 ⊢
  rw [hf 150 (by decide), hf 151 (by decide)]; exact h5
theorem op_sight (l : Launch) (z : Zv) (c v : Int) (h_c : inR c) (h_v : inR v) : OpOK l z Inv mX10_sight mX11_sight [.int (iI c), .int (iI v)] := by
  intro g f0 hI0
  refine PM.mono (PM.room (x_sight l z 298 hI0.X hI0.n5 (by rw [show f0 69 2 = f0 166 78 from hI0.BK.sm]; exact hI0.KO.sm) h_c h_v) (Nat.zero_le _) (Nat.zero_le _)) (fun r0 g1 f1 hq => ?_)
  obtain ⟨rfl, rfl, rfl⟩ := hq
  have hI := hI0
  generalize f0 = f at hI ⊢
  have hn := hI.KO.n
  have h8 := hI.KO.sm
  have e5 : f 65 5 = f 166 77 := hI.BK.n
  have e2 : f 69 2 = f 166 78 := hI.BK.sm
  have e1 : xnSay f 69 c v 166 = f 166 := xnSay_o f 69 c v (by decide) (by decide)
  obtain ⟨x, hx, hr⟩ := inIt (xaSay f 69 c v)
  refine ⟨x, hx, hr, hI.M.k, PM.mono (m_sight l z 297 hI.M (by rw [e1]; exact hn) (by rw [e1]; exact h8) h_c h_v) (fun r0 g2 f2 hq => ?_)⟩
  obtain ⟨rfl, rfl, rfl⟩ := hq
  unfold aTells nTells
  rw [e1]
  have et : ((78 : Int)).toNat = 78 := rfl
  rw [et]
  unfold xaSay xnSay
  rw [e5, e2]
  by_cases c1 : ¬ (0 ≤ v ∧ v ≤ 20)
  · rw [if_pos c1, if_pos c1, if_pos c1]; exact ⟨rfl, hI.ref (by unfold rfK; omega)⟩
  · rw [if_neg c1, if_neg c1, if_neg c1]
    by_cases c2 : ¬ (0 ≤ c ∧ c < f 166 77)
    · rw [if_pos c2, if_pos c2, if_pos c2]; exact ⟨rfl, hI.ref (by unfold rfK; omega)⟩
    · rw [if_neg c2, if_neg c2, if_neg c2]
      by_cases c3 : f 166 78 = 8
      · rw [if_pos c3, if_pos c3, if_pos c3]; exact ⟨rfl, hI.ref (by unfold rfK; omega)⟩
      · rw [if_neg c3, if_neg c3, if_neg c3]
        refine ⟨rfl, ?_⟩
        have hv := Decidable.not_not.mp c1
        have hc := Decidable.not_not.mp c2
        have i1 : (45 + 2 * f 166 78).toNat = 45 + 2 * (f 166 78).toNat := by omega
        have i2 : (45 + 2 * f 166 78 + 1).toNat = 45 + 2 * (f 166 78).toNat + 1 := by omega
        rw [i1, i2]
        generalize hF : (stF (stF (stF (stF f (69 + 1) (f 166 78).toNat c) (69 + 2) (f 166 78).toNat v) 69 2 (f 166 78 + 1)) 64 16 0) = F
        have hFo : ∀ q, q ≠ 64 → q ≠ 69 → q ≠ 69 + 1 → q ≠ 69 + 2 → F q = f q := fun q a1 a2 a3 a4 => by rw [← hF, stF_n _ _ _ a1, stF_n _ _ _ a2, stF_n _ _ _ a4, stF_n _ _ _ a3]
        have hGo : ∀ q, q ≠ 164 → q ≠ 166 → gd (stF (stF (stF F 166 (45 + 2 * (f 166 78).toNat) c) 166 (45 + 2 * (f 166 78).toNat + 1) v) 166 78 (f 166 78 + 1)) q = F q := fun q a1 a2 => by rw [gd_n _ a1, stF_n _ _ _ a2, stF_n _ _ _ a2, stF_n _ _ _ a2]
        refine inv_say hI (a := 45) (m := 78) (b := 69) (c := c) (v := v) (by omega) hc hv (by omega) (fun q a1 a2 a3 a4 a5 a6 a7 => by rw [hGo q a6 a7, hFo q a1 a2 a3 a4]) ?_ ?_ (fun i hi => ?_) ?_ ?_ ?_ ?_ ?_
        · rw [gd_0, hGo 64 (by decide) (by decide), ← hF, stF_s]
        · rw [hGo 64 (by decide) (by decide), ← hF, stF_i _ _ _ (by decide), stF_n _ _ _ (by decide), stF_n _ _ _ (by decide), stF_n _ _ _ (by decide)]
        · rw [gd_i _ hi, stF_n _ _ _ (by decide), stF_n _ _ _ (by decide), stF_n _ _ _ (by decide), hFo 164 (by decide) (by decide) (by decide) (by decide)]
        · rw [gd_n _ (by decide), stF_u, stF_u, stF_u, hFo 166 (by decide) (by decide) (by decide) (by decide)]; rfl
        · rw [hGo 69 (by decide) (by decide), ← hF, stF_n _ _ _ (by decide), stF_s]
        · rw [hGo (69 + 1) (by decide) (by decide), ← hF, stF_n _ _ _ (by decide), stF_n _ _ _ (by decide), stF_n _ _ _ (by decide), stF_u]
        · rw [hGo (69 + 2) (by decide) (by decide), ← hF, stF_n _ _ _ (by decide), stF_n _ _ _ (by decide), stF_u, stF_n _ _ _ (by decide)]
        · intro h; exact absurd h (by decide)
theorem op_claim (l : Launch) (z : Zv) (c v : Int) (h_c : inR c) (h_v : inR v) : OpOK l z Inv mX10_claim mX11_claim [.int (iI c), .int (iI v)] := by
  intro g f0 hI0
  refine PM.mono (PM.room (x_claim l z 298 hI0.X hI0.n5 (by rw [show f0 72 2 = f0 166 79 from hI0.BK.cm]; exact hI0.KO.cm) h_c h_v) (Nat.zero_le _) (Nat.zero_le _)) (fun r0 g1 f1 hq => ?_)
  obtain ⟨rfl, rfl, rfl⟩ := hq
  have hI := IC.d145 hI0
  have h145 : stF f0 145 4 0 145 4 = 0 := stF_s _ _ _ _
  generalize stF f0 145 4 0 = f at hI h145 ⊢
  have hn := hI.KO.n
  have h8 := hI.KO.cm
  have e5 : f 65 5 = f 166 77 := hI.BK.n
  have e2 : f 72 2 = f 166 79 := hI.BK.cm
  have e1 : xnSay f 72 c v 166 = f 166 := xnSay_o f 72 c v (by decide) (by decide)
  obtain ⟨x, hx, hr⟩ := inIt (xaSay f 72 c v)
  refine ⟨x, hx, hr, hI.M.k, PM.mono (m_claim l z 297 hI.M (by rw [e1]; exact hn) (by rw [e1]; exact h8) h_c h_v) (fun r0 g2 f2 hq => ?_)⟩
  obtain ⟨rfl, rfl, rfl⟩ := hq
  unfold aTells nTells
  rw [e1]
  have et : ((79 : Int)).toNat = 79 := rfl
  rw [et]
  unfold xaSay xnSay
  rw [e5, e2]
  by_cases c1 : ¬ (0 ≤ v ∧ v ≤ 20)
  · rw [if_pos c1, if_pos c1, if_pos c1]; exact ⟨rfl, hI.ref (by unfold rfK; omega)⟩
  · rw [if_neg c1, if_neg c1, if_neg c1]
    by_cases c2 : ¬ (0 ≤ c ∧ c < f 166 77)
    · rw [if_pos c2, if_pos c2, if_pos c2]; exact ⟨rfl, hI.ref (by unfold rfK; omega)⟩
    · rw [if_neg c2, if_neg c2, if_neg c2]
      by_cases c3 : f 166 79 = 8
      · rw [if_pos c3, if_pos c3, if_pos c3]; exact ⟨rfl, hI.ref (by unfold rfK; omega)⟩
      · rw [if_neg c3, if_neg c3, if_neg c3]
        refine ⟨rfl, ?_⟩
        have hv := Decidable.not_not.mp c1
        have hc := Decidable.not_not.mp c2
        have i1 : (61 + 2 * f 166 79).toNat = 61 + 2 * (f 166 79).toNat := by omega
        have i2 : (61 + 2 * f 166 79 + 1).toNat = 61 + 2 * (f 166 79).toNat + 1 := by omega
        rw [i1, i2]
        generalize hF : (stF (stF (stF (stF f (72 + 1) (f 166 79).toNat c) (72 + 2) (f 166 79).toNat v) 72 2 (f 166 79 + 1)) 64 16 0) = F
        have hFo : ∀ q, q ≠ 64 → q ≠ 72 → q ≠ 72 + 1 → q ≠ 72 + 2 → F q = f q := fun q a1 a2 a3 a4 => by rw [← hF, stF_n _ _ _ a1, stF_n _ _ _ a2, stF_n _ _ _ a4, stF_n _ _ _ a3]
        have hGo : ∀ q, q ≠ 164 → q ≠ 166 → gd (stF (stF (stF F 166 (61 + 2 * (f 166 79).toNat) c) 166 (61 + 2 * (f 166 79).toNat + 1) v) 166 79 (f 166 79 + 1)) q = F q := fun q a1 a2 => by rw [gd_n _ a1, stF_n _ _ _ a2, stF_n _ _ _ a2, stF_n _ _ _ a2]
        refine inv_say hI (a := 61) (m := 79) (b := 72) (c := c) (v := v) (by omega) hc hv (by omega) (fun q a1 a2 a3 a4 a5 a6 a7 => by rw [hGo q a6 a7, hFo q a1 a2 a3 a4]) ?_ ?_ (fun i hi => ?_) ?_ ?_ ?_ ?_ ?_
        · rw [gd_0, hGo 64 (by decide) (by decide), ← hF, stF_s]
        · rw [hGo 64 (by decide) (by decide), ← hF, stF_i _ _ _ (by decide), stF_n _ _ _ (by decide), stF_n _ _ _ (by decide), stF_n _ _ _ (by decide)]
        · rw [gd_i _ hi, stF_n _ _ _ (by decide), stF_n _ _ _ (by decide), stF_n _ _ _ (by decide), hFo 164 (by decide) (by decide) (by decide) (by decide)]
        · rw [gd_n _ (by decide), stF_u, stF_u, stF_u, hFo 166 (by decide) (by decide) (by decide) (by decide)]; rfl
        · rw [hGo 72 (by decide) (by decide), ← hF, stF_n _ _ _ (by decide), stF_s]
        · rw [hGo (72 + 1) (by decide) (by decide), ← hF, stF_n _ _ _ (by decide), stF_n _ _ _ (by decide), stF_n _ _ _ (by decide), stF_u]
        · rw [hGo (72 + 2) (by decide) (by decide), ← hF, stF_n _ _ _ (by decide), stF_n _ _ _ (by decide), stF_u, stF_n _ _ _ (by decide)]
        · intro _; rw [hGo 145 (by decide) (by decide), hFo 145 (by decide) (by decide) (by decide) (by decide)]; exact h145
def fgK (K : Nat → Int) : Nat → Int := upK (upK K 78 0) 79 0
theorem fgK_o (K : Nat → Int) {j : Nat} (h1 : j ≠ 78) (h2 : j ≠ 79) : fgK K j = K j := by unfold fgK; rw [upK_n _ _ h2, upK_n _ _ h1]
theorem fgK_8 (K : Nat → Int) : fgK K 78 = 0 ∧ fgK K 79 = 0 := ⟨by unfold fgK; rw [upK_n _ _ (by decide), upK_s], upK_s _ _ _⟩
theorem op_forget (l : Launch) (z : Zv) : OpOK l z Inv mX10_forget mX11_forget [] := by
  intro g f hI
  have hO := hI.KO
  have hB := hI.BK
  have hn := hO.n
  have h8 := hO.sm
  have h9 := hO.cm
  have e8 : f 69 2 = f 166 78 := hB.sm
  have e9 : f 72 2 = f 166 79 := hB.cm
  refine PM.mono (PM.room (x_forget l z 300 hI.X) (Nat.zero_le _) (Nat.zero_le _)) (fun r0 g1 f1 hq => ?_)
  obtain ⟨rfl, rfl, rfl⟩ := hq
  have ho : ∀ q, q ≠ 69 → q ≠ 72 → q ≠ 145 → xnForget f q = f q := fun q a1 a2 a3 => by unfold xnForget; rw [stF_n _ _ _ a3, stF_n _ _ _ a2, stF_n _ _ _ a1]
  obtain ⟨x, hx, hr⟩ := inIt (f 69 2 + f 72 2)
  refine ⟨x, hx, hr, hI.M.k, PM.mono (m_forget l z 300 hI.M) (fun r0 g2 f2 hq => ?_)⟩
  obtain ⟨rfl, rfl, rfl⟩ := hq
  refine ⟨by rw [ho 166 (by decide) (by decide) (by decide), e8, e9], ?_⟩
  have hG : ∀ q, q ≠ 166 → nForget (xnForget f) q = xnForget f q := fun q a => by unfold nForget; rw [stF_n _ _ _ a, stF_n _ _ _ a]
  have h166 : nForget (xnForget f) 166 = fgK (f 166) := by unfold nForget fgK; rw [stF_u, stF_u, ho 166 (by decide) (by decide) (by decide)]
  have hr : ∀ q, q ≠ 69 → q ≠ 72 → q ≠ 145 → q ≠ 166 → nForget (xnForget f) q = f q := fun q a1 a2 a3 a4 => by rw [hG q a4, ho q a1 a2 a3]
  have hKE : KE (f 166) (fgK (f 166)) := KE_of hO (fun j hj => fgK_o _ (by omega) (by omega))
  have hn8 : (f 166 77).toNat ≤ 8 := by omega
  have hC : ICn f (f 166) (f 166 77).toNat := hI.C
  have e : ∀ {j : Nat}, j ≠ 78 → j ≠ 79 → fgK (f 166) j = f 166 j := fun a b => fgK_o _ a b
  refine hI.go (fun q a1 a2 a4 a5 a6 a7 a8 a9 a10 => hr q (by omega) (by omega) a7 a10) ?_ ?_ (fun i hi => ?_) ⟨?_, ?_⟩ ?_
  · rw [hr 64 (by decide) (by decide) (by decide) (by decide), hr 164 (by decide) (by decide) (by decide) (by decide)]; exact hI.S.1
  · rw [hr 64 (by decide) (by decide) (by decide) (by decide)]
  · rw [hr 164 (by decide) (by decide) (by decide) (by decide)]
  · rw [h166]
    refine ⟨by rw [e (by decide) (by decide)]; exact hO.n, fun c' hc' => ?_, by rw [e (by decide) (by decide)]; exact hO.dz, by rw [e (by decide) (by decide)]; exact hO.lp, by rw [e (by decide) (by decide)]; exact hO.dy, by rw [e (by decide) (by decide)]; exact hO.b0, by rw [e (by decide) (by decide)]; exact hO.b1, by rw [(fgK_8 _).1]; decide, by rw [(fgK_8 _).2]; decide, fun i hi => ?_, fun i hi => ?_, by rw [e (by decide) (by decide)]; exact hO.nl, by rw [e (j := 81) (by decide) (by decide), e (j := 80) (by decide) (by decide)]; exact hO.fo, hO.ll (fun j hj => e (by omega) (by omega))⟩
    · rw [e (j := 5 * c') (by omega) (by omega), e (j := 5 * c' + 1) (by omega) (by omega), e (j := 5 * c' + 2) (by omega) (by omega), e (j := 5 * c' + 3) (by omega) (by omega), e (j := 5 * c' + 4) (by omega) (by omega)]; exact hO.f hc'
    · rw [(fgK_8 _).1] at hi; omega
    · rw [(fgK_8 _).2] at hi; omega
  · rw [h166]
    refine ⟨by rw [e (by decide) (by decide), hr 65 (by omega) (by omega) (by omega) (by omega)]; exact hB.n, by rw [e (by decide) (by decide), hr 65 (by omega) (by omega) (by omega) (by omega)]; exact hB.nl, by rw [e (by decide) (by decide), hr 65 (by omega) (by omega) (by omega) (by omega)]; exact hB.fo, fun w' c' hw' hc' => ?_, fun t ht => ?_, ?_, fun i hi => ?_, ?_, fun i hi => ?_, hB.ll hO (fun j hj => e (by omega) (by omega)) (fun q hq => hr q (by omega) (by omega) (by omega) (by omega)), hB.lk⟩
    · show nForget (xnForget f) 66 (8 * w' + c') = _
      rw [hr 66 (by omega) (by omega) (by omega) (by omega), e (by omega) (by omega)]; exact hB.tr hw' hc'
    · show nForget (xnForget f) 67 t = _
      rw [hr 67 (by omega) (by omega) (by omega) (by omega), e (by omega) (by omega)]; exact hB.te ht
    · show nForget (xnForget f) 69 2 = _
      rw [(fgK_8 _).1, hG 69 (by decide)]; unfold xnForget; rw [stF_n _ _ _ (by decide), stF_n _ _ _ (by decide), stF_s]
    · show nForget (xnForget f) 70 i = _ ∧ nForget (xnForget f) 71 i = _
      rw [hr 70 (by omega) (by omega) (by omega) (by omega), hr 71 (by omega) (by omega) (by omega) (by omega), e (j := 45 + 2 * i) (by omega) (by omega), e (j := 46 + 2 * i) (by omega) (by omega)]; exact hB.si hi
    · show nForget (xnForget f) 72 2 = _
      rw [(fgK_8 _).2, hG 72 (by decide)]; unfold xnForget; rw [stF_n _ _ _ (by decide), stF_s]
    · show nForget (xnForget f) 73 i = _ ∧ nForget (xnForget f) 74 i = _
      rw [hr 73 (by omega) (by omega) (by omega) (by omega), hr 74 (by omega) (by omega) (by omega) (by omega), e (j := 61 + 2 * i) (by omega) (by omega), e (j := 62 + 2 * i) (by omega) (by omega)]; exact hB.ci hi
  · unfold IC
    rw [h166, e (j := 77) (by decide) (by decide)]
    refine ⟨(hKE.td hn8 hC.1).mv (fun q p1 p2 => hr q (by omega) (by omega) (by omega) (by omega)), (hKE.sr hn8 (by omega) hC.2.1).mv (fun q p1 p2 => hr q (by omega) (by omega) (by omega) (by omega)), (hKE.sr hn8 (by omega) hC.2.2.1).mv (fun q p1 p2 => hr q (by omega) (by omega) (by omega) (by omega)), Or.inl ?_, ?_⟩
    · rw [hG 145 (by decide)]; unfold xnForget; rw [stF_s]
    · have h5 := hKE.pl hn8 hC.2.2.2.2
      unfold PlC PlK at h5 ⊢
      rw [hr 150 (by omega) (by omega) (by omega) (by omega), hr 151 (by omega) (by omega) (by omega) (by omega)]; exact h5
theorem op_end (l : Launch) (z : Zv) (n : Int) (h_n : inR n) : OpOK l z Inv mX10_end mX11_end [.int (iI n)] := by
  intro g f hI
  obtain ⟨t1, t2, t3, t4⟩ := hI.T
  refine PM.mono (PM.room (x_end l z 300 hI.X (by rw [t1]; exact t2) h_n) (Nat.zero_le _) (Nat.zero_le _)) (fun r0 g1 f1 hq => ?_)
  obtain ⟨rfl, rfl, rfl⟩ := hq
  have e1 : xnEnd f n 164 = f 164 := by
    unfold xnEnd
    split
    · exact stF_n _ _ _ (by decide)
    · rfl
  obtain ⟨x, hx, hr⟩ := inIt (xaEnd f n)
  refine ⟨x, hx, hr, hI.M.k, PM.mono (m_end l z 299 hI.M (by rw [e1]; exact t2) h_n) (fun r0 g2 f2 hq => ?_)⟩
  obtain ⟨rfl, rfl, rfl⟩ := hq
  unfold aEnd nEnd
  rw [e1]
  unfold xaEnd xnEnd
  rw [t1]
  by_cases c1 : 0 ≤ n ∧ n ≤ f 164 9
  · rw [if_pos c1, if_pos c1, if_pos c1]
    have ho : ∀ q, q ≠ 107 → q ≠ 164 → stF (stF f 107 4 n) 164 9 n q = f q := fun q a1 a2 => by rw [stF_n _ _ _ a2, stF_n _ _ _ a1]
    have hi : ∀ i, i ≠ 9 → stF (stF f 107 4 n) 164 9 n 164 i = f 164 i := fun i a => by rw [stF_i _ _ _ a, stF_n _ _ _ (by decide)]
    refine ⟨rfl, hI.fr (fun q hq => ho q (by omega) (by omega)) (hI.R.mv (ho _ (by decide) (by decide)) (ho _ (by decide) (by decide))) (hI.S.mv (congrFun (ho 64 (by decide) (by decide)) _) (congrFun (ho 64 (by decide) (by decide)) _) (hi 0 (by decide)) (hi 5 (by decide))) ⟨?_, ?_, ?_, ?_⟩ (hI.D.mv (congrFun (ho 157 (by decide) (by decide)) _) (hi 43 (by decide)) (ho _ (by decide) (by decide)) (ho _ (by decide) (by decide)) (ho _ (by decide) (by decide)) (ho _ (by decide) (by decide))) (hI.W.mv (ho _ (by decide) (by decide)) (by rw [hi 20 (by decide)]; exact hI.W.2))⟩
    · rw [stF_s, stF_n _ _ _ (by decide), stF_s]
    · rw [stF_s]; omega
    · rw [hi 10 (by decide), stF_n _ _ _ (by decide), stF_i _ _ _ (by decide)]; exact t3
    · rw [ho 170 (by decide) (by decide), ho 108 (by decide) (by decide)]; exact t4
  · rw [if_neg c1, if_neg c1, if_neg c1]; exact ⟨rfl, hI⟩

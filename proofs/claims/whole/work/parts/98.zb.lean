/-! calls that only ask -/
theorem op_of (l : Launch) (z : Zv) (c w : Int) (h_c : inR c) (h_w : inR w) : OpOK l z Inv mX10_of mX11_of [.int (iI c), .int (iI w)] := by
  intro g f hI
  have hC : ICn f (f 166) (f 166 77).toNat := hI.C
  refine PM.mono (PM.room (x_of l z 294 hI.X hI.BK hI.KO (by decide) (by decide) hI.n hC.1 h_c h_w) (Nat.zero_le _) (Nat.zero_le _)) (fun r g1 f1 hq => ?_)
  obtain ⟨rfl, rfl, hf, hT⟩ := hq
  have hI1 : Inv g f1 := hI.cl (gP.rf g) (fun q hq => hf q (by omega)) ⟨hT, hC.2.1.mv (fun q a b => hf q (by omega)), hC.2.2.1.mv (fun q a b => hf q (by omega)), hC.2.2.2.1.mv (fun q a b => hf q (by omega)), by have e1 : f1 150 = f 150 := hf 150 (by omega); have e2 : f1 151 = f 151 := hf 151 (by omega); have h5 := hC.2.2.2.2; unfold PlC PlK at h5 ⊢; rw [e1, e2]; exact h5⟩
  obtain ⟨x, hx, hr⟩ := inIt (ofA (f 166) (f 166 77).toNat c w)
  refine ⟨x, hx, hr, hI1.M.k, PM.mono (m_of l z (K := f 166) hI1.M (hf 166 (by omega)) hI.KO (by decide) (by decide) hI.n hI1.W.2 h_c h_w (D := 300) (by decide)) (fun r g2 f2 hq => ?_)⟩
  obtain ⟨rfl, rfl, hm⟩ := hq
  exact ⟨rfl, hI1.ms hm⟩
theorem op_waits (l : Launch) (z : Zv) (c o : Int) (h_c : inR c) (h_o : inR o) : OpOK l z Inv mX10_waits mX11_waits [.int (iI c), .int (iI o)] := by
  intro g f hI
  have hC : ICn f (f 166) (f 166 77).toNat := hI.C
  refine PM.mono (PM.room (x_waits l z 294 hI.X hI.BK hI.KO (by decide) (by decide) hI.n hC.1 h_c h_o) (Nat.zero_le _) (Nat.zero_le _)) (fun r g1 f1 hq => ?_)
  obtain ⟨rfl, rfl, hf, hT⟩ := hq
  have hI1 : Inv g f1 := hI.cl (gP.rf g) (fun q hq => hf q (by omega)) ⟨hT, hC.2.1.mv (fun q a b => hf q (by omega)), hC.2.2.1.mv (fun q a b => hf q (by omega)), hC.2.2.2.1.mv (fun q a b => hf q (by omega)), by have e1 : f1 150 = f 150 := hf 150 (by omega); have e2 : f1 151 = f 151 := hf 151 (by omega); have h5 := hC.2.2.2.2; unfold PlC PlK at h5 ⊢; rw [e1, e2]; exact h5⟩
  obtain ⟨x, hx, hr⟩ := inIt (waA (f 166) (f 166 77).toNat c o)
  refine ⟨x, hx, hr, hI1.M.k, PM.mono (m_waits l z (K := f 166) hI1.M (hf 166 (by omega)) hI.KO (by decide) (by decide) hI.n hI1.W.2 h_c h_o (D := 300) (by decide)) (fun r g2 f2 hq => ?_)⟩
  obtain ⟨rfl, rfl, hm⟩ := hq
  exact ⟨rfl, hI1.ms hm⟩
theorem op_served (l : Launch) (z : Zv) (c w : Int) (h_c : inR c) (h_w : inR w) : OpOK l z Inv mX10_served mX11_served [.int (iI c), .int (iI w)] := by
  intro g f hI
  have hC : ICn f (f 166) (f 166 77).toNat := hI.C
  refine PM.mono (PM.room (x_served l z 294 hI.X hI.BK hI.KO (by decide) (by decide) hI.n hC.1 h_c h_w) (Nat.zero_le _) (Nat.zero_le _)) (fun r g1 f1 hq => ?_)
  obtain ⟨rfl, rfl, hf, hT⟩ := hq
  have hI1 : Inv g f1 := hI.cl (gP.rf g) (fun q hq => hf q (by omega)) ⟨hT, hC.2.1.mv (fun q a b => hf q (by omega)), hC.2.2.1.mv (fun q a b => hf q (by omega)), hC.2.2.2.1.mv (fun q a b => hf q (by omega)), by have e1 : f1 150 = f 150 := hf 150 (by omega); have e2 : f1 151 = f 151 := hf 151 (by omega); have h5 := hC.2.2.2.2; unfold PlC PlK at h5 ⊢; rw [e1, e2]; exact h5⟩
  obtain ⟨x, hx, hr⟩ := inIt (sdA (f 166) (f 166 77).toNat c w)
  refine ⟨x, hx, hr, hI1.M.k, PM.mono (m_served l z (K := f 166) hI1.M (hf 166 (by omega)) hI.KO (by decide) (by decide) hI.n hI1.W.2 h_c h_w (D := 300) (by decide)) (fun r g2 f2 hq => ?_)⟩
  obtain ⟨rfl, rfl, hm⟩ := hq
  exact ⟨rfl, hI1.ms hm⟩
theorem op_orders (l : Launch) (z : Zv) : OpOK l z Inv mX10_orders mX11_orders [] := by
  intro g f hI
  have hC : ICn f (f 166) (f 166 77).toNat := hI.C
  refine PM.mono (PM.room (x_orders l z 293 hI.X hI.BK hI.KO (by decide) (by decide) hI.n hC.1) (Nat.zero_le _) (Nat.zero_le _)) (fun r g1 f1 hq => ?_)
  obtain ⟨rfl, rfl, hf, hT⟩ := hq
  have hI1 : Inv g f1 := hI.cl (gP.rf g) (fun q hq => hf q (by omega)) ⟨hT, hC.2.1.mv (fun q a b => hf q (by omega)), hC.2.2.1.mv (fun q a b => hf q (by omega)), hC.2.2.2.1.mv (fun q a b => hf q (by omega)), by have e1 : f1 150 = f 150 := hf 150 (by omega); have e2 : f1 151 = f 151 := hf 151 (by omega); have h5 := hC.2.2.2.2; unfold PlC PlK at h5 ⊢; rw [e1, e2]; exact h5⟩
  obtain ⟨x, hx, hr⟩ := inIt (((orK (f 166) (f 166 77).toNat (-1) 0 : Nat) : Int))
  refine ⟨x, hx, hr, hI1.M.k, PM.mono (m_orders l z (K := f 166) hI1.M (hf 166 (by omega)) hI.KO (by decide) (by decide) hI.n hI1.W.2 (D := 300) (by decide)) (fun r g2 f2 hq => ?_)⟩
  obtain ⟨rfl, rfl, hm⟩ := hq
  exact ⟨rfl, hI1.ms hm⟩
theorem op_chances (l : Launch) (z : Zv) (c m : Int) (h_c : inR c) (h_m : inR m) : OpOK l z Inv mX10_chances mX11_chances [.int (iI c), .int (iI m)] := by
  intro g f hI
  have hC : ICn f (f 166) (f 166 77).toNat := hI.C
  refine PM.mono (PM.room (x_chances l z 293 hI.X hI.BK hI.KO (by decide) (by decide) hI.n hC.1 h_c h_m) (Nat.zero_le _) (Nat.zero_le _)) (fun r g1 f1 hq => ?_)
  obtain ⟨rfl, rfl, hf, hT⟩ := hq
  have hI1 : Inv g f1 := hI.cl (gP.rf g) (fun q hq => hf q (by omega)) ⟨hT, hC.2.1.mv (fun q a b => hf q (by omega)), hC.2.2.1.mv (fun q a b => hf q (by omega)), hC.2.2.2.1.mv (fun q a b => hf q (by omega)), by have e1 : f1 150 = f 150 := hf 150 (by omega); have e2 : f1 151 = f 151 := hf 151 (by omega); have h5 := hC.2.2.2.2; unfold PlC PlK at h5 ⊢; rw [e1, e2]; exact h5⟩
  obtain ⟨x, hx, hr⟩ := inIt (chA (f 166) (f 166 77).toNat c m)
  refine ⟨x, hx, hr, hI1.M.k, PM.mono (m_chances l z (K := f 166) hI1.M (hf 166 (by omega)) hI.KO (by decide) (by decide) hI.n hI1.W.2 h_c h_m (D := 300) (by decide)) (fun r g2 f2 hq => ?_)⟩
  obtain ⟨rfl, rfl, hm⟩ := hq
  exact ⟨rfl, hI1.ms hm⟩
theorem op_counts (l : Launch) (z : Zv) (ov i : Int) (h_ov : inR ov) (h_i : inR i) : OpOK l z Inv mX10_counts mX11_counts [.int (iI ov), .int (iI i)] := by
  intro g f hI
  have hC : ICn f (f 166) (f 166 77).toNat := hI.C
  refine PM.mono (PM.room (x_counts l z 294 hI.X hI.BK hI.KO (by decide) (by decide) hI.n hC.1 h_ov h_i) (Nat.zero_le _) (Nat.zero_le _)) (fun r g1 f1 hq => ?_)
  obtain ⟨rfl, rfl, hf, hT⟩ := hq
  have hI1 : Inv g f1 := hI.cl (gP.rf g) (fun q hq => hf q (by omega)) ⟨hT, hC.2.1.mv (fun q a b => hf q (by omega)), hC.2.2.1.mv (fun q a b => hf q (by omega)), hC.2.2.2.1.mv (fun q a b => hf q (by omega)), by have e1 : f1 150 = f 150 := hf 150 (by omega); have e2 : f1 151 = f 151 := hf 151 (by omega); have h5 := hC.2.2.2.2; unfold PlC PlK at h5 ⊢; rw [e1, e2]; exact h5⟩
  obtain ⟨x, hx, hr⟩ := inIt (ctA (f 166) ov i)
  refine ⟨x, hx, hr, hI1.M.k, PM.mono (m_counts l z (K := f 166) hI1.M (hf 166 (by omega)) hI.KO (by decide) (by decide) hI.n hI1.W.2 h_ov h_i (D := 300) (by decide)) (fun r g2 f2 hq => ?_)⟩
  obtain ⟨rfl, rfl, hm⟩ := hq
  exact ⟨rfl, hI1.ms hm⟩
theorem op_best (l : Launch) (z : Zv) (w : Int) (h_w : inR w) : OpOK l z Inv mX10_best mX11_best [.int (iI w)] := by
  intro g f hI
  have hC : ICn f (f 166) (f 166 77).toNat := hI.C
  refine PM.mono (PM.room (x_best l z 294 hI.X hI.BK hI.KO (by decide) (by decide) hI.n hC.1 hC.2.1 h_w) (Nat.zero_le _) (Nat.zero_le _)) (fun r g1 f1 hq => ?_)
  obtain ⟨rfl, rfl, hf, hT, hS⟩ := hq
  have hI1 : Inv g f1 := hI.cl (gP.rf g) (fun q hq => hf q (by omega) (by omega)) ⟨hT, hS, hC.2.2.1.mv (fun q a b => hf q (by omega) (by omega)), hC.2.2.2.1.mv (fun q a b => hf q (by omega) (by omega)), by have e1 : f1 150 = f 150 := hf 150 (by omega) (by omega); have e2 : f1 151 = f 151 := hf 151 (by omega) (by omega); have h5 := hC.2.2.2.2; unfold PlC PlK at h5 ⊢; rw [e1, e2]; exact h5⟩
  obtain ⟨x, hx, hr⟩ := inIt (bsA (f 166) (f 166 77).toNat w)
  refine ⟨x, hx, hr, hI1.M.k, PM.mono (m_best l z (K := f 166) hI1.M (hf 166 (by omega) (by omega)) hI.KO (by decide) (by decide) hI.n hI1.W.2 h_w (D := 300) (by decide)) (fun r g2 f2 hq => ?_)⟩
  obtain ⟨rfl, rfl, a1, a2, a3⟩ := hq
  exact ⟨rfl, hI1.ms ⟨fun a ha => a1 a (by omega) (by omega) (by omega) (by omega) (by omega) (by omega) (by omega) (by omega) (by omega), a2, a3⟩⟩
theorem op_fairest (l : Launch) (z : Zv) (w : Int) (h_w : inR w) : OpOK l z Inv mX10_fairest mX11_fairest [.int (iI w)] := by
  intro g f hI
  have hC : ICn f (f 166) (f 166 77).toNat := hI.C
  refine PM.mono (PM.room (x_fairest l z 294 hI.X hI.BK hI.KO (by decide) (by decide) hI.n hC.1 hC.2.2.1 h_w) (Nat.zero_le _) (Nat.zero_le _)) (fun r g1 f1 hq => ?_)
  obtain ⟨rfl, rfl, hf, hT, hS⟩ := hq
  have hI1 : Inv g f1 := hI.cl (gP.rf g) (fun q hq => hf q (by omega) (by omega)) ⟨hT, hC.2.1.mv (fun q a b => hf q (by omega) (by omega)), hS, hC.2.2.2.1.mv (fun q a b => hf q (by omega) (by omega)), by have e1 : f1 150 = f 150 := hf 150 (by omega) (by omega); have e2 : f1 151 = f 151 := hf 151 (by omega) (by omega); have h5 := hC.2.2.2.2; unfold PlC PlK at h5 ⊢; rw [e1, e2]; exact h5⟩
  obtain ⟨x, hx, hr⟩ := inIt (faA (f 166) (f 166 77).toNat w)
  refine ⟨x, hx, hr, hI1.M.k, PM.mono (m_fairest l z (K := f 166) hI1.M (hf 166 (by omega) (by omega)) hI.KO (by decide) (by decide) hI.n hI1.W.2 h_w (D := 300) (by decide)) (fun r g2 f2 hq => ?_)⟩
  obtain ⟨rfl, rfl, a1, a2, a3⟩ := hq
  exact ⟨rfl, hI1.ms ⟨fun a ha => a1 a (by omega) (by omega) (by omega) (by omega) (by omega) (by omega) (by omega) (by omega) (by omega), a2, a3⟩⟩
theorem op_wrong (l : Launch) (z : Zv) (w : Int) (h_w : inR w) : OpOK l z Inv mX10_wrong mX11_wrong [.int (iI w)] := by
  intro g f hI
  have hC : ICn f (f 166) (f 166 77).toNat := hI.C
  refine PM.mono (PM.room (x_wrong l z 294 hI.X hI.BK hI.KO (by decide) (by decide) hI.n hC.1 hC.2.2.2.1 h_w) (Nat.zero_le _) (Nat.zero_le _)) (fun r g1 f1 hq => ?_)
  obtain ⟨rfl, rfl, hf, hT, hS⟩ := hq
  have hI1 : Inv g f1 := hI.cl (gP.rf g) (fun q hq => hf q (by omega) (by omega)) ⟨hT, hC.2.1.mv (fun q a b => hf q (by omega) (by omega)), hC.2.2.1.mv (fun q a b => hf q (by omega) (by omega)), hS, by have e1 : f1 150 = f 150 := hf 150 (by omega) (by omega); have e2 : f1 151 = f 151 := hf 151 (by omega) (by omega); have h5 := hC.2.2.2.2; unfold PlC PlK at h5 ⊢; rw [e1, e2]; exact h5⟩
  obtain ⟨x, hx, hr⟩ := inIt (wrA (f 166) (f 166 77).toNat w)
  refine ⟨x, hx, hr, hI1.M.k, PM.mono (m_wrong l z (K := f 166) hI1.M (hf 166 (by omega) (by omega)) hI.KO (by decide) (by decide) hI.n hI1.W.2 h_w (D := 300) (by decide)) (fun r g2 f2 hq => ?_)⟩
  obtain ⟨rfl, rfl, a1, a2, a3⟩ := hq
  exact ⟨rfl, hI1.ms ⟨fun a ha => a1 a (by omega) (by omega) (by omega) (by omega) (by omega) (by omega) (by omega) (by omega) (by omega), a2, a3⟩⟩
theorem op_year (l : Launch) (z : Zv) (w : Int) (h_w : inR w) : OpOK l z Inv mX10_year mX11_year [.int (iI w)] := by
  intro g f hI
  have hC : ICn f (f 166) (f 166 77).toNat := hI.C
  refine PM.mono (PM.room (x_year l z 291 hI.X hI.BK hI.KO (by decide) (by decide) hI.n hI.G.2.2.2.1 hC.2.2.2.2 h_w) (Nat.zero_le _) (Nat.zero_le _)) (fun r g1 f1 hq => ?_)
  obtain ⟨rfl, hg, hf, h6, hP⟩ := hq
  have hp : gP g g1 := by
    rcases hg with rfl | ⟨J, rfl⟩
    · exact gP.rf _
    · exact ⟨J, Or.inr rfl⟩
  have hI1 : Inv g1 f1 := hI.cl hp (fun q hq => hf q (by omega)) ⟨hC.1.mv (fun q a b => hf q (by omega)), hC.2.1.mv (fun q a b => hf q (by omega)), hC.2.2.1.mv (fun q a b => hf q (by omega)), hC.2.2.2.1.mv (fun q a b => hf q (by omega)), Or.inr ⟨h6, hP⟩⟩
  obtain ⟨x, hx, hr⟩ := inIt (yrA (f 166) (f 166 77).toNat w)
  refine ⟨x, hx, hr, hI1.M.k, PM.mono (m_year l z (K := f 166) hI1.M (hf 166 (by omega)) hI.KO (by decide) (by decide) hI.n hI1.W.2 h_w (D := 300) (by decide)) (fun r g2 f2 hq => ?_)⟩
  obtain ⟨rfl, rfl, hm⟩ := hq
  exact ⟨rfl, hI1.ms hm⟩
theorem op_never (l : Launch) (z : Zv) (c m : Int) (h_c : inR c) (h_m : inR m) : OpOKL l z Inv mX10_never mX11_never [.int (iI c), .int (iI m)] := by
  intro g f hI
  have hC : ICn f (f 166) (f 166 77).toNat := hI.C
  refine PM.mono (PM.room (x_never l z 293 hI.X hI.BK hI.KO (by decide) (by decide) hI.n hI.G.2.2.2.1 h_c h_m) (Nat.zero_le _) (Nat.zero_le _)) (fun r g1 f1 hq => ?_)
  obtain ⟨rfl, hg, hf⟩ := hq
  have hp : gP g g1 := by
    rcases hg with rfl | rfl
    · exact gP.rf _
    · exact gP.cp _
  have hI1 : Inv g1 f1 := hI.cl hp (fun q hq => hf q (by omega)) (hC.mv (fun q hq => hf q (by omega)))
  refine ⟨_, rfl, hI1.M.k, PM.mono (m_never l z (K := f 166) hI1.M (hf 166 (by omega)) hI.KO (by decide) (by decide) hI.n hI1.W.2 h_c h_m (D := 300) (by decide)) (fun r g2 f2 hq => ?_)⟩
  obtain ⟨rfl, rfl, hm⟩ := hq
  exact ⟨rfl, hI1.ms hm⟩
theorem eqOwed {g : Gm} {f : Fm} (hI : Inv g f) (c : Int) : xaOwed f c = aOwed f c := by
  have hB := hI.BK
  have hn := hI.KO.n
  have h4 : f 67 0 = f 166 40 := hB.te (t := 0) (by decide)
  have e5 : f 65 5 = f 166 77 := hB.n
  unfold xaOwed aOwed
  rw [e5]
  by_cases hc : 0 ≤ c ∧ c < f 166 77
  · rw [if_pos hc, if_pos hc, h4]
    have e1 : f 66 (4 * 8 + c).toNat = f 166 (5 * c + 4).toNat := by
      have := hB.tr (w := 4) (c := c.toNat) (by decide) (by omega)
      rw [show (4 * 8 + c).toNat = 8 * 4 + c.toNat by omega, show (5 * c + 4).toNat = 5 * c.toNat + 4 by omega]; exact this
    have e2 : f 66 (3 * 8 + c).toNat = f 166 (5 * c + 3).toNat := by
      have := hB.tr (w := 3) (c := c.toNat) (by decide) (by omega)
      rw [show (3 * 8 + c).toNat = 8 * 3 + c.toNat by omega, show (5 * c + 3).toNat = 5 * c.toNat + 3 by omega]; exact this
    rw [e1, e2]
  · rw [if_neg hc, if_neg hc]
theorem eqBlessed {g : Gm} {f : Fm} (hI : Inv g f) (n w : Int) : xaBlessed f n w = aBlessed f n w := by
  have h4 : f 67 0 = f 166 40 := hI.BK.te (t := 0) (by decide)
  have h5 : f 67 1 = f 166 41 := hI.BK.te (t := 1) (by decide)
  unfold xaBlessed aBlessed
  rw [h4, h5]
theorem eqDrawn {g : Gm} {f : Fm} (hI : Inv g f) (c w : Int) : xaDrawn f c w = aDrawn f c w := by
  obtain ⟨h1, h2, h3⟩ := hI.D
  unfold xaDrawn aDrawn
  rw [h1]
  by_cases hc : ¬ (0 ≤ c ∧ c < f 164 43) ∨ ¬ (0 ≤ w ∧ w ≤ 1)
  · rw [if_pos hc, if_pos hc]
  · rw [if_neg hc, if_neg hc, (h3 c.toNat (by omega)).1, (h3 c.toNat (by omega)).2]
theorem eqCount {g : Gm} {f : Fm} (hI : Inv g f) (w : Int) : xaCount f w = aCount f w := by
  have hB := hI.BK
  obtain ⟨r0, r1, r2, r3, r4⟩ := hI.R
  have t0 : f 67 0 = f 166 40 := hB.te (t := 0) (by decide)
  have t1 : f 67 1 = f 166 41 := hB.te (t := 1) (by decide)
  have t2 : f 67 2 = f 166 42 := hB.te (t := 2) (by decide)
  have t3 : f 67 3 = f 166 43 := hB.te (t := 3) (by decide)
  have t4 : f 67 4 = f 166 44 := hB.te (t := 4) (by decide)
  have e5 : f 65 5 = f 166 77 := hB.n
  have e6 : f 65 6 = f 166 80 := hB.nl
  have e7 : f 65 7 = f 166 81 := hB.fo
  have e8 : f 69 2 = f 166 78 := hB.sm
  have e9 : f 72 2 = f 166 79 := hB.cm
  have e10 : f 107 4 = f 164 9 := hI.T.1
  unfold xaCount aCount
  by_cases hw : 0 ≤ w ∧ w ≤ 15
  · have hc : w = 0 ∨ w = 1 ∨ w = 2 ∨ w = 3 ∨ w = 4 ∨ w = 5 ∨ w = 6 ∨ w = 7 ∨ w = 8 ∨ w = 9 ∨ w = 10 ∨ w = 11 ∨ w = 12 ∨ w = 13 ∨ w = 14 ∨ w = 15 := by omega
    rcases hc with rfl | rfl | rfl | rfl | rfl | rfl | rfl | rfl | rfl | rfl | rfl | rfl | rfl | rfl | rfl | rfl
    · exact e5
    · exact e6
    · exact e8
    · exact e9
    · exact e10
    · exact r0
    · exact r1
    · exact r2
    · exact r3
    · exact r4
    · exact e7
    · exact t0
    · exact t1
    · exact t2
    · exact t3
    · exact t4
  · rw [if_neg (by omega), if_neg (by omega), if_neg (by omega), if_neg (by omega), if_neg (by omega), if_neg (by omega), if_neg (by omega), if_neg (by omega), if_neg (by omega), if_neg (by omega), if_neg (by omega), if_neg (by omega), if_neg (by omega), if_neg (by omega), if_neg (by omega), if_neg (by omega), if_neg (by omega), if_neg (by omega)]
theorem op_owed (l : Launch) (z : Zv) (c : Int) (h_c : inR c) : OpOK l z Inv mX10_owed mX11_owed [.int (iI c)] := by
  intro g f hI
  have he : xaOwed f c = aOwed f c := eqOwed hI c
  refine PM.mono (PM.room (x_owed l z 299 hI.X hI.n5 h_c) (Nat.zero_le _) (Nat.zero_le _)) (fun r g1 f1 hq => ?_)
  obtain ⟨rfl, rfl, rfl⟩ := hq
  obtain ⟨x, hx, hr⟩ := inIt (xaOwed f c)
  refine ⟨x, hx, hr, hI.M.k, PM.mono (m_owed l z 298 hI.M hI.KO.n h_c) (fun r g2 f2 hq => ?_)⟩
  obtain ⟨rfl, rfl, rfl⟩ := hq
  exact ⟨by rw [he], hI⟩
theorem op_blessed (l : Launch) (z : Zv) (n w : Int) (h_n : inR n) (h_w : inR w) : OpOK l z Inv mX10_blessed mX11_blessed [.int (iI n), .int (iI w)] := by
  intro g f hI
  have he : xaBlessed f n w = aBlessed f n w := eqBlessed hI n w
  refine PM.mono (PM.room (x_blessed l z 298 hI.X rfl rfl (by rw [show f 67 0 = f 166 40 from hI.BK.te (t := 0) (by decide)]; exact hI.KO.dz) (by rw [show f 67 1 = f 166 41 from hI.BK.te (t := 1) (by decide)]; exact hI.KO.lp) h_n h_w) (Nat.zero_le _) (Nat.zero_le _)) (fun r g1 f1 hq => ?_)
  obtain ⟨rfl, rfl, rfl⟩ := hq
  obtain ⟨x, hx, hr⟩ := inIt (xaBlessed f n w)
  refine ⟨x, hx, hr, hI.M.k, PM.mono (m_blessed l z 298 hI.M rfl rfl hI.KO.dz hI.KO.lp h_n h_w) (fun r g2 f2 hq => ?_)⟩
  obtain ⟨rfl, rfl, rfl⟩ := hq
  exact ⟨by rw [he], hI⟩
theorem op_drawn (l : Launch) (z : Zv) (c w : Int) (h_c : inR c) (h_w : inR w) : OpOK l z Inv mX10_drawn mX11_drawn [.int (iI c), .int (iI w)] := by
  intro g f hI
  have he : xaDrawn f c w = aDrawn f c w := eqDrawn hI c w
  refine PM.mono (PM.room (x_drawn l z 300 hI.X (by rw [hI.D.1]; exact hI.D.2.1) h_c h_w) (Nat.zero_le _) (Nat.zero_le _)) (fun r g1 f1 hq => ?_)
  obtain ⟨rfl, rfl, rfl⟩ := hq
  obtain ⟨x, hx, hr⟩ := inIt (xaDrawn f c w)
  refine ⟨x, hx, hr, hI.M.k, PM.mono (m_drawn l z 299 hI.M hI.D.2.1 h_c h_w) (fun r g2 f2 hq => ?_)⟩
  obtain ⟨rfl, rfl, rfl⟩ := hq
  exact ⟨by rw [he], hI⟩
theorem op_count (l : Launch) (z : Zv) (w : Int) (h_w : inR w) : OpOK l z Inv mX10_count mX11_count [.int (iI w)] := by
  intro g f hI
  have he : xaCount f w = aCount f w := eqCount hI w
  refine PM.mono (PM.room (x_count l z 300 hI.X h_w) (Nat.zero_le _) (Nat.zero_le _)) (fun r g1 f1 hq => ?_)
  obtain ⟨rfl, rfl, rfl⟩ := hq
  obtain ⟨x, hx, hr⟩ := inIt (xaCount f w)
  refine ⟨x, hx, hr, hI.M.k, PM.mono (m_count l z 299 hI.M h_w) (fun r g2 f2 hq => ?_)⟩
  obtain ⟨rfl, rfl, rfl⟩ := hq
  exact ⟨by rw [he], hI⟩
theorem op_crumbs (l : Launch) (z : Zv) : OpOK l z Inv mX10_crumbs mX11_crumbs [] := by
  intro g f hI
  have he : f 64 15 = f 164 5 := hI.S.2
  refine PM.mono (PM.room (x_crumbs l z 300 hI.X) (Nat.zero_le _) (Nat.zero_le _)) (fun r g1 f1 hq => ?_)
  obtain ⟨rfl, rfl, rfl⟩ := hq
  obtain ⟨x, hx, hr⟩ := inIt (f 64 15)
  refine ⟨x, hx, hr, hI.M.k, PM.mono (m_crumbs l z 300 hI.M) (fun r g2 f2 hq => ?_)⟩
  obtain ⟨rfl, rfl, rfl⟩ := hq
  exact ⟨by rw [he], hI⟩
theorem op_status (l : Launch) (z : Zv) : OpOK l z Inv mX10_status mX11_status [] := by
  intro g f hI
  have he : f 64 16 = f 164 0 := hI.S.1
  refine PM.mono (PM.room (x_status l z 300 hI.X) (Nat.zero_le _) (Nat.zero_le _)) (fun r g1 f1 hq => ?_)
  obtain ⟨rfl, rfl, rfl⟩ := hq
  obtain ⟨x, hx, hr⟩ := inIt (f 64 16)
  refine ⟨x, hx, hr, hI.M.k, PM.mono (m_status l z 300 hI.M) (fun r g2 f2 hq => ?_)⟩
  obtain ⟨rfl, rfl, rfl⟩ := hq
  exact ⟨by rw [he], hI⟩
theorem op_fault (l : Launch) (z : Zv) : OpOK l z Inv mX10_fault mX11_fault [] := by
  intro g f hI
  have he : f 107 3 = f 164 10 := hI.T.2.2.1
  refine PM.mono (PM.room (x_fault l z 300 hI.X) (Nat.zero_le _) (Nat.zero_le _)) (fun r g1 f1 hq => ?_)
  obtain ⟨rfl, rfl, rfl⟩ := hq
  obtain ⟨x, hx, hr⟩ := inIt (f 107 3)
  refine ⟨x, hx, hr, hI.M.k, PM.mono (m_fault l z 300 hI.M) (fun r g2 f2 hq => ?_)⟩
  obtain ⟨rfl, rfl, rfl⟩ := hq
  exact ⟨by rw [he], hI⟩

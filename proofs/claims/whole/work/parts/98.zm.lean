/-! bake, queues -/
theorem inv_163 {g : Gm} {f f' : Fm} (h : Inv g f) (hf : ∀ q, q ≠ 163 → f' q = f q) : Inv g f' :=
  h.fr (fun q hq => hf q (by omega)) (h.R.mv (hf _ (by decide)) (hf _ (by decide))) (h.S.mv (congrFun (hf 64 (by decide)) _) (congrFun (hf 64 (by decide)) _) (congrFun (hf 164 (by decide)) _) (congrFun (hf 164 (by decide)) _)) (h.T.mv (congrFun (hf 107 (by decide)) _) (congrFun (hf 107 (by decide)) _) (congrFun (hf 164 (by decide)) _) (congrFun (hf 164 (by decide)) _) (hf _ (by decide)) (hf _ (by decide))) (h.D.mv (congrFun (hf 157 (by decide)) _) (congrFun (hf 164 (by decide)) _) (hf _ (by decide)) (hf _ (by decide)) (hf _ (by decide)) (hf _ (by decide))) (h.W.mv (hf _ (by decide)) (by rw [hf 164 (by decide)]; exact h.W.2))
theorem MSc_rfs {f f' : Fm} (h : MSc f f') (k : Int) : MSc (rfs f k) (rfs f' k) := by
  obtain ⟨h1, h2, h3⟩ := h
  have h165 : rfs f' k 165 = rfs f k 165 := by rw [rfs_165, rfs_165, h1 165 (by omega)]
  refine ⟨fun a ha => ?_, fun q a1 a2 a3 a4 a5 => ?_, ?_⟩
  · by_cases q : a = 165
    · subst q; exact h165
    · rw [rfs_o _ _ (by omega) q, rfs_o _ _ (by omega) q]; exact h1 a ha
  · by_cases q0 : q = 0
    · subst q0; rw [rfs_0, rfs_0]
    · rw [rfs_i _ _ q0, rfs_i _ _ q0]; exact h2 q a1 a2 a3 a4 a5
  · rw [rfs_i _ _ (by decide)]; exact h3
theorem inv_bkF {g : Gm} {f f1 : Fm} (h : Inv g f) (hb : BkF f f1 (f 166) (f 166 77).toNat) : Inv g f1 := by
  obtain ⟨hf, hT, h1, h2⟩ := hb
  have hC : ICn f (f 166) (f 166 77).toNat := h.C
  have hu : ∀ q, q ≠ 163 → updA f1 163 (f 163) q = f1 q := fun q a => updA_n _ _ a
  have hr : ∀ q, q < 111 ∨ 122 < q → q < 135 ∨ 144 < q → updA f1 163 (f 163) q = f q := fun q a1 a2 => by
    by_cases a : q = 163
    · subst a; rw [updA_s]
    · rw [hu q a, hf q a1 a2 a]
  have hI1 : Inv g (updA f1 163 (f 163)) := by
    refine h.cl (gP.rf g) (fun q hq => hr q (by omega) (by omega)) ⟨hT.mv (fun q a b => hu q (by omega)), h1.mv (fun q a b => hu q (by omega)), h2.mv (fun q a b => hu q (by omega)), hC.2.2.2.1.mv (fun q a b => hr q (by omega) (by omega)), ?_⟩
    have h5 := hC.2.2.2.2
    unfold PlC PlK at h5 ⊢
    rw [hr 150 (by omega) (by omega), hr 151 (by omega) (by omega)]; exact h5
  exact inv_163 hI1 (fun q a => (hu q a).symm)
theorem okO_bk {K : Nat → Int} {n : Nat} {how : Int} (h0 : 0 ≤ how) (h : 0 < how → 0 < sWy K n (how.toNat - 1)) : okO (bkO K n how) n := by
  by_cases q : how = 0
  · rw [bkO_0 q]; exact okO_id n
  · rw [bkO_s q]; exact okO_sRw (h (by omega))
theorem op_bake (l : Launch) (z : Zv) (how : Int) (h_how : inR how) : OpOK l z Inv mX10_bake mX11_bake [.int (iI how)] := by
  intro g f hI
  have hC : ICn f (f 166) (f 166 77).toNat := hI.C
  refine PM.mono (PM.room (x_bake l z 293 hI.X hI.BK hI.KO (by decide) (by decide) hI.n hC.1 hC.2.1 hC.2.2.1 h_how) (Nat.zero_le _) (Nat.zero_le _)) (fun r g1 f1 hq => ?_)
  obtain ⟨rfl, fB, hbF, hcs⟩ := hq
  have hIB := inv_bkF hI hbF
  have eK : fB 166 = f 166 := hbF.1 166 (by omega) (by omega) (by decide)
  -- a refusal of the class
  have hX : ∀ k : Int, rfK k → r = some (.int (iI k)) → f1 = xrf fB k → (∀ r' fM, MSc f1 fM → r' = r → Inv g (rfs fM k)) ∧ f1 166 = f 166 ∧ ∃ bk : Bool, f1 164 20 = b01 (bk = true) := fun k hk e1 e2 => by
    subst e2
    refine ⟨fun r' fM hm _ => (hIB.ref hk).ms (MSc_rfs hm k), by rw [xrf_o _ _ (by decide) (by decide), eK], by rw [xrf_o _ _ (by decide) (by decide)]; exact hIB.W.2⟩
  rcases hcs with ⟨c0, rfl, e1⟩ | ⟨c0, c1, rfl, e1⟩ | ⟨c0, c1, c2, rfl, e1⟩ | ⟨c0, c1, c2, rfl, f2, p1, p2, e1⟩
  · obtain ⟨x1, x2, x3⟩ := hX (-1) (by unfold rfK; omega) rfl e1
    refine ⟨-1, by decide, rfl, hI.M.k, PM.mono (m_bake l z (K := f 166) hI.M x2 hI.KO hI.n x3 h_how (D := 300) (by decide)) (fun r2 g2 f2 hq => ?_)⟩
    obtain ⟨rfl, fM, hm, hcs⟩ := hq
    rcases hcs with ⟨d0, rfl, rfl⟩ | ⟨d0, d1, rfl, rfl⟩ | ⟨d0, d1, d2, rfl, rfl⟩ | ⟨d0, d1, d2, rfl, _⟩
    · exact ⟨rfl, x1 _ _ hm rfl⟩
    · omega
    · omega
    · omega
  · obtain ⟨x1, x2, x3⟩ := hX (-3) (by unfold rfK; omega) rfl e1
    refine ⟨-3, by decide, rfl, hI.M.k, PM.mono (m_bake l z (K := f 166) hI.M x2 hI.KO hI.n x3 h_how (D := 300) (by decide)) (fun r2 g2 f2 hq => ?_)⟩
    obtain ⟨rfl, fM, hm, hcs⟩ := hq
    rcases hcs with ⟨d0, rfl, rfl⟩ | ⟨d0, d1, rfl, rfl⟩ | ⟨d0, d1, d2, rfl, rfl⟩ | ⟨d0, d1, d2, rfl, _⟩
    · omega
    · exact ⟨rfl, x1 _ _ hm rfl⟩
    · have := d1 c0.1; omega
    · have := d1 c0.1; omega
  · obtain ⟨x1, x2, x3⟩ := hX (-5) (by unfold rfK; omega) rfl e1
    refine ⟨-5, by decide, rfl, hI.M.k, PM.mono (m_bake l z (K := f 166) hI.M x2 hI.KO hI.n x3 h_how (D := 300) (by decide)) (fun r2 g2 f2 hq => ?_)⟩
    obtain ⟨rfl, fM, hm, hcs⟩ := hq
    rcases hcs with ⟨d0, rfl, rfl⟩ | ⟨d0, d1, rfl, rfl⟩ | ⟨d0, d1, d2, rfl, rfl⟩ | ⟨d0, d1, d2, rfl, _⟩
    · omega
    · have := c1 d0.1; omega
    · exact ⟨rfl, x1 _ _ hm rfl⟩
    · exact absurd d2 c2
  · obtain ⟨x, hx, hr⟩ := inIt (alK (f 166) (f 166 77).toNat (bkO (f 166) (f 166 77).toNat how) (f 166 77).toNat)
    have k2 : ∀ q, 164 ≤ q → f2 q = fB q := fun q hq => p1 q (by omega) (by omega) (by omega)
    have e0 : ∀ q, 164 ≤ q → f1 q = fB q := fun q hq => by rw [e1, stF_n _ _ _ (by omega), drp_n _ (by omega) (by omega) (by omega) (by omega) (by omega), k2 q hq]
    refine ⟨x, hx, hr, hI.M.k, PM.mono (m_bake l z (K := f 166) hI.M (by rw [e0 166 (by decide)]; exact eK) hI.KO hI.n (by rw [e0 164 (by decide)]; exact hIB.W.2) h_how (D := 300) (by decide)) (fun r2 g2 f3 hq => ?_)⟩
    obtain ⟨rfl, fM, hm, hcs⟩ := hq
    rcases hcs with ⟨d0, rfl, rfl⟩ | ⟨d0, d1, rfl, rfl⟩ | ⟨d0, d1, d2, rfl, rfl⟩ | ⟨d0, d1, d2, rfl, fG, q1, q2, rfl⟩
    · omega
    · have := c1 d0.1; omega
    · exact absurd c2 d2
    · refine ⟨rfl, ?_⟩
      have hI2 : Inv g (updA fB 163 (f2 163)) := inv_163 hIB (fun q a => updA_n _ _ a)
      have hG : ∀ q, q ≠ 66 → q ≠ 67 → f2 q = updA fB 163 (f2 163) q := fun q a1 a2 => by
        by_cases a : q = 163
        · subst a; rw [updA_s]
        · rw [updA_n _ _ a, p1 q a1 a2 a]
      have hF0 : Inv g (gd (updA f1 166 (goK (f 166) (f 166 77).toNat (bkO (f 166) (f 166 77).toNat how)))) := by
        generalize hK' : goK (f 166) (f 166 77).toNat (bkO (f 166) (f 166 77).toNat how) = K' at p2 q2 ⊢
        have hr2 : ∀ q, q ≠ 164 → q ≠ 166 → gd (updA f1 166 K') q = f1 q := fun q a1 a2 => by rw [gd_n _ a1, updA_n _ _ a2]
        have h166 : gd (updA f1 166 K') 166 = K' := by rw [gd_n _ (by decide), updA_s]
        have hd : ∀ q, q ≠ 64 → f1 q = drp f2 q := fun q a => by rw [e1, stF_n _ _ _ a]
        have dr := drp_0 f2
        refine hI2.go (fun q a1 a2 a4 a5 a6 a7 a8 a9 a10 => ?_) ?_ ?_ (fun i hi => ?_) ⟨?_, ?_⟩ (IC.dr (by rw [hr2 111 (by decide) (by decide), hd 111 (by decide)]; exact dr.1) (by rw [hr2 111 (by decide) (by decide), hd 111 (by decide)]; exact dr.2.1) (by rw [hr2 135 (by decide) (by decide), hd 135 (by decide)]; exact dr.2.2.1) (by rw [hr2 140 (by decide) (by decide), hd 140 (by decide)]; exact dr.2.2.2.1) (by rw [hr2 145 (by decide) (by decide), hd 145 (by decide)]; exact dr.2.2.2.2.1) (by rw [hr2 150 (by decide) (by decide), hd 150 (by decide)]; exact dr.2.2.2.2.2))
        · rw [hr2 q a9 a10, hd q a1, drp_n _ a4 a5 a6 a7 a8]; exact hG q (by omega) (by omega)
        · rw [gd_0, hr2 64 (by decide) (by decide), e1, stF_s]
        · rw [hr2 64 (by decide) (by decide), e1, stF_i _ _ _ (by decide), drp_n _ (by decide) (by decide) (by decide) (by decide) (by decide), hG 64 (by decide) (by decide)]
        · rw [gd_i _ hi, updA_n _ _ (by decide), hd 164 (by decide), drp_n _ (by decide) (by decide) (by decide) (by decide) (by decide), hG 164 (by decide) (by decide)]
        · rw [h166, ← hK']; exact hI.KO.go (by decide) hI.n (okO_bk c0.1 c1) c2
        · rw [h166]
          refine p2.mem (fun q hq => ?_)
          have hg := hI.g195
          rw [hr2 q (by omega) (by omega), hd q (by omega), drp_n _ (by omega) (by omega) (by omega) (by omega) (by omega)]
      refine hF0.ms ⟨fun a ha => ?_, fun q a1 a2 a3 a4 a5 => ?_, ?_⟩
      · by_cases a6 : a = 166
        · subst a6; rw [gd_n _ (by decide), q2, gd_n _ (by decide), updA_s]
        · rw [gd_n _ (by omega), q1 a a6, hm.1 a ha, gd_n _ (by omega), updA_n _ _ a6]
      · by_cases a0 : q = 0
        · subst a0; rw [gd_0, gd_0]
        · rw [gd_i _ a0, q1 164 (by decide), hm.2.1 q a1 a2 a3 a4 a5, gd_i _ a0, updA_n _ _ (by decide)]
      · rw [gd_i _ (by decide), q1 164 (by decide)]; exact hm.2.2
theorem inv_frP {g g' : Gm} {f f' : Fm} (h : Inv g f) (hp : gP g g') (hf : ∀ q, (65 ≤ q ∧ q ≤ 74) ∨ (86 ≤ q ∧ q ≤ 106) ∨ (111 ≤ q ∧ q ≤ 121) ∨ (135 ≤ q ∧ q ≤ 151) ∨ (166 ≤ q ∧ q ≤ 168) ∨ 195 ≤ q → f' q = f q) (hR : IR f') (hS : IS f') (hT : IT f') (hD : ID f') (hW : IW f') : Inv g' f' := by
  refine ⟨h.G.P h.BK hp, ⟨?_, ?_⟩, ?_, hR, hS, hT, hD, hW, h.C.mv (fun q hq => hf q (by omega))⟩
  · rw [hf 166 (by omega)]; exact h.KO
  · rw [hf 166 (by omega)]; exact h.BK.P (by omega) hp (fun q hq => hf q (by omega))
  · intro k hk
    have ek : kR f' k = kR f k := by unfold kR; rw [hf 167 (by omega)]
    rw [hf 106 (by omega), hf 168 (by omega), ek]
    exact ⟨(h.I k hk).1, (h.I k hk).2.imp id (fun q => ⟨q.1, q.2.1, q.2.2.P (by omega) hp (fun a ha => hf a (by omega))⟩)⟩
theorem op_queues (l : Launch) (z : Zv) (sd m : Int) (h_sd : inR sd) (h_m : inR m) : OpOK l z Inv mX10_queues mX11_queues [.int (iI sd), .int (iI m)] := by
  intro g f hI
  have hn8 : (f 166 77).toNat ≤ 8 := by have := hI.KO.n; omega
  refine PM.mono (PM.room (x_queues l z 294 hI.X hI.BK hI.KO hI.n hI.G.2.2.2.1 h_sd h_m) (Nat.zero_le _) (Nat.zero_le _)) (fun r g1 f1 hq => ?_)
  have hM1 : ML (cpR g 68 78 6) := (hI.G.P hI.BK (gP.cp g)).2.1
  rcases hq with ⟨c0, rfl, rfl, rfl⟩ | ⟨c0, rfl, ⟨d, hd, c1, c2, rfl, fq, hQ, q1, q2, q3, rfl⟩ | ⟨c1, rfl, fq, hQ, q1, q2, q3, rfl⟩⟩
  · have e0 : ∀ q, 164 ≤ q → xrf f (-1) q = f q := fun q hq => xrf_o _ _ (by omega) (by omega)
    refine ⟨-1, by decide, rfl, hI.M.k, PM.mono (m_queues l z (K := f 166) hI.M (e0 166 (by decide)) hI.KO hI.n (by rw [e0 164 (by decide)]; exact hI.W.2) h_sd h_m (D := 300) (by decide)) (fun r2 g2 f2 hq => ?_)⟩
    obtain ⟨rfl, hq⟩ := hq
    rcases hq with ⟨d0, rfl, rfl⟩ | ⟨d0, _⟩
    · exact ⟨rfl, hI.ref (by unfold rfK; omega)⟩
    · exact absurd d0 c0
  · have hq64 : fq 64 = f 64 := hQ 64 (by omega)
    have e0 : ∀ q, 164 ≤ q → xrf fq (-5) q = f q := fun q hq => by rw [xrf_o _ _ (by omega) (by omega), hQ q (by omega)]
    refine ⟨-5, by decide, rfl, hM1.k, PM.mono (m_queues l z (K := f 166) hM1 (e0 166 (by decide)) hI.KO hI.n (by rw [e0 164 (by decide)]; exact hI.W.2) h_sd h_m (D := 300) (by decide)) (fun r2 g2 f2 hq => ?_)⟩
    obtain ⟨rfl, hq⟩ := hq
    rcases hq with ⟨d0, rfl, rfl⟩ | ⟨d0, ⟨d', hd', c1', c2', rfl, fM, hm, m1, m2, m3, rfl⟩ | ⟨c1', _⟩⟩
    · exact absurd c0 d0
    · refine ⟨rfl, ?_⟩
      obtain ⟨s1, s2, s3⟩ := hm
      have hr : ∀ q, q < 75 ∨ (84 < q ∧ q < 123) ∨ (134 < q ∧ q < 157) ∨ (165 ≤ q ∧ q ≤ 174) ∨ 195 ≤ q → q ≠ 64 → q ≠ 165 → rfs fM (-5) q = f q := fun q a1 a2 a3 => by rw [rfs_o _ _ (by omega) a3, s1 q (by omega), xrf_o _ _ a2 (by omega), hQ q (by omega)]
      have hi : ∀ i, i ≠ 0 → i ≠ 18 → i ≠ 19 → i ≠ 20 → i ≠ 22 → i ≠ 23 → i ≠ 43 → i ≠ 44 → rfs fM (-5) 164 i = f 164 i := fun i a0 a1 a2 a3 a4 a5 a6 a7 => by rw [rfs_i _ _ a0, s2 i a1 a2 a3 a4 a5 a6 a7, e0 164 (by decide)]
      have hx : ∀ q, 157 ≤ q → q ≤ 159 → rfs fM (-5) q = fq q := fun q a1 a2 => by rw [rfs_o _ _ (by omega) (by omega), s1 q (by omega), xrf_o _ _ (by omega) (by omega)]
      have h64 : rfs fM (-5) 64 = xrf fq (-5) 64 := by rw [rfs_o _ _ (by decide) (by decide), s1 64 (by omega)]
      refine inv_frP hI (gP.cp g) (fun q hq => hr q (by omega) (by omega) (by omega)) (hI.R.rf (k := -5) (by unfold rfK; omega) ?_ ?_) ⟨?_, ?_⟩ (hI.T.mv (congrFun (hr 107 (by omega) (by decide) (by decide)) _) (congrFun (hr 107 (by omega) (by decide) (by decide)) _) (hi 9 (by decide) (by decide) (by decide) (by decide) (by decide) (by decide) (by decide) (by decide)) (hi 10 (by decide) (by decide) (by decide) (by decide) (by decide) (by decide) (by decide) (by decide)) (hr _ (by omega) (by decide) (by decide)) (hr _ (by omega) (by decide) (by decide))) (hI.D.mv ?_ ?_ ?_ ?_ ?_ ?_) (hI.W.mv (hr _ (by omega) (by decide) (by decide)) (by rw [rfs_i _ _ (by decide)]; exact s3))
      · rw [rfs_o _ _ (by decide) (by decide), s1 161 (by omega), xrf_161, xrf_161, hQ 161 (by omega)]
      · rw [rfs_165, rfs_165, s1 165 (by omega), e0 165 (by decide)]
      · rw [h64, xrf_16, rfs_0]
      · rw [h64, xrf_15, hq64, hi 5 (by decide) (by decide) (by decide) (by decide) (by decide) (by decide) (by decide) (by decide)]; exact hI.S.2
      · rw [hx 157 (by decide) (by decide), q1 3 (by decide)]
      · rw [rfs_i _ _ (by decide), m3, e0 164 (by decide)]
      · rw [hx 158 (by decide) (by decide), q2]
      · rw [hx 159 (by decide) (by decide), q3]
      · rw [rfs_o _ _ (by decide) (by decide), m1, e0 192 (by decide)]
      · rw [rfs_o _ _ (by decide) (by decide), m2, e0 193 (by decide)]
    · exact absurd (c1' d hd) c2
  · obtain ⟨x, hx, hr⟩ := inIt (sumN (f 166 77).toNat (fun c => gtQ (f 166) (f 166 77).toNat sd.toNat c m.toNat))
    have e0 : ∀ q, 164 ≤ q → stF fq 64 16 0 q = f q := fun q hq => by rw [stF_n _ _ _ (by omega), hQ q (by omega)]
    refine ⟨x, hx, hr, hM1.k, PM.mono (m_queues l z (K := f 166) hM1 (e0 166 (by decide)) hI.KO hI.n (by rw [e0 164 (by decide)]; exact hI.W.2) h_sd h_m (D := 300) (by decide)) (fun r2 g2 f2 hq => ?_)⟩
    obtain ⟨rfl, hq⟩ := hq
    rcases hq with ⟨d0, rfl, rfl⟩ | ⟨d0, ⟨d', hd', c1', c2', _⟩ | ⟨c1', rfl, fM, hm, m3, m1, m2, rfl⟩⟩
    · exact absurd c0 d0
    · exact absurd (c1 d' hd') c2'
    · refine ⟨by rw [alQ_gt hn8], ?_⟩
      obtain ⟨s1, s2, s3⟩ := hm
      have hr : ∀ q, q < 75 ∨ (84 < q ∧ q < 123) ∨ (134 < q ∧ q < 157) ∨ q = 161 ∨ (165 ≤ q ∧ q ≤ 174) ∨ 195 ≤ q → q ≠ 64 → gd fM q = f q := fun q a1 a2 => by rw [gd_n _ (by omega), s1 q (by omega), stF_n _ _ _ a2, hQ q (by omega)]
      have hi : ∀ i, i ≠ 0 → i ≠ 18 → i ≠ 19 → i ≠ 20 → i ≠ 22 → i ≠ 23 → i ≠ 43 → i ≠ 44 → gd fM 164 i = f 164 i := fun i a0 a1 a2 a3 a4 a5 a6 a7 => by rw [gd_i _ a0, s2 i a1 a2 a3 a4 a5 a6 a7, e0 164 (by decide)]
      have hx : ∀ q, 157 ≤ q → q ≤ 159 → gd fM q = fq q := fun q a1 a2 => by rw [gd_n _ (by omega), s1 q (by omega), stF_n _ _ _ (by omega)]
      have h64 : gd fM 64 = upK (f 64) 16 0 := by rw [gd_n _ (by decide), s1 64 (by omega), stF_u, hQ 64 (by omega)]
      have h43 : gd fM 164 43 = (((f 166 77).toNat : Nat) : Int) := by rw [gd_i _ (by decide), m3]
      refine inv_frP hI (gP.cp g) (fun q hq => hr q (by omega) (by omega)) (hI.R.mv (hr _ (by omega) (by decide)) (hr _ (by omega) (by decide))) ⟨?_, ?_⟩ (hI.T.mv (congrFun (hr 107 (by omega) (by decide)) _) (congrFun (hr 107 (by omega) (by decide)) _) (hi 9 (by decide) (by decide) (by decide) (by decide) (by decide) (by decide) (by decide) (by decide)) (hi 10 (by decide) (by decide) (by decide) (by decide) (by decide) (by decide) (by decide) (by decide)) (hr _ (by omega) (by decide)) (hr _ (by omega) (by decide))) ⟨?_, ?_, fun c hc => ?_⟩ (hI.W.mv (hr _ (by omega) (by decide)) (by rw [gd_i _ (by decide)]; exact s3))
      · rw [h64, upK_s, gd_0]
      · rw [h64, upK_n _ _ (by decide), hi 5 (by decide) (by decide) (by decide) (by decide) (by decide) (by decide) (by decide) (by decide)]; exact hI.S.2
      · rw [hx 157 (by decide) (by decide), q1, h43]
      · rw [h43]; omega
      · rw [h43] at hc
        have hc2 : c < (f 166 77).toNat := by omega
        refine ⟨?_, ?_⟩
        · rw [hx 158 (by decide) (by decide), q2 c hc2, gd_n _ (by decide), m1 c hc2]
        · obtain ⟨j, hj, rfl⟩ := okO_sur (c := c) (okO_q (wt := wtK (KQ (f 166) (f 166 77).toNat sd.toNat (m.toNat - 1)).1 ((KQ (f 166) (f 166 77).toNat sd.toNat (m.toNat - 1)).1 42) (hdK (KQ (f 166) (f 166 77).toNat sd.toNat (m.toNat - 1)).1) (f 166 77).toNat) (s0 := (KQ (f 166) (f 166 77).toNat sd.toNat (m.toNat - 1)).2) hn8) hc2
          have a1 := q3 j hj
          have a2 := m2 j hj
          unfold odQ at a1 a2
          rw [hx 159 (by decide) (by decide), a1, gd_n _ (by decide), a2]

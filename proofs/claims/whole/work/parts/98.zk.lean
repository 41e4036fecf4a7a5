/-! law -/
theorem xrf_st {f : Fm} {a i : Nat} {v k : Int} (h1 : a ≠ 64) (h2 : a ≠ 161) : xrf (stF f a i v) k = stF (xrf f k) a i v := by
  unfold xrf
  rw [stF_n _ _ _ (Ne.symm h2)]
  funext q j
  simp only [stF]
  by_cases q1 : q = 64 ∧ j = 16
  · rw [if_pos q1, if_pos q1, if_neg (by omega)]
  · rw [if_neg q1, if_neg q1]
    by_cases q2 : q = a ∧ j = i
    · rw [if_pos q2, if_pos q2, if_neg (by omega)]
    · rw [if_neg q2, if_neg q2]
theorem inv_cut {g : Gm} {f : Fm} (hI : Inv g f) : Inv g (stF (stF f 107 4 0) 164 9 0) := by
  obtain ⟨t1, t2, t3, t4⟩ := hI.T
  have ho : ∀ q, q ≠ 107 → q ≠ 164 → stF (stF f 107 4 0) 164 9 0 q = f q := fun q a1 a2 => by rw [stF_n _ _ _ a2, stF_n _ _ _ a1]
  have hi : ∀ i, i ≠ 9 → stF (stF f 107 4 0) 164 9 0 164 i = f 164 i := fun i a => by rw [stF_i _ _ _ a, stF_n _ _ _ (by decide)]
  refine hI.fr (fun q hq => ho q (by omega) (by omega)) (hI.R.mv (ho _ (by decide) (by decide)) (ho _ (by decide) (by decide))) (hI.S.mv (congrFun (ho 64 (by decide) (by decide)) _) (congrFun (ho 64 (by decide) (by decide)) _) (hi 0 (by decide)) (hi 5 (by decide))) ⟨?_, ?_, ?_, ?_⟩ (hI.D.mv (congrFun (ho 157 (by decide) (by decide)) _) (hi 43 (by decide)) (ho _ (by decide) (by decide)) (ho _ (by decide) (by decide)) (ho _ (by decide) (by decide)) (ho _ (by decide) (by decide))) (hI.W.mv (ho _ (by decide) (by decide)) (by rw [hi 20 (by decide)]; exact hI.W.2))
  · rw [stF_s, stF_n _ _ _ (by decide), stF_s]
  · rw [stF_s]; omega
  · rw [hi 10 (by decide), stF_n _ _ _ (by decide), stF_i _ _ _ (by decide)]; exact t3
  · rw [ho 170 (by decide) (by decide), ho 108 (by decide) (by decide)]; exact t4
theorem cj_r {B : Nat → Int} {t j : Nat} (hby : ∀ i, 0 ≤ B i ∧ B i ≤ 255) : 0 ≤ cj B t j ∧ cj B t j ≤ 355 := by
  unfold cj tC
  have h1 := wnC_r B (pl B t j) (tkE B t (pl B t j))
  have h2 := hby (pl B t j)
  split
  · omega
  · split
    · omega
    · split <;> omega
/-- the text kept last is the text read -/
theorem law_new {K : Nat → Int} {f1 : Fm} {B : Nat → Int} {t T nl : Nat} (hby : ∀ i, 0 ≤ B i ∧ B i ≤ 255) (hT : K (82 + nl) = ((T : Nat) : Int)) (hK : ∀ q, q < T → K (88 + 400 * nl + q) = f1 172 q ∧ K (2488 + 400 * nl + q) = f1 173 q) (h1 : ∀ i, i < T → pl B t i < t) (h2 : t ≤ pl B t T) (h3 : ∀ i, i ≤ T → TkO f1 B t i) : lawR K nl = sLaw (cj B t) (vj B t) (enj B t) 12 0 0 [] := by
  have ek : kT K nl = T := by unfold kT; rw [hT]; omega
  have e1 : kC K nl = cj B t := by
    funext j
    unfold kC
    rw [ek]
    by_cases hj : j < T
    · rw [if_pos hj, (hK j hj).1, (h3 j (by omega)).1]
    · rw [if_neg hj]
      have := pl_end h2 (j - T)
      rw [show T + (j - T) = j by omega] at this
      unfold cj tC
      rw [if_pos this]
  have e2 : kV K nl = vj B t := by
    funext j
    unfold kV
    rw [ek]
    by_cases hj : j < T
    · rw [if_pos hj, (hK j hj).2, (h3 j (by omega)).2.2.1]
    · rw [if_neg hj]
      have := pl_end h2 (j - T)
      rw [show T + (j - T) = j by omega] at this
      unfold vj
      rw [if_neg (fun q => (kj_257 hby q).1 this)]
  have e3 : kE K nl = enj B t := by
    rw [enj_T h1 h2]
    funext j
    unfold kE
    rw [ek]
  unfold lawR
  rw [e1, e2, e3]
theorem LawAt.st {g : Gm} {f : Fm} {q i : Nat} {x : Option Nat} {cls : List Cl} (h : LawAt g f q cls) : LawAt (stR g 68 i x) f q cls := by
  obtain ⟨h0, h1, h2, h3, h4, h5, h6, h7, h8, m, h9, h10, h11⟩ := h
  have e : grm (stR g 68 i x) (q + 2) = grm g (q + 2) := by
    funext j
    show (if q + 2 = 68 ∧ j = i then x else grm g (q + 2) j) = _
    rw [if_neg (by omega)]
  exact ⟨h0, h1, by rw [e]; exact h2, by rw [e]; exact h3, h4, h5, h6, h7, h8, m, h9, h10, h11⟩
theorem stR_n {g : Gm} {a i q : Nat} {x : Option Nat} (h : q ≠ a) : grm (stR g a i x) q = grm g q := by
  funext j
  show (if q = a ∧ j = i then x else grm g q j) = _
  rw [if_neg (fun e => h e.1)]
theorem stR_68 {g : Gm} {i j : Nat} {x : Option Nat} : grm (stR g 68 i x) 68 j = if j = i then x else grm g 68 j := by
  show (if 68 = 68 ∧ j = i then x else grm g 68 j) = _
  by_cases h : j = i
  · rw [if_pos ⟨rfl, h⟩, if_pos h]
  · rw [if_neg (fun e => h e.2), if_neg h]
theorem BK.lst {g g1 : Gm} {f f' : Fm} {b i : Nat} {x : Option Nat} {K : Nat → Int} (h : BK g f b K) (hb : b + 3 ≠ 68) (hg : b + 3 < gnx g) (e : gx g g1) (hf : ∀ q, (b ≤ q ∧ q < b + 10) ∨ (195 ≤ q ∧ q < gnx g) → f' q = f q) : BK (stR g1 68 i x) f' b K := by
  have ef : ∀ i, i < 10 → f' (b + i) = f (b + i) := fun i hi => hf _ (Or.inl (by omega))
  have ef0 : f' b = f b := ef 0 (by decide)
  have er : grm (stR g1 68 i x) (b + 3) = grm g (b + 3) := (stR_n hb).trans (e.2.1 _ hg)
  refine ⟨by rw [ef0]; exact h.n, by rw [ef0]; exact h.nl, by rw [ef0]; exact h.fo, fun w c hw hc => by rw [ef 1 (by decide)]; exact h.tr hw hc, fun t ht => by rw [ef 2 (by decide)]; exact h.te ht, by rw [ef 4 (by decide)]; exact h.sm, fun i hi => by rw [ef 5 (by decide), ef 6 (by decide)]; exact h.si hi, by rw [ef 7 (by decide)]; exact h.cm, fun i hi => by rw [ef 8 (by decide), ef 9 (by decide)]; exact h.ci hi, fun i hi => ?_, fun i p hp => ?_⟩
  · obtain ⟨q, h1, h2⟩ := h.lw i hi
    exact ⟨q, by rw [er]; exact h1, (h2.mem e (fun a h3 h4 => hf a (Or.inr ⟨h3, h4⟩))).st⟩
  · rw [er] at hp
    exact ((h.lk i p hp).ext e.1 : isK g1 p 3)
theorem inv_law {g g1 : Gm} {f f1 F F1 : Fm} {t T nl : Nat} {cls : List Cl} (hI : Inv g f) (hnl : f 166 80 = ((nl : Nat) : Int)) (hn6 : nl < 6) (hs : sLaw (cj (f 108) t) (vj (f 108) t) (enj (f 108) t) 12 0 0 [] = .ok cls) (e : gx g g1) (hL : LawAt g1 f1 (gnx g) cls) (h107 : f1 107 3 = -1) (hf1 : ∀ a, a ≠ 107 → a ≠ 107 + 2 → a ≠ 107 + 3 → a < gnx g → f1 a = f a)
    (hR : RdP (stF (stF (stF f1 107 4 0) 65 6 ((nl + 1 : Nat) : Int)) 64 16 0) F1 (f 108) t T) (h10 : F1 164 10 = -1) (hT1 : 1 ≤ T) (h80 : F 166 80 = ((nl + 1 : Nat) : Int)) (hKw : KwP (stF (stF (stF f1 107 4 0) 65 6 ((nl + 1 : Nat) : Int)) 64 16 0 166) (F 166) F1 nl T T) (hFo : ∀ a, a ≠ 164 → a ≠ 166 → F a = F1 a) (hF0 : F 164 0 = 0) (hFi : ∀ i, i ≠ 0 → F 164 i = F1 164 i) : Inv (stR g1 68 nl (some (gnx g + 2))) F := by
  have hg := hI.g195
  have hO := hI.KO
  have hB := hI.BK
  obtain ⟨t1, t2, t3, t4⟩ := hI.T
  have hby : ∀ i, 0 ≤ f 108 i ∧ f 108 i ≤ 255 := fun i => (t4 i).1
  obtain ⟨r4, ro, ri, r9, r14, rl, re, rt⟩ := hR
  -- rows of F
  have hrow : ∀ q, q ≠ 164 → q ≠ 166 → q ≠ 172 → q ≠ 173 → q ≠ 174 → q ≠ 64 → q ≠ 65 → q ≠ 107 → F q = f1 q := fun q a1 a2 a3 a4 a5 a6 a7 a8 => by rw [hFo q a1 a2, ro q a1 a3 a4 a5, stF_n _ _ _ a6, stF_n _ _ _ a7, stF_n _ _ _ a8]
  have hr : ∀ q, q ≠ 164 → q ≠ 166 → q ≠ 172 → q ≠ 173 → q ≠ 174 → q ≠ 64 → q ≠ 65 → q ≠ 107 → q ≠ 109 → q ≠ 110 → q < gnx g → F q = f q := fun q a1 a2 a3 a4 a5 a6 a7 a8 a9 a10 a11 => by rw [hrow q a1 a2 a3 a4 a5 a6 a7 a8, hf1 q a8 (by omega) (by omega) a11]
  have h64 : F 64 = upK (f 64) 16 0 := by rw [hFo 64 (by decide) (by decide), ro 64 (by decide) (by decide) (by decide) (by decide), stF_u, stF_n _ _ _ (by decide), stF_n _ _ _ (by decide), hf1 64 (by decide) (by decide) (by decide) (by omega)]
  have h65 : F 65 = upK (f 65) 6 ((nl + 1 : Nat) : Int) := by rw [hFo 65 (by decide) (by decide), ro 65 (by decide) (by decide) (by decide) (by decide), stF_n _ _ _ (by decide), stF_u, stF_n _ _ _ (by decide), hf1 65 (by decide) (by decide) (by decide) (by omega)]
  have h107F : F 107 = upK (f1 107) 4 0 := by rw [hFo 107 (by decide) (by decide), ro 107 (by decide) (by decide) (by decide) (by decide), stF_n _ _ _ (by decide), stF_n _ _ _ (by decide), stF_u]
  have h164 : ∀ i, i ≠ 0 → i ≠ 9 → i ≠ 10 → i ≠ 14 → i ≠ 15 → i ≠ 16 → i ≠ 17 → F 164 i = f 164 i := fun i a0 a1 a2 a3 a4 a5 a6 => by rw [hFi i a0, ri i a1 a2 a3 a4 a5 a6, stF_n _ _ _ (by decide), stF_n _ _ _ (by decide), stF_n _ _ _ (by decide), hf1 164 (by decide) (by decide) (by decide) (by omega)]
  have e166 : stF (stF (stF f1 107 4 0) 65 6 ((nl + 1 : Nat) : Int)) 64 16 0 166 = f 166 := by rw [stF_n _ _ _ (by decide), stF_n _ _ _ (by decide), stF_n _ _ _ (by decide), hf1 166 (by decide) (by decide) (by decide) (by omega)]
  rw [e166] at hKw
  obtain ⟨k1, k2, k3⟩ := hKw
  -- what is kept
  have ko : ∀ j, j < 80 ∨ j = 81 → F 166 j = f 166 j := fun j hj => k3 j (by omega) (by omega) (by omega) (by omega)
  have kw : ∀ i, i < nl → F 166 (82 + i) = f 166 (82 + i) ∧ ∀ j, j < 400 → F 166 (88 + 400 * i + j) = f 166 (88 + 400 * i + j) ∧ F 166 (2488 + 400 * i + j) = f 166 (2488 + 400 * i + j) := fun i hi => ⟨k3 _ (by omega) (by omega) (by omega) (by omega), fun j hj => ⟨k3 _ (by omega) (by omega) (by omega) (by omega), k3 _ (by omega) (by omega) (by omega) (by omega)⟩⟩
  have klw : ∀ i, i < nl → lawK (F 166) i = lawK (f 166) i ∧ lawR (F 166) i = lawR (f 166) i := fun i hi => lawK_e (kw i hi).1 (hO.kt (by omega)) (kw i hi).2
  have knw : lawR (F 166) nl = .ok cls := by rw [law_new hby k1 k2 rl re rt]; exact hs
  have knk : lawK (F 166) nl = cls := by unfold lawK; rw [knw]
  have hfo := hO.fo
  have hKE : KE (f 166) (F 166) := by
    refine ⟨⟨fun j hj => ko j (by omega), ko 81 (by omega), fun hq => ?_⟩, fun j _ _ => ko j (by omega)⟩
    have := kw (f 166 81).toNat (by omega)
    exact ⟨this.1, hO.kt (by omega), this.2⟩
  have hn8 : (f 166 77).toNat ≤ 8 := by have := hO.n; omega
  have hC : ICn f (f 166) (f 166 77).toNat := hI.C
  -- the references
  have hx1 : XL g1 := hI.X.gx e
  have hm1 : ML g1 := hI.M.gx e
  have hTX : ∀ q, q ≠ 68 → q < gnx g → TX g q → TX (stR g1 68 nl (some (gnx g + 2))) q := fun q a1 a2 a3 i p hp => by
    rw [stR_n a1, e.2.1 q a2] at hp
    exact ((a3 i p hp).ext e.1 : isK g1 p 3)
  have hG : IG (stR g1 68 nl (some (gnx g + 2))) := ⟨XL_st hx1 _ _, ML_st hm1 hx1 _ _, Nat.le_trans hg e.1.1, hTX 78 (by decide) (by omega) hI.G.2.2.2.1, hTX 89 (by decide) (by omega) hI.G.2.2.2.2.1, hTX 99 (by decide) (by omega) hI.G.2.2.2.2.2⟩
  have hlo : ∀ q, (195 ≤ q ∧ q < gnx g) → F q = f q := fun q hq => hr q (by omega) (by omega) (by omega) (by omega) (by omega) (by omega) (by omega) (by omega) (by omega) (by omega) hq.2
  refine ⟨hG, ⟨?_, ?_⟩, ?_, hI.R.mv (hr _ (by decide) (by decide) (by decide) (by decide) (by decide) (by decide) (by decide) (by decide) (by decide) (by decide) (by omega)) (hr _ (by decide) (by decide) (by decide) (by decide) (by decide) (by decide) (by decide) (by decide) (by decide) (by decide) (by omega)), ⟨by rw [h64, upK_s, hF0], by rw [h64, upK_n _ _ (by decide), h164 5 (by decide) (by decide) (by decide) (by decide) (by decide) (by decide) (by decide)]; exact hI.S.2⟩, ⟨?_, ?_, ?_, ?_⟩, hI.D.mv (congrFun (hr 157 (by decide) (by decide) (by decide) (by decide) (by decide) (by decide) (by decide) (by decide) (by decide) (by decide) (by omega)) _) (h164 43 (by decide) (by decide) (by decide) (by decide) (by decide) (by decide) (by decide)) (hr _ (by decide) (by decide) (by decide) (by decide) (by decide) (by decide) (by decide) (by decide) (by decide) (by decide) (by omega)) (hr _ (by decide) (by decide) (by decide) (by decide) (by decide) (by decide) (by decide) (by decide) (by decide) (by decide) (by omega)) (hr _ (by decide) (by decide) (by decide) (by decide) (by decide) (by decide) (by decide) (by decide) (by decide) (by decide) (by omega)) (hr _ (by decide) (by decide) (by decide) (by decide) (by decide) (by decide) (by decide) (by decide) (by decide) (by decide) (by omega)), hI.W.mv (hr _ (by decide) (by decide) (by decide) (by decide) (by decide) (by decide) (by decide) (by decide) (by decide) (by decide) (by omega)) (by rw [h164 20 (by decide) (by decide) (by decide) (by decide) (by decide) (by decide) (by decide)]; exact hI.W.2), ?_⟩
  · -- KO
    refine ⟨by rw [ko 77 (by omega)]; exact hO.n, fun c hc => ?_, by rw [ko 40 (by omega)]; exact hO.dz, by rw [ko 41 (by omega)]; exact hO.lp, by rw [ko 42 (by omega)]; exact hO.dy, by rw [ko 43 (by omega)]; exact hO.b0, by rw [ko 44 (by omega)]; exact hO.b1, by rw [ko 78 (by omega)]; exact hO.sm, by rw [ko 79 (by omega)]; exact hO.cm, fun i hi => ?_, fun i hi => ?_, by rw [h80]; omega, by rw [h80, ko 81 (by omega)]; omega, fun i hi => ?_⟩
    · rw [ko (5 * c) (by omega), ko (5 * c + 1) (by omega), ko (5 * c + 2) (by omega), ko (5 * c + 3) (by omega), ko (5 * c + 4) (by omega)]; exact hO.f hc
    · rw [ko 78 (by omega)] at hi
      have := hO.sm
      rw [ko (45 + 2 * i) (by omega), ko (46 + 2 * i) (by omega), ko 77 (by omega)]; exact hO.si i hi
    · rw [ko 79 (by omega)] at hi
      have := hO.cm
      rw [ko (61 + 2 * i) (by omega), ko (62 + 2 * i) (by omega), ko 77 (by omega)]; exact hO.ci i hi
    · rw [h80] at hi
      by_cases hin : i < nl
      · have hw := hO.lw i (by omega)
        rw [(kw i hin).1, (klw i hin).2]
        refine ⟨hw.1, hw.2.1, fun j hj => ?_⟩
        have := (kw i hin).2 j (by omega)
        rw [this.1, this.2]; exact hw.2.2 j hj
      · obtain rfl : i = nl := by omega
        rw [k1, knw]
        refine ⟨by omega, ⟨cls, rfl⟩, fun j hj => ?_⟩
        have hj2 : j < T := by omega
        obtain ⟨p1, p2, p3, p4, p5⟩ := rt j (by omega)
        rw [(k2 j hj2).1, (k2 j hj2).2, p1]
        exact ⟨cj_r hby, p4, p5⟩
  · -- BK
    have r2 : ∀ q, 66 ≤ q → q ≤ 74 → F q = f q := fun q a b => hr q (by omega) (by omega) (by omega) (by omega) (by omega) (by omega) (by omega) (by omega) (by omega) (by omega) (by omega)
    refine ⟨by rw [h65, upK_n _ _ (by decide), ko 77 (by omega)]; exact hB.n, by rw [h65, upK_s, h80], by rw [h65, upK_n _ _ (by decide), ko 81 (by omega)]; exact hB.fo, fun w c hw hc => ?_, fun s hs => ?_, ?_, fun i hi => ?_, ?_, fun i hi => ?_, fun i hi => ?_, fun i p hp => ?_⟩
    · show F 66 (8 * w + c) = _
      rw [r2 66 (by decide) (by decide), ko _ (by omega)]; exact hB.tr hw hc
    · show F 67 s = _
      rw [r2 67 (by decide) (by decide), ko _ (by omega)]; exact hB.te hs
    · show F 69 2 = _
      rw [r2 69 (by decide) (by decide), ko 78 (by omega)]; exact hB.sm
    · show F 70 i = _ ∧ F 71 i = _
      rw [r2 70 (by decide) (by decide), r2 71 (by decide) (by decide), ko (45 + 2 * i) (by omega), ko (46 + 2 * i) (by omega)]; exact hB.si hi
    · show F 72 2 = _
      rw [r2 72 (by decide) (by decide), ko 79 (by omega)]; exact hB.cm
    · show F 73 i = _ ∧ F 74 i = _
      rw [r2 73 (by decide) (by decide), r2 74 (by decide) (by decide), ko (61 + 2 * i) (by omega), ko (62 + 2 * i) (by omega)]; exact hB.ci hi
    · rw [h80] at hi
      by_cases hin : i < nl
      · obtain ⟨q, h1, h2⟩ := hB.lw i (by omega)
        refine ⟨q, ?_, ?_⟩
        · show grm (stR g1 68 nl (some (gnx g + 2))) 68 i = _
          rw [stR_68, if_neg (by omega), e.2.1 68 (by omega)]; exact h1
        · rw [(klw i hin).1]
          exact (h2.mem e (fun a h3 h4 => hlo a ⟨h3, h4⟩)).st
      · obtain rfl : i = nl := by omega
        refine ⟨gnx g, ?_, ?_⟩
        · show grm (stR g1 68 i (some (gnx g + 2))) 68 i = _
          rw [stR_68, if_pos rfl]
        · rw [knk]
          have hL2 : LawAt g1 F (gnx g) cls := hL.mem (gx.rf g1) (fun a h3 h4 => hrow a (by omega) (by omega) (by omega) (by omega) (by omega) (by omega) (by omega) (by omega))
          exact hL2.st
    · have hp2 : grm (stR g1 68 nl (some (gnx g + 2))) 68 i = some p := hp
      rw [stR_68] at hp2
      by_cases hin : i = nl
      · rw [if_pos hin] at hp2
        cases hp2
        exact (hL.k : isK g1 (gnx g + 2) 3)
      · rw [if_neg hin, e.2.1 68 (by omega)] at hp2
        exact ((hB.lk i p hp2).ext e.1 : isK g1 p 3)
  · -- images
    intro k hk
    have r6 : F 106 = f 106 := hr 106 (by decide) (by decide) (by decide) (by decide) (by decide) (by decide) (by decide) (by decide) (by decide) (by decide) (by omega)
    have r8 : F 168 = f 168 := hr 168 (by decide) (by decide) (by decide) (by decide) (by decide) (by decide) (by decide) (by decide) (by decide) (by decide) (by omega)
    have r7 : kR F k = kR f k := by unfold kR; rw [hr 167 (by decide) (by decide) (by decide) (by decide) (by decide) (by decide) (by decide) (by decide) (by decide) (by decide) (by omega)]
    rw [r6, r8, r7]
    exact ⟨(hI.I k hk).1, (hI.I k hk).2.imp id (fun p => ⟨p.1, p.2.1, p.2.2.lst (by omega) (by omega) e (fun q hq => hr q (by omega) (by omega) (by omega) (by omega) (by omega) (by omega) (by omega) (by omega) (by omega) (by omega) (by omega))⟩)⟩
  · rw [h107F, upK_s, hFi 9 (by decide), r9]
  · rw [hFi 9 (by decide), r9]; decide
  · rw [h107F, upK_n _ _ (by decide), h107, hFi 10 (by decide), h10]
  · rw [hr 170 (by decide) (by decide) (by decide) (by decide) (by decide) (by decide) (by decide) (by decide) (by decide) (by decide) (by omega), hr 108 (by decide) (by decide) (by decide) (by decide) (by decide) (by decide) (by decide) (by decide) (by decide) (by decide) (by omega)]; exact t4
  · unfold IC
    rw [ko 77 (by omega)]
    have rc : ∀ q, 111 ≤ q → q ≤ 151 → F q = f q := fun q p1 p2 => hr q (by omega) (by omega) (by omega) (by omega) (by omega) (by omega) (by omega) (by omega) (by omega) (by omega) (by omega)
    have h9 := hO.cm
    refine ⟨(hKE.td hn8 hC.1).mv (fun q p1 p2 => rc q (by omega) (by omega)), (hKE.sr hn8 (by omega) hC.2.1).mv (fun q p1 p2 => rc q (by omega) (by omega)), (hKE.sr hn8 (by omega) hC.2.2.1).mv (fun q p1 p2 => rc q (by omega) (by omega)), (hKE.sr hn8 (Or.inr (Or.inr ⟨rfl, ko 79 (by omega), by omega, fun j p1 p2 => ko j (by omega)⟩)) hC.2.2.2.1).mv (fun q p1 p2 => rc q (by omega) (by omega)), ?_⟩
    have h5 := hKE.pl hn8 hC.2.2.2.2
    unfold PlC PlK at h5 ⊢
    rw [rc 150 (by decide) (by decide), rc 151 (by decide) (by decide)]; exact h5

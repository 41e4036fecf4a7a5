/-! What the law says hangs on few places of what is kept. -/
def lwE (K K' : Nat → Int) : Prop := (∀ j, j < 40 → K' j = K j) ∧ K' 81 = K 81 ∧ (K 81 ≠ -1 → K' (82 + (K 81).toNat) = K (82 + (K 81).toNat) ∧ kT K (K 81).toNat ≤ 400 ∧ ∀ j, j < 400 → K' (88 + 400 * (K 81).toNat + j) = K (88 + 400 * (K 81).toNat + j) ∧ K' (2488 + 400 * (K 81).toNat + j) = K (2488 + 400 * (K 81).toNat + j))
theorem lawK_e {K K' : Nat → Int} {i : Nat} (h1 : K' (82 + i) = K (82 + i)) (h2 : kT K i ≤ 400) (h3 : ∀ j, j < 400 → K' (88 + 400 * i + j) = K (88 + 400 * i + j) ∧ K' (2488 + 400 * i + j) = K (2488 + 400 * i + j)) : lawK K' i = lawK K i ∧ lawR K' i = lawR K i := by
  have e0 : kT K' i = kT K i := by unfold kT; rw [h1]
  have e1 : kC K' i = kC K i := by
    funext j
    unfold kC
    rw [e0]
    by_cases hj : j < kT K i
    · rw [if_pos hj, if_pos hj, (h3 j (by omega)).1]
    · rw [if_neg hj, if_neg hj]
  have e2 : kV K' i = kV K i := by
    funext j
    unfold kV
    rw [e0]
    by_cases hj : j < kT K i
    · rw [if_pos hj, if_pos hj, (h3 j (by omega)).2]
    · rw [if_neg hj, if_neg hj]
  have e3 : kE K' i = kE K i := by
    funext j
    unfold kE
    rw [e0]
  have e4 : lawR K' i = lawR K i := by unfold lawR; rw [e1, e2, e3]
  exact ⟨by unfold lawK; rw [e4], e4⟩
theorem eK_e {K K' : Nat → Int} (h : ∀ j, j < 40 → K' j = K j) (day had : Int) {c : Nat} {oth : Int} (hc : c < 8) (ho : oth < 8) : eK K' day had c oth = eK K day had c oth := by
  funext k
  unfold eK
  rw [h (5 * c) (by omega), h (5 * c + 1) (by omega), h (5 * c + 2) (by omega), h (5 * oth.toNat + 1) (by omega)]
theorem wantK_e {K K' : Nat → Int} (h : lwE K K') (day had : Int) {c : Nat} (hc : c < 8) : wantK K' day had c = wantK K day had c := by
  unfold wantK
  rw [h.2.1, h.1 (5 * c) (by omega), eK_e h.1 day had hc (by omega)]
  by_cases q : K 81 = -1
  · rw [if_pos q, if_pos q]
  · rw [if_neg q, if_neg q, (lawK_e (h.2.2 q).1 (h.2.2 q).2.1 (h.2.2 q).2.2).1]
theorem waitK_e {K K' : Nat → Int} (h : lwE K K') (day had : Int) {c o : Nat} (hc : c < 8) (ho : o < 8) : waitK K' day had c o = waitK K day had c o := by
  unfold waitK
  rw [h.2.1, eK_e h.1 day had hc (by omega)]
  by_cases q : K 81 = -1
  · rw [if_pos q, if_pos q]
  · rw [if_neg q, if_neg q, (lawK_e (h.2.2 q).1 (h.2.2 q).2.1 (h.2.2 q).2.2).1]
theorem wmk_c {P Q : Nat → Bool} : ∀ n, (∀ i, i < n → P i = Q i) → wmk P n = wmk Q n
  | 0, _ => rfl
  | n + 1, h => by unfold wmk; rw [wmk_c n (fun i hi => h i (by omega)), h n (by omega)]
theorem wtK_e {K K' : Nat → Int} (h : lwE K K') (day : Int) (hd : Nat → Int) {n c : Nat} (hn : n ≤ 8) (hc : c < 8) : wtK K' day hd n c = wtK K day hd n c := by
  unfold wtK
  apply wmk_c
  intro i hi
  rw [waitK_e h day (hd c) hc (by omega)]
/-! Laws that don't name the day. -/
theorem evS_dy {e e' : Nat → Int} (h : ∀ k, k ≠ 5 → e' k = e k) : ∀ t : Term, hasDay t = false → evS e' t = evS e t := by
  intro t
  induction t with
  | index k => intro q; simp [hasDay] at q; simp [evS, h k q]
  | add a b iha ihb => intro q; simp [hasDay] at q; simp only [evS]; rw [iha q.1, ihb q.2]
  | sub a b iha ihb => intro q; simp [hasDay] at q; simp only [evS]; rw [iha q.1, ihb q.2]
  | mul a b iha ihb => intro q; simp [hasDay] at q; simp only [evS]; rw [iha q.1, ihb q.2]
  | div a b iha ihb => intro q; simp [hasDay] at q; simp only [evS]; rw [iha q.1, ihb q.2]
  | _ => intro q; simp [evS]
theorem evT_dy {e e' : Nat → Int} (h : ∀ k, k ≠ 5 → e' k = e k) : ∀ t : Term, hasDay t = false → evT e' t = evT e t := by
  intro t
  induction t with
  | add a b iha ihb => intro q; simp [hasDay] at q; simp only [evT]; rw [iha q.1, ihb q.2]
  | mul a b iha ihb => intro q; simp [hasDay] at q; simp only [evT]; rw [iha q.1, ihb q.2]
  | sum a iha => intro q; simp [hasDay] at q; simp only [evT]; rw [iha q]
  | sub a b iha ihb => intro q; simp [hasDay] at q; simp only [evT]; rw [evS_dy h a q.1, evS_dy h b q.2]
  | div a b iha ihb => intro q; simp [hasDay] at q; simp only [evT]; rw [evS_dy h a q.1, evS_dy h b q.2]
  | rem a b iha ihb => intro q; simp [hasDay] at q; simp only [evT]; rw [evS_dy h a q.1, evS_dy h b q.2]
  | _ => intro q; simp [evT]
def noD (c : Cl) : Prop := hasDay c.2.1 = false ∧ hasDay (c.2.2.getD .null) = false
theorem clV_dy {e e' : Nat → Int} (h : ∀ k, k ≠ 5 → e' k = e k) {c : Cl} (hc : noD c) : clV e' c = clV e c := by
  obtain ⟨w, s, t⟩ := c
  obtain ⟨h1, h2⟩ := hc
  unfold clV
  cases t with
  | none => simp only; rw [evS_dy h s h1]
  | some t => simp only; rw [evS_dy h s h1, evT_dy h t h2]
theorem dyC_0 {dy : Int} {c : Cl} (h : dyC dy c = 0) : dy = 0 ∧ noD c := by
  unfold dyC dyO at h
  unfold noD
  by_cases h2 : hasDay (c.2.2.getD .null) = true
  · rw [if_pos h2] at h; exact absurd h (by decide)
  · rw [if_neg h2] at h
    by_cases h1 : hasDay c.2.1 = true
    · rw [if_pos h1] at h; exact absurd h (by decide)
    · rw [if_neg h1] at h
      exact ⟨h, Bool.eq_false_iff.mpr h1, Bool.eq_false_iff.mpr h2⟩
theorem dyL_0 : ∀ (cls : List Cl) (dy : Int), dyL dy cls = 0 → dy = 0 ∧ ∀ c, c ∈ cls → noD c
  | [], dy, h => ⟨h, fun c hc => absurd hc (by simp)⟩
  | c :: cls, dy, h => by
    obtain ⟨h1, h2⟩ := dyL_0 cls (dyC dy c) h
    obtain ⟨h3, h4⟩ := dyC_0 h1
    refine ⟨h3, fun c' hc' => ?_⟩
    rcases List.mem_cons.mp hc' with q | q
    · rw [q]; exact h4
    · exact h2 c' q
theorem wantsL_dy {e e' : Nat → Int} (h : ∀ k, k ≠ 5 → e' k = e k) : ∀ (cls : List Cl) (b : Int), (∀ c, c ∈ cls → noD c) → wantsL e' b cls = wantsL e b cls
  | [], b, _ => rfl
  | c :: cls, b, hc => by
    unfold wantsL
    rw [List.foldl_cons, List.foldl_cons, clV_dy h (hc c (by simp))]
    exact wantsL_dy h cls _ (fun c' hc' => hc c' (by simp [hc']))
theorem waitsL_dy {e e' : Nat → Int} (h : ∀ k, k ≠ 5 → e' k = e k) : ∀ (cls : List Cl), (∀ c, c ∈ cls → noD c) → waitsL e' cls = waitsL e cls
  | [], _ => rfl
  | c :: cls, hc => by
    unfold waitsL
    rw [List.any_cons, List.any_cons, clV_dy h (hc c (by simp))]
    have := waitsL_dy h cls (fun c' hc' => hc c' (by simp [hc']))
    unfold waitsL at this
    rw [this]
/-- the law in force doesn't name the day -/
def nDy (K : Nat → Int) : Prop := K 81 = -1 ∨ dyL 0 (lawK K (K 81).toNat) = 0
theorem eK_dy (K : Nat → Int) (d1 d2 had : Int) (c : Nat) (oth : Int) : ∀ k, k ≠ 5 → eK K d1 had c oth k = eK K d2 had c oth k := by
  intro k hk
  unfold eK
  rw [if_neg hk, if_neg hk]
theorem wantK_dy {K : Nat → Int} (h : nDy K) (d1 d2 had : Int) (c : Nat) : wantK K d1 had c = wantK K d2 had c := by
  unfold wantK
  by_cases q : K 81 = -1
  · rw [if_pos q, if_pos q]
  · rcases h with h | h
    · exact absurd h q
    · rw [if_neg q, if_neg q, wantsL_dy (eK_dy K d2 d1 had c (-1)) _ _ (dyL_0 _ _ h).2]
theorem waitK_dy {K : Nat → Int} (h : nDy K) (d1 d2 had : Int) (c o : Nat) : waitK K d1 had c o = waitK K d2 had c o := by
  unfold waitK
  by_cases q : K 81 = -1
  · rw [if_pos q, if_pos q]
  · rcases h with h | h
    · exact absurd h q
    · rw [if_neg q, if_neg q, waitsL_dy (eK_dy K d2 d1 had c (o : Int)) _ (dyL_0 _ _ h).2]
theorem wtK_dy {K : Nat → Int} (h : nDy K) (d1 d2 : Int) (hd : Nat → Int) (n c : Nat) : wtK K d1 hd n c = wtK K d2 hd n c := by
  unfold wtK
  apply wmk_c
  intro i hi
  rw [waitK_dy h d1 d2]
/-- the next day on paper -/
def nxK (K : Nat → Int) (n : Nat) : Nat → Int := fun j => if j = 42 then K 42 + 1 else if j = 43 then K 43 + ((swN (ovK K) (waK K (K 42) (hdK K)) 0 n : Nat) : Int) else if j = 44 then K 44 + ((swN (ovK K) (waK K (K 42) (hdK K)) 1 n : Nat) : Int) else K j
theorem nxK_o (K : Nat → Int) (n : Nat) {j : Nat} (h : j < 42 ∨ 44 < j) : nxK K n j = K j := by
  unfold nxK
  rw [if_neg (by omega), if_neg (by omega), if_neg (by omega)]
def KD (K : Nat → Int) (n : Nat) : Nat → Nat → Int
  | 0 => K
  | d + 1 => nxK (KD K n d) n
theorem KD_o (K : Nat → Int) (n : Nat) : ∀ d {j : Nat}, j < 42 ∨ 44 < j → KD K n d j = K j
  | 0, _, _ => rfl
  | d + 1, j, h => by rw [KD, nxK_o _ _ h]; exact KD_o K n d h
theorem KD_42 (K : Nat → Int) (n : Nat) : ∀ d, KD K n d 42 = K 42 + (d : Int)
  | 0 => by show K 42 = K 42 + ((0 : Nat) : Int); omega
  | d + 1 => by
    have h : KD K n (d + 1) 42 = KD K n d 42 + 1 := by rw [KD]; unfold nxK; rw [if_pos rfl]
    rw [h, KD_42 K n d]
    omega
theorem lwE_o {K K' : Nat → Int} {D M : Int} (hO : KO K D M) (h : ∀ j, j < 42 ∨ 44 < j → K' j = K j) : lwE K K' := by
  refine ⟨fun j hj => h j (by omega), h 81 (by omega), fun q => ?_⟩
  have h1 := hO.fo
  have h2 := hO.lw (K 81).toNat (by omega)
  refine ⟨h _ (by omega), by unfold kT; omega, fun j hj => ⟨h _ (by omega), h _ (by omega)⟩⟩
theorem KD_wa {K : Nat → Int} {D M : Int} (hO : KO K D M) (n d : Nat) {c : Nat} (hc : c < 8) : waK (KD K n d) (KD K n d 42) (hdK (KD K n d)) c = waK K (K 42 + (d : Int)) (hdK K) c := by
  unfold waK hdK
  rw [KD_42, KD_o K n d (show 5 * c + 3 < 42 ∨ 44 < 5 * c + 3 by omega), wantK_e (lwE_o hO (fun j hj => KD_o K n d hj)) _ _ hc]
theorem KD_wt {K : Nat → Int} {D M : Int} (hO : KO K D M) {n : Nat} (hn : n ≤ 8) (d : Nat) {c : Nat} (hc : c < 8) : wtK (KD K n d) (KD K n d 42) (hdK (KD K n d)) n c = wtK K (K 42 + (d : Int)) (hdK K) n c := by
  rw [KD_42, wtK_e (lwE_o hO (fun j hj => KD_o K n d hj)) _ _ hn hc]
  unfold wtK
  apply wmk_c
  intro i hi
  unfold hdK
  rw [KD_o K n d (show 5 * c + 3 < 42 ∨ 44 < 5 * c + 3 by omega)]
theorem KD_ov (K : Nat → Int) (n d : Nat) {c : Nat} (hc : c < 8) : ovK (KD K n d) c = ovK K c := by
  unfold ovK
  rw [KD_o K n d (by omega)]
theorem KO.nx {K : Nat → Int} {D M : Int} {n : Nat} (hO : KO K D M) (hn : n ≤ 8) : KO (nxK K n) (D + 1) (M + 320) := by
  have e : ∀ j, j < 42 ∨ 44 < j → nxK K n j = K j := fun j h => nxK_o K n h
  have s0 := swN_r (ov := ovK K) (wa := waK K (K 42) (hdK K)) (o := 0) n (fun c hc => waK_r hO (by omega))
  have s1 := swN_r (ov := ovK K) (wa := waK K (K 42) (hdK K)) (o := 1) n (fun c hc => waK_r hO (by omega))
  have h1 := hO.dy
  have h2 := hO.b0
  have h3 := hO.b1
  have e42 : nxK K n 42 = K 42 + 1 := by unfold nxK; rw [if_pos rfl]
  have e43 : nxK K n 43 = K 43 + ((swN (ovK K) (waK K (K 42) (hdK K)) 0 n : Nat) : Int) := by unfold nxK; rw [if_neg (by decide), if_pos rfl]
  have e44 : nxK K n 44 = K 44 + ((swN (ovK K) (waK K (K 42) (hdK K)) 1 n : Nat) : Int) := by unfold nxK; rw [if_neg (by decide), if_neg (by decide), if_pos rfl]
  have hl : ∀ i : Nat, i < 6 → kT K i ≤ 400 → lawR (nxK K n) i = lawR K i := fun i hi h => (lawK_e (e _ (by omega)) h (fun j hj => ⟨e _ (by omega), e _ (by omega)⟩)).2
  refine ⟨by rw [e 77 (by omega)]; exact hO.n, fun c hc => by rw [e _ (by omega), e _ (by omega), e _ (by omega), e _ (by omega), e _ (by omega)]; exact hO.f hc, by rw [e 40 (by omega)]; exact hO.dz, by rw [e 41 (by omega)]; exact hO.lp, by rw [e42]; omega, by rw [e43]; omega, by rw [e44]; omega, by rw [e 78 (by omega)]; exact hO.sm, by rw [e 79 (by omega)]; exact hO.cm, fun i hi => ?_, fun i hi => ?_, by rw [e 80 (by omega)]; exact hO.nl, by rw [e 80 (by omega), e 81 (by omega)]; exact hO.fo, fun i hi => ?_⟩
  · rw [e 78 (by omega)] at hi
    rw [e 77 (by omega), e _ (by omega), e _ (by omega)]; exact hO.si i hi
  · rw [e 79 (by omega)] at hi
    rw [e 77 (by omega), e _ (by omega), e _ (by omega)]; exact hO.ci i hi
  · rw [e 80 (by omega)] at hi
    have h80 := hO.nl
    have hw := hO.lw i hi
    rw [hl i (by omega) (by unfold kT; omega), e (82 + i) (by omega)]
    refine ⟨hw.1, hw.2.1, fun j hj => ?_⟩
    rw [e _ (by omega), e _ (by omega)]
    exact hw.2.2 j hj
theorem KD_ok {K : Nat → Int} {D M : Int} {n : Nat} (hO : KO K D M) (hn : n ≤ 8) : ∀ d : Nat, KO (KD K n d) (D + (d : Int)) (M + 320 * (d : Int))
  | 0 => by rw [show D + ((0 : Nat) : Int) = D by omega, show M + 320 * ((0 : Nat) : Int) = M by omega]; exact hO
  | d + 1 => by
    have h := (KD_ok hO hn d).nx hn
    rw [show D + (d : Int) + 1 = D + ((d + 1 : Nat) : Int) by omega, show M + 320 * (d : Int) + 320 = M + 320 * ((d + 1 : Nat) : Int) by omega] at h
    exact h
/-! A Bakery is copied. -/
theorem cpF_n (f : Fm) {a b sp dp n q : Nat} (h : q ≠ b) : cpF f a b sp dp n q = f q := by funext i; unfold cpF; rw [if_neg (fun e => h e.1)]
theorem cpF_y (f : Fm) {a b n i : Nat} (h : i < n) : cpF f a b 0 0 n b i = f a i := by unfold cpF; rw [if_pos ⟨rfl, by omega, by omega⟩, Nat.zero_add, Nat.sub_zero]
theorem cpS_n (f : Fm) {b q r : Nat} (h0 : r ≠ b) (h1 : r ≠ b + 1) (h2 : r ≠ b + 2) : cpS f b q r = f r := by unfold cpS; rw [stF_n _ _ _ h0, cpF_n _ h2, cpF_n _ h1]
theorem cpS_0 (f : Fm) (b q : Nat) : cpS f b q b 2 = f q 2 := by unfold cpS; rw [stF_s]
theorem cpS_1 (f : Fm) {b q i : Nat} (hi : i < 8) : cpS f b q (b + 1) i = f (q + 1) i := by unfold cpS; rw [stF_n _ _ _ (by omega), cpF_n _ (by omega), cpF_y _ hi]
theorem cpS_2 (f : Fm) {b q i : Nat} (h : q + 2 ≠ b + 1) (hi : i < 8) : cpS f b q (b + 2) i = f (q + 2) i := by unfold cpS; rw [stF_n _ _ _ (by omega), cpF_y _ hi, cpF_n _ h]
theorem cpB_n {f : Fm} {b q a : Nat} (ha : a < b ∨ b + 9 < a) : cpB f b q a = f a := by
  unfold cpB
  rw [stF_n _ _ _ (by omega), stF_n _ _ _ (by omega), stF_n _ _ _ (by omega), cpS_n _ (by omega) (by omega) (by omega), cpS_n _ (by omega) (by omega) (by omega), cpF_n _ (by omega), cpF_n _ (by omega)]
theorem cpB_0 {f : Fm} {b q : Nat} : cpB f b q b 5 = f q 5 ∧ cpB f b q b 6 = f q 6 ∧ cpB f b q b 7 = f q 7 := by
  unfold cpB
  refine ⟨?_, ?_, ?_⟩
  · rw [stF_i _ _ _ (by decide), stF_i _ _ _ (by decide), stF_s]
  · rw [stF_i _ _ _ (by decide), stF_s]
  · rw [stF_s]
theorem cpB_1 {f : Fm} {b q i : Nat} (hi : i < 40) : cpB f b q (b + 1) i = f (q + 1) i := by
  unfold cpB
  rw [stF_n _ _ _ (by omega), stF_n _ _ _ (by omega), stF_n _ _ _ (by omega), cpS_n _ (by omega) (by omega) (by omega), cpS_n _ (by omega) (by omega) (by omega), cpF_n _ (by omega), cpF_y _ hi]
theorem cpB_2 {f : Fm} {b q i : Nat} (hbq : q + 10 ≤ b ∨ b + 10 ≤ q) (hi : i < 5) : cpB f b q (b + 2) i = f (q + 2) i := by
  unfold cpB
  rw [stF_n _ _ _ (by omega), stF_n _ _ _ (by omega), stF_n _ _ _ (by omega), cpS_n _ (by omega) (by omega) (by omega), cpS_n _ (by omega) (by omega) (by omega), cpF_y _ hi, cpF_n _ (by omega)]
theorem cpB_4 {f : Fm} {b q : Nat} (hbq : q + 10 ≤ b ∨ b + 10 ≤ q) : cpB f b q (b + 4) 2 = f (q + 4) 2 ∧ ∀ i, i < 8 → cpB f b q (b + 5) i = f (q + 5) i ∧ cpB f b q (b + 6) i = f (q + 6) i := by
  unfold cpB
  refine ⟨?_, fun i hi => ⟨?_, ?_⟩⟩
  · rw [stF_n _ _ _ (by omega), stF_n _ _ _ (by omega), stF_n _ _ _ (by omega), cpS_n _ (by omega) (by omega) (by omega), cpS_0, cpF_n _ (by omega), cpF_n _ (by omega)]
  · rw [stF_n _ _ _ (by omega), stF_n _ _ _ (by omega), stF_n _ _ _ (by omega), cpS_n _ (by omega) (by omega) (by omega), show b + 5 = b + 4 + 1 by omega, cpS_1 _ hi, cpF_n _ (by omega), cpF_n _ (by omega)]
  · rw [stF_n _ _ _ (by omega), stF_n _ _ _ (by omega), stF_n _ _ _ (by omega), cpS_n _ (by omega) (by omega) (by omega), show b + 6 = b + 4 + 2 by omega, cpS_2 _ (by omega) hi, cpF_n _ (by omega), cpF_n _ (by omega)]
theorem cpB_7 {f : Fm} {b q : Nat} (hbq : q + 10 ≤ b ∨ b + 10 ≤ q) : cpB f b q (b + 7) 2 = f (q + 7) 2 ∧ ∀ i, i < 8 → cpB f b q (b + 8) i = f (q + 8) i ∧ cpB f b q (b + 9) i = f (q + 9) i := by
  unfold cpB
  refine ⟨?_, fun i hi => ⟨?_, ?_⟩⟩
  · rw [stF_n _ _ _ (by omega), stF_n _ _ _ (by omega), stF_n _ _ _ (by omega), cpS_0, cpS_n _ (by omega) (by omega) (by omega), cpF_n _ (by omega), cpF_n _ (by omega)]
  · rw [stF_n _ _ _ (by omega), stF_n _ _ _ (by omega), stF_n _ _ _ (by omega), show b + 8 = b + 7 + 1 by omega, cpS_1 _ hi, cpS_n _ (by omega) (by omega) (by omega), cpF_n _ (by omega), cpF_n _ (by omega)]
  · rw [stF_n _ _ _ (by omega), stF_n _ _ _ (by omega), stF_n _ _ _ (by omega), show b + 9 = b + 7 + 2 by omega, cpS_2 _ (by omega) hi, cpS_n _ (by omega) (by omega) (by omega), cpF_n _ (by omega), cpF_n _ (by omega)]
theorem LawAt.cp {g : Gm} {f f' : Fm} {q a c n : Nat} {cls : List Cl} (h : LawAt g f q cls) (hc : c < 195) (hf : ∀ r, 195 ≤ r → f' r = f r) : LawAt (cpR g a c n) f' q cls := by
  obtain ⟨h0, h1, h2, h3, h4, h5, h6, h7, h8, m, h9, h10, h11⟩ := h
  have e := cpR_sh g a c n
  exact ⟨h0, h1.to e, by rw [cpR_rm g (by omega)]; exact h2, by rw [cpR_rm g (by omega)]; exact h3, by rw [hf _ (by omega)]; exact h4, by rw [hf _ (by omega)]; exact h5, h6, h7, h8.to e, m, h9, h10.to e, by rw [hf _ h0, hf _ (by omega)]; exact h11⟩
/-- the copy stands for what the other stood for -/
theorem BK.cp {g : Gm} {f : Fm} {b q : Nat} {K : Nat → Int} {D M : Int} (h : BK g f q K) (hO : KO K D M) (hbq : q + 10 ≤ b ∨ b + 10 ≤ q) (hb : b + 10 ≤ 195) (hT : ∀ i p, grm g (b + 3) i = some p → isK g p 3) : BK (cpR g (q + 3) (b + 3) 6) (cpB f b q) b K := by
  have e := cpR_sh g (q + 3) (b + 3) 6
  have hr : ∀ i, grm (cpR g (q + 3) (b + 3) 6) (b + 3) i = if i < 6 then grm g (q + 3) i else grm g (b + 3) i := by
    intro i
    by_cases hi : i < 6
    · rw [if_pos hi]; simp [grm, cpR, hi]
    · rw [if_neg hi]; simp [grm, cpR, hi]
  have hnl := hO.nl
  refine ⟨cpB_0.1.trans h.n, cpB_0.2.1.trans h.nl, cpB_0.2.2.trans h.fo, fun w c hw hc => (cpB_1 (by omega)).trans (h.tr hw hc), fun t ht => (cpB_2 hbq ht).trans (h.te ht), (cpB_4 hbq).1.trans h.sm, fun i hi => ⟨((cpB_4 hbq).2 i hi).1.trans (h.si hi).1, ((cpB_4 hbq).2 i hi).2.trans (h.si hi).2⟩, (cpB_7 hbq).1.trans h.cm, fun i hi => ⟨((cpB_7 hbq).2 i hi).1.trans (h.ci hi).1, ((cpB_7 hbq).2 i hi).2.trans (h.ci hi).2⟩, fun i hi => ?_, fun i p hp => ?_⟩
  · obtain ⟨r, h1, h2⟩ := h.lw i hi
    exact ⟨r, by rw [hr, if_pos (by omega)]; exact h1, h2.cp (by omega) (fun a ha => cpB_n (by omega))⟩
  · rw [hr] at hp
    by_cases h6 : i < 6
    · rw [if_pos h6] at hp; exact (h.lk i p hp).to e
    · rw [if_neg h6] at hp; exact (hT i p hp).to e
theorem BK.cpo {g : Gm} {f : Fm} {b q r : Nat} {K : Nat → Int} (h : BK g f r K) (hbr : r + 10 ≤ b ∨ b + 10 ≤ r) (hb : b + 10 ≤ 195) : BK (cpR g (q + 3) (b + 3) 6) (cpB f b q) r K := by
  have e := cpR_sh g (q + 3) (b + 3) 6
  have ef : ∀ i, i < 10 → cpB f b q (r + i) = f (r + i) := fun i hi => cpB_n (by omega)
  have ef0 : cpB f b q r = f r := ef 0 (by decide)
  refine ⟨by rw [ef0]; exact h.n, by rw [ef0]; exact h.nl, by rw [ef0]; exact h.fo, fun w c hw hc => by rw [ef 1 (by decide)]; exact h.tr hw hc, fun t ht => by rw [ef 2 (by decide)]; exact h.te ht, by rw [ef 4 (by decide)]; exact h.sm, fun i hi => by rw [ef 5 (by decide), ef 6 (by decide)]; exact h.si hi, by rw [ef 7 (by decide)]; exact h.cm, fun i hi => by rw [ef 8 (by decide), ef 9 (by decide)]; exact h.ci hi, fun i hi => ?_, fun i p hp => ?_⟩
  · obtain ⟨s, h1, h2⟩ := h.lw i hi
    exact ⟨s, by rw [cpR_rm g (by omega)]; exact h1, h2.cp (by omega) (fun a ha => cpB_n (by omega))⟩
  · rw [cpR_rm g (by omega)] at hp
    exact (h.lk i p hp).to e

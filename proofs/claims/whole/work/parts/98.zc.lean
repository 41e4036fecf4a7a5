/-! What a day, a search, a year's plan hang on: changes elsewhere leave them. -/
def KE (K K' : Nat → Int) : Prop := lwE K K' ∧ ∀ j, 40 ≤ j → j ≤ 44 → K' j = K j
theorem lkF_co {may : Nat → Nat → Bool} {co co' : Nat → Nat → Int} {bg : Bool} {Lt : Nat → Int} {Wt : Nat → Nat} {s : Nat} : ∀ k, (∀ i, i < k → co s i = co' s i) → lkF may co bg Lt Wt s k = lkF may co' bg Lt Wt s k
  | 0, _ => rfl
  | k + 1, h => by rw [lkF, lkF, lkF_co k (fun i hi => h i (by omega)), h k (by omega)]
theorem tb_co {may : Nat → Nat → Bool} {co co' : Nat → Nat → Int} {bg : Bool} {n : Nat} (h : ∀ s i, i < n → co s i = co' s i) : ∀ k s, tb may co bg n k s = tb may co' bg n k s
  | 0, _ => rfl
  | k + 1, s => by
    rw [tb, tb, lkF_co n (fun i hi => h s i hi)]
    have e : ∀ u, tb may co bg n k u = tb may co' bg n k u := tb_co h k
    have e1 : (fun u => (tb may co bg n k u).1) = fun u => (tb may co' bg n k u).1 := by funext u; rw [e u]
    have e2 : (fun u => (tb may co bg n k u).2) = fun u => (tb may co' bg n k u).2 := by funext u; rw [e u]
    rw [e1, e2]
theorem tbL_co {may : Nat → Nat → Bool} {co co' : Nat → Nat → Int} {bg : Bool} {n : Nat} (h : ∀ s i, i < n → co s i = co' s i) : tbL may co bg n = tbL may co' bg n := by funext s; unfold tbL; rw [tb_co h]
theorem tbW_co {may : Nat → Nat → Bool} {co co' : Nat → Nat → Int} {bg : Bool} {n : Nat} (h : ∀ s i, i < n → co s i = co' s i) : tbW may co bg n = tbW may co' bg n := by funext s; unfold tbW; rw [tb_co h]
theorem fsU_c {P Q : Nat → Bool} {n : Nat} (h : ∀ i, i < n → P i = Q i) : ∀ m, m ≤ n → fsU P n m = fsU Q n m
  | 0, _ => rfl
  | m + 1, hm => by rw [fsU, fsU, h _ (by omega), fsU_c h m (by omega)]
theorem wk_co {may : Nat → Nat → Bool} {co co' : Nat → Nat → Int} {n : Nat} (h : ∀ s i, i < n → co s i = co' s i) : ∀ p, wkS may co true n p = wkS may co' true n p ∧ wkC may co true n p = wkC may co' true n p := by
  have hc : ∀ p, wkS may co true n p = wkS may co' true n p → wkC may co true n p = wkC may co' true n p := by
    intro p e
    unfold wkC
    rw [e, tbL_co h, tbW_co h]
    refine fsU_c (fun i hi => ?_) n (Nat.le_refl _)
    unfold fwB
    rw [h _ i hi]
  intro p
  induction p with
  | zero =>
    have e : wkS may co true n 0 = wkS may co' true n 0 := by rw [wkS, wkS, tbL_co h]
    exact ⟨e, hc 0 e⟩
  | succ p ih =>
    have e : wkS may co true n (p + 1) = wkS may co' true n (p + 1) := by
      rw [wkS_s, wkS_s, ih.1, ih.2]
      rfl
    exact ⟨e, hc _ e⟩
theorem gnV_c {dz lp : Int} {b0 b1 n a2 s i : Nat} {wa wb : Nat → Nat} (h : ∀ c, c < n → wa c = wb c) : gnV dz lp b0 b1 wa n a2 s i = gnV dz lp b0 b1 wb n a2 s i := by
  have e : ∀ s, lvN wa s n = lvN wb s n := fun s => lvN_c n h
  unfold gnV blM
  simp only [e]
section KES
variable {K K' : Nat → Int} {n : Nat}
theorem KE.hd (h : KE K K') {c : Nat} (hc : c < 8) : hdK K' c = hdK K c := h.1.1 _ (by omega)
theorem KE.wa (h : KE K K') {c : Nat} (hc : c < 8) : waK K' (K' 42) (hdK K') c = waK K (K 42) (hdK K) c := by
  unfold waK
  rw [h.2 42 (by decide) (by decide), h.hd hc, wantK_e h.1 _ _ hc]
theorem KE.wt (h : KE K K') (hn : n ≤ 8) {c : Nat} (hc : c < 8) : wtK K' (K' 42) (hdK K') n c = wtK K (K 42) (hdK K) n c := by
  rw [wtK_e h.1 _ _ hn hc, h.2 42 (by decide) (by decide)]
  unfold wtK
  rw [h.hd hc]
theorem KE.ov (h : KE K K') {c : Nat} (hc : c < 8) : ovK K' c = ovK K c := by unfold ovK; rw [h.1.1 _ (by omega)]
theorem KE.bk (h : KE K K') {o : Nat} (ho : o ≤ 1) : bkK K' o = bkK K o := by unfold bkK; rw [h.2 _ (by omega) (by omega)]
theorem KE.wm (h : KE K K') (hn : n ≤ 8) : wmk (fun c => decide (ovK K' c ≠ 0)) n = wmk (fun c => decide (ovK K c ≠ 0)) n := wmk_c n (fun i hi => by rw [h.ov (by omega)])
theorem KE.mf (h : KE K K') (hn : n ≤ 8) : (fun s i => (nxM (wtK K' (K' 42) (hdK K') n) n s).testBit i) = fun s i => (nxM (wtK K (K 42) (hdK K) n) n s).testBit i := by
  funext s i
  rw [nxM_c (fun c hc => h.wt hn (by omega))]
theorem KE.gn (h : KE K K') (hn : n ≤ 8) (s i : Nat) : gnV (K' 40) (K' 41) (bkK K' 0) (bkK K' 1) (waK K' (K' 42) (hdK K')) n (wmk (fun c => decide (ovK K' c ≠ 0)) n) s i = gnV (K 40) (K 41) (bkK K 0) (bkK K 1) (waK K (K 42) (hdK K)) n (wmk (fun c => decide (ovK K c ≠ 0)) n) s i := by
  rw [h.2 40 (by decide) (by decide), h.2 41 (by decide) (by decide), h.bk (by decide), h.bk (by decide), h.wm hn]
  exact gnV_c (fun c hc => h.wa (by omega))
theorem KE.sw (h : KE K K') (hn : n ≤ 8) (o : Nat) : swN (ovK K') (waK K' (K' 42) (hdK K')) o n = swN (ovK K) (waK K (K 42) (hdK K)) o n := swN_c n (fun c hc => ⟨h.ov (by omega), h.wa (by omega)⟩)
theorem KE.da {f : Fm} {y : Nat} (h : KE K K') (hn : n ≤ 8) (hd : DA f y K n) : DA f y K' n := by
  obtain ⟨h1, h2, h3⟩ := hd
  refine ⟨h1, by rw [h.wm hn]; exact h2, fun c hc => ?_⟩
  rw [h.wa (by omega), h.ov (by omega), h.sw (show c ≤ 8 by omega)]
  exact h3 c hc
theorem DYo_c {f : Fm} {y a2 b0 b1 : Nat} {wa wb wt wu : Nat → Nat} {dz lp : Int} (h1 : ∀ c, c < n → wb c = wa c) (h2 : ∀ c, c < n → wu c = wt c) (h : DYo f y n a2 wa wt dz lp b0 b1) : DYo f y n a2 wb wu dz lp b0 b1 := by
  obtain ⟨⟨w1, w2, w3, w4⟩, a1, a2, a3, a4⟩ := h
  have e1 : ∀ s, lvN wb s n = lvN wa s n := fun s => lvN_c n h1
  refine ⟨⟨w1, w2, fun c hc => by rw [h1 c hc]; exact w3 c hc, fun c hc => by rw [h2 c hc]; exact w4 c hc⟩, a1, a2, fun t ht => ?_, fun t ht => ?_⟩
  · rw [e1, nxM_c h2]; exact a3 t ht
  · unfold blM at a4 ⊢; rw [e1, e1]; exact a4 t ht
theorem KE.dy {f : Fm} {y : Nat} (h : KE K K') (hn : n ≤ 8) (hd : DYK f y K n) : DYK f y K' n := by
  unfold DYK at hd ⊢
  rw [h.2 40 (by decide) (by decide), h.2 41 (by decide) (by decide), h.bk (by decide), h.bk (by decide), h.wm hn]
  exact DYo_c (fun c hc => h.wa (by omega)) (fun c hc => h.wt hn (by omega)) hd
theorem KE.td {f : Fm} (h : KE K K') (hn : n ≤ 8) (hd : TdK f K n) : TdK f K' n := ⟨hd.1.imp id (fun q => ⟨q.1, h.da hn q.2⟩), hd.2.imp id (fun q => ⟨q.1, q.2.1, h.da hn q.2.2.1, h.dy hn q.2.2.2⟩)⟩
theorem clN_e (h : ∀ j, 61 ≤ j → j ≤ 76 → K' j = K j) (c : Nat) (gv : Int) : ∀ k, k ≤ 8 → clN K' c gv k = clN K c gv k
  | 0, _ => rfl
  | k + 1, hk => by rw [clN_s, clN_s, clN_e h c gv k (by omega), h _ (by omega) (by omega), h _ (by omega) (by omega)]
/-- the claims as they were -/
def clE (K K' : Nat → Int) : Prop := K' 79 = K 79 ∧ (K 79).toNat ≤ 8 ∧ ∀ j, 61 ≤ j → j ≤ 76 → K' j = K j
theorem KE.co (h : KE K K') (hn : n ≤ 8) {b : Nat} (hb : b = 0 ∨ (b = 2 ∧ clE K K')) : coV K' (waK K' (K' 42) (hdK K')) b (K' 40) (K' 41) (bkK K' 0) (bkK K' 1) n (wmk (fun c => decide (ovK K' c ≠ 0)) n) = coV K (waK K (K 42) (hdK K)) b (K 40) (K 41) (bkK K 0) (bkK K 1) n (wmk (fun c => decide (ovK K c ≠ 0)) n) := by
  funext s i
  unfold coV
  rw [h.gn hn]
  unfold msV
  rcases hb with rfl | ⟨rfl, h1, h2, h3⟩
  · rfl
  · rw [if_neg (by decide), if_neg (by decide), if_neg (by decide), if_neg (by decide), h1, clN_e h3 _ _ _ h2]
theorem KE.co1 (h : KE K K') (hn : n ≤ 8) : ∀ s i, i < n → coV K' (waK K' (K' 42) (hdK K')) 1 (K' 40) (K' 41) (bkK K' 0) (bkK K' 1) n (wmk (fun c => decide (ovK K' c ≠ 0)) n) s i = coV K (waK K (K 42) (hdK K)) 1 (K 40) (K 41) (bkK K 0) (bkK K 1) n (wmk (fun c => decide (ovK K c ≠ 0)) n) s i := by
  intro s i hi
  unfold coV
  rw [h.gn hn]
  unfold msV
  rw [h.wa (show i < 8 by omega), h.2 40 (by decide) (by decide), h.1.1 (5 * i + 4) (by omega), h.1.1 (5 * i + 3) (by omega)]
  rfl
theorem KE.s (h : KE K K') (hn : n ≤ 8) {b : Nat} (hb : b = 0 ∨ b = 1 ∨ (b = 2 ∧ clE K K')) : sLo K' n b = sLo K n b ∧ sWy K' n b = sWy K n b ∧ ∀ p, sRw K' n b p = sRw K n b p := by
  by_cases h1 : b = 1
  · subst h1
    have e := h.co1 hn
    have hd : (decide ((1 : Nat) = 1)) = true := rfl
    unfold sLo sWy sRw
    rw [h.mf hn, hd]
    exact ⟨by rw [tbL_co e], by rw [tbW_co e], fun p => (wk_co e p).2⟩
  · have e := h.co hn (b := b) (hb.imp id (fun q => q.resolve_left h1))
    unfold sLo sWy sRw
    rw [h.mf hn, e]
    exact ⟨rfl, rfl, fun _ => rfl⟩
theorem KE.sr {f : Fm} {e b : Nat} (h : KE K K') (hn : n ≤ 8) (hb : b = 0 ∨ b = 1 ∨ (b = 2 ∧ clE K K')) (hs : SrC f e K n b) : SrC f e K' n b := by
  obtain ⟨e1, e2, e3⟩ := h.s hn hb
  refine hs.imp id (fun q => ⟨q.1, ?_⟩)
  unfold SrK
  rw [e1, e2]
  refine ⟨q.2.1, q.2.2.1, fun a p hp => ?_⟩
  rw [e3]; exact q.2.2.2 a p hp
theorem KE.nx (h : KE K K') (hn : n ≤ 8) : KE (nxK K n) (nxK K' n) := by
  obtain ⟨⟨a1, a2, a3⟩, a4⟩ := id h
  have o1 : ∀ {j : Nat}, j < 42 ∨ 44 < j → nxK K n j = K j := fun hj => nxK_o K n hj
  have o2 : ∀ {j : Nat}, j < 42 ∨ 44 < j → nxK K' n j = K' j := fun hj => nxK_o K' n hj
  refine ⟨⟨fun j hj => by rw [o1 (by omega), o2 (by omega)]; exact a1 j hj, by rw [o1 (by omega), o2 (by omega)]; exact a2, fun hq => ?_⟩, fun j h1 h2 => ?_⟩
  · rw [o1 (by omega)] at hq ⊢
    have := a3 hq
    unfold kT at this ⊢
    rw [o1 (by omega), o2 (by omega)]
    refine ⟨this.1, this.2.1, fun j hj => ?_⟩
    rw [o1 (by omega), o2 (by omega), o1 (by omega), o2 (by omega)]
    exact this.2.2 j hj
  · rcases (show j = 40 ∨ j = 41 ∨ j = 42 ∨ j = 43 ∨ j = 44 by omega) with rfl | rfl | rfl | rfl | rfl
    · rw [o1 (by omega), o2 (by omega)]; exact a4 _ h1 h2
    · rw [o1 (by omega), o2 (by omega)]; exact a4 _ h1 h2
    · unfold nxK; rw [if_pos rfl, if_pos rfl, a4 _ h1 h2]
    · unfold nxK; rw [if_neg (by decide), if_pos rfl, if_neg (by decide), if_pos rfl, a4 _ h1 h2, h.sw hn]
    · unfold nxK; rw [if_neg (by decide), if_neg (by decide), if_pos rfl, if_neg (by decide), if_neg (by decide), if_pos rfl, a4 _ h1 h2, h.sw hn]
theorem KE.kd (h : KE K K') (hn : n ≤ 8) : ∀ d, KE (KD K n d) (KD K' n d)
  | 0 => h
  | d + 1 => (KE.kd h hn d).nx hn
theorem KE.fm (h : KE K K') (hn : n ≤ 8) : famK K' n = famK K n := by
  funext d x
  have hd := h.kd hn d
  have e : (fun s i => decide (0 < gnV (KD K' n d 40) (KD K' n d 41) (bkK (KD K' n d) 0) (bkK (KD K' n d) 1) (waK (KD K' n d) (KD K' n d 42) (hdK (KD K' n d))) n (wmk (fun c => decide (ovK (KD K' n d) c ≠ 0)) n) s i)) = fun s i => decide (0 < gnV (KD K n d 40) (KD K n d 41) (bkK (KD K n d) 0) (bkK (KD K n d) 1) (waK (KD K n d) (KD K n d 42) (hdK (KD K n d))) n (wmk (fun c => decide (ovK (KD K n d) c ≠ 0)) n) s i) := by
    funext s i
    rw [hd.gn hn]
  unfold famK
  rw [hd.mf hn, e]
theorem KE.pl {f : Fm} (h : KE K K') (hn : n ≤ 8) (hp : PlC f K n) : PlC f K' n := by
  unfold PlC PlK yWK yDK at hp ⊢
  rw [h.fm hn]; exact hp
end KES

/-- a law stands at q: its steps, its marks, the object (q + 2) -/
def LawAt (g : Gm) (f : Fm) (q : Nat) (cls : List Cl) : Prop := 195 ≤ q ∧ isK g (q + 2) 3 ∧ grm g (q + 2) 0 = some q ∧ grm g (q + 2) 1 = some (q + 1) ∧ f (q + 2) 2 = ((cls.length : Nat) : Int) ∧ f (q + 2) 3 = dyL 0 cls ∧ 0 < cls.length ∧ cls.length ≤ 12 ∧ isA g (q + 1) 11 (cls.length * 4) ∧ ∃ n : Nat, n ≤ 401 ∧ isA g q 11 n ∧ lwc (f q) (f (q + 1)) cls 0 0 n
theorem LawAt.mem {g g' : Gm} {f f' : Fm} {q : Nat} {cls : List Cl} (h : LawAt g f q cls) (e : gx g g') (hf : ∀ a, 195 ≤ a → a < gnx g → f' a = f a) : LawAt g' f' q cls := by
  obtain ⟨h1, h2, h3, h4, h5, h6, h7, h8, h9, n, h10, h11, h12⟩ := h
  have hq2 : q + 2 < gnx g := h2.2.2
  exact ⟨h1, h2.ext e.1, by rw [e.2.1 _ hq2]; exact h3, by rw [e.2.1 _ hq2]; exact h4, by rw [hf _ (by omega) hq2]; exact h5, by rw [hf _ (by omega) hq2]; exact h6, h7, h8, h9.ext e.1, n, h10, h11.ext e.1, by rw [hf q (by omega) (by omega), hf (q + 1) (by omega) (by omega)]; exact h12⟩
def gLaw (g : Gm) (q a1 a2 : Nat) : Gm := stR (stR g q 0 (some a1)) q 1 (some a2)
def fLaw (f : Fm) (q : Nat) (c dy : Int) : Fm := stF (stF f q 2 c) q 3 dy
set_option maxRecDepth 100000 in
set_option maxHeartbeats 4000000 in
theorem i_3 (l : Launch) (z : Zv) (d : Nat) {g : Gm} {f : Fm} {q a1 a2 : Nat} {c dy : Int} (hb : isK g q 3) (hdy : dy = 0 ∨ dy = 1) : PM l z d mX3_init [.ref q, .ref a1, .ref a2, .int (iI c), .int (iI dy)] g f 0 0 (fun r g' f' => r = none ∧ gLaw g q a1 a2 = g' ∧ fLaw f q c dy = f') := by
  refine PM.of (by decide +kernel) (Nat.le_of_ble_eq_true rfl) ?_
  refine r_aload_n (pc := 0) 0 dX3_init_0 rfl rfl ?_
  refine r_objInit (pc := 1) dX3_init_1 oi_X3_1 (Nat.le_of_ble_eq_true rfl) ?_
  refine r_aload_n (pc := 4) 0 dX3_init_4 rfl rfl ?_
  refine r_aload_n (pc := 5) 1 dX3_init_5 rfl rfl ?_
  refine r_putRF (pc := 6) dX3_init_6 fl_X3_7 rfl rfl rfl rfl hb ?_
  refine r_aload_n (pc := 9) 0 dX3_init_9 rfl rfl ?_
  refine r_aload_n (pc := 10) 2 dX3_init_10 rfl rfl ?_
  refine r_putRF (pc := 11) dX3_init_11 fl_X3_13 rfl rfl rfl rfl (hb.st q 0 (some a1)) ?_
  refine r_aload_n (pc := 14) 0 dX3_init_14 rfl rfl ?_
  refine r_iload_n (pc := 15) 3 dX3_init_15 rfl rfl ?_
  refine r_putIF (pc := 16) dX3_init_16 fl_X3_16 rfl rfl rfl rfl hb ?_
  refine r_aload_n (pc := 19) 0 dX3_init_19 rfl rfl ?_
  refine r_iload (pc := 20) 4 dX3_init_20 rfl ?_
  refine r_putBF (pc := 22) dX3_init_22 fl_X3_20 rfl rfl rfl rfl hdy hb ?_
  exact r_vret (pc := 25) dX3_init_25 rfl ⟨rfl, rfl, rfl⟩
theorem x_sumT (l : Launch) (z : Zv) {g : Gm} {b t : Nat} {f0 : Fm} (hT : TL g b) (ht4 : t ≤ 400) (hby : ∀ i, 0 ≤ f0 (b + 1) i ∧ f0 (b + 1) i ≤ 255) : RdC l z g b t f0 mX8_readSum cdS (sSumT (cj (f0 (b + 1)) t) (vj (f0 (b + 1)) t)) 150 0 := by
  have h := (x_lev l z hT ht4 hby 8 0 rfl).1
  unfold sSumT
  exact h
theorem x_testT (l : Launch) (z : Zv) {g : Gm} {b t : Nat} {f0 : Fm} (hT : TL g b) (ht4 : t ≤ 400) (hby : ∀ i, 0 ≤ f0 (b + 1) i ∧ f0 (b + 1) i ≤ 255) : RdC l z g b t f0 mX8_readTest cdT (sTestT (cj (f0 (b + 1)) t) (vj (f0 (b + 1)) t)) 150 0 := by
  have h := (x_lev l z hT ht4 hby 8 0 rfl).2
  unfold sTestT
  exact h
theorem CP.init {b t : Nat} {f : Fm} (ht : f b 4 = ((t : Nat) : Int)) (hby : ∀ i, 0 ≤ f (b + 1) i ∧ f (b + 1) i ≤ 255) : CP b t f (advF (stF (stF (stF (stF (stF f b 3 (-1)) b 5 (0)) b 6 (0)) b 7 (0)) b 10 (0)) b t 0) 0 0 0 0 := by
  have hb : (stF (stF (stF (stF (stF f b 3 (-1)) b 5 (0)) b 6 (0)) b 7 (0)) b 10 (0)) (b + 1) = f (b + 1) := by
    have hn : b + 1 ≠ b := by omega
    rw [stF_n _ _ _ hn, stF_n _ _ _ hn, stF_n _ _ _ hn, stF_n _ _ _ hn, stF_n _ _ _ hn]
  have h0 : CF b t f f := ⟨fun _ _ _ _ => rfl, ht⟩
  unfold advF tkF
  rw [hb]
  refine ⟨((((((((h0.st (Or.inl ⟨rfl, by decide⟩)).st (Or.inl ⟨rfl, by decide⟩)).st (Or.inl ⟨rfl, by decide⟩)).st (Or.inl ⟨rfl, by decide⟩)).st (Or.inl ⟨rfl, by decide⟩)).st (Or.inl ⟨rfl, by decide⟩)).st (Or.inl ⟨rfl, by decide⟩)).st (Or.inl ⟨rfl, by decide⟩)).st (Or.inl ⟨rfl, by decide⟩), rdi (by decide) (rdi (by decide) (rdi (by decide) (stF_s _ _ _ _))), rdi (by decide) (rdi (by decide) (stF_s _ _ _ _)), rdi (by decide) (stF_s _ _ _ _), fun q => ?_, ?_, ?_, ?_, ?_, Nat.zero_le _, Nat.zero_le _, Nat.zero_le _, Or.inl rfl⟩
  · rw [stF_s]
    have h3 := kj_257 hby q
    have e1 : tkP (f (b + 1)) t 0 = pl (f (b + 1)) t 0 := rfl
    rw [e1, tkN, if_neg h3.1, if_neg h3.2.1, if_pos h3.2.2, vj, if_pos q]
  all_goals simp [stF]

set_option maxRecDepth 100000 in
set_option maxHeartbeats 4000000 in
theorem x_readLaw (l : Launch) (z : Zv) {g : Gm} {f : Fm} {b t : Nat} (hT : TL g b) (ht : f b 4 = ((t : Nat) : Int)) (ht4 : t ≤ 400) (hby : ∀ i, 0 ≤ f (b + 1) i ∧ f (b + 1) i ≤ 255) (h195 : 195 ≤ gnx g) {D : Nat} (hD : 160 ≤ D) : PM l z D mX8_readLaw [(.ref b)] g f 3 600 (fun r g' f' => (∃ x, sLaw (cj (f (b + 1)) t) (vj (f (b + 1)) t) (enj (f (b + 1)) t) 12 0 0 [] = .error x ∧ r = some .null ∧ g = g' ∧ f' b 3 = ((pl (f (b + 1)) t x : Nat) : Int) ∧ CF b t f f') ∨ (∃ cls, sLaw (cj (f (b + 1)) t) (vj (f (b + 1)) t) (enj (f (b + 1)) t) 12 0 0 [] = .ok cls ∧ r = some (.ref (gnx g + 2)) ∧ gx g g' ∧ gnx g' = gnx g + 3 ∧ LawAt g' f' (gnx g) cls ∧ f' b 3 = -1 ∧ ∀ a, a ≠ b → a ≠ b + 2 → a ≠ b + 3 → a < gnx g → f' a = f a)) := by
  obtain ⟨d, rfl⟩ : ∃ d, D = d + 8 := ⟨D - 8, by omega⟩
  refine PM.of (by decide +kernel) (Nat.le_of_ble_eq_true rfl) ?_
  have hbn : b + 3 < gnx g := hT.a2.2.2.1
  have tail : ∀ (cls : List Cl) (j1 l1 s1 : Nat) (f1 : Fm), sLaw (cj (f (b + 1)) t) (vj (f (b + 1)) t) (enj (f (b + 1)) t) 12 0 0 [] = .ok cls → 0 < cls.length → cls.length ≤ 12 → CP b t f f1 j1 l1 s1 (dyL 0 cls) → lwc (f1 (b + 2)) (f1 (b + 3)) cls 0 0 s1 → PW l z (d + 8) mX8_readLaw 3 600 (fun r g' f' => (∃ x, sLaw (cj (f (b + 1)) t) (vj (f (b + 1)) t) (enj (f (b + 1)) t) 12 0 0 [] = .error x ∧ r = some .null ∧ g = g' ∧ f' b 3 = ((pl (f (b + 1)) t x : Nat) : Int) ∧ CF b t f f') ∨ (∃ cls, sLaw (cj (f (b + 1)) t) (vj (f (b + 1)) t) (enj (f (b + 1)) t) 12 0 0 [] = .ok cls ∧ r = some (.ref (gnx g + 2)) ∧ gx g g' ∧ gnx g' = gnx g + 3 ∧ LawAt g' f' (gnx g) cls ∧ f' b 3 = -1 ∧ ∀ a, a ≠ b → a ≠ b + 2 → a ≠ b + 3 → a < gnx g → f' a = f a)) 40 [(1, (.int (iI ((cls.length : Nat) : Int)))), (0, (.ref b))] [] g f1 3 600 := by
    intro cls j1 l1 s1 f1 hR hl0 hl12 hC hlw
    have hs4 := hC.j4 ht4
    refine r_aload_n (pc := 40) 1 dX8_readLaw_40 rfl rfl ?_
    refine r_getR (pc := 41) (b := (b + 2)) dX8_readLaw_41 fl_X8_15 rfl hT.k hT.r1 ?_
    refine r_aload_n (pc := 44) 1 dX8_readLaw_44 rfl rfl ?_
    refine r_getIv (pc := 45) (x := ((s1 : Nat) : Int)) dX8_readLaw_45 fl_X8_30 rfl hT.k hC.xs ?_
    refine r_callS (pc := 48) (As := [(.ref (b + 2)), (.int (iI ((s1 : Nat) : Int)))]) (S := []) dX8_readLaw_48 cs_X8_50 rfl (Nat.le_of_ble_eq_true rfl) (s_copyOf l z _ hT.a1 (by omega) (by omega)) (by omega) (by omega) (fun r_48 g_48 f_48 q_48 => ?_)
    obtain ⟨rfl, hg1, hf1, ho1⟩ := q_48
    subst hg1
    have n1 : gnx (nwG g 11 s1) = gnx g + 1 := rfl
    have T1 : TL (nwG g 11 s1) b := hT.gx (gx.nw _ _ _)
    refine r_astore_n (pc := 51) (L2 := [(2, (.ref (gnx g))), (1, (.int (iI ((cls.length : Nat) : Int)))), (0, (.ref b))]) dX8_readLaw_51 rfl (by decide) rfl ?_
    refine r_aload_n (pc := 52) 2 dX8_readLaw_52 rfl rfl ?_
    refine r_getR (pc := 53) (b := (b + 3)) dX8_readLaw_53 fl_X8_20 rfl T1.k T1.r2 ?_
    refine r_iload_n (pc := 56) 1 dX8_readLaw_56 rfl rfl ?_
    refine r_iconst (pc := 57) dX8_readLaw_57 ?_
    refine r_imul (pc := 58) dX8_readLaw_58 ?_
    refine r_eqI (y := ((cls.length * 4 : Nat) : Int)) (by omega) ?_
    refine r_callS (pc := 59) (As := [(.ref (b + 3)), (.int (iI ((cls.length * 4 : Nat) : Int)))]) (S := []) dX8_readLaw_59 cs_X8_50 rfl (Nat.le_of_ble_eq_true rfl) (s_copyOf l z _ T1.a2 (by omega) (by omega)) (by omega) (by omega) (fun r_59 g_59 f_59 q_59 => ?_)
    obtain ⟨rfl, hg2, hf2, ho2⟩ := q_59
    subst hg2
    rw [n1] at hf2 ho2 ⊢
    have n2 : gnx (nwG (nwG g 11 s1) 11 (cls.length * 4)) = gnx g + 2 := rfl
    have T2 : TL (nwG (nwG g 11 s1) 11 (cls.length * 4)) b := T1.gx (gx.nw _ _ _)
    refine r_astore_n (pc := 62) (L2 := [(3, (.ref (gnx g + 1))), (2, (.ref (gnx g))), (1, (.int (iI ((cls.length : Nat) : Int)))), (0, (.ref b))]) dX8_readLaw_62 rfl (by decide) rfl ?_
    refine r_newv (pc := 63) (c := 3) (a := gnx g + 2) dX8_readLaw_63 rfl (by decide) cw_X8_18 (by omega) (by have : nF 3 = 4 := rfl; omega) ?_
    have T3 : TL (nwG (nwG (nwG g 11 s1) 11 (cls.length * 4)) 3 0) b := T2.gx (gx.nw _ _ _)
    refine r_dup (pc := 66) dX8_readLaw_66 rfl ?_
    refine r_aload_n (pc := 67) 1 dX8_readLaw_67 rfl rfl ?_
    refine r_aload_n (pc := 68) 0 dX8_readLaw_68 rfl rfl ?_
    refine r_iload_n (pc := 69) 2 dX8_readLaw_69 rfl rfl ?_
    refine r_aload_n (pc := 70) 3 dX8_readLaw_70 rfl rfl ?_
    refine r_getIv (pc := 71) (x := dyL 0 cls) dX8_readLaw_71 fl_X8_36 rfl T3.k (by
      have e1 : nwF f_59 (gnx g + 2) b = f_59 b := by funext i; simp [nwF, show ¬ b = gnx g + 2 by omega]
      rw [e1, ho2 b (by omega), ho1 b (by omega)]; exact hC.xd) ?_
    refine r_callI (pc := 74) (As := [(.ref (gnx g)), (.ref (gnx g + 1)), (.int (iI ((cls.length : Nat) : Int))), (.int (iI (dyL 0 cls)))]) (S := [.ref (gnx g + 2)]) dX8_readLaw_74 ci_X8_56 rfl (Nat.le_of_ble_eq_true rfl) (i_3 l z _ (isK_new 3 0 n2 (by omega)) hC.r.2.2.2) (Nat.zero_le _) (Nat.zero_le _) (fun r_74 g_74 f_74 q_74 => ?_)
    obtain ⟨rfl, hg3, hf3⟩ := q_74
    have hne : ∀ a, a < gnx g → f_74 a = f1 a := fun a ha => by
      rw [← hf3]
      unfold fLaw
      rw [stF_n _ _ _ (by omega), stF_n _ _ _ (by omega)]
      have e1 : nwF f_59 (gnx g + 2) a = f_59 a := by funext i; simp [nwF, show ¬ a = gnx g + 2 by omega]
      rw [e1, ho2 a (by omega), ho1 a (by omega)]
    have hst : ∀ i, i < s1 → f_74 (gnx g) i = f1 (b + 2) i := fun i hi => by
      rw [← hf3]
      unfold fLaw
      rw [stF_n _ _ _ (by omega), stF_n _ _ _ (by omega)]
      have e1 : nwF f_59 (gnx g + 2) (gnx g) = f_59 (gnx g) := by funext i; simp [nwF]
      rw [e1, ho2 (gnx g) (by omega)]; exact hf1 i hi
    have hmk : ∀ i, i < cls.length * 4 → f_74 (gnx g + 1) i = f1 (b + 3) i := fun i hi => by
      rw [← hf3]
      unfold fLaw
      rw [stF_n _ _ _ (by omega), stF_n _ _ _ (by omega)]
      have e1 : nwF f_59 (gnx g + 2) (gnx g + 1) = f_59 (gnx g + 1) := by funext i; simp [nwF]
      rw [e1, hf2 i hi, ho1 (b + 3) (by omega)]
    have e3 : gx (nwG (nwG (nwG g 11 s1) 11 (cls.length * 4)) 3 0) g_74 → gx g g_74 := fun e => (gx.nw _ _ _).tr ((gx.nw _ _ _).tr ((gx.nw _ _ _).tr e))
    have x3 : gx g g_74 := by
      rw [← hg3]
      exact (((gx.nw g 11 s1).tr (gx.nw _ 11 (cls.length * 4))).tr (gx.nw _ 3 0)).stn 0 _ (by omega) |>.stn 1 _ (by omega)
    have a1 : isA g_74 (gnx g) 11 s1 := by
      rw [← hg3]; exact (((isA_new (g := g) 11 s1 rfl (by omega)).nw 11 (cls.length * 4)).nw 3 0)
    have a2 : isA g_74 (gnx g + 1) 11 (cls.length * 4) := by
      rw [← hg3]; exact ((isA_new (g := nwG g 11 s1) 11 (cls.length * 4) rfl (by omega)).nw 3 0)
    have k2 : isK g_74 (gnx g + 2) 3 := by
      rw [← hg3]; exact isK_new (g := nwG (nwG g 11 s1) 11 (cls.length * 4)) 3 0 rfl (by omega)
    exact r_aret (pc := 77) dX8_readLaw_77 rfl (by simp) (Or.inr ⟨cls, hR, rfl, x3, by rw [← hg3]; rfl, ⟨by omega, k2, by rw [← hg3]; simp [gLaw, grm, stR], by rw [← hg3]; simp [gLaw, grm, stR], by rw [← hf3]; exact rdi (by decide) (stF_s _ _ _ _), by rw [← hf3]; exact stF_s _ _ _ _, hl0, hl12, a2, s1, by omega, a1, lwc_congr (fun i hi => hst i hi) cls 0 0 (fun i hi => hmk i (by omega)) hlw⟩, by rw [hne b (by omega)]; exact hC.ft, fun a h1 h2 h3 h4 => by rw [hne a h4]; exact hC.o h1 h2 h3⟩)
  refine r_aload_n (pc := 0) 0 dX8_readLaw_0 rfl rfl ?_
  refine r_iconst (pc := 1) dX8_readLaw_1 ?_
  refine r_putI (pc := 2) dX8_readLaw_2 fl_X8_23 rfl rfl hT.k ?_
  refine r_aload_n (pc := 5) 0 dX8_readLaw_5 rfl rfl ?_
  refine r_iconst (pc := 6) dX8_readLaw_6 ?_
  refine r_putI (pc := 7) dX8_readLaw_7 fl_X8_30 rfl rfl hT.k ?_
  refine r_aload_n (pc := 10) 0 dX8_readLaw_10 rfl rfl ?_
  refine r_iconst (pc := 11) dX8_readLaw_11 ?_
  refine r_putI (pc := 12) dX8_readLaw_12 fl_X8_33 rfl rfl hT.k ?_
  refine r_aload_n (pc := 15) 0 dX8_readLaw_15 rfl rfl ?_
  refine r_iconst (pc := 16) dX8_readLaw_16 ?_
  refine r_putB (pc := 17) dX8_readLaw_17 fl_X8_36 rfl rfl (by omega) hT.k ?_
  refine r_aload_n (pc := 20) 0 dX8_readLaw_20 rfl rfl ?_
  refine r_iconst (pc := 21) dX8_readLaw_21 ?_
  refine r_putI (pc := 22) dX8_readLaw_22 fl_X8_40 rfl rfl hT.k ?_
  refine r_aload_n (pc := 25) 0 dX8_readLaw_25 rfl rfl ?_
  refine r_callV (pc := 26) (As := []) (S := []) dX8_readLaw_26 cv_X8_43 hT.k rfl (Nat.le_of_ble_eq_true rfl) (x_advance (q := 0) (t := t) l z _ hT (stF_s _ _ _ _) (rdi (by decide) (rdi (by decide) (rdi (by decide) (rdi (by decide) (rdi (by decide) ht))))) (Nat.zero_le _) ht4 (fun i => by rw [stF_n _ _ _ (by omega), stF_n _ _ _ (by omega), stF_n _ _ _ (by omega), stF_n _ _ _ (by omega), stF_n _ _ _ (by omega)]; exact hby i)) (Nat.zero_le _) (Nat.zero_le _) (fun r_26 g_26 f_26 q_26 => ?_)
  obtain ⟨rfl, rfl, hq_26⟩ := q_26
  have hC0 : CP b t f f_26 0 0 0 0 := by rw [← hq_26]; exact CP.init ht hby
  refine r_aload_n (pc := 29) 0 dX8_readLaw_29 rfl rfl ?_
  refine r_callV (pc := 30) (As := []) (S := []) dX8_readLaw_30 cv_X8_46 hT.k rfl (Nat.le_of_ble_eq_true rfl) (x_clauses (H := 150) l z hT ht4 hby (by decide) (x_sumT l z hT ht4 hby) (x_testT l z hT ht4 hby) hC0 (by omega)) (Nat.zero_le _) (Nat.zero_le _) (fun r_30 g_30 f_30 q_30 => ?_)
  obtain ⟨rfl, ⟨x_30, hR_30, rfl, hx_30, hF_30⟩ | ⟨cls, j_30, l_30, s_30, hR_30, hl0, hl12, rfl, hC_30, hlw⟩⟩ := q_30
  · refine r_istore_n (pc := 33) (L2 := [(1, (.int (iI (0)))), (0, (.ref b))]) dX8_readLaw_33 rfl (by decide) rfl ?_
    refine r_iload_n (pc := 34) 0 dX8_readLaw_34 rfl rfl ?_
    refine r_if_ne (pc := 35) (tgt := 40) dX8_readLaw_35 (by decide) (by omega) (fun c_35 => ?_) (fun c_35 => ?_)
    · exact absurd c_35 (by decide)
    · refine r_null (pc := 38) dX8_readLaw_38 ?_
      exact r_aretN (pc := 39) dX8_readLaw_39 rfl (by simp) (Or.inl ⟨x_30, hR_30, rfl, rfl, hx_30, hF_30⟩)
  · refine r_istore_n (pc := 33) (L2 := [(1, (.int (iI (((cls.length : Nat) : Int))))), (0, (.ref b))]) dX8_readLaw_33 rfl (by decide) rfl ?_
    refine r_iload_n (pc := 34) 0 dX8_readLaw_34 rfl rfl ?_
    refine r_if_ne (pc := 35) (tgt := 40) dX8_readLaw_35 (by decide) (by omega) (fun c_35 => ?_) (fun c_35 => ?_)
    · refine r_sub (L2 := [(1, (.int (iI (((cls.length : Nat) : Int))))), (0, (.ref b))]) [0, 1] rfl ?_
      exact tail cls j_30 l_30 s_30 f_30 hR_30 hl0 hl12 hC_30 hlw
    · exfalso; omega

/-- the loaves of a day, on both sides -/
theorem swN_c {ov ow wa wb : Nat → Nat} {o : Nat} : ∀ n, (∀ c, c < n → ov c = ow c ∧ wa c = wb c) → swN ov wa o n = swN ow wb o n
  | 0, _ => rfl
  | n + 1, h => by rw [swN_s, swN_s, swN_c n (fun c hc => h c (by omega)), (h n (by omega)).1, (h n (by omega)).2]
theorem bk_KD {K : Nat → Int} {D M : Int} {n : Nat} (hO : KO K D M) (hn : n ≤ 8) {o : Nat} (ho : o ≤ 1) (d : Nat) : bkK (KD K n (d + 1)) o = bkK (KD K n d) o + swN (ovK K) (waK K (K 42 + (d : Int)) (hdK K)) o n := by
  have hd := KD_ok hO hn d
  have h0 := hd.b0
  have h1 := hd.b1
  have e : swN (ovK (KD K n d)) (waK (KD K n d) (KD K n d 42) (hdK (KD K n d))) o n = swN (ovK K) (waK K (K 42 + (d : Int)) (hdK K)) o n := swN_c n (fun c hc => ⟨KD_ov K n d (by omega), KD_wa hO n d (by omega)⟩)
  rw [← e]
  unfold bkK
  rcases (show o = 0 ∨ o = 1 by omega) with rfl | rfl
  · have : KD K n (d + 1) 43 = KD K n d 43 + ((swN (ovK (KD K n d)) (waK (KD K n d) (KD K n d 42) (hdK (KD K n d))) 0 n : Nat) : Int) := by rw [KD]; unfold nxK; rw [if_neg (by decide), if_pos rfl]
    show (KD K n (d + 1) 43).toNat = (KD K n d 43).toNat + _
    omega
  · have : KD K n (d + 1) 44 = KD K n d 44 + ((swN (ovK (KD K n d)) (waK (KD K n d) (KD K n d 42) (hdK (KD K n d))) 1 n : Nat) : Int) := by rw [KD]; unfold nxK; rw [if_neg (by decide), if_neg (by decide), if_pos rfl]
    show (KD K n (d + 1) 44).toNat = (KD K n d 44).toNat + _
    omega
theorem lvM_c {dz lp : Int} {b0 n m : Nat} {wa wb : Nat → Nat} (h : ∀ c, c < n → wa c = wb c) (s : Nat) : blM dz lp b0 wa n m s = blM dz lp b0 wb n m s := by
  unfold blM
  rw [lvN_c n h]
theorem orK_e {K : Nat → Int} {n a2 : Nat} {wt wa : Nat → Nat} {dz lp : Int} {b0 b1 : Nat} {cu many : Int} (h1 : ∀ c, c < n → wt c = wtK K (K 42) (hdK K) n c) (h2 : ∀ c, c < n → wa c = waK K (K 42) (hdK K) c) (h3 : a2 = wmk (fun c => decide (ovK K c ≠ 0)) n) (h4 : dz = K 40) (h5 : lp = K 41) (h6 : b0 = bkK K 0) (h7 : b1 = bkK K 1) : cW (alO wt wa n a2 dz lp b0 b1 cu many) n 0 = orK K n cu many := by
  subst h3 h4 h5 h6 h7
  unfold orK
  apply cW_congr
  intro s i hi
  unfold alO gnV
  rw [nxM_c h1, lvM_c h2, lvM_c h2, lvM_c h2, lvM_c h2]

set_option maxRecDepth 100000 in
set_option maxHeartbeats 4000000 in
theorem m_never (l : Launch) (z : Zv) {g : Gm} {f : Fm} {K : Nat → Int} {D0 M0 : Int} {n : Nat} (hM : ML g) (hK : f 166 = K) (hO : KO K D0 M0) (hD0 : D0 ≤ 1000000) (hM0 : M0 ≤ 1090000) (hn : K 77 = ((n : Nat) : Int)) (hb20 : ∃ bk : Bool, f 164 20 = b01 (bk = true)) {c m : Int} (h_c : -2147483648 ≤ c ∧ c ≤ 2147483647) (h_m : -2147483648 ≤ m ∧ m ≤ 2147483647) {D : Nat} (hD : 273 ≤ D) : PM l z D mX11_never [.ref 164, .int (iI c), .int (iI m)] g f 0 0 (fun r g' f' => r = some (.long (lI (nvA K n c m))) ∧ g = g' ∧ MSc f f') := by
  obtain ⟨d, rfl⟩ : ∃ d, D = d + 273 := ⟨D - 273, by omega⟩
  replace hM0 : M0 ≤ 1090000 := hM0
  have hn8 : n ≤ 8 := by have := hO.n; omega
  have hp8 := pow8 hn8
  have hdy := hO.dy
  refine PM.of (by decide +kernel) (Nat.le_of_ble_eq_true rfl) ?_
  refine r_aload_n (pc := 0) 0 dX11_never_0 rfl rfl ?_
  refine r_iload_n (pc := 1) 1 dX11_never_1 rfl rfl ?_
  refine r_callV (pc := 2) (As := [(.int (iI (c)))]) (S := []) dX11_never_2 cv_X11_134 hM.k rfl (Nat.le_of_ble_eq_true rfl) (m_isCustomer l z _ hM (by rw [hK, hn]; omega) (by omega)) (Nat.zero_le _) (Nat.zero_le _) (fun r_2 g_2 f_2 q_2 => ?_)
  obtain ⟨rfl, rfl, rfl⟩ := q_2
  refine r_eqI (y := b01 (0 ≤ c ∧ c < (n : Int))) (b01_iff (by rw [hK, hn]; omega)) ?_
  refine r_if_eq (pc := 5) (tgt := 17) dX11_never_5 (by decide) (b01_r) (fun c_5 => ?_) (fun c_5 => ?_)
  · replace c_5 := b01_z c_5
    refine r_ldc2 (pc := 17) (x := -1) dX11_never_17 kc_X11_348 (by decide) ?_
    exact r_lret (pc := 20) dX11_never_20 rfl ⟨by unfold nvA; rw [if_neg (fun q => by omega)], rfl, MSc.rf hb20⟩
  · replace c_5 := b01_nz c_5
    refine r_iload_n (pc := 8) 2 dX11_never_8 rfl rfl ?_
    refine r_iconst (pc := 9) dX11_never_9 ?_
    refine r_iconst (pc := 10) dX11_never_10 ?_
    refine r_callS (pc := 11) (As := [(.int (iI (m))), (.int (iI (1))), (.int (iI (4)))]) (S := []) dX11_never_11 cs_X11_110 rfl (Nat.le_of_ble_eq_true rfl) (m_lies l z _ (by omega) (by omega) (by omega)) (Nat.zero_le _) (Nat.zero_le _) (fun r_11 g_11 f_11 q_11 => ?_)
    obtain ⟨rfl, rfl, rfl⟩ := q_11
    refine r_if_ne (pc := 14) (tgt := 21) dX11_never_14 (by decide) (b01_r) (fun c_14 => ?_) (fun c_14 => ?_)
    · replace c_14 := b01_nz c_14
      refine r_lconst (pc := 21) (x := 1) dX11_never_21 (by decide) ?_
      refine r_lstore_n (pc := 22) (L2 := [(3, (.long (lI (1)))), (0, (.ref 164)), (1, (.int (iI (c)))), (2, (.int (iI (m))))]) dX11_never_22 rfl (by decide) rfl ?_
      refine r_aload_n (pc := 23) 1 dX11_never_23 rfl rfl ?_
      refine r_aload_n (pc := 24) 1 dX11_never_24 rfl rfl ?_
      refine r_getR (pc := 25) (b := 166) dX11_never_25 fl_X11_17 rfl hM.k hM.r2 ?_
      refine r_bipush (pc := 28) dX11_never_28 (by decide) ?_
      refine r_ialdv (pc := 30) (w := K 42) dX11_never_30 hM.a2 (by decide) (by decide) (congrFun hK 42) ?_
      refine r_callV (pc := 31) (As := [(.int (iI (K 42)))]) (S := []) dX11_never_31 cv_X11_142 hM.k rfl (Nat.le_of_ble_eq_true rfl) (m_lays (day := K 42) l z hM hK hO hn hb20 (by omega) (D := d + 272) (by omega)) (Nat.zero_le _) (Nat.zero_le _) (fun r_31 g_31 f_31 q_31 => ?_)
      obtain ⟨rfl, rfl, hly⟩ := q_31
      have hMD := hly.md hK hO (by omega) hn
      have hK8 : f_31 166 = K := by rw [hly.1 166 (by decide) (by decide) (by decide) (by decide) (by decide) (by decide)]; exact hK
      refine r_iconst (pc := 34) dX11_never_34 ?_
      refine r_istore (pc := 35) (L2 := [(5, (.int (iI (0)))), (3, (.long (lI (1)))), (0, (.ref 164)), (1, (.int (iI (c)))), (2, (.int (iI (m))))]) dX11_never_35 (by decide) rfl ?_
      have hm4 : 1 ≤ m ∧ m ≤ 4 := c_14
      have hcn := c_5
      have loop : ∀ q i : Nat, q = m.toNat - i → i ≤ m.toNat → ∀ f1 : Fm, f1 166 = K → (∃ bk : Bool, f1 164 20 = b01 (bk = true)) → (∀ c, c < n → f1 179 c = hdK K c) → (∀ o, o ≤ 1 → f1 178 o = ((bkK (KD K n i) o : Nat) : Int)) → MSc f f1 → PW l z (d + 273) mX11_never 0 0 (fun r g' f' => r = some (.long (lI (nvA K n c m))) ∧ g = g' ∧ MSc f f') 37 [(5, (.int (iI (((i : Nat) : Int))))), (3, (.long (lI (nvP K n c.toNat i)))), (0, (.ref 164)), (1, (.int (iI (c)))), (2, (.int (iI (m))))] [] g f1 0 0 := by
        intro q
        induction q using Nat.strongRecOn with
        | _ q ih =>
          intro i hq hi f1 hK1 hb1 h179 h178 hms
          refine r_iload (pc := 37) 0 dX11_never_37 rfl ?_
          refine r_iload_n (pc := 39) 4 dX11_never_39 rfl rfl ?_
          refine r_icmp_ge (pc := 40) (tgt := 77) dX11_never_40 (by decide) (by omega) (by omega) (fun c_40 => ?_) (fun c_40 => ?_)
          · refine r_lload_n (pc := 77) 1 dX11_never_77 rfl rfl ?_
            have hie : i = m.toNat := by omega
            exact r_lret (pc := 78) dX11_never_78 rfl ⟨by unfold nvA; rw [if_pos (show (0 ≤ c ∧ c < (n : Int)) ∧ (1 ≤ m ∧ m ≤ 4) from ⟨hcn, hm4⟩), hie], rfl, hms⟩
          · refine r_aload_n (pc := 43) 2 dX11_never_43 rfl rfl ?_
            refine r_aload_n (pc := 44) 2 dX11_never_44 rfl rfl ?_
            refine r_getR (pc := 45) (b := 166) dX11_never_45 fl_X11_17 rfl hM.k hM.r2 ?_
            refine r_bipush (pc := 48) dX11_never_48 (by decide) ?_
            refine r_ialdv (pc := 50) (w := K 42) dX11_never_50 hM.a2 (by decide) (by decide) (congrFun hK1 42) ?_
            refine r_iload (pc := 51) 0 dX11_never_51 rfl ?_
            refine r_iadd (pc := 53) dX11_never_53 ?_
            refine r_callV (pc := 54) (As := [(.int (iI ((K 42) + (((i : Nat) : Int)))))]) (S := []) dX11_never_54 cv_X11_284 hM.k rfl (Nat.le_of_ble_eq_true rfl) (m_asksAll (K := K) (day := (K 42 + ((i : Nat) : Int))) (hd := hdK K) (n := n) l z hM hK1 hO hn hb1 (by omega) (fun c hc => ⟨h179 c hc, by have := (hO.f (c := c) (by omega)).2.2.2.1; unfold hdK; omega, by have := (hO.f (c := c) (by omega)).2.2.2.1; unfold hdK; omega⟩) (D := d + 272) (by omega)) (Nat.zero_le _) (Nat.zero_le _) (fun r_54 g_54 f_54 q_54 => ?_)
            obtain ⟨rfl, rfl, hA1, hA2, hA3, hA4⟩ := q_54
            have hK2 : f_54 166 = K := by rw [hA1 166 (by decide) (by decide) (by decide) (by decide)]; exact hK1
            have hMD : MD f_54 n (ovK K) (waK K (K 42 + ((i : Nat) : Int)) (hdK K)) (wtK K (K 42 + ((i : Nat) : Int)) (hdK K) n) (bkK (KD K n i)) := ⟨by rw [hK2]; exact hn, hn8, fun c hc => by rw [hK2]; exact ovK_r hO (by omega), fun c hc => ⟨by have h2 := wantK_r (day := (K 42 + ((i : Nat) : Int))) (had := hdK K c) hO (c := c) (by omega); rw [(hA4 c hc).1]; unfold waK; omega, waK_r hO (by omega)⟩, fun c hc => ⟨(hA4 c hc).2, wmk_8 _ hn8⟩, fun o ho => ⟨by rw [hA1 178 (by decide) (by decide) (by decide) (by decide)]; exact h178 o ho, (bkK_r (KD_ok hO hn8 i) (by omega) ho).2⟩⟩
            refine r_lload_n (pc := 57) 1 dX11_never_57 rfl rfl ?_
            refine r_aload_n (pc := 58) 2 dX11_never_58 rfl rfl ?_
            refine r_iload_n (pc := 59) 3 dX11_never_59 rfl rfl ?_
            refine r_eqI (y := ((c.toNat : Nat) : Int)) (by omega) ?_
            refine r_iconst (pc := 60) dX11_never_60 ?_
            refine r_callV (pc := 61) (As := [(.int (iI (((c.toNat : Nat) : Int)))), (.int (iI (0)))]) (S := [(.long (lI (nvP K n c.toNat i)))]) dX11_never_61 cv_X11_345 hM.k rfl (Nat.le_of_ble_eq_true rfl) (m_chanceOf (c := c.toNat) (many := 0) (dz := K 40) (lp := K 41) (a2 := (wmk (fun c => decide (ovK K c ≠ 0)) n)) l z (d + 269) hM hMD (congrFun hK2 40) (congrFun hK2 41) hO.dz hO.lp (by omega) (by omega) (fun k hk => ov_bit K hk)) (Nat.zero_le _) (Nat.zero_le _) (fun r_61 g_61 f_61 q_61 => ?_)
            obtain ⟨rfl, rfl, hc1⟩ := q_61
            have hor : cW (alO (wtK K (K 42 + ((i : Nat) : Int)) (hdK K) n) (waK K (K 42 + ((i : Nat) : Int)) (hdK K)) n (wmk (fun c => decide (ovK K c ≠ 0)) n) (K 40) (K 41) (bkK (KD K n i) 0) (bkK (KD K n i) 1) ((c.toNat : Nat) : Int) 0) n 0 = orK (KD K n i) n ((c.toNat : Nat) : Int) 0 := orK_e (fun q hq => (KD_wt hO hn8 i (by omega)).symm) (fun q hq => (KD_wa hO n i (by omega)).symm) (wmk_c n (fun q hq => by rw [KD_ov K n i (by omega)])) (KD_o K n i (by omega)).symm (KD_o K n i (by omega)).symm rfl rfl
            rw [hor]
            have hor8 : orK (KD K n i) n ((c.toNat : Nat) : Int) 0 ≤ 16777216 := cW_8 hn8
            refine r_i2l (pc := 64) dX11_never_64 (iI_l (by omega)) ?_
            refine r_lmul (pc := 65) dX11_never_65 ?_
            refine r_lstore_n (pc := 66) (L2 := [(3, (.long (lI ((nvP K n c.toNat i) * (((orK (KD K n i) n ((c.toNat : Nat) : Int) 0 : Nat) : Int)))))), (5, (.int (iI (((i : Nat) : Int))))), (0, (.ref 164)), (1, (.int (iI (c)))), (2, (.int (iI (m))))]) dX11_never_66 rfl (by decide) rfl ?_
            refine r_aload_n (pc := 67) 2 dX11_never_67 rfl rfl ?_
            refine r_callV (pc := 68) (As := []) (S := []) dX11_never_68 cv_X11_336 hM.k rfl (Nat.le_of_ble_eq_true rfl) (m_bakesAll l z (d + 271) hM (hMD.mv (hc1 166 (by decide) (by decide)) (hc1 176 (by decide) (by decide)) (hc1 177 (by decide) (by decide)) (hc1 178 (by decide) (by decide)))) (Nat.zero_le _) (Nat.zero_le _) (fun r_68 g_68 f_68 q_68 => ?_)
            obtain ⟨rfl, rfl, hbk1, hbk2⟩ := q_68
            refine r_iincv (pc := 71) (y := ((i + 1 : Nat) : Int)) (L2 := [(5, (.int (iI (((i + 1 : Nat) : Int))))), (3, (.long (lI ((nvP K n c.toNat i) * (((orK (KD K n i) n ((c.toNat : Nat) : Int) 0 : Nat) : Int)))))), (0, (.ref 164)), (1, (.int (iI (c)))), (2, (.int (iI (m))))]) 1 dX11_never_71 rfl (by omega) (by decide) rfl ?_
            refine r_goto (pc := 74) (tgt := 37) dX11_never_74 (by decide) ?_
            refine r_sub (L2 := [(5, (.int (iI (((i + 1 : Nat) : Int))))), (3, (.long (lI (nvP K n c.toNat (i + 1))))), (0, (.ref 164)), (1, (.int (iI (c)))), (2, (.int (iI (m))))]) [0, 1, 2, 3, 4] rfl ?_
            have hk68 : ∀ q, q ≠ 178 → q ≠ 180 → q ≠ 181 → f_68 q = f_54 q := fun q h1 h2 h3 => (hbk1 q h1).trans (hc1 q h2 h3)
            exact ih (m.toNat - (i + 1)) (by omega) (i + 1) (by omega) (by omega) _ (by rw [hk68 166 (by decide) (by decide) (by decide)]; exact hK2) (by rw [hk68 164 (by decide) (by decide) (by decide)]; exact hA3) (fun q hq => by rw [hk68 179 (by decide) (by decide) (by decide), hA1 179 (by decide) (by decide) (by decide) (by decide)]; exact h179 q hq) (fun o ho => by rw [hbk2 o ho, bk_KD hO hn8 ho i]) ⟨fun a ha => by rw [hk68 a (by omega) (by omega) (by omega), hA1 a (by omega) (by omega) (by omega) (by omega)]; exact hms.1 a ha, fun q a1 a2 a3 a4 a5 => by rw [hk68 164 (by decide) (by decide) (by decide), hA2 q a1 a2 a3 a4 a5]; exact hms.2.1 q a1 a2 a3 a4 a5, by rw [hk68 164 (by decide) (by decide) (by decide)]; exact hA3⟩
      refine r_sub (L2 := [(5, (.int (iI (((0 : Nat) : Int))))), (3, (.long (lI (nvP K n c.toNat 0)))), (0, (.ref 164)), (1, (.int (iI (c)))), (2, (.int (iI (m))))]) [0, 1, 2, 3, 4] rfl ?_
      exact loop m.toNat 0 (by omega) (by omega) _ hK8 hly.2.2.1 (fun c hc => (hly.2.2.2.1 c hc).2.2) (fun o ho => (hMD.2.2.2.2.2 o ho).1) hly.mf
    · replace c_14 := b01_z c_14
      refine r_ldc2 (pc := 17) (x := -1) dX11_never_17 kc_X11_348 (by decide) ?_
      exact r_lret (pc := 20) dX11_never_20 rfl ⟨by unfold nvA; rw [if_neg (fun q => by omega)], rfl, MSc.rf hb20⟩

set_option maxRecDepth 100000 in
set_option maxHeartbeats 4000000 in
theorem x_never (l : Launch) (z : Zv) (d : Nat) {g : Gm} {f : Fm} {n : Nat} {K : Nat → Int} {D0 M0 : Int} (hX : XL g) (hB : BK g f 65 K) (hO : KO K D0 M0) (hD0 : D0 ≤ 900000) (hM0 : M0 ≤ 1090000) (hn : K 77 = ((n : Nat) : Int)) (hTX : ∀ i p, grm g 78 i = some p → isK g p 3) {c m : Int} (h_c : -2147483648 ≤ c ∧ c ≤ 2147483647) (h_m : -2147483648 ≤ m ∧ m ≤ 2147483647) : PM l z (d + 7) mX10_never [.ref 64, .int (iI c), .int (iI m)] g f 0 0 (fun r g' f' => r = some (.long (lI (nvA K n c m))) ∧ PpO g f g' f') := by
  have hn8 : n ≤ 8 := by have := hO.n; omega
  refine PM.of (by decide +kernel) (Nat.le_of_ble_eq_true rfl) ?_
  refine r_aload_n (pc := 0) 0 dX10_never_0 rfl rfl ?_
  refine r_getR (pc := 1) (b := 65) dX10_never_1 fl_X10_10 rfl hX.k hX.r0 ?_
  refine r_iload_n (pc := 4) 1 dX10_never_4 rfl rfl ?_
  refine r_callV (pc := 5) (As := [(.int (iI (c)))]) (S := []) dX10_never_5 cv_X10_103 hX.o0.k rfl (Nat.le_of_ble_eq_true rfl) (c_knows l z _ hX.o0 (by rw [hB.n, hn]; omega) (by omega)) (Nat.zero_le _) (Nat.zero_le _) (fun r_5 g_5 f_5 q_5 => ?_)
  obtain ⟨rfl, rfl, rfl⟩ := q_5
  refine r_eqI (y := b01 (0 ≤ c ∧ c < (n : Int))) (b01_iff (by rw [hB.n, hn])) ?_
  refine r_if_eq (pc := 8) (tgt := 21) dX10_never_8 (by decide) (b01_r) (fun c_8 => ?_) (fun c_8 => ?_)
  · replace c_8 := b01_z c_8
    refine r_ldc2 (pc := 21) (x := -1) dX10_never_21 kc_X10_239 (by decide) ?_
    exact r_lret (pc := 24) dX10_never_24 rfl ⟨by unfold nvA; rw [if_neg (fun q => by omega)], Or.inl rfl, fun _ _ => rfl⟩
  · replace c_8 := b01_nz c_8
    refine r_iload_n (pc := 11) 2 dX10_never_11 rfl rfl ?_
    refine r_iconst (pc := 12) dX10_never_12 ?_
    refine r_icmp_lt (pc := 13) (tgt := 21) dX10_never_13 (by decide) (by omega) (by omega) (fun c_13 => ?_) (fun c_13 => ?_)
    · refine r_ldc2 (pc := 21) (x := -1) dX10_never_21 kc_X10_239 (by decide) ?_
      exact r_lret (pc := 24) dX10_never_24 rfl ⟨by unfold nvA; rw [if_neg (fun q => by omega)], Or.inl rfl, fun _ _ => rfl⟩
    · refine r_iload_n (pc := 16) 2 dX10_never_16 rfl rfl ?_
      refine r_iconst (pc := 17) dX10_never_17 ?_
      refine r_icmp_le (pc := 18) (tgt := 25) dX10_never_18 (by decide) (by omega) (by omega) (fun c_18 => ?_) (fun c_18 => ?_)
      · refine r_lconst (pc := 25) (x := 1) dX10_never_25 (by decide) ?_
        refine r_lstore_n (pc := 26) (L2 := [(3, (.long (lI (1)))), (0, (.ref 64)), (1, (.int (iI (c)))), (2, (.int (iI (m))))]) dX10_never_26 rfl (by decide) rfl ?_
        refine r_aload_n (pc := 27) 1 dX10_never_27 rfl rfl ?_
        refine r_getR (pc := 28) (b := 75) dX10_never_28 fl_X10_16 rfl hX.k hX.r1 ?_
        refine r_aload_n (pc := 31) 1 dX10_never_31 rfl rfl ?_
        refine r_getR (pc := 32) (b := 65) dX10_never_32 fl_X10_10 rfl hX.k hX.r0 ?_
        refine r_callV (pc := 35) (As := [(.ref 65)]) (S := []) dX10_never_35 cv_X10_214 hX.o1.k rfl (Nat.le_of_ble_eq_true rfl) (x_copyFrom (b := 75) (q := 65) l z _ hX.o1 hX.o0 (Or.inl (by omega)) hB.lk) (Nat.zero_le _) (Nat.zero_le _) (fun r_35 g_35 f_35 q_35 => ?_)
        obtain ⟨rfl, rfl, rfl⟩ := q_35
        have hX1 : XL (cpR g 68 78 6) := hX.to (cpR_sh _ _ _ _) (cpR_hr hX.o1.a2.1)
        have hB1 : BK (cpR g 68 78 6) (cpB f 75 65) 75 K := hB.cp hO (Or.inl (by omega)) (by omega) hTX
        refine r_iconst (pc := 38) dX10_never_38 ?_
        refine r_istore (pc := 39) (L2 := [(5, (.int (iI (0)))), (3, (.long (lI (1)))), (0, (.ref 64)), (1, (.int (iI (c)))), (2, (.int (iI (m))))]) dX10_never_39 (by decide) rfl ?_
        have hm4 : 1 ≤ m ∧ m ≤ 4 := by omega
        have hcn := c_8
        have loop : ∀ q i : Nat, q = m.toNat - i → i ≤ m.toNat → ∀ f1 : Fm, BK (cpR g 68 78 6) f1 75 (KD K n i) → (0 < i → nDy (KD K n i) → PDs f1 123 (KD K n i) n) → (∀ q, q < 75 ∨ (84 < q ∧ q < 123) ∨ 134 < q → f1 q = f q) → PW l z (d + 7) mX10_never 0 0 (fun r g' f' => r = some (.long (lI (nvA K n c m))) ∧ PpO g f g' f') 41 [(5, (.int (iI (((i : Nat) : Int))))), (3, (.long (lI (nvP K n c.toNat i)))), (0, (.ref 64)), (1, (.int (iI (c)))), (2, (.int (iI (m))))] [] (cpR g 68 78 6) f1 0 0 := by
          intro q
          induction q using Nat.strongRecOn with
          | _ q ih =>
            intro i hq hi f1 hBi hPi hfr
            have hni : (KD K n i) 77 = ((n : Nat) : Int) := by rw [KD_o K n i (by omega)]; exact hn
            refine r_iload (pc := 41) 0 dX10_never_41 rfl ?_
            refine r_iload_n (pc := 43) 4 dX10_never_43 rfl rfl ?_
            refine r_icmp_ge (pc := 44) (tgt := 83) dX10_never_44 (by decide) (by omega) (by omega) (fun c_44 => ?_) (fun c_44 => ?_)
            · refine r_lload_n (pc := 83) 1 dX10_never_83 rfl rfl ?_
              have hie : i = m.toNat := by omega
              exact r_lret (pc := 84) dX10_never_84 rfl ⟨by unfold nvA; rw [if_pos (show (0 ≤ c ∧ c < (n : Int)) ∧ (1 ≤ m ∧ m ≤ 4) from ⟨hcn, hm4⟩), hie], Or.inr rfl, hfr⟩
            · refine r_aload_n (pc := 47) 2 dX10_never_47 rfl rfl ?_
              refine r_iload (pc := 48) 0 dX10_never_48 rfl ?_
              refine r_callV (pc := 50) (As := [(.int (iI (((i : Nat) : Int))))]) (S := []) dX10_never_50 cv_X10_220 hX.k rfl (Nat.le_of_ble_eq_true rfl) (x_layOutPaperDay (K := (KD K n i)) (n := n) (i := ((i : Nat) : Int)) l z (d + 1) hX1 hBi (KD_ok hO hn8 i) (by omega) (by omega) hni (by omega) (fun h => hPi (by omega))) (Nat.zero_le _) (Nat.zero_le _) (fun r_50 g_50 f_50 q_50 => ?_)
              obtain ⟨rfl, rfl, hl1, hl2⟩ := q_50
              refine r_lload_n (pc := 53) 1 dX10_never_53 rfl rfl ?_
              refine r_aload_n (pc := 54) 2 dX10_never_54 rfl rfl ?_
              refine r_getR (pc := 55) (b := 123) dX10_never_55 fl_X10_41 rfl hX.k hX.r6 ?_
              refine r_iload_n (pc := 58) 3 dX10_never_58 rfl rfl ?_
              refine r_iconst (pc := 59) dX10_never_59 ?_
              refine r_callV (pc := 60) (As := [(.int (iI (c))), (.int (iI (0)))]) (S := [(.long (lI (nvP K n c.toNat i)))]) dX10_never_60 cv_X10_188 hX.o6.k rfl (Nat.le_of_ble_eq_true rfl) (x_ordersWith (y := 123) (cu := c) (many := 0) l z (d + 5) hX1.o6 hl2 (KD_ok hO hn8 i).dz (KD_ok hO hn8 i).lp ⟨(bkK_r (o := 0) (KD_ok hO hn8 i) (by omega) (by decide)).2, (bkK_r (o := 1) (KD_ok hO hn8 i) (by omega) (by decide)).2⟩ (by omega) (by omega)) (Nat.zero_le _) (Nat.zero_le _) (fun r_60 g_60 f_60 q_60 => ?_)
              obtain ⟨rfl, ho1, rfl⟩ := q_60
              have hor8 : orK (KD K n i) n c 0 ≤ 16777216 := cW_8 hn8
              refine r_eqI (y := ((orK (KD K n i) n c 0 : Nat) : Int)) rfl ?_
              refine r_i2l (pc := 63) dX10_never_63 (iI_l (by omega)) ?_
              refine r_lmul (pc := 64) dX10_never_64 ?_
              refine r_lstore_n (pc := 65) (L2 := [(3, (.long (lI ((nvP K n c.toNat i) * (((orK (KD K n i) n c 0 : Nat) : Int)))))), (5, (.int (iI (((i : Nat) : Int))))), (0, (.ref 64)), (1, (.int (iI (c)))), (2, (.int (iI (m))))]) dX10_never_65 rfl (by decide) rfl ?_
              refine r_aload_n (pc := 66) 2 dX10_never_66 rfl rfl ?_
              refine r_getR (pc := 67) (b := 123) dX10_never_67 fl_X10_41 rfl hX.k hX.r6 ?_
              refine r_aload_n (pc := 70) 2 dX10_never_70 rfl rfl ?_
              refine r_getR (pc := 71) (b := 75) dX10_never_71 fl_X10_16 rfl hX.k hX.r1 ?_
              refine r_callV (pc := 74) (As := [(.ref 75)]) (S := []) dX10_never_74 cv_X10_227 hX.o6.k rfl (Nat.le_of_ble_eq_true rfl) (x_passOn (y := 123) (b := 75) (K := (KD K n i)) (n := n) l z (d + 5) hX1.o6 hX1.o1 (hBi.mem (fun q hq => (ho1 q (by omega)).trans (hl1 q (by omega)))) (KD_ok hO hn8 i) (DYo.mv hl2 (fun q q1 q2 => ho1 q (by omega))) (by omega) (by omega)) (Nat.zero_le _) (Nat.zero_le _) (fun r_74 g_74 f_74 q_74 => ?_)
              obtain ⟨rfl, rfl, hp1, hp2⟩ := q_74
              refine r_iincv (pc := 77) (y := ((i + 1 : Nat) : Int)) (L2 := [(5, (.int (iI (((i + 1 : Nat) : Int))))), (3, (.long (lI ((nvP K n c.toNat i) * (((orK (KD K n i) n c 0 : Nat) : Int)))))), (0, (.ref 64)), (1, (.int (iI (c)))), (2, (.int (iI (m))))]) 1 dX10_never_77 rfl (by omega) (by decide) rfl ?_
              refine r_goto (pc := 80) (tgt := 41) dX10_never_80 (by decide) ?_
              refine r_sub (L2 := [(5, (.int (iI (((i + 1 : Nat) : Int))))), (3, (.long (lI (nvP K n c.toNat (i + 1))))), (0, (.ref 64)), (1, (.int (iI (c)))), (2, (.int (iI (m))))]) [0, 1, 2, 3, 4] (by rw [nvP, show ((c.toNat : Nat) : Int) = c by omega]; rfl) ?_
              exact ih (m.toNat - (i + 1)) (by omega) (i + 1) (by omega) (by omega) _ hp2 (fun _ hd => PDs.nx (PDs.mv (DYo.pds hl2) (fun q q1 q2 => (hp1 q (by omega)).trans (ho1 q (by omega)))) (KD_ok hO hn8 i) hn8 ((nDy_nx (KD_ok hO hn8 i)).mp hd)) (fun q hq => (hp1 q (by omega)).trans ((ho1 q (by omega)).trans ((hl1 q (by omega)).trans (hfr q hq))))
        refine r_sub (L2 := [(5, (.int (iI (((0 : Nat) : Int))))), (3, (.long (lI (nvP K n c.toNat 0)))), (0, (.ref 64)), (1, (.int (iI (c)))), (2, (.int (iI (m))))]) [0, 1, 2, 3, 4] rfl ?_
        exact loop m.toNat 0 (by omega) (by omega) _ hB1 (fun h => absurd h (by omega)) (fun q hq => cpB_n (by omega))
      · refine r_ldc2 (pc := 21) (x := -1) dX10_never_21 kc_X10_239 (by decide) ?_
        exact r_lret (pc := 24) dX10_never_24 rfl ⟨by unfold nvA; rw [if_neg (fun q => by omega)], Or.inl rfl, fun _ _ => rfl⟩

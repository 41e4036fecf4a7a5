/-- the model's scratch rows may change -/
def MSc (f f' : Fm) : Prop := (∀ a, a < 164 ∨ (165 ≤ a ∧ a ≤ 174) ∨ a = 192 ∨ a = 193 ∨ 195 ≤ a → f' a = f a) ∧ (∀ q, q ≠ 18 → q ≠ 19 → q ≠ 20 → q ≠ 22 → q ≠ 23 → f' 164 q = f 164 q) ∧ (∃ bk : Bool, f' 164 20 = b01 (bk = true))
theorem MSc.rf {f : Fm} (h : ∃ bk : Bool, f 164 20 = b01 (bk = true)) : MSc f f := ⟨fun _ _ => rfl, fun _ _ _ _ _ _ => rfl, h⟩
theorem LyP.mf {f f' : Fm} {K : Nat → Int} {day : Int} {n : Nat} (h : LyP f f' K day n) : MSc f f' := ⟨fun a ha => h.1 a (by omega) (by omega) (by omega) (by omega) (by omega) (by omega), h.2.1, h.2.2.1⟩
theorem MSc.tr {f f1 f2 : Fm} (h : MSc f f1) (h2 : ∀ q, q ≤ 174 ∨ q = 192 ∨ q = 193 ∨ 195 ≤ q → f2 q = f1 q) : MSc f f2 := ⟨fun a ha => (h2 a (by omega)).trans (h.1 a ha), fun q a1 a2 a3 a4 a5 => (congrFun (h2 164 (by omega)) q).trans (h.2.1 q a1 a2 a3 a4 a5), by rw [h2 164 (by omega)]; exact h.2.2⟩
def orK (K : Nat → Int) (n : Nat) (cu many : Int) : Nat := cW (alO (wtK K (K 42) (hdK K) n) (waK K (K 42) (hdK K)) n (wmk (fun c => decide (ovK K c ≠ 0)) n) (K 40) (K 41) (bkK K 0) (bkK K 1) cu many) n 0
theorem orK_no (K : Nat → Int) (n : Nat) : cW (fun s i => (nxM (wtK K (K 42) (hdK K) n) n s).testBit i) n 0 = orK K n (-1) 0 := by
  unfold orK
  apply cW_congr
  intro s i hi
  unfold alO
  rw [decide_eq_true (show ((i : Nat) : Int) ≠ -1 by omega)]
  simp
theorem ov_bit (K : Nat → Int) {n k : Nat} (hk : k < n) : (wmk (fun c => decide (ovK K c ≠ 0)) n).testBit k = decide (ovK K k ≠ 0) := by rw [wmk_bit, decide_eq_true hk]; simp
/-- what is ahead of c, as told -/
theorem st_sw {ov wa : Nat → Nat} {c : Nat} : ∀ j, sumN j (stT ov wa (2 ^ c - 1) c) = ((swN ov wa (ov c) (min j c) : Nat) : Int)
  | 0 => by rw [Nat.zero_min]; rfl
  | j + 1 => by
    have ih := st_sw (ov := ov) (wa := wa) (c := c) j
    simp only [sumN]
    rw [ih]
    unfold stT
    rw [Nat.testBit_two_pow_sub_one]
    rcases (show j < c ∨ c ≤ j by omega) with h | h
    · rw [show min (j + 1) c = min j c + 1 by omega, swN_s, show min j c = j by omega]
      by_cases h2 : ov j = ov c
      · rw [if_pos ⟨decide_eq_true h, h2⟩, if_pos h2]; omega
      · rw [if_neg (fun q => h2 q.2), if_neg h2]; omega
    · rw [show min (j + 1) c = min j c by omega, if_neg (fun q => by have := of_decide_eq_true q.1; omega), Int.add_zero]
theorem stV_told {ov wa bk : Nat → Nat} {n c : Nat} (hc : c < n) : stV n ov wa bk (2 ^ c - 1) c = ((bk (ov c) + swN ov wa (ov c) c : Nat) : Int) := by
  unfold stV
  rw [st_sw, show min n c = c by omega]
  omega
def ofA (K : Nat → Int) (n : Nat) (c w : Int) : Int := if (0 ≤ c ∧ c < (n : Int)) ∧ (0 ≤ w ∧ w ≤ 5) then (if w < 5 then K (5 * c.toNat + w.toNat) else ((waK K (K 42) (hdK K) c.toNat : Nat) : Int)) else -1
def waA (K : Nat → Int) (n : Nat) (c o : Int) : Int := if (0 ≤ c ∧ c < (n : Int)) ∧ (0 ≤ o ∧ o < (n : Int)) ∧ c ≠ o then b01 (waitK K (K 42) (K (5 * c.toNat + 3)) c.toNat o.toNat = true) else -1
def ahK (K : Nat → Int) (c : Nat) : Nat := swN (ovK K) (waK K (K 42) (hdK K)) (ovK K c) c
def sdA (K : Nat → Int) (n : Nat) (c w : Int) : Int := if (0 ≤ c ∧ c < (n : Int)) ∧ (0 ≤ w ∧ w ≤ 1) then (if w = 0 then blA (K 40) (K 41) (((bkK K (ovK K c.toNat) + ahK K c.toNat : Nat) : Int) + (((waK K (K 42) (hdK K)) c.toNat : Nat) : Int)) - blA (K 40) (K 41) ((bkK K (ovK K c.toNat) + ahK K c.toNat : Nat) : Int) else if (waK K (K 42) (hdK K)) c.toNat = 0 then -1 else ((bkK K (ovK K c.toNat) + ahK K c.toNat + 1 : Nat) : Int)) else -1
def chA (K : Nat → Int) (n : Nat) (c m : Int) : Int := if (0 ≤ c ∧ c < (n : Int)) ∧ (0 ≤ m ∧ m ≤ 20) then ((orK K n c m : Nat) : Int) else -1
theorem ahK_r {K : Nat → Int} {D0 M0 : Int} {c : Nat} (hO : KO K D0 M0) (hc : c < 8) : ahK K c ≤ 320 := by
  unfold ahK
  have := swN_r (ov := ovK K) (wa := (waK K (K 42) (hdK K))) (o := ovK K c) c (fun q hq => waK_r hO (by omega))
  omega
theorem ovK_r {K : Nat → Int} {D0 M0 : Int} {c : Nat} (hO : KO K D0 M0) (hc : c < 8) : K (5 * c + 2) = ((ovK K c : Nat) : Int) ∧ ovK K c ≤ 1 := by
  have := (hO.f hc).2.2.1
  unfold ovK
  omega
theorem bkK_r {K : Nat → Int} {D0 M0 : Int} {o : Nat} (hO : KO K D0 M0) (hM0 : M0 ≤ 1100000) (ho : o ≤ 1) : K (43 + o) = ((bkK K o : Nat) : Int) ∧ bkK K o ≤ 1100000 := by
  have h1 := hO.b0
  have h2 := hO.b1
  unfold bkK
  rcases (show o = 0 ∨ o = 1 by omega) with rfl | rfl
  · show K 43 = (((K 43).toNat : Nat) : Int) ∧ (K 43).toNat ≤ 1100000; omega
  · show K 44 = (((K 44).toNat : Nat) : Int) ∧ (K 44).toNat ≤ 1100000; omega

set_option maxRecDepth 100000 in
set_option maxHeartbeats 4000000 in
theorem m_orders (l : Launch) (z : Zv) {g : Gm} {f : Fm} {K : Nat → Int} {D0 M0 : Int} {n : Nat} (hM : ML g) (hK : f 166 = K) (hO : KO K D0 M0) (hD0 : D0 ≤ 1000000) (hM0 : M0 ≤ 1100000) (hn : K 77 = ((n : Nat) : Int)) (hb20 : ∃ bk : Bool, f 164 20 = b01 (bk = true)) {D : Nat} (hD : 273 ≤ D) : PM l z D mX11_orders [.ref 164] g f 0 0 (fun r g' f' => r = some (.int (iI (((orK K n (-1) 0 : Nat) : Int)))) ∧ g = g' ∧ MSc f f') := by
  obtain ⟨d, rfl⟩ : ∃ d, D = d + 273 := ⟨D - 273, by omega⟩
  have hn8 : n ≤ 8 := by have := hO.n; omega
  have hp8 := pow8 hn8
  have hdy := hO.dy
  refine PM.of (by decide +kernel) (Nat.le_of_ble_eq_true rfl) ?_
  refine r_aload_n (pc := 0) 0 dX11_orders_0 rfl rfl ?_
  refine r_aload_n (pc := 1) 0 dX11_orders_1 rfl rfl ?_
  refine r_getR (pc := 2) (b := 166) dX11_orders_2 fl_X11_17 rfl hM.k hM.r2 ?_
  refine r_bipush (pc := 5) dX11_orders_5 (by decide) ?_
  refine r_ialdv (pc := 7) (w := K 42) dX11_orders_7 hM.a2 (by decide) (by decide) (congrFun hK 42) ?_
  refine r_callV (pc := 8) (As := [(.int (iI (K 42)))]) (S := []) dX11_orders_8 cv_X11_142 hM.k rfl (Nat.le_of_ble_eq_true rfl) (m_lays (day := K 42) l z hM hK hO hn hb20 (by omega) (D := d + 272) (by omega)) (Nat.zero_le _) (Nat.zero_le _) (fun r_8 g_8 f_8 q_8 => ?_)
  obtain ⟨rfl, rfl, hly⟩ := q_8
  have hMD := hly.md hK hO hM0 hn
  have hK8 : f_8 166 = K := by rw [hly.1 166 (by decide) (by decide) (by decide) (by decide) (by decide) (by decide)]; exact hK
  refine r_aload_n (pc := 11) 0 dX11_orders_11 rfl rfl ?_
  refine r_callV (pc := 12) (As := []) (S := []) dX11_orders_12 cv_X11_308 hM.k rfl (Nat.le_of_ble_eq_true rfl) (m_counts0 l z (d + 270) hM hMD) (Nat.zero_le _) (Nat.zero_le _) (fun r_12 g_12 f_12 q_12 => ?_)
  obtain ⟨rfl, rfl, hc1, hc2⟩ := q_12
  refine r_aload_n (pc := 15) 0 dX11_orders_15 rfl rfl ?_
  refine r_getR (pc := 16) (b := 181) dX11_orders_16 fl_X11_67 rfl hM.k hM.r29 ?_
  refine r_iconst (pc := 19) dX11_orders_19 ?_
  refine r_ialdv (pc := 20) (w := ((orK K n (-1) 0 : Nat) : Int)) dX11_orders_20 hM.a29 (by decide) (by decide) (by rw [← orK_no]; exact (hc2 0 (by omega)).2) ?_
  exact r_iret (pc := 21) dX11_orders_21 rfl rfl ⟨rfl, rfl, hly.mf.tr (fun q hq => hc1 q (by omega) (by omega))⟩

set_option maxRecDepth 100000 in
set_option maxHeartbeats 4000000 in
theorem m_chances (l : Launch) (z : Zv) {g : Gm} {f : Fm} {K : Nat → Int} {D0 M0 : Int} {n : Nat} (hM : ML g) (hK : f 166 = K) (hO : KO K D0 M0) (hD0 : D0 ≤ 1000000) (hM0 : M0 ≤ 1100000) (hn : K 77 = ((n : Nat) : Int)) (hb20 : ∃ bk : Bool, f 164 20 = b01 (bk = true)) {c m : Int} (h_c : -2147483648 ≤ c ∧ c ≤ 2147483647) (h_m : -2147483648 ≤ m ∧ m ≤ 2147483647) {D : Nat} (hD : 273 ≤ D) : PM l z D mX11_chances [.ref 164, .int (iI c), .int (iI m)] g f 0 0 (fun r g' f' => r = some (.int (iI (chA K n c m))) ∧ g = g' ∧ MSc f f') := by
  obtain ⟨d, rfl⟩ : ∃ d, D = d + 273 := ⟨D - 273, by omega⟩
  have hn8 : n ≤ 8 := by have := hO.n; omega
  have hp8 := pow8 hn8
  have hdy := hO.dy
  refine PM.of (by decide +kernel) (Nat.le_of_ble_eq_true rfl) ?_
  refine r_aload_n (pc := 0) 0 dX11_chances_0 rfl rfl ?_
  refine r_iload_n (pc := 1) 1 dX11_chances_1 rfl rfl ?_
  refine r_callV (pc := 2) (As := [(.int (iI (c)))]) (S := []) dX11_chances_2 cv_X11_134 hM.k rfl (Nat.le_of_ble_eq_true rfl) (m_isCustomer l z _ hM (by rw [hK, hn]; omega) (by omega)) (Nat.zero_le _) (Nat.zero_le _) (fun r_2 g_2 f_2 q_2 => ?_)
  obtain ⟨rfl, rfl, rfl⟩ := q_2
  refine r_eqI (y := b01 (0 ≤ c ∧ c < (n : Int))) (b01_iff (by rw [hK, hn]; omega)) ?_
  refine r_if_eq (pc := 5) (tgt := 18) dX11_chances_5 (by decide) (b01_r) (fun c_5 => ?_) (fun c_5 => ?_)
  · replace c_5 := b01_z c_5
    refine r_iconst (pc := 18) dX11_chances_18 ?_
    exact r_iret (pc := 19) dX11_chances_19 rfl rfl ⟨by unfold chA; rw [if_neg (fun q => by omega)], rfl, MSc.rf hb20⟩
  · replace c_5 := b01_nz c_5
    refine r_iload_n (pc := 8) 2 dX11_chances_8 rfl rfl ?_
    refine r_iconst (pc := 9) dX11_chances_9 ?_
    refine r_bipush (pc := 10) dX11_chances_10 (by decide) ?_
    refine r_callS (pc := 12) (As := [(.int (iI (m))), (.int (iI (0))), (.int (iI (20)))]) (S := []) dX11_chances_12 cs_X11_110 rfl (Nat.le_of_ble_eq_true rfl) (m_lies l z _ (by omega) (by omega) (by omega)) (Nat.zero_le _) (Nat.zero_le _) (fun r_12 g_12 f_12 q_12 => ?_)
    obtain ⟨rfl, rfl, rfl⟩ := q_12
    refine r_if_ne (pc := 15) (tgt := 20) dX11_chances_15 (by decide) (b01_r) (fun c_15 => ?_) (fun c_15 => ?_)
    · replace c_15 := b01_nz c_15
      refine r_aload_n (pc := 20) 0 dX11_chances_20 rfl rfl ?_
      refine r_aload_n (pc := 21) 0 dX11_chances_21 rfl rfl ?_
      refine r_getR (pc := 22) (b := 166) dX11_chances_22 fl_X11_17 rfl hM.k hM.r2 ?_
      refine r_bipush (pc := 25) dX11_chances_25 (by decide) ?_
      refine r_ialdv (pc := 27) (w := K 42) dX11_chances_27 hM.a2 (by decide) (by decide) (congrFun hK 42) ?_
      refine r_callV (pc := 28) (As := [(.int (iI (K 42)))]) (S := []) dX11_chances_28 cv_X11_142 hM.k rfl (Nat.le_of_ble_eq_true rfl) (m_lays (day := K 42) l z hM hK hO hn hb20 (by omega) (D := d + 272) (by omega)) (Nat.zero_le _) (Nat.zero_le _) (fun r_28 g_28 f_28 q_28 => ?_)
      obtain ⟨rfl, rfl, hly⟩ := q_28
      have hMD := hly.md hK hO hM0 hn
      have hK8 : f_28 166 = K := by rw [hly.1 166 (by decide) (by decide) (by decide) (by decide) (by decide) (by decide)]; exact hK
      refine r_aload_n (pc := 31) 0 dX11_chances_31 rfl rfl ?_
      refine r_iload_n (pc := 32) 1 dX11_chances_32 rfl rfl ?_
      refine r_eqI (y := ((c.toNat : Nat) : Int)) (by omega) ?_
      refine r_iload_n (pc := 33) 2 dX11_chances_33 rfl rfl ?_
      refine r_callV (pc := 34) (As := [(.int (iI (((c.toNat : Nat) : Int)))), (.int (iI (m)))]) (S := []) dX11_chances_34 cv_X11_345 hM.k rfl (Nat.le_of_ble_eq_true rfl) (m_chanceOf (c := c.toNat) (many := m) (dz := K 40) (lp := K 41) (a2 := (wmk (fun c => decide (ovK K c ≠ 0)) n)) l z (d + 269) hM hMD (congrFun hK8 40) (congrFun hK8 41) hO.dz hO.lp (by omega) (by omega) (fun k hk => ov_bit K hk)) (Nat.zero_le _) (Nat.zero_le _) (fun r_34 g_34 f_34 q_34 => ?_)
      obtain ⟨rfl, rfl, hc1⟩ := q_34
      exact r_iret (pc := 37) dX11_chances_37 rfl rfl ⟨by unfold chA; rw [if_pos (show (0 ≤ c ∧ c < (n : Int)) ∧ (0 ≤ m ∧ m ≤ 20) from ⟨by omega, by omega⟩), show ((c.toNat : Nat) : Int) = c by omega]; rfl, rfl, hly.mf.tr (fun q hq => hc1 q (by omega) (by omega))⟩
    · replace c_15 := b01_z c_15
      refine r_iconst (pc := 18) dX11_chances_18 ?_
      exact r_iret (pc := 19) dX11_chances_19 rfl rfl ⟨by unfold chA; rw [if_neg (fun q => by omega)], rfl, MSc.rf hb20⟩

set_option maxRecDepth 100000 in
set_option maxHeartbeats 4000000 in
theorem m_of (l : Launch) (z : Zv) {g : Gm} {f : Fm} {K : Nat → Int} {D0 M0 : Int} {n : Nat} (hM : ML g) (hK : f 166 = K) (hO : KO K D0 M0) (hD0 : D0 ≤ 1000000) (hM0 : M0 ≤ 1100000) (hn : K 77 = ((n : Nat) : Int)) (hb20 : ∃ bk : Bool, f 164 20 = b01 (bk = true)) {c w : Int} (h_c : -2147483648 ≤ c ∧ c ≤ 2147483647) (h_w : -2147483648 ≤ w ∧ w ≤ 2147483647) {D : Nat} (hD : 273 ≤ D) : PM l z D mX11_of [.ref 164, .int (iI c), .int (iI w)] g f 0 0 (fun r g' f' => r = some (.int (iI (ofA K n c w))) ∧ g = g' ∧ MSc f f') := by
  obtain ⟨d, rfl⟩ : ∃ d, D = d + 273 := ⟨D - 273, by omega⟩
  have hn8 : n ≤ 8 := by have := hO.n; omega
  have hp8 := pow8 hn8
  have hdy := hO.dy
  refine PM.of (by decide +kernel) (Nat.le_of_ble_eq_true rfl) ?_
  refine r_aload_n (pc := 0) 0 dX11_of_0 rfl rfl ?_
  refine r_iload_n (pc := 1) 1 dX11_of_1 rfl rfl ?_
  refine r_callV (pc := 2) (As := [(.int (iI (c)))]) (S := []) dX11_of_2 cv_X11_134 hM.k rfl (Nat.le_of_ble_eq_true rfl) (m_isCustomer l z _ hM (by rw [hK, hn]; omega) (by omega)) (Nat.zero_le _) (Nat.zero_le _) (fun r_2 g_2 f_2 q_2 => ?_)
  obtain ⟨rfl, rfl, rfl⟩ := q_2
  refine r_eqI (y := b01 (0 ≤ c ∧ c < (n : Int))) (b01_iff (by rw [hK, hn]; omega)) ?_
  refine r_if_eq (pc := 5) (tgt := 17) dX11_of_5 (by decide) (b01_r) (fun c_5 => ?_) (fun c_5 => ?_)
  · replace c_5 := b01_z c_5
    refine r_iconst (pc := 17) dX11_of_17 ?_
    exact r_iret (pc := 18) dX11_of_18 rfl rfl ⟨by unfold ofA; rw [if_neg (fun q => by omega)], rfl, MSc.rf hb20⟩
  · replace c_5 := b01_nz c_5
    refine r_iload_n (pc := 8) 2 dX11_of_8 rfl rfl ?_
    refine r_iconst (pc := 9) dX11_of_9 ?_
    refine r_iconst (pc := 10) dX11_of_10 ?_
    refine r_callS (pc := 11) (As := [(.int (iI (w))), (.int (iI (0))), (.int (iI (5)))]) (S := []) dX11_of_11 cs_X11_110 rfl (Nat.le_of_ble_eq_true rfl) (m_lies l z _ (by omega) (by omega) (by omega)) (Nat.zero_le _) (Nat.zero_le _) (fun r_11 g_11 f_11 q_11 => ?_)
    obtain ⟨rfl, rfl, rfl⟩ := q_11
    refine r_if_ne (pc := 14) (tgt := 19) dX11_of_14 (by decide) (b01_r) (fun c_14 => ?_) (fun c_14 => ?_)
    · replace c_14 := b01_nz c_14
      refine r_iload_n (pc := 19) 2 dX11_of_19 rfl rfl ?_
      refine r_iconst (pc := 20) dX11_of_20 ?_
      refine r_icmp_ge (pc := 21) (tgt := 31) dX11_of_21 (by decide) (by omega) (by omega) (fun c_21 => ?_) (fun c_21 => ?_)
      · refine r_aload_n (pc := 31) 0 dX11_of_31 rfl rfl ?_
        refine r_aload_n (pc := 32) 0 dX11_of_32 rfl rfl ?_
        refine r_getR (pc := 33) (b := 166) dX11_of_33 fl_X11_17 rfl hM.k hM.r2 ?_
        refine r_bipush (pc := 36) dX11_of_36 (by decide) ?_
        refine r_ialdv (pc := 38) (w := K 42) dX11_of_38 hM.a2 (by decide) (by decide) (congrFun hK 42) ?_
        refine r_callV (pc := 39) (As := [(.int (iI (K 42)))]) (S := []) dX11_of_39 cv_X11_142 hM.k rfl (Nat.le_of_ble_eq_true rfl) (m_lays (day := K 42) l z hM hK hO hn hb20 (by omega) (D := d + 272) (by omega)) (Nat.zero_le _) (Nat.zero_le _) (fun r_39 g_39 f_39 q_39 => ?_)
        obtain ⟨rfl, rfl, hly⟩ := q_39
        have hMD := hly.md hK hO hM0 hn
        have hK8 : f_39 166 = K := by rw [hly.1 166 (by decide) (by decide) (by decide) (by decide) (by decide) (by decide)]; exact hK
        refine r_aload_n (pc := 42) 0 dX11_of_42 rfl rfl ?_
        refine r_getR (pc := 43) (b := 176) dX11_of_43 fl_X11_52 rfl hM.k hM.r24 ?_
        refine r_iload_n (pc := 46) 1 dX11_of_46 rfl rfl ?_
        refine r_ialdv (pc := 47) (w := ((waK K (K 42) (hdK K) c.toNat : Nat) : Int)) dX11_of_47 hM.a24 (by omega) (by decide) ((hMD.2.2.2.1 c.toNat (by omega)).1) ?_
        exact r_iret (pc := 48) dX11_of_48 rfl rfl ⟨by unfold ofA; rw [if_pos (show (0 ≤ c ∧ c < (n : Int)) ∧ (0 ≤ w ∧ w ≤ 5) from ⟨by omega, by omega⟩), if_neg (show ¬ w < 5 by omega)], rfl, hly.mf⟩
      · refine r_aload_n (pc := 24) 0 dX11_of_24 rfl rfl ?_
        refine r_iload_n (pc := 25) 1 dX11_of_25 rfl rfl ?_
        refine r_iload_n (pc := 26) 2 dX11_of_26 rfl rfl ?_
        refine r_callV (pc := 27) (As := [(.int (iI (c))), (.int (iI (w)))]) (S := []) dX11_of_27 cv_X11_138 hM.k rfl (Nat.le_of_ble_eq_true rfl) (m_factOf (c := c) (w := w) l z _ hM (by omega) (by omega)) (Nat.zero_le _) (Nat.zero_le _) (fun r_27 g_27 f_27 q_27 => ?_)
        obtain ⟨rfl, rfl, rfl⟩ := q_27
        refine r_eqI (y := K (5 * c.toNat + w.toNat)) (by rw [hK, show (5 * c + w).toNat = 5 * c.toNat + w.toNat by omega]) ?_
        exact r_iret (pc := 30) dX11_of_30 rfl rfl ⟨by unfold ofA; rw [if_pos (show (0 ≤ c ∧ c < (n : Int)) ∧ (0 ≤ w ∧ w ≤ 5) from ⟨by omega, by omega⟩), if_pos (show w < 5 by omega)], rfl, MSc.rf hb20⟩
    · replace c_14 := b01_z c_14
      refine r_iconst (pc := 17) dX11_of_17 ?_
      exact r_iret (pc := 18) dX11_of_18 rfl rfl ⟨by unfold ofA; rw [if_neg (fun q => by omega)], rfl, MSc.rf hb20⟩

theorem wt_w {K : Nat → Int} {n c o : Nat} (ho : o < n) (hne : o ≠ c) : (wtK K (K 42) (hdK K) n c).testBit o = true ↔ waitK K (K 42) (K (5 * c + 3)) c o = true := by
  unfold wtK hdK
  rw [wmk_bit, decide_eq_true ho, decide_eq_true hne]
  simp

set_option maxRecDepth 100000 in
set_option maxHeartbeats 4000000 in
theorem m_waits (l : Launch) (z : Zv) {g : Gm} {f : Fm} {K : Nat → Int} {D0 M0 : Int} {n : Nat} (hM : ML g) (hK : f 166 = K) (hO : KO K D0 M0) (hD0 : D0 ≤ 1000000) (hM0 : M0 ≤ 1100000) (hn : K 77 = ((n : Nat) : Int)) (hb20 : ∃ bk : Bool, f 164 20 = b01 (bk = true)) {c o : Int} (h_c : -2147483648 ≤ c ∧ c ≤ 2147483647) (h_o : -2147483648 ≤ o ∧ o ≤ 2147483647) {D : Nat} (hD : 273 ≤ D) : PM l z D mX11_waits [.ref 164, .int (iI c), .int (iI o)] g f 0 0 (fun r g' f' => r = some (.int (iI (waA K n c o))) ∧ g = g' ∧ MSc f f') := by
  obtain ⟨d, rfl⟩ : ∃ d, D = d + 273 := ⟨D - 273, by omega⟩
  have hn8 : n ≤ 8 := by have := hO.n; omega
  have hp8 := pow8 hn8
  have hdy := hO.dy
  refine PM.of (by decide +kernel) (Nat.le_of_ble_eq_true rfl) ?_
  refine r_aload_n (pc := 0) 0 dX11_waits_0 rfl rfl ?_
  refine r_iload_n (pc := 1) 1 dX11_waits_1 rfl rfl ?_
  refine r_callV (pc := 2) (As := [(.int (iI (c)))]) (S := []) dX11_waits_2 cv_X11_134 hM.k rfl (Nat.le_of_ble_eq_true rfl) (m_isCustomer l z _ hM (by rw [hK, hn]; omega) (by omega)) (Nat.zero_le _) (Nat.zero_le _) (fun r_2 g_2 f_2 q_2 => ?_)
  obtain ⟨rfl, rfl, rfl⟩ := q_2
  refine r_eqI (y := b01 (0 ≤ c ∧ c < (n : Int))) (b01_iff (by rw [hK, hn]; omega)) ?_
  refine r_if_eq (pc := 5) (tgt := 21) dX11_waits_5 (by decide) (b01_r) (fun c_5 => ?_) (fun c_5 => ?_)
  · replace c_5 := b01_z c_5
    refine r_iconst (pc := 21) dX11_waits_21 ?_
    exact r_iret (pc := 22) dX11_waits_22 rfl rfl ⟨by unfold waA; rw [if_neg (fun q => by omega)], rfl, MSc.rf hb20⟩
  · replace c_5 := b01_nz c_5
    refine r_aload_n (pc := 8) 0 dX11_waits_8 rfl rfl ?_
    refine r_iload_n (pc := 9) 2 dX11_waits_9 rfl rfl ?_
    refine r_callV (pc := 10) (As := [(.int (iI (o)))]) (S := []) dX11_waits_10 cv_X11_134 hM.k rfl (Nat.le_of_ble_eq_true rfl) (m_isCustomer l z _ hM (by rw [hK, hn]; omega) (by omega)) (Nat.zero_le _) (Nat.zero_le _) (fun r_10 g_10 f_10 q_10 => ?_)
    obtain ⟨rfl, rfl, rfl⟩ := q_10
    refine r_eqI (y := b01 (0 ≤ o ∧ o < (n : Int))) (b01_iff (by rw [hK, hn]; omega)) ?_
    refine r_if_eq (pc := 13) (tgt := 21) dX11_waits_13 (by decide) (b01_r) (fun c_13 => ?_) (fun c_13 => ?_)
    · replace c_13 := b01_z c_13
      refine r_iconst (pc := 21) dX11_waits_21 ?_
      exact r_iret (pc := 22) dX11_waits_22 rfl rfl ⟨by unfold waA; rw [if_neg (fun q => by omega)], rfl, MSc.rf hb20⟩
    · replace c_13 := b01_nz c_13
      refine r_iload_n (pc := 16) 1 dX11_waits_16 rfl rfl ?_
      refine r_iload_n (pc := 17) 2 dX11_waits_17 rfl rfl ?_
      refine r_icmp_ne (pc := 18) (tgt := 23) dX11_waits_18 (by decide) (by omega) (by omega) (fun c_18 => ?_) (fun c_18 => ?_)
      · refine r_aload_n (pc := 23) 0 dX11_waits_23 rfl rfl ?_
        refine r_aload_n (pc := 24) 0 dX11_waits_24 rfl rfl ?_
        refine r_getR (pc := 25) (b := 166) dX11_waits_25 fl_X11_17 rfl hM.k hM.r2 ?_
        refine r_bipush (pc := 28) dX11_waits_28 (by decide) ?_
        refine r_ialdv (pc := 30) (w := K 42) dX11_waits_30 hM.a2 (by decide) (by decide) (congrFun hK 42) ?_
        refine r_callV (pc := 31) (As := [(.int (iI (K 42)))]) (S := []) dX11_waits_31 cv_X11_142 hM.k rfl (Nat.le_of_ble_eq_true rfl) (m_lays (day := K 42) l z hM hK hO hn hb20 (by omega) (D := d + 272) (by omega)) (Nat.zero_le _) (Nat.zero_le _) (fun r_31 g_31 f_31 q_31 => ?_)
        obtain ⟨rfl, rfl, hly⟩ := q_31
        have hMD := hly.md hK hO hM0 hn
        have hK8 : f_31 166 = K := by rw [hly.1 166 (by decide) (by decide) (by decide) (by decide) (by decide) (by decide)]; exact hK
        refine r_aload_n (pc := 34) 0 dX11_waits_34 rfl rfl ?_
        refine r_getR (pc := 35) (b := 177) dX11_waits_35 fl_X11_55 rfl hM.k hM.r25 ?_
        refine r_iload_n (pc := 38) 1 dX11_waits_38 rfl rfl ?_
        refine r_ialdv (pc := 39) (w := ((wtK K (K 42) (hdK K) n c.toNat : Nat) : Int)) dX11_waits_39 hM.a25 (by omega) (by decide) ((hMD.2.2.2.2.1 c.toNat (by omega)).1) ?_
        refine r_iload_n (pc := 40) 2 dX11_waits_40 rfl rfl ?_
        refine r_eqI (y := ((o.toNat : Nat) : Int)) (by omega) ?_
        refine r_callS (pc := 41) (As := [(.int (iI (((wtK K (K 42) (hdK K) n c.toNat : Nat) : Int)))), (.int (iI (((o.toNat : Nat) : Int))))]) (S := []) dX11_waits_41 cs_X11_287 rfl (Nat.le_of_ble_eq_true rfl) (m_isIn (s := wtK K (K 42) (hdK K) n c.toNat) (c := o.toNat) l z _ (by have := hMD.t8 (c := c.toNat) (by omega); omega) (by omega)) (Nat.zero_le _) (Nat.zero_le _) (fun r_41 g_41 f_41 q_41 => ?_)
        obtain ⟨rfl, rfl, rfl⟩ := q_41
        refine r_eqI (y := b01 (waitK K (K 42) (K (5 * c.toNat + 3)) c.toNat o.toNat = true)) (b01_iff (wt_w (by omega) (by omega))) ?_
        refine r_if_eq (pc := 44) (tgt := 51) dX11_waits_44 (by decide) (b01_r) (fun c_44 => ?_) (fun c_44 => ?_)
        · replace c_44 := b01_z c_44
          refine r_iconst (pc := 51) dX11_waits_51 ?_
          exact r_iret (pc := 52) dX11_waits_52 rfl rfl ⟨by unfold waA; rw [if_pos (show (0 ≤ c ∧ c < (n : Int)) ∧ (0 ≤ o ∧ o < (n : Int)) ∧ c ≠ o from ⟨by omega, by omega, by omega⟩), b01_f c_44], rfl, hly.mf⟩
        · replace c_44 := b01_nz c_44
          refine r_iconst (pc := 47) dX11_waits_47 ?_
          refine r_goto (pc := 48) (tgt := 52) dX11_waits_48 (by decide) ?_
          exact r_iret (pc := 52) dX11_waits_52 rfl rfl ⟨by unfold waA; rw [if_pos (show (0 ≤ c ∧ c < (n : Int)) ∧ (0 ≤ o ∧ o < (n : Int)) ∧ c ≠ o from ⟨by omega, by omega, by omega⟩), b01_t c_44], rfl, hly.mf⟩
      · refine r_iconst (pc := 21) dX11_waits_21 ?_
        exact r_iret (pc := 22) dX11_waits_22 rfl rfl ⟨by unfold waA; rw [if_neg (fun q => by omega)], rfl, MSc.rf hb20⟩

set_option maxRecDepth 100000 in
set_option maxHeartbeats 4000000 in
theorem m_served (l : Launch) (z : Zv) {g : Gm} {f : Fm} {K : Nat → Int} {D0 M0 : Int} {n : Nat} (hM : ML g) (hK : f 166 = K) (hO : KO K D0 M0) (hD0 : D0 ≤ 1000000) (hM0 : M0 ≤ 1100000) (hn : K 77 = ((n : Nat) : Int)) (hb20 : ∃ bk : Bool, f 164 20 = b01 (bk = true)) {c w : Int} (h_c : -2147483648 ≤ c ∧ c ≤ 2147483647) (h_w : -2147483648 ≤ w ∧ w ≤ 2147483647) {D : Nat} (hD : 273 ≤ D) : PM l z D mX11_served [.ref 164, .int (iI c), .int (iI w)] g f 0 0 (fun r g' f' => r = some (.int (iI (sdA K n c w))) ∧ g = g' ∧ MSc f f') := by
  obtain ⟨d, rfl⟩ : ∃ d, D = d + 273 := ⟨D - 273, by omega⟩
  have hn8 : n ≤ 8 := by have := hO.n; omega
  have hp8 := pow8 hn8
  have hdy := hO.dy
  refine PM.of (by decide +kernel) (Nat.le_of_ble_eq_true rfl) ?_
  refine r_aload_n (pc := 0) 0 dX11_served_0 rfl rfl ?_
  refine r_iload_n (pc := 1) 1 dX11_served_1 rfl rfl ?_
  refine r_callV (pc := 2) (As := [(.int (iI (c)))]) (S := []) dX11_served_2 cv_X11_134 hM.k rfl (Nat.le_of_ble_eq_true rfl) (m_isCustomer l z _ hM (by rw [hK, hn]; omega) (by omega)) (Nat.zero_le _) (Nat.zero_le _) (fun r_2 g_2 f_2 q_2 => ?_)
  obtain ⟨rfl, rfl, rfl⟩ := q_2
  refine r_eqI (y := b01 (0 ≤ c ∧ c < (n : Int))) (b01_iff (by rw [hK, hn]; omega)) ?_
  refine r_if_eq (pc := 5) (tgt := 17) dX11_served_5 (by decide) (b01_r) (fun c_5 => ?_) (fun c_5 => ?_)
  · replace c_5 := b01_z c_5
    refine r_iconst (pc := 17) dX11_served_17 ?_
    exact r_iret (pc := 18) dX11_served_18 rfl rfl ⟨by unfold sdA; rw [if_neg (fun q => by omega)], rfl, MSc.rf hb20⟩
  · replace c_5 := b01_nz c_5
    refine r_iload_n (pc := 8) 2 dX11_served_8 rfl rfl ?_
    refine r_iconst (pc := 9) dX11_served_9 ?_
    refine r_iconst (pc := 10) dX11_served_10 ?_
    refine r_callS (pc := 11) (As := [(.int (iI (w))), (.int (iI (0))), (.int (iI (1)))]) (S := []) dX11_served_11 cs_X11_110 rfl (Nat.le_of_ble_eq_true rfl) (m_lies l z _ (by omega) (by omega) (by omega)) (Nat.zero_le _) (Nat.zero_le _) (fun r_11 g_11 f_11 q_11 => ?_)
    obtain ⟨rfl, rfl, rfl⟩ := q_11
    refine r_if_ne (pc := 14) (tgt := 19) dX11_served_14 (by decide) (b01_r) (fun c_14 => ?_) (fun c_14 => ?_)
    · replace c_14 := b01_nz c_14
      refine r_aload_n (pc := 19) 0 dX11_served_19 rfl rfl ?_
      refine r_aload_n (pc := 20) 0 dX11_served_20 rfl rfl ?_
      refine r_getR (pc := 21) (b := 166) dX11_served_21 fl_X11_17 rfl hM.k hM.r2 ?_
      refine r_bipush (pc := 24) dX11_served_24 (by decide) ?_
      refine r_ialdv (pc := 26) (w := K 42) dX11_served_26 hM.a2 (by decide) (by decide) (congrFun hK 42) ?_
      refine r_callV (pc := 27) (As := [(.int (iI (K 42)))]) (S := []) dX11_served_27 cv_X11_142 hM.k rfl (Nat.le_of_ble_eq_true rfl) (m_lays (day := K 42) l z hM hK hO hn hb20 (by omega) (D := d + 272) (by omega)) (Nat.zero_le _) (Nat.zero_le _) (fun r_27 g_27 f_27 q_27 => ?_)
      obtain ⟨rfl, rfl, hly⟩ := q_27
      have hMD := hly.md hK hO hM0 hn
      have hK8 : f_27 166 = K := by rw [hly.1 166 (by decide) (by decide) (by decide) (by decide) (by decide) (by decide)]; exact hK
      refine r_iconst (pc := 30) dX11_served_30 ?_
      have hp7 := Nat.pow_le_pow_right (n := 2) (by decide) (show c.toNat ≤ 7 by omega)
      have hp1 : 1 ≤ 2 ^ c.toNat := Nat.one_le_two_pow
      refine r_iload_n (pc := 31) 1 dX11_served_31 rfl rfl ?_
      refine r_eqI (y := ((c.toNat : Nat) : Int)) (by omega) ?_
      refine r_ishl (pc := 32) (w := ((2 ^ (c.toNat) : Nat) : Int)) dX11_served_32  (iI_shl1 (by omega)) ?_
      refine r_iconst (pc := 33) dX11_served_33 ?_
      refine r_isub (pc := 34) dX11_served_34 ?_
      refine r_eqI (y := ((2 ^ c.toNat - 1 : Nat) : Int)) (by omega) ?_
      refine r_istore_n (pc := 35) (L2 := [(3, (.int (iI (((2 ^ c.toNat - 1 : Nat) : Int))))), (0, (.ref 164)), (1, (.int (iI (c)))), (2, (.int (iI (w))))]) dX11_served_35 rfl (by decide) rfl ?_
      refine r_iload_n (pc := 36) 3 dX11_served_36 rfl rfl ?_
      refine r_if_ne (pc := 37) (tgt := 49) dX11_served_37 (by decide) (by omega) (fun c_37 => ?_) (fun c_37 => ?_)
      · refine r_aload_n (pc := 49) 1 dX11_served_49 rfl rfl ?_
        refine r_getR (pc := 50) (b := 176) dX11_served_50 fl_X11_52 rfl hM.k hM.r24 ?_
        refine r_iload_n (pc := 53) 2 dX11_served_53 rfl rfl ?_
        refine r_ialdv (pc := 54) (w := ((waK K (K 42) (hdK K) c.toNat : Nat) : Int)) dX11_served_54 hM.a24 (by omega) (by decide) ((hMD.2.2.2.1 c.toNat (by omega)).1) ?_
        refine r_if_ne (pc := 55) (tgt := 62) dX11_served_55 (by decide) (by have := hMD.w4 (c := c.toNat) (by omega); omega) (fun c_55 => ?_) (fun c_55 => ?_)
        · refine r_aload_n (pc := 62) 1 dX11_served_62 rfl rfl ?_
          refine r_iload_n (pc := 63) 0 dX11_served_63 rfl rfl ?_
          refine r_iload_n (pc := 64) 2 dX11_served_64 rfl rfl ?_
          refine r_eqI (y := ((c.toNat : Nat) : Int)) (by omega) ?_
          refine r_callV (pc := 65) (As := [(.int (iI (((2 ^ c.toNat - 1 : Nat) : Int)))), (.int (iI (((c.toNat : Nat) : Int))))]) (S := []) dX11_served_65 cv_X11_296 hM.k rfl (Nat.le_of_ble_eq_true rfl) (m_startOf (s := 2 ^ c.toNat - 1) (c := c.toNat) l z (d + 271) hM hMD (by omega) (by omega)) (Nat.zero_le _) (Nat.zero_le _) (fun r_65 g_65 f_65 q_65 => ?_)
          obtain ⟨rfl, rfl, rfl⟩ := q_65
          refine r_eqI (y := ((bkK K (ovK K c.toNat) + ahK K c.toNat : Nat) : Int)) (stV_told (by omega)) ?_
          refine r_iconst (pc := 68) dX11_served_68 ?_
          refine r_iadd (pc := 69) dX11_served_69 ?_
          refine r_eqI (y := ((bkK K (ovK K c.toNat) + ahK K c.toNat + 1 : Nat) : Int)) (Int.natCast_add _ _ |>.symm) ?_
          exact r_iret (pc := 70) dX11_served_70 rfl rfl ⟨by unfold sdA; rw [if_pos (show (0 ≤ c ∧ c < (n : Int)) ∧ (0 ≤ w ∧ w ≤ 1) from ⟨by omega, by omega⟩), if_neg (show ¬ w = 0 by omega), if_neg (show ¬ (waK K (K 42) (hdK K)) c.toNat = 0 by omega)], rfl, hly.mf⟩
        · refine r_iconst (pc := 58) dX11_served_58 ?_
          refine r_goto (pc := 59) (tgt := 70) dX11_served_59 (by decide) ?_
          exact r_iret (pc := 70) dX11_served_70 rfl rfl ⟨by unfold sdA; rw [if_pos (show (0 ≤ c ∧ c < (n : Int)) ∧ (0 ≤ w ∧ w ≤ 1) from ⟨by omega, by omega⟩), if_neg (show ¬ w = 0 by omega), if_pos (show (waK K (K 42) (hdK K)) c.toNat = 0 by omega)], rfl, hly.mf⟩
      · refine r_aload_n (pc := 40) 1 dX11_served_40 rfl rfl ?_
        refine r_iload_n (pc := 41) 0 dX11_served_41 rfl rfl ?_
        refine r_iload_n (pc := 42) 2 dX11_served_42 rfl rfl ?_
        refine r_eqI (y := ((c.toNat : Nat) : Int)) (by omega) ?_
        refine r_callV (pc := 43) (As := [(.int (iI (((2 ^ c.toNat - 1 : Nat) : Int)))), (.int (iI (((c.toNat : Nat) : Int))))]) (S := []) dX11_served_43 cv_X11_299 hM.k rfl (Nat.le_of_ble_eq_true rfl) (m_getsOf (s := 2 ^ c.toNat - 1) (c := c.toNat) l z (d + 270) hM hMD (congrFun hK8 40) (congrFun hK8 41) hO.dz hO.lp (by omega) (by omega)) (Nat.zero_le _) (Nat.zero_le _) (fun r_43 g_43 f_43 q_43 => ?_)
        obtain ⟨rfl, rfl, rfl⟩ := q_43
        refine r_eqI (y := blA (K 40) (K 41) (((bkK K (ovK K c.toNat) + ahK K c.toNat : Nat) : Int) + (((waK K (K 42) (hdK K)) c.toNat : Nat) : Int)) - blA (K 40) (K 41) ((bkK K (ovK K c.toNat) + ahK K c.toNat : Nat) : Int)) (by unfold geV; rw [stV_told (by omega)]; rfl) ?_
        refine r_goto (pc := 46) (tgt := 70) dX11_served_46 (by decide) ?_
        exact r_iret (pc := 70) dX11_served_70 rfl rfl ⟨by unfold sdA; rw [if_pos (show (0 ≤ c ∧ c < (n : Int)) ∧ (0 ≤ w ∧ w ≤ 1) from ⟨by omega, by omega⟩), if_pos (show w = 0 by omega)], rfl, hly.mf⟩
    · replace c_14 := b01_z c_14
      refine r_iconst (pc := 17) dX11_served_17 ?_
      exact r_iret (pc := 18) dX11_served_18 rfl rfl ⟨by unfold sdA; rw [if_neg (fun q => by omega)], rfl, MSc.rf hb20⟩

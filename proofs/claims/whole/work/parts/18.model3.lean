def sumN : Nat → (Nat → Int) → Int
  | 0, _ => 0
  | n + 1, F => sumN n F + F n
/-- what the model has laid of a day: customers, ovens, wants, whom they wait for, what was baked -/
def MD (f : Fm) (n : Nat) (ov wa wt bk : Nat → Nat) : Prop := f 166 77 = (n : Int) ∧ n ≤ 8 ∧ (∀ c, c < n → f 166 (5 * c + 2) = (ov c : Int) ∧ ov c ≤ 1) ∧ (∀ c, c < n → f 176 c = (wa c : Int) ∧ wa c ≤ 40) ∧ (∀ c, c < n → f 177 c = (wt c : Int) ∧ wt c < 256) ∧ ∀ o, o ≤ 1 → f 178 o = (bk o : Int) ∧ bk o ≤ 1100000
theorem MD.n {f : Fm} {n : Nat} {ov wa wt bk : Nat → Nat} (h : MD f n ov wa wt bk) : f 166 77 = (n : Int) := h.1
theorem MD.n8 {f : Fm} {n : Nat} {ov wa wt bk : Nat → Nat} (h : MD f n ov wa wt bk) : n ≤ 8 := h.2.1
theorem MD.o {f : Fm} {n : Nat} {ov wa wt bk : Nat → Nat} (h : MD f n ov wa wt bk) {c : Nat} (hc : c < n) : f 166 (5 * (c : Int) + 2).toNat = (ov c : Int) := (h.2.2.1 c hc).1
theorem MD.o1 {f : Fm} {n : Nat} {ov wa wt bk : Nat → Nat} (h : MD f n ov wa wt bk) {c : Nat} (hc : c < n) : ov c ≤ 1 := (h.2.2.1 c hc).2
theorem MD.w {f : Fm} {n : Nat} {ov wa wt bk : Nat → Nat} (h : MD f n ov wa wt bk) {c : Nat} (hc : c < n) : f 176 (c : Int).toNat = (wa c : Int) := (h.2.2.2.1 c hc).1
theorem MD.w4 {f : Fm} {n : Nat} {ov wa wt bk : Nat → Nat} (h : MD f n ov wa wt bk) {c : Nat} (hc : c < n) : wa c ≤ 40 := (h.2.2.2.1 c hc).2
theorem MD.t {f : Fm} {n : Nat} {ov wa wt bk : Nat → Nat} (h : MD f n ov wa wt bk) {c : Nat} (hc : c < n) : f 177 (c : Int).toNat = (wt c : Int) := (h.2.2.2.2.1 c hc).1
theorem MD.t8 {f : Fm} {n : Nat} {ov wa wt bk : Nat → Nat} (h : MD f n ov wa wt bk) {c : Nat} (hc : c < n) : wt c < 256 := (h.2.2.2.2.1 c hc).2
theorem MD.b {f : Fm} {n : Nat} {ov wa wt bk : Nat → Nat} (h : MD f n ov wa wt bk) {o : Nat} (ho : o ≤ 1) : f 178 (o : Int).toNat = (bk o : Int) := (h.2.2.2.2.2 o ho).1
theorem MD.b1 {f : Fm} {n : Nat} {ov wa wt bk : Nat → Nat} (h : MD f n ov wa wt bk) {o : Nat} (ho : o ≤ 1) : bk o ≤ 1100000 := (h.2.2.2.2.2 o ho).2
/-- the loaves of c's oven ahead of him behind the set s -/
def stT (ov wa : Nat → Nat) (s c k : Nat) : Int := if s.testBit k = true ∧ ov k = ov c then (wa k : Int) else 0
def stV (n : Nat) (ov wa bk : Nat → Nat) (s c : Nat) : Int := (bk (ov c) : Int) + sumN n (stT ov wa s c)
def geV (dz lp : Int) (n : Nat) (ov wa bk : Nat → Nat) (s c : Nat) : Int := blA dz lp (stV n ov wa bk s c + wa c) - blA dz lp (stV n ov wa bk s c)
def mayP (wt : Nat → Nat) (s c : Nat) : Prop := ¬ s.testBit c = true ∧ ndf (wt c) s = 0
def instMay (wt : Nat → Nat) (s c : Nat) : Decidable (mayP wt s c) := by unfold mayP; infer_instance
theorem stT_r {ov wa : Nat → Nat} {s c k : Nat} (h : wa k ≤ 40) : 0 ≤ stT ov wa s c k ∧ stT ov wa s c k ≤ 40 := by
  unfold stT; split <;> omega
theorem stS_r {ov wa : Nat → Nat} {s c : Nat} : ∀ n : Nat, (∀ k, k < n → wa k ≤ 40) → 0 ≤ sumN n (stT ov wa s c) ∧ sumN n (stT ov wa s c) ≤ 40 * (n : Int)
  | 0, _ => by simp [sumN]
  | n + 1, h => by
    have h1 := stS_r (ov := ov) (s := s) (c := c) n (fun k hk => h k (by omega))
    have h2 := stT_r (ov := ov) (s := s) (c := c) (h n (by omega))
    simp only [sumN]
    omega
theorem stV_r {f : Fm} {n : Nat} {ov wa wt bk : Nat → Nat} (h : MD f n ov wa wt bk) {s c : Nat} (hc : c < n) : 0 ≤ stV n ov wa bk s c ∧ stV n ov wa bk s c ≤ 1100400 := by
  have h1 := stS_r (ov := ov) (s := s) (c := c) n (fun k hk => h.w4 hk)
  have h2 := h.b1 (h.o1 hc)
  have h3 := h.n8
  have h4 : stV n ov wa bk s c = (bk (ov c) : Int) + sumN n (stT ov wa s c) := rfl
  rw [h4]
  generalize sumN n (stT ov wa s c) = X at h1 ⊢
  omega

set_option maxRecDepth 100000 in
set_option maxHeartbeats 4000000 in
theorem m_startOf (l : Launch) (z : Zv) (d : Nat) {g : Gm} {f : Fm} {s c : Nat} {n : Nat} {ov wa wt bk : Nat → Nat} (hM : ML g) (hD : MD f n ov wa wt bk) (hs : s < 2147483648) (hc : c < n) : PM l z (d + 1) mX11_startOf [(.ref 164), (.int (iI (((s : Nat) : Int)))), (.int (iI (((c : Nat) : Int))))] g f 0 0 (rdQ (.int (iI (stV n ov wa bk s c))) g f) := by
  refine PM.of (by decide +kernel) (Nat.le_of_ble_eq_true rfl) ?_
  have h8 := hD.n8
  have loop : ∀ m j : Nat, m = n - j → j ≤ n → PW l z (d + 1) mX11_startOf 0 0 (rdQ (.int (iI (stV n ov wa bk s c))) g f) 15 [(3, (.int (iI (((bk (ov c) : Nat) : Int) + sumN j (stT ov wa s c))))), (4, (.int (iI (((j : Nat) : Int))))), (0, (.ref 164)), (1, (.int (iI (((s : Nat) : Int))))), (2, (.int (iI (((c : Nat) : Int)))))] [] g f 0 0 := by
    intro m
    induction m using Nat.strongRecOn with
    | _ m ih =>
      intro j hm hj
      refine r_iload (pc := 15) 1 dX11_startOf_15 rfl ?_
      refine r_aload_n (pc := 17) 2 dX11_startOf_17 rfl rfl ?_
      refine r_callV (pc := 18) (As := []) (S := [(.int (iI (((j : Nat) : Int))))]) dX11_startOf_18 cv_X11_121 hM.k rfl (Nat.le_of_ble_eq_true rfl) (m_customers l z _ hM) (Nat.zero_le _) (Nat.zero_le _) (fun r_18 g_18 f_18 q_18 => ?_)
      obtain ⟨rfl, rfl, rfl⟩ := q_18
      rw [hD.n]
      refine r_icmp_ge (pc := 21) (tgt := 69) dX11_startOf_21 (by decide) (by have := hD.n8; omega) (by have := hD.n8; omega) (fun c_21 => ?_) (fun c_21 => ?_)
      · refine r_iload_n (pc := 69) 0 dX11_startOf_69 rfl rfl ?_
        exact r_iret (pc := 70) dX11_startOf_70 rfl rfl ⟨by rw [show j = n by omega]; rfl, rfl, rfl⟩
      · have hj2 : j < n := by omega
        refine r_iload_n (pc := 24) 0 dX11_startOf_24 rfl rfl ?_
        refine r_iload_n (pc := 25) 3 dX11_startOf_25 rfl rfl ?_
        refine r_iload (pc := 26) 1 dX11_startOf_26 rfl ?_
        refine r_callS (pc := 28) (As := [(.int (iI (((s : Nat) : Int)))), (.int (iI (((j : Nat) : Int))))]) (S := [(.int (iI (((bk (ov c) : Nat) : Int) + sumN j (stT ov wa s c))))]) dX11_startOf_28 cs_X11_287 rfl (Nat.le_of_ble_eq_true rfl) (m_isIn l z _ hs (by omega)) (Nat.zero_le _) (Nat.zero_le _) (fun r_28 g_28 f_28 q_28 => ?_)
        obtain ⟨rfl, rfl, rfl⟩ := q_28
        refine r_if_eq (pc := 31) (tgt := 60) dX11_startOf_31 (by decide) (b01_r) (fun c_31 => ?_) (fun c_31 => ?_)
        · replace c_31 := b01_z c_31
          refine r_iconst (pc := 60) dX11_startOf_60 ?_
          refine r_iadd (pc := 61) dX11_startOf_61 ?_
          refine r_eqI (y := ((bk (ov c) : Nat) : Int) + sumN (j + 1) (stT ov wa s c)) (by simp only [sumN]; rw [stT, if_neg (by intro h; first | exact absurd h.1 c_31 | exact absurd h.2 (by omega))]; omega) ?_
          refine r_istore_n (pc := 62) (L2 := [(3, (.int (iI (((bk (ov c) : Nat) : Int) + sumN (j + 1) (stT ov wa s c))))), (4, (.int (iI (((j : Nat) : Int))))), (0, (.ref 164)), (1, (.int (iI (((s : Nat) : Int))))), (2, (.int (iI (((c : Nat) : Int)))))]) dX11_startOf_62 rfl (by decide) rfl ?_
          refine r_iincv (pc := 63) (y := ((j + 1 : Nat) : Int)) (L2 := [(4, (.int (iI (((j + 1 : Nat) : Int))))), (3, (.int (iI (((bk (ov c) : Nat) : Int) + sumN (j + 1) (stT ov wa s c))))), (0, (.ref 164)), (1, (.int (iI (((s : Nat) : Int))))), (2, (.int (iI (((c : Nat) : Int)))))]) 1 dX11_startOf_63 rfl (by omega) (by decide) rfl ?_
          refine r_goto (pc := 66) (tgt := 15) dX11_startOf_66 (by decide) ?_
          refine r_sub (L2 := [(3, (.int (iI (((bk (ov c) : Nat) : Int) + sumN (j + 1) (stT ov wa s c))))), (4, (.int (iI (((j + 1 : Nat) : Int))))), (0, (.ref 164)), (1, (.int (iI (((s : Nat) : Int))))), (2, (.int (iI (((c : Nat) : Int)))))]) [1, 0, 2, 3, 4] rfl ?_
          exact ih (n - (j + 1)) (by omega) (j + 1) rfl (by omega)
        · replace c_31 := b01_nz c_31
          refine r_aload_n (pc := 34) 2 dX11_startOf_34 rfl rfl ?_
          refine r_iload (pc := 35) 1 dX11_startOf_35 rfl ?_
          refine r_iconst (pc := 37) dX11_startOf_37 ?_
          refine r_callV (pc := 38) (As := [(.int (iI (((j : Nat) : Int)))), (.int (iI (2)))]) (S := [(.int (iI (((bk (ov c) : Nat) : Int) + sumN j (stT ov wa s c))))]) dX11_startOf_38 cv_X11_138 hM.k rfl (Nat.le_of_ble_eq_true rfl) (m_factOf l z _ hM (by omega) (by omega)) (Nat.zero_le _) (Nat.zero_le _) (fun r_38 g_38 f_38 q_38 => ?_)
          obtain ⟨rfl, rfl, rfl⟩ := q_38
          rw [hD.o hj2]
          refine r_aload_n (pc := 41) 2 dX11_startOf_41 rfl rfl ?_
          refine r_iload_n (pc := 42) 4 dX11_startOf_42 rfl rfl ?_
          refine r_iconst (pc := 43) dX11_startOf_43 ?_
          refine r_callV (pc := 44) (As := [(.int (iI (((c : Nat) : Int)))), (.int (iI (2)))]) (S := [(.int (iI (((ov j : Nat) : Int)))), (.int (iI (((bk (ov c) : Nat) : Int) + sumN j (stT ov wa s c))))]) dX11_startOf_44 cv_X11_138 hM.k rfl (Nat.le_of_ble_eq_true rfl) (m_factOf l z _ hM (by omega) (by omega)) (Nat.zero_le _) (Nat.zero_le _) (fun r_44 g_44 f_44 q_44 => ?_)
          obtain ⟨rfl, rfl, rfl⟩ := q_44
          rw [hD.o hc]
          refine r_icmp_ne (pc := 47) (tgt := 60) dX11_startOf_47 (by decide) (by have := hD.o1 hj2; omega) (by have := hD.o1 hc; omega) (fun c_47 => ?_) (fun c_47 => ?_)
          · refine r_iconst (pc := 60) dX11_startOf_60 ?_
            refine r_iadd (pc := 61) dX11_startOf_61 ?_
            refine r_eqI (y := ((bk (ov c) : Nat) : Int) + sumN (j + 1) (stT ov wa s c)) (by simp only [sumN]; rw [stT, if_neg (by intro h; first | exact absurd h.1 c_31 | exact absurd h.2 (by omega))]; omega) ?_
            refine r_istore_n (pc := 62) (L2 := [(3, (.int (iI (((bk (ov c) : Nat) : Int) + sumN (j + 1) (stT ov wa s c))))), (4, (.int (iI (((j : Nat) : Int))))), (0, (.ref 164)), (1, (.int (iI (((s : Nat) : Int))))), (2, (.int (iI (((c : Nat) : Int)))))]) dX11_startOf_62 rfl (by decide) rfl ?_
            refine r_iincv (pc := 63) (y := ((j + 1 : Nat) : Int)) (L2 := [(4, (.int (iI (((j + 1 : Nat) : Int))))), (3, (.int (iI (((bk (ov c) : Nat) : Int) + sumN (j + 1) (stT ov wa s c))))), (0, (.ref 164)), (1, (.int (iI (((s : Nat) : Int))))), (2, (.int (iI (((c : Nat) : Int)))))]) 1 dX11_startOf_63 rfl (by omega) (by decide) rfl ?_
            refine r_goto (pc := 66) (tgt := 15) dX11_startOf_66 (by decide) ?_
            refine r_sub (L2 := [(3, (.int (iI (((bk (ov c) : Nat) : Int) + sumN (j + 1) (stT ov wa s c))))), (4, (.int (iI (((j + 1 : Nat) : Int))))), (0, (.ref 164)), (1, (.int (iI (((s : Nat) : Int))))), (2, (.int (iI (((c : Nat) : Int)))))]) [1, 0, 2, 3, 4] rfl ?_
            exact ih (n - (j + 1)) (by omega) (j + 1) rfl (by omega)
          · refine r_aload_n (pc := 50) 2 dX11_startOf_50 rfl rfl ?_
            refine r_getR (pc := 51) (b := 176) dX11_startOf_51 fl_X11_52 rfl hM.k hM.r24 ?_
            refine r_iload (pc := 54) 1 dX11_startOf_54 rfl ?_
            refine r_ialdv (pc := 56) (w := ((wa j : Nat) : Int)) dX11_startOf_56 hM.a24 (by have := hD.n8; omega) (by decide) (hD.w hj2) ?_
            refine r_goto (pc := 57) (tgt := 61) dX11_startOf_57 (by decide) ?_
            refine r_iadd (pc := 61) dX11_startOf_61 ?_
            refine r_eqI (y := ((bk (ov c) : Nat) : Int) + sumN (j + 1) (stT ov wa s c)) (by simp only [sumN]; rw [stT, if_pos ⟨c_31, by omega⟩]; omega) ?_
            refine r_istore_n (pc := 62) (L2 := [(3, (.int (iI (((bk (ov c) : Nat) : Int) + sumN (j + 1) (stT ov wa s c))))), (4, (.int (iI (((j : Nat) : Int))))), (0, (.ref 164)), (1, (.int (iI (((s : Nat) : Int))))), (2, (.int (iI (((c : Nat) : Int)))))]) dX11_startOf_62 rfl (by decide) rfl ?_
            refine r_iincv (pc := 63) (y := ((j + 1 : Nat) : Int)) (L2 := [(4, (.int (iI (((j + 1 : Nat) : Int))))), (3, (.int (iI (((bk (ov c) : Nat) : Int) + sumN (j + 1) (stT ov wa s c))))), (0, (.ref 164)), (1, (.int (iI (((s : Nat) : Int))))), (2, (.int (iI (((c : Nat) : Int)))))]) 1 dX11_startOf_63 rfl (by omega) (by decide) rfl ?_
            refine r_goto (pc := 66) (tgt := 15) dX11_startOf_66 (by decide) ?_
            refine r_sub (L2 := [(3, (.int (iI (((bk (ov c) : Nat) : Int) + sumN (j + 1) (stT ov wa s c))))), (4, (.int (iI (((j + 1 : Nat) : Int))))), (0, (.ref 164)), (1, (.int (iI (((s : Nat) : Int))))), (2, (.int (iI (((c : Nat) : Int)))))]) [1, 0, 2, 3, 4] rfl ?_
            exact ih (n - (j + 1)) (by omega) (j + 1) rfl (by omega)
  refine r_aload_n (pc := 0) 0 dX11_startOf_0 rfl rfl ?_
  refine r_getR (pc := 1) (b := 178) dX11_startOf_1 fl_X11_58 rfl hM.k hM.r26 ?_
  refine r_aload_n (pc := 4) 0 dX11_startOf_4 rfl rfl ?_
  refine r_iload_n (pc := 5) 2 dX11_startOf_5 rfl rfl ?_
  refine r_iconst (pc := 6) dX11_startOf_6 ?_
  refine r_callV (pc := 7) (As := [(.int (iI (((c : Nat) : Int)))), (.int (iI (2)))]) (S := [(.ref 178)]) dX11_startOf_7 cv_X11_138 hM.k rfl (Nat.le_of_ble_eq_true rfl) (m_factOf l z _ hM (by omega) (by omega)) (Nat.zero_le _) (Nat.zero_le _) (fun r_7 g_7 f_7 q_7 => ?_)
  obtain ⟨rfl, rfl, rfl⟩ := q_7
  rw [hD.o hc]
  refine r_ialdv (pc := 10) (w := ((bk (ov c) : Nat) : Int) + sumN 0 (stT ov wa s c)) dX11_startOf_10 hM.a26 (by have := hD.o1 hc; omega) (by decide) (by simp only [sumN]; rw [hD.b (hD.o1 hc)]; omega) ?_
  refine r_istore_n (pc := 11) (L2 := [(3, (.int (iI (((bk (ov c) : Nat) : Int) + sumN 0 (stT ov wa s c))))), (0, (.ref 164)), (1, (.int (iI (((s : Nat) : Int))))), (2, (.int (iI (((c : Nat) : Int)))))]) dX11_startOf_11 rfl (by decide) rfl ?_
  refine r_iconst (pc := 12) dX11_startOf_12 ?_
  refine r_istore (pc := 13) (L2 := [(4, (.int (iI (0)))), (3, (.int (iI (((bk (ov c) : Nat) : Int) + sumN 0 (stT ov wa s c))))), (0, (.ref 164)), (1, (.int (iI (((s : Nat) : Int))))), (2, (.int (iI (((c : Nat) : Int)))))]) dX11_startOf_13 (by decide) rfl ?_
  refine r_sub (L2 := [(3, (.int (iI (((bk (ov c) : Nat) : Int) + sumN 0 (stT ov wa s c))))), (4, (.int (iI (0)))), (0, (.ref 164)), (1, (.int (iI (((s : Nat) : Int))))), (2, (.int (iI (((c : Nat) : Int)))))]) [1, 0, 2, 3, 4] rfl ?_
  exact loop n 0 rfl (by omega)

set_option maxRecDepth 100000 in
set_option maxHeartbeats 4000000 in
theorem m_getsOf (l : Launch) (z : Zv) (d : Nat) {g : Gm} {f : Fm} {s c : Nat} {n : Nat} {ov wa wt bk : Nat → Nat} (hM : ML g) (hD : MD f n ov wa wt bk) {dz lp : Int} (hdz : f 166 40 = dz) (hlp : f 166 41 = lp) (h0 : 2 ≤ dz ∧ dz ≤ 20) (h1 : 0 ≤ lp ∧ lp ≤ 9) (hs : s < 2147483648) (hc : c < n) : PM l z (d + 2) mX11_getsOf [(.ref 164), (.int (iI (((s : Nat) : Int)))), (.int (iI (((c : Nat) : Int))))] g f 0 0 (rdQ (.int (iI (geV dz lp n ov wa bk s c))) g f) := by
  refine PM.of (by decide +kernel) (Nat.le_of_ble_eq_true rfl) ?_
  have h8 := hD.n8
  have hv := stV_r hD (s := s) hc
  have hw := hD.w4 hc
  refine r_aload_n (pc := 0) 0 dX11_getsOf_0 rfl rfl ?_
  refine r_aload_n (pc := 1) 0 dX11_getsOf_1 rfl rfl ?_
  refine r_iload_n (pc := 2) 1 dX11_getsOf_2 rfl rfl ?_
  refine r_iload_n (pc := 3) 2 dX11_getsOf_3 rfl rfl ?_
  refine r_callV (pc := 4) (As := [(.int (iI (((s : Nat) : Int)))), (.int (iI (((c : Nat) : Int))))]) (S := [(.ref 164)]) dX11_getsOf_4 cv_X11_296 hM.k rfl (Nat.le_of_ble_eq_true rfl) (m_startOf l z _ hM hD hs hc) (Nat.zero_le _) (Nat.zero_le _) (fun r_4 g_4 f_4 q_4 => ?_)
  obtain ⟨rfl, rfl, rfl⟩ := q_4
  refine r_aload_n (pc := 7) 0 dX11_getsOf_7 rfl rfl ?_
  refine r_getR (pc := 8) (b := 176) dX11_getsOf_8 fl_X11_52 rfl hM.k hM.r24 ?_
  refine r_iload_n (pc := 11) 2 dX11_getsOf_11 rfl rfl ?_
  refine r_ialdv (pc := 12) (w := ((wa c : Nat) : Int)) dX11_getsOf_12 hM.a24 (by omega) (by decide) (hD.w hc) ?_
  refine r_iadd (pc := 13) dX11_getsOf_13 ?_
  refine r_callV (pc := 14) (As := [(.int (iI ((stV n ov wa bk s c) + (((wa c : Nat) : Int)))))]) (S := []) dX11_getsOf_14 cv_X11_293 hM.k rfl (Nat.le_of_ble_eq_true rfl) (m_blessedBy l z _ hM hdz hlp h0 h1 (by omega)) (Nat.zero_le _) (Nat.zero_le _) (fun r_14 g_14 f_14 q_14 => ?_)
  obtain ⟨rfl, rfl, rfl⟩ := q_14
  refine r_aload_n (pc := 17) 0 dX11_getsOf_17 rfl rfl ?_
  refine r_aload_n (pc := 18) 0 dX11_getsOf_18 rfl rfl ?_
  refine r_iload_n (pc := 19) 1 dX11_getsOf_19 rfl rfl ?_
  refine r_iload_n (pc := 20) 2 dX11_getsOf_20 rfl rfl ?_
  refine r_callV (pc := 21) (As := [(.int (iI (((s : Nat) : Int)))), (.int (iI (((c : Nat) : Int))))]) (S := [(.ref 164), (.int (iI (blA dz lp ((stV n ov wa bk s c) + (((wa c : Nat) : Int))))))]) dX11_getsOf_21 cv_X11_296 hM.k rfl (Nat.le_of_ble_eq_true rfl) (m_startOf l z _ hM hD hs hc) (Nat.zero_le _) (Nat.zero_le _) (fun r_21 g_21 f_21 q_21 => ?_)
  obtain ⟨rfl, rfl, rfl⟩ := q_21
  refine r_callV (pc := 24) (As := [(.int (iI (stV n ov wa bk s c)))]) (S := [(.int (iI (blA dz lp ((stV n ov wa bk s c) + (((wa c : Nat) : Int))))))]) dX11_getsOf_24 cv_X11_293 hM.k rfl (Nat.le_of_ble_eq_true rfl) (m_blessedBy l z _ hM hdz hlp h0 h1 (by omega)) (Nat.zero_le _) (Nat.zero_le _) (fun r_24 g_24 f_24 q_24 => ?_)
  obtain ⟨rfl, rfl, rfl⟩ := q_24
  refine r_isub (pc := 27) dX11_getsOf_27 ?_
  exact r_iret (pc := 28) dX11_getsOf_28 rfl rfl ⟨rfl, rfl, rfl⟩

set_option maxRecDepth 100000 in
set_option maxHeartbeats 4000000 in
theorem m_mayNext (l : Launch) (z : Zv) (d : Nat) {g : Gm} {f : Fm} {s c : Nat} {n : Nat} {ov wa wt bk : Nat → Nat} (hM : ML g) (hD : MD f n ov wa wt bk) (hs : s < 2147483648) (hc : c < n) : PM l z (d + 1) mX11_mayNext [(.ref 164), (.int (iI (((s : Nat) : Int)))), (.int (iI (((c : Nat) : Int))))] g f 0 0 (rdQ (.int (iI (b01 (¬ s.testBit c = true ∧ ndf (wt c) s = 0)))) g f) := by
  refine PM.of (by decide +kernel) (Nat.le_of_ble_eq_true rfl) ?_
  have h8 := hD.n8
  refine r_iload_n (pc := 0) 1 dX11_mayNext_0 rfl rfl ?_
  refine r_iload_n (pc := 1) 2 dX11_mayNext_1 rfl rfl ?_
  refine r_callS (pc := 2) (As := [(.int (iI (((s : Nat) : Int)))), (.int (iI (((c : Nat) : Int))))]) (S := []) dX11_mayNext_2 cs_X11_287 rfl (Nat.le_of_ble_eq_true rfl) (m_isIn l z _ hs (by omega)) (Nat.zero_le _) (Nat.zero_le _) (fun r_2 g_2 f_2 q_2 => ?_)
  obtain ⟨rfl, rfl, rfl⟩ := q_2
  refine r_if_ne (pc := 5) (tgt := 25) dX11_mayNext_5 (by decide) (b01_r) (fun c_5 => ?_) (fun c_5 => ?_)
  · replace c_5 := b01_nz c_5
    refine r_iconst (pc := 25) dX11_mayNext_25 ?_
    exact r_iret (pc := 26) dX11_mayNext_26 rfl rfl ⟨by by_cases h1 : s.testBit c = true <;> by_cases h2 : ndf (wt c) s = 0 <;> simp_all [b01], rfl, rfl⟩
  · replace c_5 := b01_z c_5
    refine r_aload_n (pc := 8) 0 dX11_mayNext_8 rfl rfl ?_
    refine r_getR (pc := 9) (b := 177) dX11_mayNext_9 fl_X11_55 rfl hM.k hM.r25 ?_
    refine r_iload_n (pc := 12) 2 dX11_mayNext_12 rfl rfl ?_
    refine r_ialdv (pc := 13) (w := ((wt c : Nat) : Int)) dX11_mayNext_13 hM.a25 (by omega) (by decide) (hD.t hc) ?_
    refine r_iload_n (pc := 14) 1 dX11_mayNext_14 rfl rfl ?_
    refine r_iconst (pc := 15) dX11_mayNext_15 ?_
    refine r_ixor (pc := 16) (w := -((s : Nat) : Int) - 1) dX11_mayNext_16  (iI_not _) ?_
    refine r_iand (pc := 17) (w := ((ndf (wt c) s : Nat) : Int)) dX11_mayNext_17  (iI_andn _ _) ?_
    refine r_if_ne (pc := 18) (tgt := 25) dX11_mayNext_18 (by decide) (by have := ndf_le (wt c) s; have := hD.t8 hc; omega) (fun c_18 => ?_) (fun c_18 => ?_)
    · refine r_iconst (pc := 25) dX11_mayNext_25 ?_
      exact r_iret (pc := 26) dX11_mayNext_26 rfl rfl ⟨by by_cases h1 : s.testBit c = true <;> by_cases h2 : ndf (wt c) s = 0 <;> simp_all [b01], rfl, rfl⟩
    · refine r_iconst (pc := 21) dX11_mayNext_21 ?_
      refine r_goto (pc := 22) (tgt := 26) dX11_mayNext_22 (by decide) ?_
      exact r_iret (pc := 26) dX11_mayNext_26 rfl rfl ⟨by by_cases h1 : s.testBit c = true <;> by_cases h2 : ndf (wt c) s = 0 <;> simp_all [b01], rfl, rfl⟩

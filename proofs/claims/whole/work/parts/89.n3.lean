theorem jnB_t {bg : Bool} {x y : Int} (h : bg = true) : jnB bg x y = max x y := by unfold jnB; rw [if_pos h]
theorem jnB_f {bg : Bool} {x y : Int} (h : ¬ bg = true) : jnB bg x y = x + y := by unfold jnB; rw [if_neg h]
theorem bg1 {b : Nat} (h : b = 1) : decide (b = 1) = true := decide_eq_true h
theorem bg0 {b : Nat} (h : ¬ b = 1) : ¬ decide (b = 1) = true := by simp only [decide_eq_true_eq]; exact h

set_option maxRecDepth 100000 in
set_option maxHeartbeats 4000000 in
theorem m_rows (l : Launch) (z : Zv) (d : Nat) {g : Gm} {f : Fm} {n a2 b : Nat} {ov wa wt bk : Nat → Nat} {K : Nat → Int} {D0 M0 : Int} (hM : ML g) (hD : MD f n ov wa wt bk) (hK : f 166 = K) (hO : KO K D0 M0) (hb2 : b ≤ 2) (ha : ∀ k, k < n → a2.testBit k = decide (ov k ≠ 0)) (hR : ∀ u, u < 2 ^ n → f 182 u = tbL (fun s i => (nxM wt n s).testBit i) (coV K wa b (K 40) (K 41) (bk 0) (bk 1) n a2) (decide (b = 1)) n u ∧ f 183 u = ((tbW (fun s i => (nxM wt n s).testBit i) (coV K wa b (K 40) (K 41) (bk 0) (bk 1) n a2) (decide (b = 1)) n u : Nat) : Int)) (hw0 : 0 < tbW (fun s i => (nxM wt n s).testBit i) (coV K wa b (K 40) (K 41) (bk 0) (bk 1) n a2) (decide (b = 1)) n 0) : PM l z (d + 4) mX11_rows [.ref 164, .int (iI ((b : Nat) : Int))] g f 0 0 (fun r g' f' => r = none ∧ g = g' ∧ (∀ q, q ≠ 184 → f' q = f q) ∧ ∀ p, p < n → f' 184 p = ((wkC (fun s i => (nxM wt n s).testBit i) (coV K wa b (K 40) (K 41) (bk 0) (bk 1) n a2) (decide (b = 1)) n p : Nat) : Int)) := by
  have hn8 := hD.n8
  have hp8 := pow8 hn8
  refine PM.of (by decide +kernel) (Nat.le_of_ble_eq_true rfl) ?_
  have outer : ∀ m p : Nat, m = n - p → p ≤ n → ∀ f1 : Fm, (∀ q, q ≠ 184 → f1 q = f q) → (∀ j, j < p → f1 184 j = ((wkC (fun s i => (nxM wt n s).testBit i) (coV K wa b (K 40) (K 41) (bk 0) (bk 1) n a2) (decide (b = 1)) n j : Nat) : Int)) → PW l z (d + 4) mX11_rows 0 0 (fun r g' f' => r = none ∧ g = g' ∧ (∀ q, q ≠ 184 → f' q = f q) ∧ ∀ p, p < n → f' 184 p = ((wkC (fun s i => (nxM wt n s).testBit i) (coV K wa b (K 40) (K 41) (bk 0) (bk 1) n a2) (decide (b = 1)) n p : Nat) : Int)) 12 [(4, (.int (iI (((p : Nat) : Int))))), (3, (.int (iI (tbL (fun s i => (nxM wt n s).testBit i) (coV K wa b (K 40) (K 41) (bk 0) (bk 1) n a2) (decide (b = 1)) n 0)))), (2, (.int (iI ((((wkS (fun s i => (nxM wt n s).testBit i) (coV K wa b (K 40) (K 41) (bk 0) (bk 1) n a2) (decide (b = 1)) n p).1 : Nat) : Int))))), (0, (.ref 164)), (1, (.int (iI (((b : Nat) : Int)))))] [] g f1 0 0 := by
    intro m
    induction m using Nat.strongRecOn with
    | _ m ih =>
      intro p hm hp f1 hF1 hR1
      have hD1 : MD f1 n ov wa wt bk := hD.mv (hF1 166 (by decide)) (hF1 176 (by decide)) (hF1 177 (by decide)) (hF1 178 (by decide))
      have hI := wk_inv (fun s i hi => nx_out hi) hw0 p hp
      have hsb : (wkS (fun s i => (nxM wt n s).testBit i) (coV K wa b (K 40) (K 41) (bk 0) (bk 1) n a2) (decide (b = 1)) n p).1 < 2 ^ n := hI.1
      refine r_iload (pc := 12) 0 dX11_rows_12 rfl ?_
      refine r_aload_n (pc := 14) 3 dX11_rows_14 rfl rfl ?_
      refine r_callV (pc := 15) (As := []) (S := [(.int (iI (((p : Nat) : Int))))]) dX11_rows_15 cv_X11_121 hM.k rfl (Nat.le_of_ble_eq_true rfl) (m_cust (v := ((n : Nat) : Int)) l z _ hM hD1.n) (Nat.zero_le _) (Nat.zero_le _) (fun r_15 g_15 f_15 q_15 => ?_)
      obtain ⟨rfl, rfl, rfl⟩ := q_15
      refine r_icmp_ge (pc := 18) (tgt := 139) dX11_rows_18 (by decide) (by omega) (by omega) (fun c_18 => ?_) (fun c_18 => ?_)
      · have hin : p = n := by omega
        subst hin
        exact r_vret (pc := 139) dX11_rows_139 rfl ⟨rfl, rfl, hF1, hR1⟩
      · have hc_ := wk_first (fun s i hi => nx_out hi) (show p < n by omega) hI
        obtain ⟨hc1, hc2, hc3⟩ := hc_
        have hne : (wkS (fun s i => (nxM wt n s).testBit i) (coV K wa b (K 40) (K 41) (bk 0) (bk 1) n a2) (decide (b = 1)) n p).1 < 2 ^ n - 1 := by
          rcases (show (wkS (fun s i => (nxM wt n s).testBit i) (coV K wa b (K 40) (K 41) (bk 0) (bk 1) n a2) (decide (b = 1)) n p).1 < 2 ^ n - 1 ∨ (wkS (fun s i => (nxM wt n s).testBit i) (coV K wa b (K 40) (K 41) (bk 0) (bk 1) n a2) (decide (b = 1)) n p).1 = 2 ^ n - 1 by omega) with q | q
          · exact q
          · have hbb := hI.2.1; rw [q, bc_all] at hbb; omega
        have hrec := tb_rec (may := (fun s i => (nxM wt n s).testBit i)) (co := (coV K wa b (K 40) (K 41) (bk 0) (bk 1) n a2)) (bg := (decide (b = 1))) (fun i hi => nx_out hi) hne
        have inner : ∀ m c : Nat, m = wkC (fun s i => (nxM wt n s).testBit i) (coV K wa b (K 40) (K 41) (bk 0) (bk 1) n a2) (decide (b = 1)) n p - c → c ≤ wkC (fun s i => (nxM wt n s).testBit i) (coV K wa b (K 40) (K 41) (bk 0) (bk 1) n a2) (decide (b = 1)) n p → PW l z (d + 4) mX11_rows 0 0 (fun r g' f' => r = none ∧ g = g' ∧ (∀ q, q ≠ 184 → f' q = f q) ∧ ∀ p, p < n → f' 184 p = ((wkC (fun s i => (nxM wt n s).testBit i) (coV K wa b (K 40) (K 41) (bk 0) (bk 1) n a2) (decide (b = 1)) n p : Nat) : Int)) 24 [(5, (.int (iI (((c : Nat) : Int))))), (4, (.int (iI (((p : Nat) : Int))))), (3, (.int (iI (tbL (fun s i => (nxM wt n s).testBit i) (coV K wa b (K 40) (K 41) (bk 0) (bk 1) n a2) (decide (b = 1)) n 0)))), (2, (.int (iI ((((wkS (fun s i => (nxM wt n s).testBit i) (coV K wa b (K 40) (K 41) (bk 0) (bk 1) n a2) (decide (b = 1)) n p).1 : Nat) : Int))))), (0, (.ref 164)), (1, (.int (iI (((b : Nat) : Int)))))] [] g f1 0 0 := by
          intro m
          induction m using Nat.strongRecOn with
          | _ m ih2 =>
            intro c hm hc
            have hcn : c < n := by omega
            have hou := or_lt (i := c) hI.1 hcn
            have hcr := co_r (b := b) (a2 := a2) hD1 hO (wkS (fun s i => (nxM wt n s).testBit i) (coV K wa b (K 40) (K 41) (bk 0) (bk 1) n a2) (decide (b = 1)) n p).1 c hcn
            have hwr := tbW_r (may := (fun s i => (nxM wt n s).testBit i)) (co := (coV K wa b (K 40) (K 41) (bk 0) (bk 1) n a2)) (bg := (decide (b = 1))) hn8 ((wkS (fun s i => (nxM wt n s).testBit i) (coV K wa b (K 40) (K 41) (bk 0) (bk 1) n a2) (decide (b = 1)) n p).1 ||| 2 ^ c)
            refine r_aload_n (pc := 24) 4 dX11_rows_24 rfl rfl ?_
            refine r_iload_n (pc := 25) 3 dX11_rows_25 rfl rfl ?_
            refine r_iload (pc := 26) 0 dX11_rows_26 rfl ?_
            refine r_callV (pc := 28) (As := [(.int (iI ((((wkS (fun s i => (nxM wt n s).testBit i) (coV K wa b (K 40) (K 41) (bk 0) (bk 1) n a2) (decide (b = 1)) n p).1 : Nat) : Int)))), (.int (iI (((c : Nat) : Int))))]) (S := []) dX11_rows_28 cv_X11_305 hM.k rfl (Nat.le_of_ble_eq_true rfl) (m_mayNext (s := (wkS (fun s i => (nxM wt n s).testBit i) (coV K wa b (K 40) (K 41) (bk 0) (bk 1) n a2) (decide (b = 1)) n p).1) (c := c) l z _ hM hD1 (by omega) (by omega)) (Nat.zero_le _) (Nat.zero_le _) (fun r_28 g_28 f_28 q_28 => ?_)
            obtain ⟨rfl, rfl, rfl⟩ := q_28
            refine r_if_eq (pc := 31) (tgt := 111) dX11_rows_31 (by decide) (b01_r) (fun c_31 => ?_) (fun c_31 => ?_)
            · replace c_31 := b01_z c_31
              refine r_iincv (pc := 111) (y := ((c + 1 : Nat) : Int)) (L2 := [(5, (.int (iI (((c + 1 : Nat) : Int))))), (4, (.int (iI (((p : Nat) : Int))))), (3, (.int (iI (tbL (fun s i => (nxM wt n s).testBit i) (coV K wa b (K 40) (K 41) (bk 0) (bk 1) n a2) (decide (b = 1)) n 0)))), (2, (.int (iI ((((wkS (fun s i => (nxM wt n s).testBit i) (coV K wa b (K 40) (K 41) (bk 0) (bk 1) n a2) (decide (b = 1)) n p).1 : Nat) : Int))))), (0, (.ref 164)), (1, (.int (iI (((b : Nat) : Int)))))]) 0 dX11_rows_111 rfl (by omega) (by decide) rfl ?_
              refine r_goto (pc := 114) (tgt := 24) dX11_rows_114 (by decide) ?_
              have hne : ¬ fwP (fun s i => (nxM wt n s).testBit i) (coV K wa b (K 40) (K 41) (bk 0) (bk 1) n a2) (decide (b = 1)) (tbL (fun s i => (nxM wt n s).testBit i) (coV K wa b (K 40) (K 41) (bk 0) (bk 1) n a2) (decide (b = 1)) n) (tbW (fun s i => (nxM wt n s).testBit i) (coV K wa b (K 40) (K 41) (bk 0) (bk 1) n a2) (decide (b = 1)) n) (wkS (fun s i => (nxM wt n s).testBit i) (coV K wa b (K 40) (K 41) (bk 0) (bk 1) n a2) (decide (b = 1)) n p).1 (wkS (fun s i => (nxM wt n s).testBit i) (coV K wa b (K 40) (K 41) (bk 0) (bk 1) n a2) (decide (b = 1)) n p).2 c := fun h => c_31 ((nx_may (by omega)).mp h.1)
              have hlt : c < wkC (fun s i => (nxM wt n s).testBit i) (coV K wa b (K 40) (K 41) (bk 0) (bk 1) n a2) (decide (b = 1)) n p := Nat.lt_of_le_of_ne hc (fun h => hne (by rw [h]; exact hc2))
              refine r_sub (L2 := [(5, (.int (iI (((c + 1 : Nat) : Int))))), (4, (.int (iI (((p : Nat) : Int))))), (3, (.int (iI (tbL (fun s i => (nxM wt n s).testBit i) (coV K wa b (K 40) (K 41) (bk 0) (bk 1) n a2) (decide (b = 1)) n 0)))), (2, (.int (iI ((((wkS (fun s i => (nxM wt n s).testBit i) (coV K wa b (K 40) (K 41) (bk 0) (bk 1) n a2) (decide (b = 1)) n p).1 : Nat) : Int))))), (0, (.ref 164)), (1, (.int (iI (((b : Nat) : Int)))))]) [0, 1, 2, 3, 4, 5] rfl ?_
              exact ih2 (wkC (fun s i => (nxM wt n s).testBit i) (coV K wa b (K 40) (K 41) (bk 0) (bk 1) n a2) (decide (b = 1)) n p - (c + 1)) (by omega) (c + 1) (by omega) (by omega)
            · replace c_31 := b01_nz c_31
              refine r_aload_n (pc := 34) 4 dX11_rows_34 rfl rfl ?_
              refine r_getR (pc := 35) (b := 183) dX11_rows_35 fl_X11_73 rfl hM.k hM.r31 ?_
              refine r_iload_n (pc := 38) 3 dX11_rows_38 rfl rfl ?_
              refine r_iconst (pc := 39) dX11_rows_39 ?_
              refine r_iload (pc := 40) 0 dX11_rows_40 rfl ?_
              refine r_ishl (pc := 42) (w := ((2 ^ c : Nat) : Int)) dX11_rows_42  (iI_shl1 (by omega)) ?_
              refine r_ior (pc := 43) (w := ((((wkS (fun s i => (nxM wt n s).testBit i) (coV K wa b (K 40) (K 41) (bk 0) (bk 1) n a2) (decide (b = 1)) n p).1) ||| (2 ^ c) : Nat) : Int)) dX11_rows_43  (iI_or _ _) ?_
              refine r_ialdv (pc := 44) (w := ((tbW (fun s i => (nxM wt n s).testBit i) (coV K wa b (K 40) (K 41) (bk 0) (bk 1) n a2) (decide (b = 1)) n ((wkS (fun s i => (nxM wt n s).testBit i) (coV K wa b (K 40) (K 41) (bk 0) (bk 1) n a2) (decide (b = 1)) n p).1 ||| 2 ^ c) : Nat) : Int)) dX11_rows_44 hM.a31 (by omega) (by decide) (by rw [hF1 _ (by decide)]; exact (hR _ hou).2) ?_
              refine r_if_eq (pc := 45) (tgt := 111) dX11_rows_45 (by decide) (by omega) (fun c_45 => ?_) (fun c_45 => ?_)
              · refine r_iincv (pc := 111) (y := ((c + 1 : Nat) : Int)) (L2 := [(5, (.int (iI (((c + 1 : Nat) : Int))))), (4, (.int (iI (((p : Nat) : Int))))), (3, (.int (iI (tbL (fun s i => (nxM wt n s).testBit i) (coV K wa b (K 40) (K 41) (bk 0) (bk 1) n a2) (decide (b = 1)) n 0)))), (2, (.int (iI ((((wkS (fun s i => (nxM wt n s).testBit i) (coV K wa b (K 40) (K 41) (bk 0) (bk 1) n a2) (decide (b = 1)) n p).1 : Nat) : Int))))), (0, (.ref 164)), (1, (.int (iI (((b : Nat) : Int)))))]) 0 dX11_rows_111 rfl (by omega) (by decide) rfl ?_
                refine r_goto (pc := 114) (tgt := 24) dX11_rows_114 (by decide) ?_
                have hne : ¬ fwP (fun s i => (nxM wt n s).testBit i) (coV K wa b (K 40) (K 41) (bk 0) (bk 1) n a2) (decide (b = 1)) (tbL (fun s i => (nxM wt n s).testBit i) (coV K wa b (K 40) (K 41) (bk 0) (bk 1) n a2) (decide (b = 1)) n) (tbW (fun s i => (nxM wt n s).testBit i) (coV K wa b (K 40) (K 41) (bk 0) (bk 1) n a2) (decide (b = 1)) n) (wkS (fun s i => (nxM wt n s).testBit i) (coV K wa b (K 40) (K 41) (bk 0) (bk 1) n a2) (decide (b = 1)) n p).1 (wkS (fun s i => (nxM wt n s).testBit i) (coV K wa b (K 40) (K 41) (bk 0) (bk 1) n a2) (decide (b = 1)) n p).2 c := fun h => by have := h.2.1; omega
                have hlt : c < wkC (fun s i => (nxM wt n s).testBit i) (coV K wa b (K 40) (K 41) (bk 0) (bk 1) n a2) (decide (b = 1)) n p := Nat.lt_of_le_of_ne hc (fun h => hne (by rw [h]; exact hc2))
                refine r_sub (L2 := [(5, (.int (iI (((c + 1 : Nat) : Int))))), (4, (.int (iI (((p : Nat) : Int))))), (3, (.int (iI (tbL (fun s i => (nxM wt n s).testBit i) (coV K wa b (K 40) (K 41) (bk 0) (bk 1) n a2) (decide (b = 1)) n 0)))), (2, (.int (iI ((((wkS (fun s i => (nxM wt n s).testBit i) (coV K wa b (K 40) (K 41) (bk 0) (bk 1) n a2) (decide (b = 1)) n p).1 : Nat) : Int))))), (0, (.ref 164)), (1, (.int (iI (((b : Nat) : Int)))))]) [0, 1, 2, 3, 4, 5] rfl ?_
                exact ih2 (wkC (fun s i => (nxM wt n s).testBit i) (coV K wa b (K 40) (K 41) (bk 0) (bk 1) n a2) (decide (b = 1)) n p - (c + 1)) (by omega) (c + 1) (by omega) (by omega)
              · have hmw : ((fun s i => (nxM wt n s).testBit i)) (wkS (fun s i => (nxM wt n s).testBit i) (coV K wa b (K 40) (K 41) (bk 0) (bk 1) n a2) (decide (b = 1)) n p).1 c = true ∧ 0 < tbW (fun s i => (nxM wt n s).testBit i) (coV K wa b (K 40) (K 41) (bk 0) (bk 1) n a2) (decide (b = 1)) n ((wkS (fun s i => (nxM wt n s).testBit i) (coV K wa b (K 40) (K 41) (bk 0) (bk 1) n a2) (decide (b = 1)) n p).1 ||| 2 ^ c) := ⟨(nx_may (by omega)).mpr c_31, by omega⟩
                have hlr := tbL_r (may := (fun s i => (nxM wt n s).testBit i)) (co := (coV K wa b (K 40) (K 41) (bk 0) (bk 1) n a2)) (bg := (decide (b = 1))) (s := ((wkS (fun s i => (nxM wt n s).testBit i) (coV K wa b (K 40) (K 41) (bk 0) (bk 1) n a2) (decide (b = 1)) n p).1 ||| 2 ^ c)) hn8 (co_r hD hO) hmw.2
                have hmin := lkF_min (may := (fun s i => (nxM wt n s).testBit i)) (s := (wkS (fun s i => (nxM wt n s).testBit i) (coV K wa b (K 40) (K 41) (bk 0) (bk 1) n a2) (decide (b = 1)) n p).1) (bg := (decide (b = 1))) (co := (coV K wa b (K 40) (K 41) (bk 0) (bk 1) n a2)) (Lt := tbL (fun s i => (nxM wt n s).testBit i) (coV K wa b (K 40) (K 41) (bk 0) (bk 1) n a2) (decide (b = 1)) n) (Wt := tbW (fun s i => (nxM wt n s).testBit i) (coV K wa b (K 40) (K 41) (bk 0) (bk 1) n a2) (decide (b = 1)) n) n c hcn hmw.1 hmw.2
                rw [hrec] at hmin
                have hl0 := tbL_r (may := (fun s i => (nxM wt n s).testBit i)) (co := (coV K wa b (K 40) (K 41) (bk 0) (bk 1) n a2)) (bg := (decide (b = 1))) (s := 0) hn8 (co_r hD hO) hw0
                have hl1 := tbL_r (may := (fun s i => (nxM wt n s).testBit i)) (co := (coV K wa b (K 40) (K 41) (bk 0) (bk 1) n a2)) (bg := (decide (b = 1))) (s := (wkS (fun s i => (nxM wt n s).testBit i) (coV K wa b (K 40) (K 41) (bk 0) (bk 1) n a2) (decide (b = 1)) n p).1) hn8 (co_r hD hO) hI.2.2.1
                refine r_iload_n (pc := 48) 5 dX11_rows_48 rfl rfl ?_
                refine r_iconst (pc := 49) dX11_rows_49 ?_
                refine r_icmp_ne (pc := 50) (tgt := 82) dX11_rows_50 (by decide) (by omega) (by omega) (fun c_50 => ?_) (fun c_50 => ?_)
                · refine r_aload_n (pc := 82) 4 dX11_rows_82 rfl rfl ?_
                  refine r_iload_n (pc := 83) 5 dX11_rows_83 rfl rfl ?_
                  refine r_iload_n (pc := 84) 3 dX11_rows_84 rfl rfl ?_
                  refine r_iload (pc := 85) 0 dX11_rows_85 rfl ?_
                  refine r_callV (pc := 87) (As := [(.int (iI (((b : Nat) : Int)))), (.int (iI ((((wkS (fun s i => (nxM wt n s).testBit i) (coV K wa b (K 40) (K 41) (bk 0) (bk 1) n a2) (decide (b = 1)) n p).1 : Nat) : Int)))), (.int (iI (((c : Nat) : Int))))]) (S := []) dX11_rows_87 cv_X11_315 hM.k rfl (Nat.le_of_ble_eq_true rfl) (m_measure (a2 := 0) (b := b) (s := (wkS (fun s i => (nxM wt n s).testBit i) (coV K wa b (K 40) (K 41) (bk 0) (bk 1) n a2) (decide (b = 1)) n p).1) (c := c) (K := K) l z _ hM hD1 ((hF1 166 (by decide)).trans hK) hO hb2 (by omega) (by omega)) (Nat.zero_le _) (Nat.zero_le _) (fun r_87 g_87 f_87 q_87 => ?_)
                  obtain ⟨rfl, rfl, rfl⟩ := q_87
                  refine r_eqI (y := (coV K wa b (K 40) (K 41) (bk 0) (bk 1) n a2) (wkS (fun s i => (nxM wt n s).testBit i) (coV K wa b (K 40) (K 41) (bk 0) (bk 1) n a2) (decide (b = 1)) n p).1 c) (co_ge hD1 hO ha (by omega) c_31.1) ?_
                  refine r_aload_n (pc := 90) 4 dX11_rows_90 rfl rfl ?_
                  refine r_getR (pc := 91) (b := 182) dX11_rows_91 fl_X11_70 rfl hM.k hM.r30 ?_
                  refine r_iload_n (pc := 94) 3 dX11_rows_94 rfl rfl ?_
                  refine r_iconst (pc := 95) dX11_rows_95 ?_
                  refine r_iload (pc := 96) 0 dX11_rows_96 rfl ?_
                  refine r_ishl (pc := 98) (w := ((2 ^ c : Nat) : Int)) dX11_rows_98  (iI_shl1 (by omega)) ?_
                  refine r_ior (pc := 99) (w := ((((wkS (fun s i => (nxM wt n s).testBit i) (coV K wa b (K 40) (K 41) (bk 0) (bk 1) n a2) (decide (b = 1)) n p).1) ||| (2 ^ c) : Nat) : Int)) dX11_rows_99  (iI_or _ _) ?_
                  refine r_ialdv (pc := 100) (w := tbL (fun s i => (nxM wt n s).testBit i) (coV K wa b (K 40) (K 41) (bk 0) (bk 1) n a2) (decide (b = 1)) n ((wkS (fun s i => (nxM wt n s).testBit i) (coV K wa b (K 40) (K 41) (bk 0) (bk 1) n a2) (decide (b = 1)) n p).1 ||| 2 ^ c)) dX11_rows_100 hM.a30 (by omega) (by decide) (by rw [hF1 _ (by decide)]; exact (hR _ hou).1) ?_
                  refine r_iadd (pc := 101) dX11_rows_101 ?_
                  refine r_aload_n (pc := 102) 4 dX11_rows_102 rfl rfl ?_
                  refine r_getR (pc := 103) (b := 182) dX11_rows_103 fl_X11_70 rfl hM.k hM.r30 ?_
                  refine r_iload_n (pc := 106) 3 dX11_rows_106 rfl rfl ?_
                  refine r_ialdv (pc := 107) (w := tbL (fun s i => (nxM wt n s).testBit i) (coV K wa b (K 40) (K 41) (bk 0) (bk 1) n a2) (decide (b = 1)) n ((wkS (fun s i => (nxM wt n s).testBit i) (coV K wa b (K 40) (K 41) (bk 0) (bk 1) n a2) (decide (b = 1)) n p).1)) dX11_rows_107 hM.a30 (by omega) (by decide) (by rw [hF1 _ (by decide)]; exact (hR _ hI.1).1) ?_
                  refine r_icmp_eq (pc := 108) (tgt := 117) dX11_rows_108 (by decide) (by omega) (by omega) (fun c_108 => ?_) (fun c_108 => ?_)
                  · have hyes : fwP (fun s i => (nxM wt n s).testBit i) (coV K wa b (K 40) (K 41) (bk 0) (bk 1) n a2) (decide (b = 1)) (tbL (fun s i => (nxM wt n s).testBit i) (coV K wa b (K 40) (K 41) (bk 0) (bk 1) n a2) (decide (b = 1)) n) (tbW (fun s i => (nxM wt n s).testBit i) (coV K wa b (K 40) (K 41) (bk 0) (bk 1) n a2) (decide (b = 1)) n) (wkS (fun s i => (nxM wt n s).testBit i) (coV K wa b (K 40) (K 41) (bk 0) (bk 1) n a2) (decide (b = 1)) n p).1 (wkS (fun s i => (nxM wt n s).testBit i) (coV K wa b (K 40) (K 41) (bk 0) (bk 1) n a2) (decide (b = 1)) n p).2 c := ⟨hmw.1, hmw.2, by rw [jnB_f (bg0 (by omega)), hI.2.2.2.2.2 (bg0 (by omega))]; omega⟩
                    have hcC : c = wkC (fun s i => (nxM wt n s).testBit i) (coV K wa b (K 40) (K 41) (bk 0) (bk 1) n a2) (decide (b = 1)) n p := by
                      rcases (show c < wkC (fun s i => (nxM wt n s).testBit i) (coV K wa b (K 40) (K 41) (bk 0) (bk 1) n a2) (decide (b = 1)) n p ∨ c = wkC (fun s i => (nxM wt n s).testBit i) (coV K wa b (K 40) (K 41) (bk 0) (bk 1) n a2) (decide (b = 1)) n p by omega) with q | q
                      · exact absurd hyes (hc3 c q)
                      · exact q
                    refine r_sub (L2 := [(5, (.int (iI (((wkC (fun s i => (nxM wt n s).testBit i) (coV K wa b (K 40) (K 41) (bk 0) (bk 1) n a2) (decide (b = 1)) n p : Nat) : Int))))), (4, (.int (iI (((p : Nat) : Int))))), (3, (.int (iI (tbL (fun s i => (nxM wt n s).testBit i) (coV K wa b (K 40) (K 41) (bk 0) (bk 1) n a2) (decide (b = 1)) n 0)))), (2, (.int (iI ((((wkS (fun s i => (nxM wt n s).testBit i) (coV K wa b (K 40) (K 41) (bk 0) (bk 1) n a2) (decide (b = 1)) n p).1 : Nat) : Int))))), (0, (.ref 164)), (1, (.int (iI (((b : Nat) : Int)))))]) [0, 1, 2, 3, 4, 5] (by rw [← hcC]; rfl) ?_
                    refine r_aload_n (pc := 117) 4 dX11_rows_117 rfl rfl ?_
                    refine r_getR (pc := 118) (b := 184) dX11_rows_118 fl_X11_76 rfl hM.k hM.r32 ?_
                    refine r_iload (pc := 121) 1 dX11_rows_121 rfl ?_
                    refine r_iload (pc := 123) 0 dX11_rows_123 rfl ?_
                    refine r_iastv (pc := 125) (i := p) dX11_rows_125 hM.a32 (by omega) (by decide) rfl ?_
                    refine r_iload_n (pc := 126) 3 dX11_rows_126 rfl rfl ?_
                    refine r_iconst (pc := 127) dX11_rows_127 ?_
                    refine r_iload (pc := 128) 0 dX11_rows_128 rfl ?_
                    refine r_ishl (pc := 130) (w := ((2 ^ (wkC (fun s i => (nxM wt n s).testBit i) (coV K wa b (K 40) (K 41) (bk 0) (bk 1) n a2) (decide (b = 1)) n p) : Nat) : Int)) dX11_rows_130  (iI_shl1 (by omega)) ?_
                    refine r_ior (pc := 131) (w := ((((wkS (fun s i => (nxM wt n s).testBit i) (coV K wa b (K 40) (K 41) (bk 0) (bk 1) n a2) (decide (b = 1)) n p).1) ||| (2 ^ (wkC (fun s i => (nxM wt n s).testBit i) (coV K wa b (K 40) (K 41) (bk 0) (bk 1) n a2) (decide (b = 1)) n p)) : Nat) : Int)) dX11_rows_131  (iI_or _ _) ?_
                    refine r_istore_n (pc := 132) (L2 := [(2, (.int (iI (((((wkS (fun s i => (nxM wt n s).testBit i) (coV K wa b (K 40) (K 41) (bk 0) (bk 1) n a2) (decide (b = 1)) n p).1) ||| (2 ^ (wkC (fun s i => (nxM wt n s).testBit i) (coV K wa b (K 40) (K 41) (bk 0) (bk 1) n a2) (decide (b = 1)) n p)) : Nat) : Int))))), (5, (.int (iI (((wkC (fun s i => (nxM wt n s).testBit i) (coV K wa b (K 40) (K 41) (bk 0) (bk 1) n a2) (decide (b = 1)) n p : Nat) : Int))))), (4, (.int (iI (((p : Nat) : Int))))), (3, (.int (iI (tbL (fun s i => (nxM wt n s).testBit i) (coV K wa b (K 40) (K 41) (bk 0) (bk 1) n a2) (decide (b = 1)) n 0)))), (0, (.ref 164)), (1, (.int (iI (((b : Nat) : Int)))))]) dX11_rows_132 rfl (by decide) rfl ?_
                    refine r_iincv (pc := 133) (y := ((p + 1 : Nat) : Int)) (L2 := [(4, (.int (iI (((p + 1 : Nat) : Int))))), (2, (.int (iI (((((wkS (fun s i => (nxM wt n s).testBit i) (coV K wa b (K 40) (K 41) (bk 0) (bk 1) n a2) (decide (b = 1)) n p).1) ||| (2 ^ (wkC (fun s i => (nxM wt n s).testBit i) (coV K wa b (K 40) (K 41) (bk 0) (bk 1) n a2) (decide (b = 1)) n p)) : Nat) : Int))))), (5, (.int (iI (((wkC (fun s i => (nxM wt n s).testBit i) (coV K wa b (K 40) (K 41) (bk 0) (bk 1) n a2) (decide (b = 1)) n p : Nat) : Int))))), (3, (.int (iI (tbL (fun s i => (nxM wt n s).testBit i) (coV K wa b (K 40) (K 41) (bk 0) (bk 1) n a2) (decide (b = 1)) n 0)))), (0, (.ref 164)), (1, (.int (iI (((b : Nat) : Int)))))]) 2 dX11_rows_133 rfl (by omega) (by decide) rfl ?_
                    refine r_goto (pc := 136) (tgt := 12) dX11_rows_136 (by decide) ?_
                    refine r_sub (L2 := [(4, (.int (iI (((p + 1 : Nat) : Int))))), (3, (.int (iI (tbL (fun s i => (nxM wt n s).testBit i) (coV K wa b (K 40) (K 41) (bk 0) (bk 1) n a2) (decide (b = 1)) n 0)))), (2, (.int (iI ((((wkS (fun s i => (nxM wt n s).testBit i) (coV K wa b (K 40) (K 41) (bk 0) (bk 1) n a2) (decide (b = 1)) n (p + 1)).1 : Nat) : Int))))), (0, (.ref 164)), (1, (.int (iI (((b : Nat) : Int)))))]) [0, 3, 1, 4, 5] (by rw [wkS_s]; rfl) ?_
                    exact ih (n - (p + 1)) (by omega) (p + 1) (by omega) (by omega) _ (fun q hq => by rw [stF_n _ _ _ hq]; exact hF1 q hq) (fun j hj => by rcases Nat.lt_succ_iff_lt_or_eq.mp hj with h | h; rw [stF_i _ _ _ (by omega)]; exact hR1 j h; subst h; exact stF_s _ _ _ _)
                  · refine r_iincv (pc := 111) (y := ((c + 1 : Nat) : Int)) (L2 := [(5, (.int (iI (((c + 1 : Nat) : Int))))), (4, (.int (iI (((p : Nat) : Int))))), (3, (.int (iI (tbL (fun s i => (nxM wt n s).testBit i) (coV K wa b (K 40) (K 41) (bk 0) (bk 1) n a2) (decide (b = 1)) n 0)))), (2, (.int (iI ((((wkS (fun s i => (nxM wt n s).testBit i) (coV K wa b (K 40) (K 41) (bk 0) (bk 1) n a2) (decide (b = 1)) n p).1 : Nat) : Int))))), (0, (.ref 164)), (1, (.int (iI (((b : Nat) : Int)))))]) 0 dX11_rows_111 rfl (by omega) (by decide) rfl ?_
                    refine r_goto (pc := 114) (tgt := 24) dX11_rows_114 (by decide) ?_
                    have hne : ¬ fwP (fun s i => (nxM wt n s).testBit i) (coV K wa b (K 40) (K 41) (bk 0) (bk 1) n a2) (decide (b = 1)) (tbL (fun s i => (nxM wt n s).testBit i) (coV K wa b (K 40) (K 41) (bk 0) (bk 1) n a2) (decide (b = 1)) n) (tbW (fun s i => (nxM wt n s).testBit i) (coV K wa b (K 40) (K 41) (bk 0) (bk 1) n a2) (decide (b = 1)) n) (wkS (fun s i => (nxM wt n s).testBit i) (coV K wa b (K 40) (K 41) (bk 0) (bk 1) n a2) (decide (b = 1)) n p).1 (wkS (fun s i => (nxM wt n s).testBit i) (coV K wa b (K 40) (K 41) (bk 0) (bk 1) n a2) (decide (b = 1)) n p).2 c := fun h => by have h2 := h.2.2; rw [jnB_f (bg0 (by omega)), hI.2.2.2.2.2 (bg0 (by omega))] at h2; rw [jnB_f (bg0 (by omega))] at hmin; simp only at hmin; omega
                    have hlt : c < wkC (fun s i => (nxM wt n s).testBit i) (coV K wa b (K 40) (K 41) (bk 0) (bk 1) n a2) (decide (b = 1)) n p := Nat.lt_of_le_of_ne hc (fun h => hne (by rw [h]; exact hc2))
                    refine r_sub (L2 := [(5, (.int (iI (((c + 1 : Nat) : Int))))), (4, (.int (iI (((p : Nat) : Int))))), (3, (.int (iI (tbL (fun s i => (nxM wt n s).testBit i) (coV K wa b (K 40) (K 41) (bk 0) (bk 1) n a2) (decide (b = 1)) n 0)))), (2, (.int (iI ((((wkS (fun s i => (nxM wt n s).testBit i) (coV K wa b (K 40) (K 41) (bk 0) (bk 1) n a2) (decide (b = 1)) n p).1 : Nat) : Int))))), (0, (.ref 164)), (1, (.int (iI (((b : Nat) : Int)))))]) [0, 1, 2, 3, 4, 5] rfl ?_
                    exact ih2 (wkC (fun s i => (nxM wt n s).testBit i) (coV K wa b (K 40) (K 41) (bk 0) (bk 1) n a2) (decide (b = 1)) n p - (c + 1)) (by omega) (c + 1) (by omega) (by omega)
                · refine r_aload_n (pc := 53) 4 dX11_rows_53 rfl rfl ?_
                  refine r_iload_n (pc := 54) 5 dX11_rows_54 rfl rfl ?_
                  refine r_iload_n (pc := 55) 3 dX11_rows_55 rfl rfl ?_
                  refine r_iload (pc := 56) 0 dX11_rows_56 rfl ?_
                  refine r_callV (pc := 58) (As := [(.int (iI (((b : Nat) : Int)))), (.int (iI ((((wkS (fun s i => (nxM wt n s).testBit i) (coV K wa b (K 40) (K 41) (bk 0) (bk 1) n a2) (decide (b = 1)) n p).1 : Nat) : Int)))), (.int (iI (((c : Nat) : Int))))]) (S := []) dX11_rows_58 cv_X11_315 hM.k rfl (Nat.le_of_ble_eq_true rfl) (m_measure (a2 := 0) (b := b) (s := (wkS (fun s i => (nxM wt n s).testBit i) (coV K wa b (K 40) (K 41) (bk 0) (bk 1) n a2) (decide (b = 1)) n p).1) (c := c) (K := K) l z _ hM hD1 ((hF1 166 (by decide)).trans hK) hO hb2 (by omega) (by omega)) (Nat.zero_le _) (Nat.zero_le _) (fun r_58 g_58 f_58 q_58 => ?_)
                  obtain ⟨rfl, rfl, rfl⟩ := q_58
                  refine r_eqI (y := (coV K wa b (K 40) (K 41) (bk 0) (bk 1) n a2) (wkS (fun s i => (nxM wt n s).testBit i) (coV K wa b (K 40) (K 41) (bk 0) (bk 1) n a2) (decide (b = 1)) n p).1 c) (co_ge hD1 hO ha (by omega) c_31.1) ?_
                  refine r_aload_n (pc := 61) 4 dX11_rows_61 rfl rfl ?_
                  refine r_getR (pc := 62) (b := 182) dX11_rows_62 fl_X11_70 rfl hM.k hM.r30 ?_
                  refine r_iload_n (pc := 65) 3 dX11_rows_65 rfl rfl ?_
                  refine r_iconst (pc := 66) dX11_rows_66 ?_
                  refine r_iload (pc := 67) 0 dX11_rows_67 rfl ?_
                  refine r_ishl (pc := 69) (w := ((2 ^ c : Nat) : Int)) dX11_rows_69  (iI_shl1 (by omega)) ?_
                  refine r_ior (pc := 70) (w := ((((wkS (fun s i => (nxM wt n s).testBit i) (coV K wa b (K 40) (K 41) (bk 0) (bk 1) n a2) (decide (b = 1)) n p).1) ||| (2 ^ c) : Nat) : Int)) dX11_rows_70  (iI_or _ _) ?_
                  refine r_ialdv (pc := 71) (w := tbL (fun s i => (nxM wt n s).testBit i) (coV K wa b (K 40) (K 41) (bk 0) (bk 1) n a2) (decide (b = 1)) n ((wkS (fun s i => (nxM wt n s).testBit i) (coV K wa b (K 40) (K 41) (bk 0) (bk 1) n a2) (decide (b = 1)) n p).1 ||| 2 ^ c)) dX11_rows_71 hM.a30 (by omega) (by decide) (by rw [hF1 _ (by decide)]; exact (hR _ hou).1) ?_
                  refine r_callS (pc := 72) (As := [(.int (iI ((coV K wa b (K 40) (K 41) (bk 0) (bk 1) n a2) (wkS (fun s i => (nxM wt n s).testBit i) (coV K wa b (K 40) (K 41) (bk 0) (bk 1) n a2) (decide (b = 1)) n p).1 c))), (.int (iI (tbL (fun s i => (nxM wt n s).testBit i) (coV K wa b (K 40) (K 41) (bk 0) (bk 1) n a2) (decide (b = 1)) n ((wkS (fun s i => (nxM wt n s).testBit i) (coV K wa b (K 40) (K 41) (bk 0) (bk 1) n a2) (decide (b = 1)) n p).1 ||| 2 ^ c))))]) (S := []) dX11_rows_72 cs_X11_311 rfl (Nat.le_of_ble_eq_true rfl) (m_greater l z _ (by omega) (by omega)) (Nat.zero_le _) (Nat.zero_le _) (fun r_72 g_72 f_72 q_72 => ?_)
                  obtain ⟨rfl, rfl, rfl⟩ := q_72
                  refine r_iload_n (pc := 75) 2 dX11_rows_75 rfl rfl ?_
                  refine r_icmp_le (pc := 76) (tgt := 117) dX11_rows_76 (by decide) (by omega) (by omega) (fun c_76 => ?_) (fun c_76 => ?_)
                  · have hyes : fwP (fun s i => (nxM wt n s).testBit i) (coV K wa b (K 40) (K 41) (bk 0) (bk 1) n a2) (decide (b = 1)) (tbL (fun s i => (nxM wt n s).testBit i) (coV K wa b (K 40) (K 41) (bk 0) (bk 1) n a2) (decide (b = 1)) n) (tbW (fun s i => (nxM wt n s).testBit i) (coV K wa b (K 40) (K 41) (bk 0) (bk 1) n a2) (decide (b = 1)) n) (wkS (fun s i => (nxM wt n s).testBit i) (coV K wa b (K 40) (K 41) (bk 0) (bk 1) n a2) (decide (b = 1)) n p).1 (wkS (fun s i => (nxM wt n s).testBit i) (coV K wa b (K 40) (K 41) (bk 0) (bk 1) n a2) (decide (b = 1)) n p).2 c := ⟨hmw.1, hmw.2, by rw [jnB_t (bg1 (by omega)), hI.2.2.2.2.1 (bg1 (by omega))]; omega⟩
                    have hcC : c = wkC (fun s i => (nxM wt n s).testBit i) (coV K wa b (K 40) (K 41) (bk 0) (bk 1) n a2) (decide (b = 1)) n p := by
                      rcases (show c < wkC (fun s i => (nxM wt n s).testBit i) (coV K wa b (K 40) (K 41) (bk 0) (bk 1) n a2) (decide (b = 1)) n p ∨ c = wkC (fun s i => (nxM wt n s).testBit i) (coV K wa b (K 40) (K 41) (bk 0) (bk 1) n a2) (decide (b = 1)) n p by omega) with q | q
                      · exact absurd hyes (hc3 c q)
                      · exact q
                    refine r_sub (L2 := [(5, (.int (iI (((wkC (fun s i => (nxM wt n s).testBit i) (coV K wa b (K 40) (K 41) (bk 0) (bk 1) n a2) (decide (b = 1)) n p : Nat) : Int))))), (4, (.int (iI (((p : Nat) : Int))))), (3, (.int (iI (tbL (fun s i => (nxM wt n s).testBit i) (coV K wa b (K 40) (K 41) (bk 0) (bk 1) n a2) (decide (b = 1)) n 0)))), (2, (.int (iI ((((wkS (fun s i => (nxM wt n s).testBit i) (coV K wa b (K 40) (K 41) (bk 0) (bk 1) n a2) (decide (b = 1)) n p).1 : Nat) : Int))))), (0, (.ref 164)), (1, (.int (iI (((b : Nat) : Int)))))]) [0, 1, 2, 3, 4, 5] (by rw [← hcC]; rfl) ?_
                    refine r_aload_n (pc := 117) 4 dX11_rows_117 rfl rfl ?_
                    refine r_getR (pc := 118) (b := 184) dX11_rows_118 fl_X11_76 rfl hM.k hM.r32 ?_
                    refine r_iload (pc := 121) 1 dX11_rows_121 rfl ?_
                    refine r_iload (pc := 123) 0 dX11_rows_123 rfl ?_
                    refine r_iastv (pc := 125) (i := p) dX11_rows_125 hM.a32 (by omega) (by decide) rfl ?_
                    refine r_iload_n (pc := 126) 3 dX11_rows_126 rfl rfl ?_
                    refine r_iconst (pc := 127) dX11_rows_127 ?_
                    refine r_iload (pc := 128) 0 dX11_rows_128 rfl ?_
                    refine r_ishl (pc := 130) (w := ((2 ^ (wkC (fun s i => (nxM wt n s).testBit i) (coV K wa b (K 40) (K 41) (bk 0) (bk 1) n a2) (decide (b = 1)) n p) : Nat) : Int)) dX11_rows_130  (iI_shl1 (by omega)) ?_
                    refine r_ior (pc := 131) (w := ((((wkS (fun s i => (nxM wt n s).testBit i) (coV K wa b (K 40) (K 41) (bk 0) (bk 1) n a2) (decide (b = 1)) n p).1) ||| (2 ^ (wkC (fun s i => (nxM wt n s).testBit i) (coV K wa b (K 40) (K 41) (bk 0) (bk 1) n a2) (decide (b = 1)) n p)) : Nat) : Int)) dX11_rows_131  (iI_or _ _) ?_
                    refine r_istore_n (pc := 132) (L2 := [(2, (.int (iI (((((wkS (fun s i => (nxM wt n s).testBit i) (coV K wa b (K 40) (K 41) (bk 0) (bk 1) n a2) (decide (b = 1)) n p).1) ||| (2 ^ (wkC (fun s i => (nxM wt n s).testBit i) (coV K wa b (K 40) (K 41) (bk 0) (bk 1) n a2) (decide (b = 1)) n p)) : Nat) : Int))))), (5, (.int (iI (((wkC (fun s i => (nxM wt n s).testBit i) (coV K wa b (K 40) (K 41) (bk 0) (bk 1) n a2) (decide (b = 1)) n p : Nat) : Int))))), (4, (.int (iI (((p : Nat) : Int))))), (3, (.int (iI (tbL (fun s i => (nxM wt n s).testBit i) (coV K wa b (K 40) (K 41) (bk 0) (bk 1) n a2) (decide (b = 1)) n 0)))), (0, (.ref 164)), (1, (.int (iI (((b : Nat) : Int)))))]) dX11_rows_132 rfl (by decide) rfl ?_
                    refine r_iincv (pc := 133) (y := ((p + 1 : Nat) : Int)) (L2 := [(4, (.int (iI (((p + 1 : Nat) : Int))))), (2, (.int (iI (((((wkS (fun s i => (nxM wt n s).testBit i) (coV K wa b (K 40) (K 41) (bk 0) (bk 1) n a2) (decide (b = 1)) n p).1) ||| (2 ^ (wkC (fun s i => (nxM wt n s).testBit i) (coV K wa b (K 40) (K 41) (bk 0) (bk 1) n a2) (decide (b = 1)) n p)) : Nat) : Int))))), (5, (.int (iI (((wkC (fun s i => (nxM wt n s).testBit i) (coV K wa b (K 40) (K 41) (bk 0) (bk 1) n a2) (decide (b = 1)) n p : Nat) : Int))))), (3, (.int (iI (tbL (fun s i => (nxM wt n s).testBit i) (coV K wa b (K 40) (K 41) (bk 0) (bk 1) n a2) (decide (b = 1)) n 0)))), (0, (.ref 164)), (1, (.int (iI (((b : Nat) : Int)))))]) 2 dX11_rows_133 rfl (by omega) (by decide) rfl ?_
                    refine r_goto (pc := 136) (tgt := 12) dX11_rows_136 (by decide) ?_
                    refine r_sub (L2 := [(4, (.int (iI (((p + 1 : Nat) : Int))))), (3, (.int (iI (tbL (fun s i => (nxM wt n s).testBit i) (coV K wa b (K 40) (K 41) (bk 0) (bk 1) n a2) (decide (b = 1)) n 0)))), (2, (.int (iI ((((wkS (fun s i => (nxM wt n s).testBit i) (coV K wa b (K 40) (K 41) (bk 0) (bk 1) n a2) (decide (b = 1)) n (p + 1)).1 : Nat) : Int))))), (0, (.ref 164)), (1, (.int (iI (((b : Nat) : Int)))))]) [0, 3, 1, 4, 5] (by rw [wkS_s]; rfl) ?_
                    exact ih (n - (p + 1)) (by omega) (p + 1) (by omega) (by omega) _ (fun q hq => by rw [stF_n _ _ _ hq]; exact hF1 q hq) (fun j hj => by rcases Nat.lt_succ_iff_lt_or_eq.mp hj with h | h; rw [stF_i _ _ _ (by omega)]; exact hR1 j h; subst h; exact stF_s _ _ _ _)
                  · refine r_goto (pc := 79) (tgt := 111) dX11_rows_79 (by decide) ?_
                    refine r_iincv (pc := 111) (y := ((c + 1 : Nat) : Int)) (L2 := [(5, (.int (iI (((c + 1 : Nat) : Int))))), (4, (.int (iI (((p : Nat) : Int))))), (3, (.int (iI (tbL (fun s i => (nxM wt n s).testBit i) (coV K wa b (K 40) (K 41) (bk 0) (bk 1) n a2) (decide (b = 1)) n 0)))), (2, (.int (iI ((((wkS (fun s i => (nxM wt n s).testBit i) (coV K wa b (K 40) (K 41) (bk 0) (bk 1) n a2) (decide (b = 1)) n p).1 : Nat) : Int))))), (0, (.ref 164)), (1, (.int (iI (((b : Nat) : Int)))))]) 0 dX11_rows_111 rfl (by omega) (by decide) rfl ?_
                    refine r_goto (pc := 114) (tgt := 24) dX11_rows_114 (by decide) ?_
                    have hne : ¬ fwP (fun s i => (nxM wt n s).testBit i) (coV K wa b (K 40) (K 41) (bk 0) (bk 1) n a2) (decide (b = 1)) (tbL (fun s i => (nxM wt n s).testBit i) (coV K wa b (K 40) (K 41) (bk 0) (bk 1) n a2) (decide (b = 1)) n) (tbW (fun s i => (nxM wt n s).testBit i) (coV K wa b (K 40) (K 41) (bk 0) (bk 1) n a2) (decide (b = 1)) n) (wkS (fun s i => (nxM wt n s).testBit i) (coV K wa b (K 40) (K 41) (bk 0) (bk 1) n a2) (decide (b = 1)) n p).1 (wkS (fun s i => (nxM wt n s).testBit i) (coV K wa b (K 40) (K 41) (bk 0) (bk 1) n a2) (decide (b = 1)) n p).2 c := fun h => by have h2 := h.2.2; rw [jnB_t (bg1 (by omega)), hI.2.2.2.2.1 (bg1 (by omega))] at h2; omega
                    have hlt : c < wkC (fun s i => (nxM wt n s).testBit i) (coV K wa b (K 40) (K 41) (bk 0) (bk 1) n a2) (decide (b = 1)) n p := Nat.lt_of_le_of_ne hc (fun h => hne (by rw [h]; exact hc2))
                    refine r_sub (L2 := [(5, (.int (iI (((c + 1 : Nat) : Int))))), (4, (.int (iI (((p : Nat) : Int))))), (3, (.int (iI (tbL (fun s i => (nxM wt n s).testBit i) (coV K wa b (K 40) (K 41) (bk 0) (bk 1) n a2) (decide (b = 1)) n 0)))), (2, (.int (iI ((((wkS (fun s i => (nxM wt n s).testBit i) (coV K wa b (K 40) (K 41) (bk 0) (bk 1) n a2) (decide (b = 1)) n p).1 : Nat) : Int))))), (0, (.ref 164)), (1, (.int (iI (((b : Nat) : Int)))))]) [0, 1, 2, 3, 4, 5] rfl ?_
                    exact ih2 (wkC (fun s i => (nxM wt n s).testBit i) (coV K wa b (K 40) (K 41) (bk 0) (bk 1) n a2) (decide (b = 1)) n p - (c + 1)) (by omega) (c + 1) (by omega) (by omega)
        refine r_iconst (pc := 21) dX11_rows_21 ?_
        refine r_istore (pc := 22) (L2 := [(5, (.int (iI (0)))), (4, (.int (iI (((p : Nat) : Int))))), (3, (.int (iI (tbL (fun s i => (nxM wt n s).testBit i) (coV K wa b (K 40) (K 41) (bk 0) (bk 1) n a2) (decide (b = 1)) n 0)))), (2, (.int (iI ((((wkS (fun s i => (nxM wt n s).testBit i) (coV K wa b (K 40) (K 41) (bk 0) (bk 1) n a2) (decide (b = 1)) n p).1 : Nat) : Int))))), (0, (.ref 164)), (1, (.int (iI (((b : Nat) : Int)))))]) dX11_rows_22 (by decide) rfl ?_
        refine r_sub (L2 := [(5, (.int (iI (((0 : Nat) : Int))))), (4, (.int (iI (((p : Nat) : Int))))), (3, (.int (iI (tbL (fun s i => (nxM wt n s).testBit i) (coV K wa b (K 40) (K 41) (bk 0) (bk 1) n a2) (decide (b = 1)) n 0)))), (2, (.int (iI ((((wkS (fun s i => (nxM wt n s).testBit i) (coV K wa b (K 40) (K 41) (bk 0) (bk 1) n a2) (decide (b = 1)) n p).1 : Nat) : Int))))), (0, (.ref 164)), (1, (.int (iI (((b : Nat) : Int)))))]) [0, 1, 2, 3, 4, 5] rfl ?_
        exact inner (wkC (fun s i => (nxM wt n s).testBit i) (coV K wa b (K 40) (K 41) (bk 0) (bk 1) n a2) (decide (b = 1)) n p) 0 (by omega) (by omega)
  refine r_iconst (pc := 0) dX11_rows_0 ?_
  refine r_istore_n (pc := 1) (L2 := [(2, (.int (iI (0)))), (0, (.ref 164)), (1, (.int (iI (((b : Nat) : Int)))))]) dX11_rows_1 rfl (by decide) rfl ?_
  refine r_aload_n (pc := 2) 1 dX11_rows_2 rfl rfl ?_
  refine r_getR (pc := 3) (b := 182) dX11_rows_3 fl_X11_70 rfl hM.k hM.r30 ?_
  refine r_iconst (pc := 6) dX11_rows_6 ?_
  refine r_ialdv (pc := 7) (w := tbL (fun s i => (nxM wt n s).testBit i) (coV K wa b (K 40) (K 41) (bk 0) (bk 1) n a2) (decide (b = 1)) n 0) dX11_rows_7 hM.a30 (by decide) (by decide) ((hR 0 (by omega)).1) ?_
  refine r_istore_n (pc := 8) (L2 := [(3, (.int (iI (tbL (fun s i => (nxM wt n s).testBit i) (coV K wa b (K 40) (K 41) (bk 0) (bk 1) n a2) (decide (b = 1)) n 0)))), (2, (.int (iI (0)))), (0, (.ref 164)), (1, (.int (iI (((b : Nat) : Int)))))]) dX11_rows_8 rfl (by decide) rfl ?_
  refine r_iconst (pc := 9) dX11_rows_9 ?_
  refine r_istore (pc := 10) (L2 := [(4, (.int (iI (0)))), (3, (.int (iI (tbL (fun s i => (nxM wt n s).testBit i) (coV K wa b (K 40) (K 41) (bk 0) (bk 1) n a2) (decide (b = 1)) n 0)))), (2, (.int (iI (0)))), (0, (.ref 164)), (1, (.int (iI (((b : Nat) : Int)))))]) dX11_rows_10 (by decide) rfl ?_
  refine r_sub (L2 := [(4, (.int (iI (((0 : Nat) : Int))))), (3, (.int (iI (tbL (fun s i => (nxM wt n s).testBit i) (coV K wa b (K 40) (K 41) (bk 0) (bk 1) n a2) (decide (b = 1)) n 0)))), (2, (.int (iI ((((wkS (fun s i => (nxM wt n s).testBit i) (coV K wa b (K 40) (K 41) (bk 0) (bk 1) n a2) (decide (b = 1)) n 0).1 : Nat) : Int))))), (0, (.ref 164)), (1, (.int (iI (((b : Nat) : Int)))))]) [0, 1, 2, 3, 4] rfl ?_
  exact outer n 0 (by omega) (by omega) f (fun _ _ => rfl) (fun _ h => absurd h (Nat.not_lt_zero _))

def sLo (K : Nat → Int) (n b : Nat) : Int := tbL (fun s i => (nxM (wtK K (K 42) (hdK K) n) n s).testBit i) (coV K (waK K (K 42) (hdK K)) b (K 40) (K 41) (bkK K 0) (bkK K 1) n (wmk (fun c => decide (ovK K c ≠ 0)) n)) (decide (b = 1)) n 0
def sWy (K : Nat → Int) (n b : Nat) : Nat := tbW (fun s i => (nxM (wtK K (K 42) (hdK K) n) n s).testBit i) (coV K (waK K (K 42) (hdK K)) b (K 40) (K 41) (bkK K 0) (bkK K 1) n (wmk (fun c => decide (ovK K c ≠ 0)) n)) (decide (b = 1)) n 0
def sRw (K : Nat → Int) (n b p : Nat) : Nat := wkC (fun s i => (nxM (wtK K (K 42) (hdK K) n) n s).testBit i) (coV K (waK K (K 42) (hdK K)) b (K 40) (K 41) (bkK K 0) (bkK K 1) n (wmk (fun c => decide (ovK K c ≠ 0)) n)) (decide (b = 1)) n p
def FnP (f f' : Fm) (K : Nat → Int) (n b : Nat) : Prop := (∀ a, a ≠ 164 → a ≠ 175 → a ≠ 176 → a ≠ 177 → a ≠ 178 → a ≠ 179 → a ≠ 182 → a ≠ 183 → a ≠ 184 → f' a = f a) ∧ (∀ q, q ≠ 18 → q ≠ 19 → q ≠ 20 → q ≠ 22 → q ≠ 23 → f' 164 q = f 164 q) ∧ (∃ bk : Bool, f' 164 20 = b01 (bk = true)) ∧ f' 182 0 = sLo K n b ∧ f' 183 0 = ((sWy K n b : Nat) : Int) ∧ (0 < sWy K n b → ∀ p, p < n → f' 184 p = ((sRw K n b p : Nat) : Int))

theorem sWy_r (K : Nat → Int) (n b : Nat) (hn : n ≤ 8) : sWy K n b ≤ 16777216 := tbW_r hn 0

set_option maxRecDepth 100000 in
set_option maxHeartbeats 4000000 in
theorem m_finds (l : Launch) (z : Zv) {g : Gm} {f : Fm} {K : Nat → Int} {D0 M0 : Int} {n b : Nat} (hM : ML g) (hK : f 166 = K) (hO : KO K D0 M0) (hD0 : D0 ≤ 1000000) (hM0 : M0 ≤ 1100000) (hn : K 77 = ((n : Nat) : Int)) (hb20 : ∃ bk : Bool, f 164 20 = b01 (bk = true)) (hb2 : b ≤ 2) {D : Nat} (hD : 273 ≤ D) : PM l z D mX11_finds [.ref 164, .int (iI ((b : Nat) : Int))] g f 0 0 (fun r g' f' => r = some (.int (iI (b01 (0 < sWy K n b)))) ∧ g = g' ∧ FnP f f' K n b) := by
  obtain ⟨d, rfl⟩ : ∃ d, D = d + 273 := ⟨D - 273, by omega⟩
  have hn8 : n ≤ 8 := by have := hO.n; omega
  have hp8 := pow8 hn8
  have hdy := hO.dy
  refine PM.of (by decide +kernel) (Nat.le_of_ble_eq_true rfl) ?_
  refine r_aload_n (pc := 0) 0 dX11_finds_0 rfl rfl ?_
  refine r_aload_n (pc := 1) 0 dX11_finds_1 rfl rfl ?_
  refine r_getR (pc := 2) (b := 166) dX11_finds_2 fl_X11_17 rfl hM.k hM.r2 ?_
  refine r_bipush (pc := 5) dX11_finds_5 (by decide) ?_
  refine r_ialdv (pc := 7) (w := K 42) dX11_finds_7 hM.a2 (by decide) (by decide) (congrFun hK 42) ?_
  refine r_callV (pc := 8) (As := [(.int (iI (K 42)))]) (S := []) dX11_finds_8 cv_X11_142 hM.k rfl (Nat.le_of_ble_eq_true rfl) (m_lays (day := K 42) l z hM hK hO hn hb20 (by omega) (D := d + 272) (by omega)) (Nat.zero_le _) (Nat.zero_le _) (fun r_8 g_8 f_8 q_8 => ?_)
  obtain ⟨rfl, rfl, hly⟩ := q_8
  have hMD := hly.md hK hO hM0 hn
  have hK8 : f_8 166 = K := by rw [hly.1 166 (by decide) (by decide) (by decide) (by decide) (by decide) (by decide)]; exact hK
  refine r_aload_n (pc := 11) 0 dX11_finds_11 rfl rfl ?_
  refine r_iload_n (pc := 12) 1 dX11_finds_12 rfl rfl ?_
  refine r_callV (pc := 13) (As := [(.int (iI (((b : Nat) : Int))))]) (S := []) dX11_finds_13 cv_X11_321 hM.k rfl (Nat.le_of_ble_eq_true rfl) (m_measures (b := b) (K := K) (a2 := wmk (fun c => decide (ovK K c ≠ 0)) n) l z (d + 268) hM hMD hK8 hO hb2 (fun k hk => by rw [wmk_bit, decide_eq_true hk]; simp)) (Nat.zero_le _) (Nat.zero_le _) (fun r_13 g_13 f_13 q_13 => ?_)
  obtain ⟨rfl, rfl, hme1, hme2⟩ := q_13
  refine r_aload_n (pc := 16) 0 dX11_finds_16 rfl rfl ?_
  refine r_getR (pc := 17) (b := 183) dX11_finds_17 fl_X11_73 rfl hM.k hM.r31 ?_
  refine r_iconst (pc := 20) dX11_finds_20 ?_
  refine r_ialdv (pc := 21) (w := ((sWy K n b : Nat) : Int)) dX11_finds_21 hM.a31 (by decide) (by decide) ((hme2 0 (by omega)).2) ?_
  refine r_if_ne (pc := 22) (tgt := 27) dX11_finds_22 (by decide) (by have := sWy_r K n b hn8; omega) (fun c_22 => ?_) (fun c_22 => ?_)
  · have hwy : 0 < sWy K n b := by omega
    refine r_aload_n (pc := 27) 0 dX11_finds_27 rfl rfl ?_
    refine r_iload_n (pc := 28) 1 dX11_finds_28 rfl rfl ?_
    refine r_callV (pc := 29) (As := [(.int (iI (((b : Nat) : Int))))]) (S := []) dX11_finds_29 cv_X11_324 hM.k rfl (Nat.le_of_ble_eq_true rfl) (m_rows (b := b) (K := K) (a2 := wmk (fun c => decide (ovK K c ≠ 0)) n) l z (d + 268) hM (hMD.mv (hme1 166 (by decide) (by decide)) (hme1 176 (by decide) (by decide)) (hme1 177 (by decide) (by decide)) (hme1 178 (by decide) (by decide))) ((hme1 166 (by decide) (by decide)).trans hK8) hO hb2 (fun k hk => by rw [wmk_bit, decide_eq_true hk]; simp) hme2 hwy) (Nat.zero_le _) (Nat.zero_le _) (fun r_29 g_29 f_29 q_29 => ?_)
    obtain ⟨rfl, rfl, hro1, hro2⟩ := q_29
    refine r_iconst (pc := 32) dX11_finds_32 ?_
    exact r_iret (pc := 33) dX11_finds_33 rfl rfl ⟨by rw [b01_t hwy], rfl, fun a h1 h2 h3 h4 h5 h6 h7 h8 h9 => by rw [hro1 a h9, hme1 a h7 h8]; exact hly.1 a h1 h2 h3 h4 h5 h6, fun q h1 h2 h3 h4 h5 => by rw [hro1 164 (by decide), hme1 164 (by decide) (by decide)]; exact hly.2.1 q h1 h2 h3 h4 h5, by rw [hro1 164 (by decide), hme1 164 (by decide) (by decide)]; exact hly.2.2.1, (congrFun (hro1 182 (by decide)) 0).trans (hme2 0 (by omega)).1, (congrFun (hro1 183 (by decide)) 0).trans (hme2 0 (by omega)).2, fun _ => hro2⟩
  · refine r_iconst (pc := 25) dX11_finds_25 ?_
    exact r_iret (pc := 26) dX11_finds_26 rfl rfl ⟨by rw [b01_f (by omega)], rfl, fun a h1 h2 h3 h4 h5 h6 h7 h8 h9 => by rw [hme1 a h7 h8]; exact hly.1 a h1 h2 h3 h4 h5 h6, fun q h1 h2 h3 h4 h5 => by rw [hme1 164 (by decide) (by decide)]; exact hly.2.1 q h1 h2 h3 h4 h5, by rw [hme1 164 (by decide) (by decide)]; exact hly.2.2.1, (hme2 0 (by omega)).1, (hme2 0 (by omega)).2, fun h => absurd h (by omega)⟩

set_option maxRecDepth 100000 in
set_option maxHeartbeats 4000000 in
theorem m_rowOf (l : Launch) (z : Zv) (d : Nat) {g : Gm} {f : Fm} {n : Nat} {i : Int} (hM : ML g) (hn : f 166 77 = ((n : Nat) : Int)) (hn8 : n ≤ 8) (hi : -2147483648 ≤ i ∧ i ≤ 2147483647) : PM l z (d + 1) mX11_rowOf [(.ref 164), (.int (iI (i)))] g f 0 0 (rdQ (.int (iI (if 0 ≤ i ∧ i ≤ (n : Int) - 1 then f 184 i.toNat else -1))) g f) := by
  refine PM.of (by decide +kernel) (Nat.le_of_ble_eq_true rfl) ?_
  refine r_iload_n (pc := 0) 1 dX11_rowOf_0 rfl rfl ?_
  refine r_iconst (pc := 1) dX11_rowOf_1 ?_
  refine r_aload_n (pc := 2) 0 dX11_rowOf_2 rfl rfl ?_
  refine r_callV (pc := 3) (As := []) (S := [(.int (iI (0))), (.int (iI (i)))]) dX11_rowOf_3 cv_X11_121 hM.k rfl (Nat.le_of_ble_eq_true rfl) (m_cust (v := ((n : Nat) : Int)) l z _ hM hn) (Nat.zero_le _) (Nat.zero_le _) (fun r_3 g_3 f_3 q_3 => ?_)
  obtain ⟨rfl, rfl, rfl⟩ := q_3
  refine r_iconst (pc := 6) dX11_rowOf_6 ?_
  refine r_isub (pc := 7) dX11_rowOf_7 ?_
  refine r_callS (pc := 8) (As := [(.int (iI (i))), (.int (iI (0))), (.int (iI ((((n : Nat) : Int)) - (1))))]) (S := []) dX11_rowOf_8 cs_X11_110 rfl (Nat.le_of_ble_eq_true rfl) (m_lies l z _ (by omega) (by omega) (by omega)) (Nat.zero_le _) (Nat.zero_le _) (fun r_8 g_8 f_8 q_8 => ?_)
  obtain ⟨rfl, rfl, rfl⟩ := q_8
  refine r_if_eq (pc := 11) (tgt := 23) dX11_rowOf_11 (by decide) (b01_r) (fun c_11 => ?_) (fun c_11 => ?_)
  · replace c_11 := b01_z c_11
    refine r_iconst (pc := 23) dX11_rowOf_23 ?_
    exact r_iret (pc := 24) dX11_rowOf_24 rfl rfl ⟨by rw [if_neg (by omega)], rfl, rfl⟩
  · replace c_11 := b01_nz c_11
    refine r_aload_n (pc := 14) 0 dX11_rowOf_14 rfl rfl ?_
    refine r_getR (pc := 15) (b := 184) dX11_rowOf_15 fl_X11_76 rfl hM.k hM.r32 ?_
    refine r_iload_n (pc := 18) 1 dX11_rowOf_18 rfl rfl ?_
    refine r_ialdv (pc := 19) (w := f 184 ((i).toNat)) dX11_rowOf_19 hM.a32 (by omega) (by decide) (rfl) ?_
    refine r_goto (pc := 20) (tgt := 24) dX11_rowOf_20 (by decide) ?_
    exact r_iret (pc := 24) dX11_rowOf_24 rfl rfl ⟨by rw [if_pos (by omega)], rfl, rfl⟩

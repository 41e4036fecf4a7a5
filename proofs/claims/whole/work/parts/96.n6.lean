/-- whether the sight k can be so when the oven ov has baked b -/
def soT (K : Nat → Int) (ov b k : Nat) : Bool := decide (ovK K (K (45 + 2 * k)).toNat ≠ ov) || decide (blA (K 40) (K 41) (((b + ahK K (K (45 + 2 * k)).toNat : Nat) : Int) + (((waK K (K 42) (hdK K)) (K (45 + 2 * k)).toNat : Nat) : Int)) - blA (K 40) (K 41) ((b + ahK K (K (45 + 2 * k)).toNat : Nat) : Int) = K (46 + 2 * k))
def soK (K : Nat → Int) (ov b : Nat) : Nat → Bool
  | 0 => true
  | k + 1 => soK K ov b k && soT K ov b k
theorem soK_s (K : Nat → Int) (ov b k : Nat) : soK K ov b (k + 1) = (soK K ov b k && soT K ov b k) := rfl
theorem soK_f {K : Nat → Int} {ov b k : Nat} (h : ¬ soK K ov b k = true) : ∀ m, k ≤ m → ¬ soK K ov b m = true
  | 0, hm => by rw [show 0 = k by omega]; exact h
  | m + 1, hm => by
    rcases (show k ≤ m ∨ k = m + 1 by omega) with q | q
    · rw [soK_s]
      intro e
      exact soK_f h m q (by simp at e; exact e.1)
    · rw [← q]; exact h
theorem soK_y {K : Nat → Int} {ov b k : Nat} (h : soK K ov b k = true) (ht : soT K ov b k = true) : soK K ov b (k + 1) = true := by rw [soK_s, h, ht]; rfl
theorem soK_n {K : Nat → Int} {ov b k : Nat} (ht : ¬ soT K ov b k = true) : ¬ soK K ov b (k + 1) = true := by rw [soK_s]; intro e; simp at e; exact ht e.2
/-- counts, from the count b on, when fd are found -/
def ctR (so : Nat → Bool) (i : Int) : Nat → Nat → Nat → Int
  | 0, _, fd => if i = -1 then (fd : Int) else -1
  | m + 1, b, fd => if so b = true then (if (fd : Int) = i then (b : Int) else ctR so i m (b + 1) (fd + 1)) else ctR so i m (b + 1) fd
theorem ctR_n {so : Nat → Bool} {i : Int} {m b fd : Nat} (h : ¬ so b = true) : ctR so i (m + 1) b fd = ctR so i m (b + 1) fd := by rw [ctR, if_neg h]
theorem ctR_y {so : Nat → Bool} {i : Int} {m b fd : Nat} (h : so b = true) (h2 : ¬ (fd : Int) = i) : ctR so i (m + 1) b fd = ctR so i m (b + 1) (fd + 1) := by rw [ctR, if_pos h, if_neg h2]
theorem ctR_e {so : Nat → Bool} {i : Int} {m b fd : Nat} (h : so b = true) (h2 : (fd : Int) = i) : ctR so i (m + 1) b fd = (b : Int) := by rw [ctR, if_pos h, if_pos h2]
def rdK (K : Nat → Int) : Nat := (if K 41 = 0 then K 40 else K 41 * K 40 + 1).toNat
theorem rdK_e {K : Nat → Int} {D0 M0 : Int} (hO : KO K D0 M0) : ((rdK K : Nat) : Int) = (if K 41 = 0 then K 40 else K 41 * K 40 + 1) ∧ rdK K ≤ 200 := by
  have h1 := hO.dz
  have h2 := hO.lp
  have h3 : 0 ≤ K 41 * K 40 := Int.mul_nonneg (by omega) (by omega)
  have h4 : K 41 * K 40 ≤ K 41 * 20 := Int.mul_le_mul_of_nonneg_left (by omega) (by omega)
  unfold rdK
  split <;> omega
def ctA (K : Nat → Int) (ov i : Int) : Int := if (0 ≤ ov ∧ ov ≤ 1) ∧ -1 ≤ i then ctR (fun b => soK K ov.toNat b (K 78).toNat) i (rdK K) 0 0 else -1
theorem blA_dr {K : Nat → Int} {D0 M0 : Int} {a w : Nat} (hO : KO K D0 M0) (hw : w ≤ 40) : 0 ≤ blA (K 40) (K 41) (((a : Nat) : Int) + ((w : Nat) : Int)) - blA (K 40) (K 41) ((a : Nat) : Int) ∧ blA (K 40) (K 41) (((a : Nat) : Int) + ((w : Nat) : Int)) - blA (K 40) (K 41) ((a : Nat) : Int) ≤ 20 := blA_20 hO.dz.1 hO.lp (by omega) hw

set_option maxRecDepth 100000 in
set_option maxHeartbeats 4000000 in
theorem m_counts (l : Launch) (z : Zv) {g : Gm} {f : Fm} {K : Nat → Int} {D0 M0 : Int} {n : Nat} (hM : ML g) (hK : f 166 = K) (hO : KO K D0 M0) (hD0 : D0 ≤ 1000000) (hM0 : M0 ≤ 1100000) (hn : K 77 = ((n : Nat) : Int)) (hb20 : ∃ bk : Bool, f 164 20 = b01 (bk = true)) {ov i : Int} (h_ov : -2147483648 ≤ ov ∧ ov ≤ 2147483647) (h_i : -2147483648 ≤ i ∧ i ≤ 2147483647) {D : Nat} (hD : 273 ≤ D) : PM l z D mX11_counts [.ref 164, .int (iI ov), .int (iI i)] g f 0 0 (fun r g' f' => r = some (.int (iI (ctA K ov i))) ∧ g = g' ∧ MSc f f') := by
  obtain ⟨d, rfl⟩ : ∃ d, D = d + 273 := ⟨D - 273, by omega⟩
  have hn8 : n ≤ 8 := by have := hO.n; omega
  have hp8 := pow8 hn8
  have hdy := hO.dy
  refine PM.of (by decide +kernel) (Nat.le_of_ble_eq_true rfl) ?_
  refine r_iload_n (pc := 0) 1 dX11_counts_0 rfl rfl ?_
  refine r_iconst (pc := 1) dX11_counts_1 ?_
  refine r_iconst (pc := 2) dX11_counts_2 ?_
  refine r_callS (pc := 3) (As := [(.int (iI (ov))), (.int (iI (0))), (.int (iI (1)))]) (S := []) dX11_counts_3 cs_X11_110 rfl (Nat.le_of_ble_eq_true rfl) (m_lies l z _ (by omega) (by omega) (by omega)) (Nat.zero_le _) (Nat.zero_le _) (fun r_3 g_3 f_3 q_3 => ?_)
  obtain ⟨rfl, rfl, rfl⟩ := q_3
  refine r_if_eq (pc := 6) (tgt := 14) dX11_counts_6 (by decide) (b01_r) (fun c_6 => ?_) (fun c_6 => ?_)
  · replace c_6 := b01_z c_6
    refine r_iconst (pc := 14) dX11_counts_14 ?_
    exact r_iret (pc := 15) dX11_counts_15 rfl rfl ⟨by unfold ctA; rw [if_neg (fun q => by omega)], rfl, MSc.rf hb20⟩
  · replace c_6 := b01_nz c_6
    refine r_iload_n (pc := 9) 2 dX11_counts_9 rfl rfl ?_
    refine r_iconst (pc := 10) dX11_counts_10 ?_
    refine r_icmp_ge (pc := 11) (tgt := 16) dX11_counts_11 (by decide) (by omega) (by omega) (fun c_11 => ?_) (fun c_11 => ?_)
    · refine r_aload_n (pc := 16) 0 dX11_counts_16 rfl rfl ?_
      refine r_aload_n (pc := 17) 0 dX11_counts_17 rfl rfl ?_
      refine r_getR (pc := 18) (b := 166) dX11_counts_18 fl_X11_17 rfl hM.k hM.r2 ?_
      refine r_bipush (pc := 21) dX11_counts_21 (by decide) ?_
      refine r_ialdv (pc := 23) (w := K 42) dX11_counts_23 hM.a2 (by decide) (by decide) (congrFun hK 42) ?_
      refine r_callV (pc := 24) (As := [(.int (iI (K 42)))]) (S := []) dX11_counts_24 cv_X11_142 hM.k rfl (Nat.le_of_ble_eq_true rfl) (m_lays (day := K 42) l z hM hK hO hn hb20 (by omega) (D := d + 272) (by omega)) (Nat.zero_le _) (Nat.zero_le _) (fun r_24 g_24 f_24 q_24 => ?_)
      obtain ⟨rfl, rfl, hly⟩ := q_24
      have hMD := hly.md hK hO hM0 hn
      have hK8 : f_24 166 = K := by rw [hly.1 166 (by decide) (by decide) (by decide) (by decide) (by decide) (by decide)]; exact hK
      have hrd := rdK_e hO
      have hsm := hO.sm
      have hhov : 0 ≤ ov ∧ ov ≤ 1 := by omega
      have hhi : -1 ≤ i := by omega
      have inner : ∀ b fd, b < rdK K → fd ≤ b → ctA K ov i = ctR (fun b => soK K ov.toNat b (K 78).toNat) i (rdK K - b) b fd → ∀ m k : Nat, m = (K 78).toNat - k → k ≤ (K 78).toNat → ∀ f1 : Fm, (∀ q, q ≠ 178 → f1 q = f_24 q) → (∀ q, q ≠ ov.toNat → f1 178 q = f_24 178 q) → f1 178 ov.toNat = ((b : Nat) : Int) → (∀ fd2, fd2 ≤ b + 1 → ctA K ov i = ctR (fun b => soK K ov.toNat b (K 78).toNat) i (rdK K - (b + 1)) (b + 1) fd2 → ∀ f2 : Fm, (∀ q, q ≠ 178 → f2 q = f_24 q) → (∀ q, q ≠ ov.toNat → f2 178 q = f_24 178 q) → PW l z (d + 273) mX11_counts 0 0 (fun r g' f' => r = some (.int (iI (ctA K ov i))) ∧ g = g' ∧ MSc f f') 71 [(5, (.int (iI (((b + 1 : Nat) : Int))))), (4, (.int (iI (((fd2 : Nat) : Int))))), (3, (.int (iI (((rdK K : Nat) : Int))))), (0, (.ref 164)), (1, (.int (iI (ov)))), (2, (.int (iI (i))))] [] g f2 0 0) → PW l z (d + 273) mX11_counts 0 0 (fun r g' f' => r = some (.int (iI (ctA K ov i))) ∧ g = g' ∧ MSc f f') 91 [(7, (.int (iI (((k : Nat) : Int))))), (6, (.int (iI (b01 (soK K ov.toNat b k = true))))), (5, (.int (iI (((b : Nat) : Int))))), (4, (.int (iI (((fd : Nat) : Int))))), (3, (.int (iI (((rdK K : Nat) : Int))))), (0, (.ref 164)), (1, (.int (iI (ov)))), (2, (.int (iI (i))))] [] g f1 0 0 := by
        intro b fd hbr hfd hct m
        induction m using Nat.strongRecOn with
        | _ m ih2 =>
          intro k hm hk0 f1 hF1 hG1 hb1 hk
          refine r_iload (pc := 91) 0 dX11_counts_91 rfl ?_
          refine r_aload_n (pc := 93) 5 dX11_counts_93 rfl rfl ?_
          refine r_getR (pc := 94) (b := 166) dX11_counts_94 fl_X11_17 rfl hM.k hM.r2 ?_
          refine r_bipush (pc := 97) dX11_counts_97 (by decide) ?_
          refine r_ialdv (pc := 99) (w := K 78) dX11_counts_99 hM.a2 (by decide) (by decide) ((congrFun (hF1 166 (by decide)) _).trans (congrFun hK8 _)) ?_
          refine r_icmp_ge (pc := 100) (tgt := 175) dX11_counts_100 (by decide) (by omega) (by omega) (fun c_100 => ?_) (fun c_100 => ?_)
          · have hke : k = (K 78).toNat := by omega
            refine r_sub (L2 := [(6, (.int (iI (b01 (soK K ov.toNat b (K 78).toNat = true))))), (5, (.int (iI (((b : Nat) : Int))))), (4, (.int (iI (((fd : Nat) : Int))))), (3, (.int (iI (((rdK K : Nat) : Int))))), (0, (.ref 164)), (1, (.int (iI (ov)))), (2, (.int (iI (i))))]) [1, 2, 3, 4, 5, 6, 7] (by rw [hke]; rfl) ?_
            refine r_iload (pc := 175) 0 dX11_counts_175 rfl ?_
            refine r_if_ne (pc := 177) (tgt := 183) dX11_counts_177 (by decide) (b01_r) (fun c_177 => ?_) (fun c_177 => ?_)
            · replace c_177 := b01_nz c_177
              refine r_iload (pc := 183) 2 dX11_counts_183 rfl ?_
              refine r_iload_n (pc := 185) 6 dX11_counts_185 rfl rfl ?_
              refine r_icmp_ne (pc := 186) (tgt := 192) dX11_counts_186 (by decide) (by omega) (by omega) (fun c_186 => ?_) (fun c_186 => ?_)
              · refine r_iincv (pc := 192) (y := ((fd + 1 : Nat) : Int)) (L2 := [(4, (.int (iI (((fd + 1 : Nat) : Int))))), (6, (.int (iI (b01 (soK K ov.toNat b (K 78).toNat = true))))), (5, (.int (iI (((b : Nat) : Int))))), (3, (.int (iI (((rdK K : Nat) : Int))))), (0, (.ref 164)), (1, (.int (iI (ov)))), (2, (.int (iI (i))))]) 2 dX11_counts_192 rfl (by omega) (by decide) rfl ?_
                refine r_iincv (pc := 195) (y := ((b + 1 : Nat) : Int)) (L2 := [(5, (.int (iI (((b + 1 : Nat) : Int))))), (4, (.int (iI (((fd + 1 : Nat) : Int))))), (6, (.int (iI (b01 (soK K ov.toNat b (K 78).toNat = true))))), (3, (.int (iI (((rdK K : Nat) : Int))))), (0, (.ref 164)), (1, (.int (iI (ov)))), (2, (.int (iI (i))))]) 2 dX11_counts_195 rfl (by omega) (by decide) rfl ?_
                refine r_goto (pc := 198) (tgt := 71) dX11_counts_198 (by decide) ?_
                refine r_sub (L2 := [(5, (.int (iI (((b + 1 : Nat) : Int))))), (4, (.int (iI (((fd + 1 : Nat) : Int))))), (3, (.int (iI (((rdK K : Nat) : Int))))), (0, (.ref 164)), (1, (.int (iI (ov)))), (2, (.int (iI (i))))]) [0, 1, 3, 4, 5, 6] rfl ?_
                exact hk (fd + 1) (by omega) (by rw [hct, show rdK K - b = (rdK K - (b + 1)) + 1 by omega, ctR_y (so := (fun b => soK K ov.toNat b (K 78).toNat)) c_177 (by omega)]) f1 hF1 hG1
              · refine r_iload (pc := 189) 1 dX11_counts_189 rfl ?_
                exact r_iret (pc := 191) dX11_counts_191 rfl rfl ⟨by rw [hct, show rdK K - b = (rdK K - (b + 1)) + 1 by omega, ctR_e (so := (fun b => soK K ov.toNat b (K 78).toNat)) c_177 (by omega)], rfl, hly.mf.tr (fun q hq => hF1 q (by omega))⟩
            · replace c_177 := b01_z c_177
              refine r_goto (pc := 180) (tgt := 195) dX11_counts_180 (by decide) ?_
              refine r_iincv (pc := 195) (y := ((b + 1 : Nat) : Int)) (L2 := [(5, (.int (iI (((b + 1 : Nat) : Int))))), (6, (.int (iI (b01 (soK K ov.toNat b (K 78).toNat = true))))), (4, (.int (iI (((fd : Nat) : Int))))), (3, (.int (iI (((rdK K : Nat) : Int))))), (0, (.ref 164)), (1, (.int (iI (ov)))), (2, (.int (iI (i))))]) 1 dX11_counts_195 rfl (by omega) (by decide) rfl ?_
              refine r_goto (pc := 198) (tgt := 71) dX11_counts_198 (by decide) ?_
              refine r_sub (L2 := [(5, (.int (iI (((b + 1 : Nat) : Int))))), (4, (.int (iI (((fd : Nat) : Int))))), (3, (.int (iI (((rdK K : Nat) : Int))))), (0, (.ref 164)), (1, (.int (iI (ov)))), (2, (.int (iI (i))))]) [0, 2, 3, 4, 5, 6] rfl ?_
              exact hk fd (by omega) (by rw [hct, show rdK K - b = (rdK K - (b + 1)) + 1 by omega, ctR_n (so := (fun b => soK K ov.toNat b (K 78).toNat)) c_177]) f1 hF1 hG1
          · refine r_iload (pc := 103) 1 dX11_counts_103 rfl ?_
            refine r_if_eq (pc := 105) (tgt := 175) dX11_counts_105 (by decide) (b01_r) (fun c_105 => ?_) (fun c_105 => ?_)
            · replace c_105 := b01_z c_105
              have hff := soK_f c_105 (K 78).toNat (by omega)
              refine r_sub (L2 := [(6, (.int (iI (b01 (soK K ov.toNat b (K 78).toNat = true))))), (5, (.int (iI (((b : Nat) : Int))))), (4, (.int (iI (((fd : Nat) : Int))))), (3, (.int (iI (((rdK K : Nat) : Int))))), (0, (.ref 164)), (1, (.int (iI (ov)))), (2, (.int (iI (i))))]) [1, 2, 3, 4, 5, 6, 7] (by rw [b01_f hff, b01_f c_105]; rfl) ?_
              refine r_iload (pc := 175) 0 dX11_counts_175 rfl ?_
              refine r_if_ne (pc := 177) (tgt := 183) dX11_counts_177 (by decide) (b01_r) (fun c_177 => ?_) (fun c_177 => ?_)
              · replace c_177 := b01_nz c_177
                refine r_iload (pc := 183) 2 dX11_counts_183 rfl ?_
                refine r_iload_n (pc := 185) 6 dX11_counts_185 rfl rfl ?_
                refine r_icmp_ne (pc := 186) (tgt := 192) dX11_counts_186 (by decide) (by omega) (by omega) (fun c_186 => ?_) (fun c_186 => ?_)
                · refine r_iincv (pc := 192) (y := ((fd + 1 : Nat) : Int)) (L2 := [(4, (.int (iI (((fd + 1 : Nat) : Int))))), (6, (.int (iI (b01 (soK K ov.toNat b (K 78).toNat = true))))), (5, (.int (iI (((b : Nat) : Int))))), (3, (.int (iI (((rdK K : Nat) : Int))))), (0, (.ref 164)), (1, (.int (iI (ov)))), (2, (.int (iI (i))))]) 2 dX11_counts_192 rfl (by omega) (by decide) rfl ?_
                  refine r_iincv (pc := 195) (y := ((b + 1 : Nat) : Int)) (L2 := [(5, (.int (iI (((b + 1 : Nat) : Int))))), (4, (.int (iI (((fd + 1 : Nat) : Int))))), (6, (.int (iI (b01 (soK K ov.toNat b (K 78).toNat = true))))), (3, (.int (iI (((rdK K : Nat) : Int))))), (0, (.ref 164)), (1, (.int (iI (ov)))), (2, (.int (iI (i))))]) 2 dX11_counts_195 rfl (by omega) (by decide) rfl ?_
                  refine r_goto (pc := 198) (tgt := 71) dX11_counts_198 (by decide) ?_
                  refine r_sub (L2 := [(5, (.int (iI (((b + 1 : Nat) : Int))))), (4, (.int (iI (((fd + 1 : Nat) : Int))))), (3, (.int (iI (((rdK K : Nat) : Int))))), (0, (.ref 164)), (1, (.int (iI (ov)))), (2, (.int (iI (i))))]) [0, 1, 3, 4, 5, 6] rfl ?_
                  exact hk (fd + 1) (by omega) (by rw [hct, show rdK K - b = (rdK K - (b + 1)) + 1 by omega, ctR_y (so := (fun b => soK K ov.toNat b (K 78).toNat)) c_177 (by omega)]) f1 hF1 hG1
                · refine r_iload (pc := 189) 1 dX11_counts_189 rfl ?_
                  exact r_iret (pc := 191) dX11_counts_191 rfl rfl ⟨by rw [hct, show rdK K - b = (rdK K - (b + 1)) + 1 by omega, ctR_e (so := (fun b => soK K ov.toNat b (K 78).toNat)) c_177 (by omega)], rfl, hly.mf.tr (fun q hq => hF1 q (by omega))⟩
              · replace c_177 := b01_z c_177
                refine r_goto (pc := 180) (tgt := 195) dX11_counts_180 (by decide) ?_
                refine r_iincv (pc := 195) (y := ((b + 1 : Nat) : Int)) (L2 := [(5, (.int (iI (((b + 1 : Nat) : Int))))), (6, (.int (iI (b01 (soK K ov.toNat b (K 78).toNat = true))))), (4, (.int (iI (((fd : Nat) : Int))))), (3, (.int (iI (((rdK K : Nat) : Int))))), (0, (.ref 164)), (1, (.int (iI (ov)))), (2, (.int (iI (i))))]) 1 dX11_counts_195 rfl (by omega) (by decide) rfl ?_
                refine r_goto (pc := 198) (tgt := 71) dX11_counts_198 (by decide) ?_
                refine r_sub (L2 := [(5, (.int (iI (((b + 1 : Nat) : Int))))), (4, (.int (iI (((fd : Nat) : Int))))), (3, (.int (iI (((rdK K : Nat) : Int))))), (0, (.ref 164)), (1, (.int (iI (ov)))), (2, (.int (iI (i))))]) [0, 2, 3, 4, 5, 6] rfl ?_
                exact hk fd (by omega) (by rw [hct, show rdK K - b = (rdK K - (b + 1)) + 1 by omega, ctR_n (so := (fun b => soK K ov.toNat b (K 78).toNat)) c_177]) f1 hF1 hG1
            · replace c_105 := b01_nz c_105
              have h77 := hO.n
              have hsk := hO.si k (by omega)
              have hov := ovK_r (c := (K (45 + 2 * k)).toNat) hO (by omega)
              have hp7 := Nat.pow_le_pow_right (n := 2) (by decide) (show (K (45 + 2 * k)).toNat ≤ 7 by omega)
              have hp1 : 1 ≤ 2 ^ (K (45 + 2 * k)).toNat := Nat.one_le_two_pow
              have hMb : MD f1 n (ovK K) (waK K (K 42) (hdK K)) (wtK K (K 42) (hdK K) n) (fun o => if o = ov.toNat then b else bkK K o) := ⟨by rw [hF1 166 (by decide)]; exact hMD.1, hn8, fun c hc => by rw [hF1 166 (by decide)]; exact hMD.2.2.1 c hc, fun c hc => by rw [hF1 176 (by decide)]; exact hMD.2.2.2.1 c hc, fun c hc => by rw [hF1 177 (by decide)]; exact hMD.2.2.2.2.1 c hc, fun o ho => by
                show f1 178 o = (((if o = ov.toNat then b else bkK K o) : Nat) : Int) ∧ (if o = ov.toNat then b else bkK K o) ≤ 1100000
                by_cases e : o = ov.toNat
                · rw [if_pos e, e]; exact ⟨hb1, by omega⟩
                · rw [if_neg e, hG1 o e]; exact hMD.2.2.2.2.2 o ho⟩
              refine r_aload_n (pc := 108) 5 dX11_counts_108 rfl rfl ?_
              refine r_getR (pc := 109) (b := 166) dX11_counts_109 fl_X11_17 rfl hM.k hM.r2 ?_
              refine r_bipush (pc := 112) dX11_counts_112 (by decide) ?_
              refine r_iconst (pc := 114) dX11_counts_114 ?_
              refine r_iload (pc := 115) 0 dX11_counts_115 rfl ?_
              refine r_imul (pc := 117) dX11_counts_117 ?_
              refine r_eqI (y := ((2 * k : Nat) : Int)) (Int.natCast_mul _ _ |>.symm) ?_
              refine r_iadd (pc := 118) dX11_counts_118 ?_
              refine r_eqI (y := ((45 + 2 * k : Nat) : Int)) (by omega) ?_
              refine r_ialdv (pc := 119) (w := K (45 + 2 * k)) dX11_counts_119 hM.a2 (by omega) (by decide) ((congrFun (hF1 166 (by decide)) _).trans (congrFun hK8 _)) ?_
              refine r_istore (pc := 120) (L2 := [(8, (.int (iI (K (45 + 2 * k))))), (7, (.int (iI (((k : Nat) : Int))))), (6, (.int (iI (b01 (soK K ov.toNat b k = true))))), (5, (.int (iI (((b : Nat) : Int))))), (4, (.int (iI (((fd : Nat) : Int))))), (3, (.int (iI (((rdK K : Nat) : Int))))), (0, (.ref 164)), (1, (.int (iI (ov)))), (2, (.int (iI (i))))]) dX11_counts_120 (by decide) rfl ?_
              refine r_aload_n (pc := 122) 6 dX11_counts_122 rfl rfl ?_
              refine r_iload (pc := 123) 0 dX11_counts_123 rfl ?_
              refine r_eqI (y := (((K (45 + 2 * k)).toNat : Nat) : Int)) (by omega) ?_
              refine r_iconst (pc := 125) dX11_counts_125 ?_
              refine r_callV (pc := 126) (As := [(.int (iI ((((K (45 + 2 * k)).toNat : Nat) : Int)))), (.int (iI (2)))]) (S := []) dX11_counts_126 cv_X11_138 hM.k rfl (Nat.le_of_ble_eq_true rfl) (m_fact (c := (K (45 + 2 * k)).toNat) (w := 2) (v := ((ovK K (K (45 + 2 * k)).toNat : Nat) : Int)) l z _ hM (by omega) (by decide) (((congrFun (hF1 166 (by decide)) _).trans (congrFun hK8 _)).trans hov.1)) (Nat.zero_le _) (Nat.zero_le _) (fun r_126 g_126 f_126 q_126 => ?_)
              obtain ⟨rfl, rfl, rfl⟩ := q_126
              refine r_iload_n (pc := 129) 7 dX11_counts_129 rfl rfl ?_
              refine r_icmp_ne (pc := 130) (tgt := 162) dX11_counts_130 (by decide) (by omega) (by omega) (fun c_130 => ?_) (fun c_130 => ?_)
              · refine r_iconst (pc := 162) dX11_counts_162 ?_
                refine r_goto (pc := 163) (tgt := 167) dX11_counts_163 (by decide) ?_
                refine r_istore (pc := 167) (L2 := [(6, (.int (iI (1)))), (8, (.int (iI (K (45 + 2 * k))))), (7, (.int (iI (((k : Nat) : Int))))), (5, (.int (iI (((b : Nat) : Int))))), (4, (.int (iI (((fd : Nat) : Int))))), (3, (.int (iI (((rdK K : Nat) : Int))))), (0, (.ref 164)), (1, (.int (iI (ov)))), (2, (.int (iI (i))))]) dX11_counts_167 (by decide) rfl ?_
                refine r_iincv (pc := 169) (y := ((k + 1 : Nat) : Int)) (L2 := [(7, (.int (iI (((k + 1 : Nat) : Int))))), (6, (.int (iI (1)))), (8, (.int (iI (K (45 + 2 * k))))), (5, (.int (iI (((b : Nat) : Int))))), (4, (.int (iI (((fd : Nat) : Int))))), (3, (.int (iI (((rdK K : Nat) : Int))))), (0, (.ref 164)), (1, (.int (iI (ov)))), (2, (.int (iI (i))))]) 2 dX11_counts_169 rfl (by omega) (by decide) rfl ?_
                refine r_goto (pc := 172) (tgt := 91) dX11_counts_172 (by decide) ?_
                have ht : soT K ov.toNat b k = true := by unfold soT; rw [decide_eq_true (show ovK K (K (45 + 2 * k)).toNat ≠ ov.toNat by omega)]; rfl
                refine r_sub (L2 := [(7, (.int (iI (((k + 1 : Nat) : Int))))), (6, (.int (iI (b01 (soK K ov.toNat b (k + 1) = true))))), (5, (.int (iI (((b : Nat) : Int))))), (4, (.int (iI (((fd : Nat) : Int))))), (3, (.int (iI (((rdK K : Nat) : Int))))), (0, (.ref 164)), (1, (.int (iI (ov)))), (2, (.int (iI (i))))]) [0, 1, 3, 4, 5, 6, 7, 8] (by rw [b01_t (soK_y c_105 ht)]; rfl) ?_
                exact ih2 ((K 78).toNat - (k + 1)) (by omega) (k + 1) (by omega) (by omega) f1 hF1 hG1 hb1 hk
              · refine r_aload_n (pc := 133) 6 dX11_counts_133 rfl rfl ?_
                refine r_iconst (pc := 134) dX11_counts_134 ?_
                refine r_iload (pc := 135) 0 dX11_counts_135 rfl ?_
                refine r_eqI (y := (((K (45 + 2 * k)).toNat : Nat) : Int)) (by omega) ?_
                refine r_ishl (pc := 137) (w := ((2 ^ ((K (45 + 2 * k)).toNat) : Nat) : Int)) dX11_counts_137  (iI_shl1 (by omega)) ?_
                refine r_iconst (pc := 138) dX11_counts_138 ?_
                refine r_isub (pc := 139) dX11_counts_139 ?_
                refine r_eqI (y := ((2 ^ (K (45 + 2 * k)).toNat - 1 : Nat) : Int)) (by omega) ?_
                refine r_iload (pc := 140) 0 dX11_counts_140 rfl ?_
                refine r_eqI (y := (((K (45 + 2 * k)).toNat : Nat) : Int)) (by omega) ?_
                refine r_callV (pc := 142) (As := [(.int (iI (((2 ^ (K (45 + 2 * k)).toNat - 1 : Nat) : Int)))), (.int (iI ((((K (45 + 2 * k)).toNat : Nat) : Int))))]) (S := []) dX11_counts_142 cv_X11_299 hM.k rfl (Nat.le_of_ble_eq_true rfl) (m_getsOf (s := 2 ^ (K (45 + 2 * k)).toNat - 1) (c := (K (45 + 2 * k)).toNat) l z (d + 270) hM hMb (((congrFun (hF1 166 (by decide)) 40).trans (congrFun hK8 40))) (((congrFun (hF1 166 (by decide)) 41).trans (congrFun hK8 41))) hO.dz hO.lp (by omega) (by omega)) (Nat.zero_le _) (Nat.zero_le _) (fun r_142 g_142 f_142 q_142 => ?_)
                obtain ⟨rfl, rfl, rfl⟩ := q_142
                refine r_eqI (y := blA (K 40) (K 41) (((b + ahK K (K (45 + 2 * k)).toNat : Nat) : Int) + (((waK K (K 42) (hdK K)) (K (45 + 2 * k)).toNat : Nat) : Int)) - blA (K 40) (K 41) ((b + ahK K (K (45 + 2 * k)).toNat : Nat) : Int)) (by unfold geV; rw [stV_told (by omega), if_pos (show ovK K (K (45 + 2 * k)).toNat = ov.toNat by omega)]; rfl) ?_
                have hgr := blA_dr (K := K) (a := b + ahK K (K (45 + 2 * k)).toNat) (w := (waK K (K 42) (hdK K)) (K (45 + 2 * k)).toNat) hO (waK_r hO (by omega))
                refine r_aload_n (pc := 145) 6 dX11_counts_145 rfl rfl ?_
                refine r_getR (pc := 146) (b := 166) dX11_counts_146 fl_X11_17 rfl hM.k hM.r2 ?_
                refine r_bipush (pc := 149) dX11_counts_149 (by decide) ?_
                refine r_iconst (pc := 151) dX11_counts_151 ?_
                refine r_iload (pc := 152) 1 dX11_counts_152 rfl ?_
                refine r_imul (pc := 154) dX11_counts_154 ?_
                refine r_eqI (y := ((2 * k : Nat) : Int)) (Int.natCast_mul _ _ |>.symm) ?_
                refine r_iadd (pc := 155) dX11_counts_155 ?_
                refine r_eqI (y := ((45 + (2 * k) : Nat) : Int)) (Int.natCast_add _ _ |>.symm) ?_
                refine r_iconst (pc := 156) dX11_counts_156 ?_
                refine r_iadd (pc := 157) dX11_counts_157 ?_
                refine r_eqI (y := ((46 + 2 * k : Nat) : Int)) (by omega) ?_
                refine r_ialdv (pc := 158) (w := K (46 + 2 * k)) dX11_counts_158 hM.a2 (by omega) (by decide) ((congrFun (hF1 166 (by decide)) _).trans (congrFun hK8 _)) ?_
                refine r_icmp_ne (pc := 159) (tgt := 166) dX11_counts_159 (by decide) (by omega) (by omega) (fun c_159 => ?_) (fun c_159 => ?_)
                · refine r_iconst (pc := 166) dX11_counts_166 ?_
                  refine r_istore (pc := 167) (L2 := [(6, (.int (iI (0)))), (8, (.int (iI (K (45 + 2 * k))))), (7, (.int (iI (((k : Nat) : Int))))), (5, (.int (iI (((b : Nat) : Int))))), (4, (.int (iI (((fd : Nat) : Int))))), (3, (.int (iI (((rdK K : Nat) : Int))))), (0, (.ref 164)), (1, (.int (iI (ov)))), (2, (.int (iI (i))))]) dX11_counts_167 (by decide) rfl ?_
                  refine r_iincv (pc := 169) (y := ((k + 1 : Nat) : Int)) (L2 := [(7, (.int (iI (((k + 1 : Nat) : Int))))), (6, (.int (iI (0)))), (8, (.int (iI (K (45 + 2 * k))))), (5, (.int (iI (((b : Nat) : Int))))), (4, (.int (iI (((fd : Nat) : Int))))), (3, (.int (iI (((rdK K : Nat) : Int))))), (0, (.ref 164)), (1, (.int (iI (ov)))), (2, (.int (iI (i))))]) 2 dX11_counts_169 rfl (by omega) (by decide) rfl ?_
                  refine r_goto (pc := 172) (tgt := 91) dX11_counts_172 (by decide) ?_
                  have ht : ¬ soT K ov.toNat b k = true := by unfold soT; rw [decide_eq_false (show ¬ (ovK K (K (45 + 2 * k)).toNat ≠ ov.toNat) by omega), decide_eq_false (show ¬ (blA (K 40) (K 41) (((b + ahK K (K (45 + 2 * k)).toNat : Nat) : Int) + (((waK K (K 42) (hdK K)) (K (45 + 2 * k)).toNat : Nat) : Int)) - blA (K 40) (K 41) ((b + ahK K (K (45 + 2 * k)).toNat : Nat) : Int) = K (46 + 2 * k)) by omega)]; decide
                  refine r_sub (L2 := [(7, (.int (iI (((k + 1 : Nat) : Int))))), (6, (.int (iI (b01 (soK K ov.toNat b (k + 1) = true))))), (5, (.int (iI (((b : Nat) : Int))))), (4, (.int (iI (((fd : Nat) : Int))))), (3, (.int (iI (((rdK K : Nat) : Int))))), (0, (.ref 164)), (1, (.int (iI (ov)))), (2, (.int (iI (i))))]) [0, 1, 3, 4, 5, 6, 7, 8] (by rw [b01_f (soK_n ht)]; rfl) ?_
                  exact ih2 ((K 78).toNat - (k + 1)) (by omega) (k + 1) (by omega) (by omega) f1 hF1 hG1 hb1 hk
                · refine r_iconst (pc := 162) dX11_counts_162 ?_
                  refine r_goto (pc := 163) (tgt := 167) dX11_counts_163 (by decide) ?_
                  refine r_istore (pc := 167) (L2 := [(6, (.int (iI (1)))), (8, (.int (iI (K (45 + 2 * k))))), (7, (.int (iI (((k : Nat) : Int))))), (5, (.int (iI (((b : Nat) : Int))))), (4, (.int (iI (((fd : Nat) : Int))))), (3, (.int (iI (((rdK K : Nat) : Int))))), (0, (.ref 164)), (1, (.int (iI (ov)))), (2, (.int (iI (i))))]) dX11_counts_167 (by decide) rfl ?_
                  refine r_iincv (pc := 169) (y := ((k + 1 : Nat) : Int)) (L2 := [(7, (.int (iI (((k + 1 : Nat) : Int))))), (6, (.int (iI (1)))), (8, (.int (iI (K (45 + 2 * k))))), (5, (.int (iI (((b : Nat) : Int))))), (4, (.int (iI (((fd : Nat) : Int))))), (3, (.int (iI (((rdK K : Nat) : Int))))), (0, (.ref 164)), (1, (.int (iI (ov)))), (2, (.int (iI (i))))]) 2 dX11_counts_169 rfl (by omega) (by decide) rfl ?_
                  refine r_goto (pc := 172) (tgt := 91) dX11_counts_172 (by decide) ?_
                  have ht : soT K ov.toNat b k = true := by unfold soT; rw [decide_eq_true (show blA (K 40) (K 41) (((b + ahK K (K (45 + 2 * k)).toNat : Nat) : Int) + (((waK K (K 42) (hdK K)) (K (45 + 2 * k)).toNat : Nat) : Int)) - blA (K 40) (K 41) ((b + ahK K (K (45 + 2 * k)).toNat : Nat) : Int) = K (46 + 2 * k) by omega)]; simp
                  refine r_sub (L2 := [(7, (.int (iI (((k + 1 : Nat) : Int))))), (6, (.int (iI (b01 (soK K ov.toNat b (k + 1) = true))))), (5, (.int (iI (((b : Nat) : Int))))), (4, (.int (iI (((fd : Nat) : Int))))), (3, (.int (iI (((rdK K : Nat) : Int))))), (0, (.ref 164)), (1, (.int (iI (ov)))), (2, (.int (iI (i))))]) [0, 1, 3, 4, 5, 6, 7, 8] (by rw [b01_t (soK_y c_105 ht)]; rfl) ?_
                  exact ih2 ((K 78).toNat - (k + 1)) (by omega) (k + 1) (by omega) (by omega) f1 hF1 hG1 hb1 hk
      have outer : ∀ m b : Nat, m = rdK K - b → b ≤ rdK K → ∀ fd, fd ≤ b → ctA K ov i = ctR (fun b => soK K ov.toNat b (K 78).toNat) i (rdK K - b) b fd → ∀ f1 : Fm, (∀ q, q ≠ 178 → f1 q = f_24 q) → (∀ q, q ≠ ov.toNat → f1 178 q = f_24 178 q) → PW l z (d + 273) mX11_counts 0 0 (fun r g' f' => r = some (.int (iI (ctA K ov i))) ∧ g = g' ∧ MSc f f') 71 [(5, (.int (iI (((b : Nat) : Int))))), (4, (.int (iI (((fd : Nat) : Int))))), (3, (.int (iI (((rdK K : Nat) : Int))))), (0, (.ref 164)), (1, (.int (iI (ov)))), (2, (.int (iI (i))))] [] g f1 0 0 := by
        intro m
        induction m using Nat.strongRecOn with
        | _ m ih =>
          intro b hm hb0 fd hfd hct f1 hF1 hG1
          refine r_iload (pc := 71) 0 dX11_counts_71 rfl ?_
          refine r_iload_n (pc := 73) 2 dX11_counts_73 rfl rfl ?_
          refine r_icmp_ge (pc := 74) (tgt := 201) dX11_counts_74 (by decide) (by omega) (by omega) (fun c_74 => ?_) (fun c_74 => ?_)
          · refine r_iload_n (pc := 201) 5 dX11_counts_201 rfl rfl ?_
            refine r_iconst (pc := 202) dX11_counts_202 ?_
            refine r_icmp_ne (pc := 203) (tgt := 211) dX11_counts_203 (by decide) (by omega) (by omega) (fun c_203 => ?_) (fun c_203 => ?_)
            · refine r_iconst (pc := 211) dX11_counts_211 ?_
              exact r_iret (pc := 212) dX11_counts_212 rfl rfl ⟨by rw [hct, show rdK K - b = 0 by omega, ctR, if_neg (show ¬ i = -1 by omega)], rfl, hly.mf.tr (fun q hq => hF1 q (by omega))⟩
            · refine r_iload (pc := 206) 1 dX11_counts_206 rfl ?_
              refine r_goto (pc := 208) (tgt := 212) dX11_counts_208 (by decide) ?_
              exact r_iret (pc := 212) dX11_counts_212 rfl rfl ⟨by rw [hct, show rdK K - b = 0 by omega, ctR, if_pos (show i = -1 by omega)], rfl, hly.mf.tr (fun q hq => hF1 q (by omega))⟩
          · refine r_aload_n (pc := 77) 3 dX11_counts_77 rfl rfl ?_
            refine r_getR (pc := 78) (b := 178) dX11_counts_78 fl_X11_58 rfl hM.k hM.r26 ?_
            refine r_iload_n (pc := 81) 4 dX11_counts_81 rfl rfl ?_
            refine r_iload (pc := 82) 0 dX11_counts_82 rfl ?_
            refine r_iastv (pc := 84) (i := ov.toNat) dX11_counts_84 hM.a26 (by omega) (by decide) (rfl) ?_
            refine r_iconst (pc := 85) dX11_counts_85 ?_
            refine r_istore (pc := 86) (L2 := [(6, (.int (iI (1)))), (5, (.int (iI (((b : Nat) : Int))))), (4, (.int (iI (((fd : Nat) : Int))))), (3, (.int (iI (((rdK K : Nat) : Int))))), (0, (.ref 164)), (1, (.int (iI (ov)))), (2, (.int (iI (i))))]) dX11_counts_86 (by decide) rfl ?_
            refine r_iconst (pc := 88) dX11_counts_88 ?_
            refine r_istore (pc := 89) (L2 := [(7, (.int (iI (0)))), (6, (.int (iI (1)))), (5, (.int (iI (((b : Nat) : Int))))), (4, (.int (iI (((fd : Nat) : Int))))), (3, (.int (iI (((rdK K : Nat) : Int))))), (0, (.ref 164)), (1, (.int (iI (ov)))), (2, (.int (iI (i))))]) dX11_counts_89 (by decide) rfl ?_
            refine r_sub (L2 := [(7, (.int (iI (((0 : Nat) : Int))))), (6, (.int (iI (b01 (soK K ov.toNat b 0 = true))))), (5, (.int (iI (((b : Nat) : Int))))), (4, (.int (iI (((fd : Nat) : Int))))), (3, (.int (iI (((rdK K : Nat) : Int))))), (0, (.ref 164)), (1, (.int (iI (ov)))), (2, (.int (iI (i))))]) [0, 1, 2, 3, 4, 5, 6, 7] rfl ?_
            exact inner b fd (by omega) hfd hct (K 78).toNat 0 (by omega) (by omega) _ (fun q hq => by rw [stF_n _ _ _ hq]; exact hF1 q hq) (fun q hq => by rw [stF_i _ _ _ hq]; exact hG1 q hq) (stF_s _ _ _ _) (fun fd2 h1 h2 f2 k1 k2 => ih (rdK K - (b + 1)) (by omega) (b + 1) (by omega) (by omega) fd2 h1 h2 f2 k1 k2)
      refine r_aload_n (pc := 27) 0 dX11_counts_27 rfl rfl ?_
      refine r_getR (pc := 28) (b := 166) dX11_counts_28 fl_X11_17 rfl hM.k hM.r2 ?_
      refine r_bipush (pc := 31) dX11_counts_31 (by decide) ?_
      refine r_ialdv (pc := 33) (w := K 41) dX11_counts_33 hM.a2 (by decide) (by decide) (congrFun hK8 _) ?_
      refine r_if_ne (pc := 34) (tgt := 47) dX11_counts_34 (by decide) (by have := hO.lp; omega) (fun c_34 => ?_) (fun c_34 => ?_)
      · refine r_aload_n (pc := 47) 0 dX11_counts_47 rfl rfl ?_
        refine r_getR (pc := 48) (b := 166) dX11_counts_48 fl_X11_17 rfl hM.k hM.r2 ?_
        refine r_bipush (pc := 51) dX11_counts_51 (by decide) ?_
        refine r_ialdv (pc := 53) (w := K 41) dX11_counts_53 hM.a2 (by decide) (by decide) (congrFun hK8 _) ?_
        refine r_aload_n (pc := 54) 0 dX11_counts_54 rfl rfl ?_
        refine r_getR (pc := 55) (b := 166) dX11_counts_55 fl_X11_17 rfl hM.k hM.r2 ?_
        refine r_bipush (pc := 58) dX11_counts_58 (by decide) ?_
        refine r_ialdv (pc := 60) (w := K 40) dX11_counts_60 hM.a2 (by decide) (by decide) (congrFun hK8 _) ?_
        refine r_imul (pc := 61) dX11_counts_61 ?_
        refine r_iconst (pc := 62) dX11_counts_62 ?_
        refine r_iadd (pc := 63) dX11_counts_63 ?_
        refine r_eqI (y := ((rdK K : Nat) : Int)) (by rw [(rdK_e hO).1, if_neg c_34]) ?_
        refine r_istore_n (pc := 64) (L2 := [(3, (.int (iI (((rdK K : Nat) : Int))))), (0, (.ref 164)), (1, (.int (iI (ov)))), (2, (.int (iI (i))))]) dX11_counts_64 rfl (by decide) rfl ?_
        refine r_iconst (pc := 65) dX11_counts_65 ?_
        refine r_istore (pc := 66) (L2 := [(4, (.int (iI (0)))), (3, (.int (iI (((rdK K : Nat) : Int))))), (0, (.ref 164)), (1, (.int (iI (ov)))), (2, (.int (iI (i))))]) dX11_counts_66 (by decide) rfl ?_
        refine r_iconst (pc := 68) dX11_counts_68 ?_
        refine r_istore (pc := 69) (L2 := [(5, (.int (iI (0)))), (4, (.int (iI (0)))), (3, (.int (iI (((rdK K : Nat) : Int))))), (0, (.ref 164)), (1, (.int (iI (ov)))), (2, (.int (iI (i))))]) dX11_counts_69 (by decide) rfl ?_
        refine r_sub (L2 := [(5, (.int (iI (((0 : Nat) : Int))))), (4, (.int (iI (((0 : Nat) : Int))))), (3, (.int (iI (((rdK K : Nat) : Int))))), (0, (.ref 164)), (1, (.int (iI (ov)))), (2, (.int (iI (i))))]) [0, 1, 2, 3, 4, 5] rfl ?_
        exact outer (rdK K) 0 (by omega) (by omega) 0 (by omega) (by unfold ctA; rw [if_pos (show (0 ≤ ov ∧ ov ≤ 1) ∧ -1 ≤ i from ⟨by omega, by omega⟩)]; rfl) f_24 (fun _ _ => rfl) (fun _ _ => rfl)
      · refine r_aload_n (pc := 37) 0 dX11_counts_37 rfl rfl ?_
        refine r_getR (pc := 38) (b := 166) dX11_counts_38 fl_X11_17 rfl hM.k hM.r2 ?_
        refine r_bipush (pc := 41) dX11_counts_41 (by decide) ?_
        refine r_ialdv (pc := 43) (w := K 40) dX11_counts_43 hM.a2 (by decide) (by decide) (congrFun hK8 _) ?_
        refine r_goto (pc := 44) (tgt := 64) dX11_counts_44 (by decide) ?_
        refine r_eqI (y := ((rdK K : Nat) : Int)) (by rw [(rdK_e hO).1, if_pos c_34]) ?_
        refine r_istore_n (pc := 64) (L2 := [(3, (.int (iI (((rdK K : Nat) : Int))))), (0, (.ref 164)), (1, (.int (iI (ov)))), (2, (.int (iI (i))))]) dX11_counts_64 rfl (by decide) rfl ?_
        refine r_iconst (pc := 65) dX11_counts_65 ?_
        refine r_istore (pc := 66) (L2 := [(4, (.int (iI (0)))), (3, (.int (iI (((rdK K : Nat) : Int))))), (0, (.ref 164)), (1, (.int (iI (ov)))), (2, (.int (iI (i))))]) dX11_counts_66 (by decide) rfl ?_
        refine r_iconst (pc := 68) dX11_counts_68 ?_
        refine r_istore (pc := 69) (L2 := [(5, (.int (iI (0)))), (4, (.int (iI (0)))), (3, (.int (iI (((rdK K : Nat) : Int))))), (0, (.ref 164)), (1, (.int (iI (ov)))), (2, (.int (iI (i))))]) dX11_counts_69 (by decide) rfl ?_
        refine r_sub (L2 := [(5, (.int (iI (((0 : Nat) : Int))))), (4, (.int (iI (((0 : Nat) : Int))))), (3, (.int (iI (((rdK K : Nat) : Int))))), (0, (.ref 164)), (1, (.int (iI (ov)))), (2, (.int (iI (i))))]) [0, 1, 2, 3, 4, 5] rfl ?_
        exact outer (rdK K) 0 (by omega) (by omega) 0 (by omega) (by unfold ctA; rw [if_pos (show (0 ≤ ov ∧ ov ≤ 1) ∧ -1 ≤ i from ⟨by omega, by omega⟩)]; rfl) f_24 (fun _ _ => rfl) (fun _ _ => rfl)
    · refine r_iconst (pc := 14) dX11_counts_14 ?_
      exact r_iret (pc := 15) dX11_counts_15 rfl rfl ⟨by unfold ctA; rw [if_neg (fun q => by omega)], rfl, MSc.rf hb20⟩

set_option maxRecDepth 100000 in
set_option maxHeartbeats 4000000 in
theorem x_sightsAreSo (l : Launch) (z : Zv) (d : Nat) {g : Gm} {f : Fm} {n : Nat} {K : Nat → Int} {D0 M0 : Int} (hX : XL g) (hB : BK g f 65 K) (hO : KO K D0 M0) (hD0 : D0 ≤ 1000000) (hM0 : M0 ≤ 1100000) (hn : K 77 = ((n : Nat) : Int)) (hA : DA f 111 K n) {ov b : Nat} (hov1 : ov ≤ 1) (hb : b ≤ 200) : PM l z (d + 3) mX10_sightsAreSo [.ref 64, .int (iI ((ov : Nat) : Int)), .int (iI ((b : Nat) : Int))] g f 0 0 (rdQ (.int (iI (b01 (soK K ov b (K 78).toNat = true)))) g f) := by
  have hn8 : n ≤ 8 := by have := hO.n; omega
  have hsm := hO.sm
  refine PM.of (by decide +kernel) (Nat.le_of_ble_eq_true rfl) ?_
  have loop : ∀ m k : Nat, m = (K 78).toNat - k → k ≤ (K 78).toNat → soK K ov b k = true → PW l z (d + 3) mX10_sightsAreSo 0 0 (rdQ (.int (iI (b01 (soK K ov b (K 78).toNat = true)))) g f) 2 [(3, (.int (iI (((k : Nat) : Int))))), (0, (.ref 64)), (1, (.int (iI (((ov : Nat) : Int))))), (2, (.int (iI (((b : Nat) : Int)))))] [] g f 0 0 := by
    intro m
    induction m using Nat.strongRecOn with
    | _ m ih =>
      intro k hm hk0 hso
      refine r_iload_n (pc := 2) 0 dX10_sightsAreSo_2 rfl rfl ?_
      refine r_aload_n (pc := 3) 1 dX10_sightsAreSo_3 rfl rfl ?_
      refine r_getR (pc := 4) (b := 65) dX10_sightsAreSo_4 fl_X10_10 rfl hX.k hX.r0 ?_
      refine r_getR (pc := 7) (b := 69) dX10_sightsAreSo_7 fl_X10_241 rfl hX.o0.k hX.o0.r3 ?_
      refine r_getIv (pc := 10) (x := K 78) dX10_sightsAreSo_10 fl_X10_263 rfl hX.o0.o3.k (hB.sm) ?_
      refine r_icmp_ge (pc := 13) (tgt := 99) dX10_sightsAreSo_13 (by decide) (by omega) (by omega) (fun c_13 => ?_) (fun c_13 => ?_)
      · refine r_iconst (pc := 99) dX10_sightsAreSo_99 ?_
        have hke : k = (K 78).toNat := by omega
        rw [hke] at hso
        exact r_iret (pc := 100) dX10_sightsAreSo_100 rfl rfl ⟨by rw [b01_t hso], rfl, rfl⟩
      · have h77 := hO.n
        have hsk := hO.si k (by omega)
        have hov := ovK_r (c := (K (45 + 2 * k)).toNat) hO (by omega)
        have har := ahK_r hO (show (K (45 + 2 * k)).toNat < 8 by omega)
        have hwr := waK_r (day := K 42) (hd := hdK K) hO (show (K (45 + 2 * k)).toNat < 8 by omega)
        refine r_aload_n (pc := 16) 1 dX10_sightsAreSo_16 rfl rfl ?_
        refine r_getR (pc := 17) (b := 65) dX10_sightsAreSo_17 fl_X10_10 rfl hX.k hX.r0 ?_
        refine r_getR (pc := 20) (b := 69) dX10_sightsAreSo_20 fl_X10_241 rfl hX.o0.k hX.o0.r3 ?_
        refine r_getR (pc := 23) (b := 70) dX10_sightsAreSo_23 fl_X10_315 rfl hX.o0.o3.k hX.o0.o3.r0 ?_
        refine r_iload_n (pc := 26) 0 dX10_sightsAreSo_26 rfl rfl ?_
        refine r_ialdv (pc := 27) (w := K (45 + 2 * k)) dX10_sightsAreSo_27 hX.o0.o3.a0 (by omega) (by decide) ((hB.si (by omega)).1) ?_
        refine r_eqI (y := (((K (45 + 2 * k)).toNat : Nat) : Int)) (by omega) ?_
        refine r_istore (pc := 28) (L2 := [(4, (.int (iI ((((K (45 + 2 * k)).toNat : Nat) : Int))))), (3, (.int (iI (((k : Nat) : Int))))), (0, (.ref 64)), (1, (.int (iI (((ov : Nat) : Int))))), (2, (.int (iI (((b : Nat) : Int)))))]) dX10_sightsAreSo_28 (by decide) rfl ?_
        refine r_aload_n (pc := 30) 2 dX10_sightsAreSo_30 rfl rfl ?_
        refine r_getR (pc := 31) (b := 65) dX10_sightsAreSo_31 fl_X10_10 rfl hX.k hX.r0 ?_
        refine r_iload (pc := 34) 0 dX10_sightsAreSo_34 rfl ?_
        refine r_callV (pc := 36) (As := [(.int (iI ((((K (45 + 2 * k)).toNat : Nat) : Int))))]) (S := []) dX10_sightsAreSo_36 cv_X10_176 hX.o0.k rfl (Nat.le_of_ble_eq_true rfl) (c_ovenOf (c := (((K (45 + 2 * k)).toNat : Nat) : Int)) l z _ _ hX.o0 (by omega)) (Nat.zero_le _) (Nat.zero_le _) (fun r_36 g_36 f_36 q_36 => ?_)
        obtain ⟨rfl, rfl, rfl⟩ := q_36
        refine r_eqI (y := ((ovK K (K (45 + 2 * k)).toNat : Nat) : Int)) (by rw [show (2 * 8 + (((K (45 + 2 * k)).toNat : Nat) : Int)).toNat = 8 * 2 + (K (45 + 2 * k)).toNat by omega]; exact (hB.tr (w := 2) (by decide) (by omega)).trans hov.1) ?_
        refine r_iload_n (pc := 39) 3 dX10_sightsAreSo_39 rfl rfl ?_
        refine r_icmp_ne (pc := 40) (tgt := 93) dX10_sightsAreSo_40 (by decide) (by omega) (by omega) (fun c_40 => ?_) (fun c_40 => ?_)
        · refine r_iincv (pc := 93) (y := ((k + 1 : Nat) : Int)) (L2 := [(3, (.int (iI (((k + 1 : Nat) : Int))))), (4, (.int (iI ((((K (45 + 2 * k)).toNat : Nat) : Int))))), (0, (.ref 64)), (1, (.int (iI (((ov : Nat) : Int))))), (2, (.int (iI (((b : Nat) : Int)))))]) 1 dX10_sightsAreSo_93 rfl (by omega) (by decide) rfl ?_
          refine r_goto (pc := 96) (tgt := 2) dX10_sightsAreSo_96 (by decide) ?_
          have ht : soT K ov b k = true := by unfold soT; rw [decide_eq_true (show ovK K (K (45 + 2 * k)).toNat ≠ ov by omega)]; rfl
          refine r_sub (L2 := [(3, (.int (iI (((k + 1 : Nat) : Int))))), (0, (.ref 64)), (1, (.int (iI (((ov : Nat) : Int))))), (2, (.int (iI (((b : Nat) : Int)))))]) [0, 2, 3, 4] rfl ?_
          exact ih ((K 78).toNat - (k + 1)) (by omega) (k + 1) (by omega) (by omega) (soK_y hso ht)
        · refine r_iload_n (pc := 43) 4 dX10_sightsAreSo_43 rfl rfl ?_
          refine r_aload_n (pc := 44) 2 dX10_sightsAreSo_44 rfl rfl ?_
          refine r_getR (pc := 45) (b := 111) dX10_sightsAreSo_45 fl_X10_37 rfl hX.k hX.r5 ?_
          refine r_getR (pc := 48) (b := 116) dX10_sightsAreSo_48 fl_X10_179 rfl hX.o5.k hX.o5.r2 ?_
          refine r_iload (pc := 51) 0 dX10_sightsAreSo_51 rfl ?_
          refine r_ialdv (pc := 53) (w := ((ahK K (K (45 + 2 * k)).toNat : Nat) : Int)) dX10_sightsAreSo_53 hX.o5.a2 (by omega) (by decide) ((hA.2.2 (K (45 + 2 * k)).toNat (by omega)).2) ?_
          refine r_iadd (pc := 54) dX10_sightsAreSo_54 ?_
          refine r_eqI (y := ((b + (ahK K (K (45 + 2 * k)).toNat) : Nat) : Int)) (Int.natCast_add _ _ |>.symm) ?_
          refine r_istore (pc := 55) (L2 := [(5, (.int (iI (((b + (ahK K (K (45 + 2 * k)).toNat) : Nat) : Int))))), (4, (.int (iI ((((K (45 + 2 * k)).toNat : Nat) : Int))))), (3, (.int (iI (((k : Nat) : Int))))), (0, (.ref 64)), (1, (.int (iI (((ov : Nat) : Int))))), (2, (.int (iI (((b : Nat) : Int)))))]) dX10_sightsAreSo_55 (by decide) rfl ?_
          refine r_aload_n (pc := 57) 3 dX10_sightsAreSo_57 rfl rfl ?_
          refine r_getR (pc := 58) (b := 65) dX10_sightsAreSo_58 fl_X10_10 rfl hX.k hX.r0 ?_
          refine r_iload (pc := 61) 0 dX10_sightsAreSo_61 rfl ?_
          refine r_aload_n (pc := 63) 3 dX10_sightsAreSo_63 rfl rfl ?_
          refine r_getR (pc := 64) (b := 111) dX10_sightsAreSo_64 fl_X10_37 rfl hX.k hX.r5 ?_
          refine r_getR (pc := 67) (b := 115) dX10_sightsAreSo_67 fl_X10_119 rfl hX.o5.k hX.o5.r1 ?_
          refine r_iload (pc := 70) 1 dX10_sightsAreSo_70 rfl ?_
          refine r_ialdv (pc := 72) (w := (((waK K (K 42) (hdK K)) (K (45 + 2 * k)).toNat : Nat) : Int)) dX10_sightsAreSo_72 hX.o5.a1 (by omega) (by decide) ((hA.2.2 (K (45 + 2 * k)).toNat (by omega)).1) ?_
          refine r_callV (pc := 73) (As := [(.int (iI (((b + (ahK K (K (45 + 2 * k)).toNat) : Nat) : Int)))), (.int (iI ((((waK K (K 42) (hdK K)) (K (45 + 2 * k)).toNat : Nat) : Int))))]) (S := []) dX10_sightsAreSo_73 cv_X10_182 hX.o0.k rfl (Nat.le_of_ble_eq_true rfl) (c_blessedBetween (dz := K 40) (lp := K 41) (n := ((b + ahK K (K (45 + 2 * k)).toNat : Nat) : Int)) (m := (((waK K (K 42) (hdK K)) (K (45 + 2 * k)).toNat : Nat) : Int)) l z _ hX.o0 (hB.te (t := 0) (by decide)) (hB.te (t := 1) (by decide)) hO.dz hO.lp (by omega) (by omega)) (Nat.zero_le _) (Nat.zero_le _) (fun r_73 g_73 f_73 q_73 => ?_)
          obtain ⟨rfl, rfl, rfl⟩ := q_73
          have hgr := blA_dr (K := K) (a := b + ahK K (K (45 + 2 * k)).toNat) (w := (waK K (K 42) (hdK K)) (K (45 + 2 * k)).toNat) hO (waK_r hO (by omega))
          refine r_aload_n (pc := 76) 3 dX10_sightsAreSo_76 rfl rfl ?_
          refine r_getR (pc := 77) (b := 65) dX10_sightsAreSo_77 fl_X10_10 rfl hX.k hX.r0 ?_
          refine r_getR (pc := 80) (b := 69) dX10_sightsAreSo_80 fl_X10_241 rfl hX.o0.k hX.o0.r3 ?_
          refine r_getR (pc := 83) (b := 71) dX10_sightsAreSo_83 fl_X10_318 rfl hX.o0.o3.k hX.o0.o3.r1 ?_
          refine r_iload_n (pc := 86) 2 dX10_sightsAreSo_86 rfl rfl ?_
          refine r_ialdv (pc := 87) (w := K (46 + 2 * k)) dX10_sightsAreSo_87 hX.o0.o3.a1 (by omega) (by decide) ((hB.si (by omega)).2) ?_
          refine r_icmp_eq (pc := 88) (tgt := 93) dX10_sightsAreSo_88 (by decide) (by omega) (by omega) (fun c_88 => ?_) (fun c_88 => ?_)
          · refine r_iincv (pc := 93) (y := ((k + 1 : Nat) : Int)) (L2 := [(3, (.int (iI (((k + 1 : Nat) : Int))))), (5, (.int (iI (((b + (ahK K (K (45 + 2 * k)).toNat) : Nat) : Int))))), (4, (.int (iI ((((K (45 + 2 * k)).toNat : Nat) : Int))))), (0, (.ref 64)), (1, (.int (iI (((ov : Nat) : Int))))), (2, (.int (iI (((b : Nat) : Int)))))]) 2 dX10_sightsAreSo_93 rfl (by omega) (by decide) rfl ?_
            refine r_goto (pc := 96) (tgt := 2) dX10_sightsAreSo_96 (by decide) ?_
            have ht : soT K ov b k = true := by unfold soT; rw [decide_eq_true (show blA (K 40) (K 41) (((b + ahK K (K (45 + 2 * k)).toNat : Nat) : Int) + (((waK K (K 42) (hdK K)) (K (45 + 2 * k)).toNat : Nat) : Int)) - blA (K 40) (K 41) ((b + ahK K (K (45 + 2 * k)).toNat : Nat) : Int) = K (46 + 2 * k) by omega)]; simp
            refine r_sub (L2 := [(3, (.int (iI (((k + 1 : Nat) : Int))))), (0, (.ref 64)), (1, (.int (iI (((ov : Nat) : Int))))), (2, (.int (iI (((b : Nat) : Int)))))]) [0, 3, 4, 5] rfl ?_
            exact ih ((K 78).toNat - (k + 1)) (by omega) (k + 1) (by omega) (by omega) (soK_y hso ht)
          · refine r_iconst (pc := 91) dX10_sightsAreSo_91 ?_
            have ht : ¬ soT K ov b k = true := by unfold soT; rw [decide_eq_false (show ¬ (ovK K (K (45 + 2 * k)).toNat ≠ ov) by omega), decide_eq_false (show ¬ (blA (K 40) (K 41) (((b + ahK K (K (45 + 2 * k)).toNat : Nat) : Int) + (((waK K (K 42) (hdK K)) (K (45 + 2 * k)).toNat : Nat) : Int)) - blA (K 40) (K 41) ((b + ahK K (K (45 + 2 * k)).toNat : Nat) : Int) = K (46 + 2 * k)) by omega)]; decide
            have hff := soK_f (soK_n ht) (K 78).toNat (by omega)
            exact r_iret (pc := 92) dX10_sightsAreSo_92 rfl rfl ⟨by rw [b01_f hff], rfl, rfl⟩
  refine r_iconst (pc := 0) dX10_sightsAreSo_0 ?_
  refine r_istore_n (pc := 1) (L2 := [(3, (.int (iI (0)))), (0, (.ref 64)), (1, (.int (iI (((ov : Nat) : Int))))), (2, (.int (iI (((b : Nat) : Int)))))]) dX10_sightsAreSo_1 rfl (by decide) rfl ?_
  refine r_sub (L2 := [(3, (.int (iI (((0 : Nat) : Int))))), (0, (.ref 64)), (1, (.int (iI (((ov : Nat) : Int))))), (2, (.int (iI (((b : Nat) : Int)))))]) [0, 1, 2, 3] rfl ?_
  exact loop (K 78).toNat 0 (by omega) (by omega) rfl

set_option maxRecDepth 100000 in
set_option maxHeartbeats 4000000 in
theorem x_counts (l : Launch) (z : Zv) (d : Nat) {g : Gm} {f : Fm} {n : Nat} {K : Nat → Int} {D0 M0 : Int} (hX : XL g) (hB : BK g f 65 K) (hO : KO K D0 M0) (hD0 : D0 ≤ 1000000) (hM0 : M0 ≤ 1100000) (hn : K 77 = ((n : Nat) : Int)) (hT : TdK f K n) {ov i : Int} (h_ov : -2147483648 ≤ ov ∧ ov ≤ 2147483647) (h_i : -2147483648 ≤ i ∧ i ≤ 2147483647) : PM l z (d + 6) mX10_counts [.ref 64, .int (iI ov), .int (iI i)] g f 0 0 (fun r g' f' => r = some (.int (iI (ctA K ov i))) ∧ g = g' ∧ (∀ q, q < 111 ∨ 122 < q → f' q = f q) ∧ TdK f' K n) := by
  have hn8 : n ≤ 8 := by have := hO.n; omega
  have hp8 := pow8 hn8
  refine PM.of (by decide +kernel) (Nat.le_of_ble_eq_true rfl) ?_
  refine r_iload_n (pc := 0) 1 dX10_counts_0 rfl rfl ?_
  refine r_if_lt (pc := 1) (tgt := 14) dX10_counts_1 (by decide) (by omega) (fun c_1 => ?_) (fun c_1 => ?_)
  · refine r_iconst (pc := 14) dX10_counts_14 ?_
    exact r_iret (pc := 15) dX10_counts_15 rfl rfl ⟨by unfold ctA; rw [if_neg (fun q => by omega)], rfl, ⟨fun _ _ => rfl, hT⟩⟩
  · refine r_iload_n (pc := 4) 1 dX10_counts_4 rfl rfl ?_
    refine r_iconst (pc := 5) dX10_counts_5 ?_
    refine r_icmp_ge (pc := 6) (tgt := 14) dX10_counts_6 (by decide) (by omega) (by omega) (fun c_6 => ?_) (fun c_6 => ?_)
    · refine r_iconst (pc := 14) dX10_counts_14 ?_
      exact r_iret (pc := 15) dX10_counts_15 rfl rfl ⟨by unfold ctA; rw [if_neg (fun q => by omega)], rfl, ⟨fun _ _ => rfl, hT⟩⟩
    · refine r_iload_n (pc := 9) 2 dX10_counts_9 rfl rfl ?_
      refine r_iconst (pc := 10) dX10_counts_10 ?_
      refine r_icmp_ge (pc := 11) (tgt := 16) dX10_counts_11 (by decide) (by omega) (by omega) (fun c_11 => ?_) (fun c_11 => ?_)
      · refine r_aload_n (pc := 16) 0 dX10_counts_16 rfl rfl ?_
        refine r_getR (pc := 17) (b := 111) dX10_counts_17 fl_X10_37 rfl hX.k hX.r5 ?_
        refine r_aload_n (pc := 20) 0 dX10_counts_20 rfl rfl ?_
        refine r_getR (pc := 21) (b := 65) dX10_counts_21 fl_X10_10 rfl hX.k hX.r0 ?_
        refine r_callV (pc := 24) (As := [(.ref 65)]) (S := []) dX10_counts_24 cv_X10_115 hX.o5.k rfl (Nat.le_of_ble_eq_true rfl) (x_learnWantsK (y := 111) (b := 65) (K := K) (n := n) l z (d + 1) hX.o5 hX.o0 hB hO hD0 hn (by omega) (by omega) hT.1) (Nat.zero_le _) (Nat.zero_le _) (fun r_24 g_24 f_24 q_24 => ?_)
        obtain ⟨rfl, rfl, hl1, hl9⟩ := q_24
        have hT1 := hT.lw hl1 hl9
        have hB1 : BK g f_24 65 K := hB.mem (fun q hq => hl1.1 q (by omega) (by omega) (by omega) (by omega) (by omega))
        have hrd := rdK_e hO
        refine r_iconst (pc := 27) dX10_counts_27 ?_
        refine r_istore_n (pc := 28) (L2 := [(3, (.int (iI (0)))), (0, (.ref 64)), (1, (.int (iI (ov)))), (2, (.int (iI (i))))]) dX10_counts_28 rfl (by decide) rfl ?_
        refine r_aload_n (pc := 29) 1 dX10_counts_29 rfl rfl ?_
        refine r_getR (pc := 30) (b := 65) dX10_counts_30 fl_X10_10 rfl hX.k hX.r0 ?_
        refine r_callV (pc := 33) (As := []) (S := []) dX10_counts_33 cv_X10_249 hX.o0.k rfl (Nat.le_of_ble_eq_true rfl) (c_round l z _ hX.o0 (by rw [hB1.te (t := 1) (by decide)]; exact hO.lp)) (Nat.zero_le _) (Nat.zero_le _) (fun r_33 g_33 f_33 q_33 => ?_)
        obtain ⟨rfl, rfl, rfl⟩ := q_33
        refine r_eqI (y := ((rdK K : Nat) : Int)) (by rw [hB1.te (t := 1) (by decide), hB1.te (t := 0) (by decide)]; exact hrd.1.symm) ?_
        refine r_istore (pc := 36) (L2 := [(4, (.int (iI (((rdK K : Nat) : Int))))), (3, (.int (iI (0)))), (0, (.ref 64)), (1, (.int (iI (ov)))), (2, (.int (iI (i))))]) dX10_counts_36 (by decide) rfl ?_
        refine r_iconst (pc := 38) dX10_counts_38 ?_
        refine r_istore (pc := 39) (L2 := [(5, (.int (iI (0)))), (4, (.int (iI (((rdK K : Nat) : Int))))), (3, (.int (iI (0)))), (0, (.ref 64)), (1, (.int (iI (ov)))), (2, (.int (iI (i))))]) dX10_counts_39 (by decide) rfl ?_
        have hsm := hO.sm
        have loop : ∀ m b : Nat, m = rdK K - b → b ≤ rdK K → ∀ fd, fd ≤ b → ctA K ov i = ctR (fun b => soK K ov.toNat b (K 78).toNat) i (rdK K - b) b fd → PW l z (d + 6) mX10_counts 0 0 (fun r g' f' => r = some (.int (iI (ctA K ov i))) ∧ g = g' ∧ (∀ q, q < 111 ∨ 122 < q → f' q = f q) ∧ TdK f' K n) 41 [(5, (.int (iI (((b : Nat) : Int))))), (3, (.int (iI (((fd : Nat) : Int))))), (4, (.int (iI (((rdK K : Nat) : Int))))), (0, (.ref 64)), (1, (.int (iI (ov)))), (2, (.int (iI (i))))] [] g f_24 0 0 := by
          intro m
          induction m using Nat.strongRecOn with
          | _ m ih =>
            intro b hm hb0 fd hfd hct
            refine r_iload (pc := 41) 0 dX10_counts_41 rfl ?_
            refine r_iload (pc := 43) 2 dX10_counts_43 rfl ?_
            refine r_icmp_ge (pc := 45) (tgt := 75) dX10_counts_45 (by decide) (by omega) (by omega) (fun c_45 => ?_) (fun c_45 => ?_)
            · refine r_iload_n (pc := 75) 5 dX10_counts_75 rfl rfl ?_
              refine r_iconst (pc := 76) dX10_counts_76 ?_
              refine r_icmp_ne (pc := 77) (tgt := 84) dX10_counts_77 (by decide) (by omega) (by omega) (fun c_77 => ?_) (fun c_77 => ?_)
              · refine r_iconst (pc := 84) dX10_counts_84 ?_
                exact r_iret (pc := 85) dX10_counts_85 rfl rfl ⟨by rw [hct, show rdK K - b = 0 by omega, ctR, if_neg (show ¬ i = -1 by omega)], rfl, ⟨fun q hq => hl1.1 q (by omega) (by omega) (by omega) (by omega) (by omega), hT1⟩⟩
              · refine r_iload_n (pc := 80) 1 dX10_counts_80 rfl rfl ?_
                refine r_goto (pc := 81) (tgt := 85) dX10_counts_81 (by decide) ?_
                exact r_iret (pc := 85) dX10_counts_85 rfl rfl ⟨by rw [hct, show rdK K - b = 0 by omega, ctR, if_pos (show i = -1 by omega)], rfl, ⟨fun q hq => hl1.1 q (by omega) (by omega) (by omega) (by omega) (by omega), hT1⟩⟩
            · refine r_aload_n (pc := 48) 3 dX10_counts_48 rfl rfl ?_
              refine r_iload_n (pc := 49) 4 dX10_counts_49 rfl rfl ?_
              refine r_eqI (y := ((ov.toNat : Nat) : Int)) (by omega) ?_
              refine r_iload (pc := 50) 0 dX10_counts_50 rfl ?_
              refine r_callV (pc := 52) (As := [(.int (iI (((ov.toNat : Nat) : Int)))), (.int (iI (((b : Nat) : Int))))]) (S := []) dX10_counts_52 cv_X10_253 hX.k rfl (Nat.le_of_ble_eq_true rfl) (x_sightsAreSo (K := K) (n := n) (ov := ov.toNat) (b := b) l z _ hX hB1 hO hD0 hM0 hn hl1.da (by omega) (by omega)) (Nat.zero_le _) (Nat.zero_le _) (fun r_52 g_52 f_52 q_52 => ?_)
              obtain ⟨rfl, rfl, rfl⟩ := q_52
              refine r_if_eq (pc := 55) (tgt := 69) dX10_counts_55 (by decide) (b01_r) (fun c_55 => ?_) (fun c_55 => ?_)
              · replace c_55 := b01_z c_55
                refine r_iincv (pc := 69) (y := ((b + 1 : Nat) : Int)) (L2 := [(5, (.int (iI (((b + 1 : Nat) : Int))))), (3, (.int (iI (((fd : Nat) : Int))))), (4, (.int (iI (((rdK K : Nat) : Int))))), (0, (.ref 64)), (1, (.int (iI (ov)))), (2, (.int (iI (i))))]) 0 dX10_counts_69 rfl (by omega) (by decide) rfl ?_
                refine r_goto (pc := 72) (tgt := 41) dX10_counts_72 (by decide) ?_
                refine r_sub (L2 := [(5, (.int (iI (((b + 1 : Nat) : Int))))), (3, (.int (iI (((fd : Nat) : Int))))), (4, (.int (iI (((rdK K : Nat) : Int))))), (0, (.ref 64)), (1, (.int (iI (ov)))), (2, (.int (iI (i))))]) [0, 1, 2, 3, 4, 5] rfl ?_
                exact ih (rdK K - (b + 1)) (by omega) (b + 1) (by omega) (by omega) fd (by omega) (by rw [hct, show rdK K - b = (rdK K - (b + 1)) + 1 by omega, ctR_n (so := (fun b => soK K ov.toNat b (K 78).toNat)) c_55])
              · replace c_55 := b01_nz c_55
                refine r_iload_n (pc := 58) 1 dX10_counts_58 rfl rfl ?_
                refine r_iload_n (pc := 59) 5 dX10_counts_59 rfl rfl ?_
                refine r_icmp_ne (pc := 60) (tgt := 66) dX10_counts_60 (by decide) (by omega) (by omega) (fun c_60 => ?_) (fun c_60 => ?_)
                · refine r_iincv (pc := 66) (y := ((fd + 1 : Nat) : Int)) (L2 := [(3, (.int (iI (((fd + 1 : Nat) : Int))))), (5, (.int (iI (((b : Nat) : Int))))), (4, (.int (iI (((rdK K : Nat) : Int))))), (0, (.ref 64)), (1, (.int (iI (ov)))), (2, (.int (iI (i))))]) 1 dX10_counts_66 rfl (by omega) (by decide) rfl ?_
                  refine r_iincv (pc := 69) (y := ((b + 1 : Nat) : Int)) (L2 := [(5, (.int (iI (((b + 1 : Nat) : Int))))), (3, (.int (iI (((fd + 1 : Nat) : Int))))), (4, (.int (iI (((rdK K : Nat) : Int))))), (0, (.ref 64)), (1, (.int (iI (ov)))), (2, (.int (iI (i))))]) 1 dX10_counts_69 rfl (by omega) (by decide) rfl ?_
                  refine r_goto (pc := 72) (tgt := 41) dX10_counts_72 (by decide) ?_
                  refine r_sub (L2 := [(5, (.int (iI (((b + 1 : Nat) : Int))))), (3, (.int (iI (((fd + 1 : Nat) : Int))))), (4, (.int (iI (((rdK K : Nat) : Int))))), (0, (.ref 64)), (1, (.int (iI (ov)))), (2, (.int (iI (i))))]) [0, 1, 2, 3, 4, 5] rfl ?_
                  exact ih (rdK K - (b + 1)) (by omega) (b + 1) (by omega) (by omega) (fd + 1) (by omega) (by rw [hct, show rdK K - b = (rdK K - (b + 1)) + 1 by omega, ctR_y (so := (fun b => soK K ov.toNat b (K 78).toNat)) c_55 (by omega)])
                · refine r_iload (pc := 63) 0 dX10_counts_63 rfl ?_
                  exact r_iret (pc := 65) dX10_counts_65 rfl rfl ⟨by rw [hct, show rdK K - b = (rdK K - (b + 1)) + 1 by omega, ctR_e (so := (fun b => soK K ov.toNat b (K 78).toNat)) c_55 (by omega)], rfl, ⟨fun q hq => hl1.1 q (by omega) (by omega) (by omega) (by omega) (by omega), hT1⟩⟩
        refine r_sub (L2 := [(5, (.int (iI (((0 : Nat) : Int))))), (3, (.int (iI (((0 : Nat) : Int))))), (4, (.int (iI (((rdK K : Nat) : Int))))), (0, (.ref 64)), (1, (.int (iI (ov)))), (2, (.int (iI (i))))]) [0, 2, 1, 3, 4, 5] rfl ?_
        exact loop (rdK K) 0 (by omega) (by omega) 0 (by omega) (by unfold ctA; rw [if_pos (show (0 ≤ ov ∧ ov ≤ 1) ∧ -1 ≤ i from ⟨by omega, by omega⟩)]; rfl)
      · refine r_iconst (pc := 14) dX10_counts_14 ?_
        exact r_iret (pc := 15) dX10_counts_15 rfl rfl ⟨by unfold ctA; rw [if_neg (fun q => by omega)], rfl, ⟨fun _ _ => rfl, hT⟩⟩

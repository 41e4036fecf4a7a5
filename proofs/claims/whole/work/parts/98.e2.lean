theorem sumN_add (F G : Nat → Int) : ∀ k, sumN k (fun i => F i + G i) = sumN k F + sumN k G
  | 0 => rfl
  | k + 1 => by simp only [sumN]; rw [sumN_add F G k]; omega
theorem sumN_c {F G : Nat → Int} : ∀ k, (∀ i, i < k → F i = G i) → sumN k F = sumN k G
  | 0, _ => rfl
  | k + 1, h => by simp only [sumN]; rw [sumN_c k (fun i hi => h i (by omega)), h k (by omega)]
theorem sumN_0 : ∀ k, sumN k (fun _ => (0 : Int)) = 0
  | 0 => rfl
  | k + 1 => by simp only [sumN]; rw [sumN_0 k]; rfl
theorem sumN_swap (F : Nat → Nat → Int) (m : Nat) : ∀ k, sumN k (fun s => sumN m (fun i => F s i)) = sumN m (fun i => sumN k (fun s => F s i))
  | 0 => by simp only [sumN]; rw [sumN_0]
  | k + 1 => by
    simp only [sumN]
    rw [sumN_swap F m k, ← sumN_add]
theorem sumN_one {v : Int} {u : Nat} : ∀ k, sumN k (fun c => if u = c then v else 0) = if u < k then v else 0
  | 0 => rfl
  | k + 1 => by
    simp only [sumN]
    rw [sumN_one k]
    rcases (show u < k ∨ u = k ∨ k < u by omega) with q | q | q
    · rw [if_pos q, if_neg (show ¬ u = k by omega), if_pos (show u < k + 1 by omega), Int.add_zero]
    · rw [if_neg (show ¬ u < k by omega), if_pos q, if_pos (show u < k + 1 by omega), Int.zero_add]
    · rw [if_neg (show ¬ u < k by omega), if_neg (show ¬ u = k by omega), if_neg (show ¬ u < k + 1 by omega)]; rfl
theorem gc_sum {K : Nat → Int} {n : Nat} {od : Nat → Nat} (h : okO od n) : sumN n (gcK K n od) = alK K n od n := by
  have e : sumN n (gcK K n od) = sumN n (fun c => sumN n (fun i => if od i = c then gsK K n od i else 0)) := rfl
  rw [e, sumN_swap (fun c i => if od i = c then gsK K n od i else 0) n n]
  unfold alK
  apply sumN_c
  intro i hi
  rw [sumN_one n, if_pos (h i hi).1]
def alQ (K : Nat → Int) (n s0 : Nat) : Nat → Int
  | 0 => 0
  | d + 1 => alQ K n s0 d + alK (KQ K n s0 d).1 n (odQ K n s0 d) n
theorem alQ_gt {K : Nat → Int} {n s0 : Nat} (hn : n ≤ 8) : ∀ d, sumN n (fun c => gtQ K n s0 c d) = alQ K n s0 d
  | 0 => by
    rw [alQ, ← sumN_0 n]
    rfl
  | d + 1 => by
    rw [alQ, ← alQ_gt hn d, ← gc_sum (od := odQ K n s0 d) (okO_q hn), ← sumN_add]
    rfl
/-! What the law says, where what each has had changes. -/
theorem eK_e2 {K K' : Nat → Int} (h : ∀ c, c < 8 → K' (5 * c) = K (5 * c) ∧ K' (5 * c + 1) = K (5 * c + 1) ∧ K' (5 * c + 2) = K (5 * c + 2)) (day had : Int) {c : Nat} {oth : Int} (hc : c < 8) (ho : oth < 8) : eK K' day had c oth = eK K day had c oth := by
  funext k
  unfold eK
  rw [(h c hc).1, (h c hc).2.1, (h c hc).2.2, (h oth.toNat (by omega)).2.1]
theorem wantK_e2 {K K' : Nat → Int} {D M : Int} (hO : KO K D M) (h : ∀ c, c < 8 → K' (5 * c) = K (5 * c) ∧ K' (5 * c + 1) = K (5 * c + 1) ∧ K' (5 * c + 2) = K (5 * c + 2)) (h2 : ∀ j, 44 < j → K' j = K j) (day had : Int) {c : Nat} (hc : c < 8) : wantK K' day had c = wantK K day had c := by
  unfold wantK
  rw [h2 81 (by omega), (h c hc).1, eK_e2 h day had hc (by omega)]
  by_cases q : K 81 = -1
  · rw [if_pos q, if_pos q]
  · have hf := hO.fo
    have hw := hO.lw (K 81).toNat (by omega)
    rw [if_neg q, if_neg q, (lawK_e (K := K) (K' := K') (i := (K 81).toNat) (h2 _ (by omega)) (by unfold kT; omega) (fun j hj => ⟨h2 _ (by omega), h2 _ (by omega)⟩)).1]
theorem waitK_e2 {K K' : Nat → Int} {D M : Int} (hO : KO K D M) (h : ∀ c, c < 8 → K' (5 * c) = K (5 * c) ∧ K' (5 * c + 1) = K (5 * c + 1) ∧ K' (5 * c + 2) = K (5 * c + 2)) (h2 : ∀ j, 44 < j → K' j = K j) (day had : Int) {c o : Nat} (hc : c < 8) (ho : o < 8) : waitK K' day had c o = waitK K day had c o := by
  unfold waitK
  rw [h2 81 (by omega), eK_e2 h day had hc (by omega)]
  by_cases q : K 81 = -1
  · rw [if_pos q, if_pos q]
  · have hf := hO.fo
    have hw := hO.lw (K 81).toNat (by omega)
    rw [if_neg q, if_neg q, (lawK_e (K := K) (K' := K') (i := (K 81).toNat) (h2 _ (by omega)) (by unfold kT; omega) (fun j hj => ⟨h2 _ (by omega), h2 _ (by omega)⟩)).1]
theorem KQ_o {K : Nat → Int} {n s0 : Nat} (hn : n ≤ 8) : ∀ d {j : Nat}, (j < 42 ∧ j % 5 < 3) ∨ 44 < j → (KQ K n s0 d).1 j = K j
  | 0, _, _ => rfl
  | d + 1, j, h => by rw [KQ_s]; exact (goK_o _ _ (by omega) hn).trans (KQ_o hn d h)
theorem KQ_42 {K : Nat → Int} {n s0 : Nat} : ∀ d, (KQ K n s0 d).1 42 = K 42 + (d : Int)
  | 0 => by show K 42 = K 42 + ((0 : Nat) : Int); omega
  | d + 1 => by have h : (KQ K n s0 (d + 1)).1 42 = (KQ K n s0 d).1 42 + 1 := goK_42 (KQ K n s0 d).1 n (odQ K n s0 d); rw [h, KQ_42 d]; omega
theorem KQ_e {K : Nat → Int} {n s0 : Nat} (hn : n ≤ 8) (d : Nat) : ∀ c, c < 8 → (KQ K n s0 d).1 (5 * c) = K (5 * c) ∧ (KQ K n s0 d).1 (5 * c + 1) = K (5 * c + 1) ∧ (KQ K n s0 d).1 (5 * c + 2) = K (5 * c + 2) := fun c hc => ⟨KQ_o hn d (by omega), KQ_o hn d (by omega), KQ_o hn d (by omega)⟩
theorem KQ_bk {K : Nat → Int} {D M : Int} {n s0 : Nat} {d : Nat} (hO : KO (KQ K n s0 d).1 D M) {o : Nat} (ho : o ≤ 1) : bkK (KQ K n s0 (d + 1)).1 o = bkK (KQ K n s0 d).1 o + swN (ovK (KQ K n s0 d).1) (waK (KQ K n s0 d).1 ((KQ K n s0 d).1 42) (hdK (KQ K n s0 d).1)) o n := by
  have h0 := hO.b0
  have h1 := hO.b1
  have e0 : (KQ K n s0 (d + 1)).1 43 = (KQ K n s0 d).1 43 + _ := goK_43 (KQ K n s0 d).1 n (odQ K n s0 d)
  have e1 : (KQ K n s0 (d + 1)).1 44 = (KQ K n s0 d).1 44 + _ := goK_44 (KQ K n s0 d).1 n (odQ K n s0 d)
  unfold bkK
  rcases (show o = 0 ∨ o = 1 by omega) with rfl | rfl
  · show ((KQ K n s0 (d + 1)).1 43).toNat = ((KQ K n s0 d).1 43).toNat + _
    omega
  · show ((KQ K n s0 (d + 1)).1 44).toNat = ((KQ K n s0 d).1 44).toNat + _
    omega
/-- the model's rows that queues leaves as they are -/
def MSq (f f' : Fm) : Prop := (∀ a, a < 164 ∨ (165 ≤ a ∧ a ≤ 174) ∨ 195 ≤ a → f' a = f a) ∧ (∀ q, q ≠ 18 → q ≠ 19 → q ≠ 20 → q ≠ 22 → q ≠ 23 → q ≠ 43 → q ≠ 44 → f' 164 q = f 164 q) ∧ (∃ bk : Bool, f' 164 20 = b01 (bk = true))
def QuM (f : Fm) (K : Nat → Int) (n : Nat) (sd m : Int) (r : Option Value) (f' : Fm) : Prop := (¬ ((0 ≤ sd ∧ sd ≤ 1000000) ∧ (1 ≤ m ∧ m ≤ 20)) ∧ r = some (.int (iI (-1))) ∧ f' = rfs f (-1)) ∨ (((0 ≤ sd ∧ sd ≤ 1000000) ∧ (1 ≤ m ∧ m ≤ 20)) ∧ ((∃ d, d < m.toNat ∧ (∀ j, j < d → fitP (KQ K n sd.toNat j).1 n (odQ K n sd.toNat j)) ∧ ¬ fitP (KQ K n sd.toNat d).1 n (odQ K n sd.toNat d) ∧ r = some (.int (iI (-5))) ∧ ∃ f1, MSq f f1 ∧ f1 192 = f 192 ∧ f1 193 = f 193 ∧ f1 164 43 = f 164 43 ∧ f' = rfs f1 (-5)) ∨ ((∀ j, j < m.toNat → fitP (KQ K n sd.toNat j).1 n (odQ K n sd.toNat j)) ∧ r = some (.int (iI (alQ K n sd.toNat m.toNat))) ∧ ∃ f1, MSq f f1 ∧ f1 164 43 = ((n : Nat) : Int) ∧ (∀ c, c < n → f1 192 c = gtQ K n sd.toNat c m.toNat) ∧ (∀ k, k < n → f1 193 (odQ K n sd.toNat (m.toNat - 1) k) = ((k : Nat) : Int)) ∧ f' = gd f1)))

set_option maxRecDepth 100000 in
set_option maxHeartbeats 4000000 in
theorem m_queues (l : Launch) (z : Zv) {g : Gm} {f : Fm} {K : Nat → Int} {n : Nat} (hM : ML g) (hK : f 166 = K) (hO : KO K 9999 999999) (hn : K 77 = ((n : Nat) : Int)) (hb20 : ∃ bk : Bool, f 164 20 = b01 (bk = true)) {sd m : Int} (h_sd : -2147483648 ≤ sd ∧ sd ≤ 2147483647) (h_m : -2147483648 ≤ m ∧ m ≤ 2147483647) {D : Nat} (hD : 274 ≤ D) : PM l z D mX11_queues [.ref 164, .int (iI sd), .int (iI m)] g f 0 0 (fun r g' f' => g = g' ∧ QuM f K n sd m r f') := by
  obtain ⟨d, rfl⟩ : ∃ d, D = d + 274 := ⟨D - 274, by omega⟩
  have hn8 : n ≤ 8 := by have := hO.n; omega
  have hdy := hO.dy
  refine PM.of (by decide +kernel) (Nat.le_of_ble_eq_true rfl) ?_
  refine r_iload_n (pc := 0) 1 dX11_queues_0 rfl rfl ?_
  refine r_iconst (pc := 1) dX11_queues_1 ?_
  refine r_ldc (pc := 2) (x := 1000000) dX11_queues_2 kc_X11_168 (by decide) ?_
  refine r_callS (pc := 4) (As := [(.int (iI (sd))), (.int (iI (0))), (.int (iI (1000000)))]) (S := []) dX11_queues_4 cs_X11_110 rfl (Nat.le_of_ble_eq_true rfl) (m_lies l z _ (by omega) (by omega) (by omega)) (Nat.zero_le _) (Nat.zero_le _) (fun r_4 g_4 f_4 q_4 => ?_)
  obtain ⟨rfl, rfl, rfl⟩ := q_4
  refine r_if_eq (pc := 7) (tgt := 20) dX11_queues_7 (by decide) (b01_r) (fun c_7 => ?_) (fun c_7 => ?_)
  · replace c_7 := b01_z c_7
    refine r_aload_n (pc := 20) 0 dX11_queues_20 rfl rfl ?_
    refine r_iconst (pc := 21) dX11_queues_21 ?_
    refine r_callV (pc := 22) (As := [(.int (iI (-1)))]) (S := []) dX11_queues_22 cv_X11_114 hM.k rfl (Nat.le_of_ble_eq_true rfl) (m_refuses l z _ hM (by omega)) (Nat.zero_le _) (Nat.zero_le _) (fun r_22 g_22 f_22 q_22 => ?_)
    obtain ⟨rfl, rfl, rfl⟩ := q_22
    exact r_iret (pc := 25) dX11_queues_25 rfl rfl ⟨rfl, Or.inl ⟨by omega, rfl, rfl⟩⟩
  · replace c_7 := b01_nz c_7
    refine r_iload_n (pc := 10) 2 dX11_queues_10 rfl rfl ?_
    refine r_iconst (pc := 11) dX11_queues_11 ?_
    refine r_bipush (pc := 12) dX11_queues_12 (by decide) ?_
    refine r_callS (pc := 14) (As := [(.int (iI (m))), (.int (iI (1))), (.int (iI (20)))]) (S := []) dX11_queues_14 cs_X11_110 rfl (Nat.le_of_ble_eq_true rfl) (m_lies l z _ (by omega) (by omega) (by omega)) (Nat.zero_le _) (Nat.zero_le _) (fun r_14 g_14 f_14 q_14 => ?_)
    obtain ⟨rfl, rfl, rfl⟩ := q_14
    refine r_if_ne (pc := 17) (tgt := 26) dX11_queues_17 (by decide) (b01_r) (fun c_17 => ?_) (fun c_17 => ?_)
    · replace c_17 := b01_nz c_17
      refine r_aload_n (pc := 26) 0 dX11_queues_26 rfl rfl ?_
      refine r_iload_n (pc := 27) 1 dX11_queues_27 rfl rfl ?_
      refine r_putI (pc := 28) dX11_queues_28 fl_X11_362 rfl rfl hM.k ?_
      refine r_aload_n (pc := 31) 0 dX11_queues_31 rfl rfl ?_
      refine r_aload_n (pc := 32) 0 dX11_queues_32 rfl rfl ?_
      refine r_getR (pc := 33) (b := 166) dX11_queues_33 fl_X11_17 rfl hM.k hM.r2 ?_
      refine r_bipush (pc := 36) dX11_queues_36 (by decide) ?_
      refine r_ialdv (pc := 38) (w := K 42) dX11_queues_38 hM.a2 (by decide) (by decide) (rdn (by decide) (congrFun hK 42)) ?_
      refine r_callV (pc := 39) (As := [(.int (iI (K 42)))]) (S := []) dX11_queues_39 cv_X11_142 hM.k rfl (Nat.le_of_ble_eq_true rfl) (m_lays (day := K 42) l z hM (by rw [stF_n _ _ _ (by decide)]; exact hK) hO hn (by obtain ⟨bk, hbk⟩ := hb20; exact ⟨bk, rdi (by decide) hbk⟩) (by omega) (D := d + 273) (by omega)) (Nat.zero_le _) (Nat.zero_le _) (fun r_39 g_39 f_39 q_39 => ?_)
      obtain ⟨rfl, rfl, hly⟩ := q_39
      have hMD := hly.md (by rw [stF_n _ _ _ (by decide)]; exact hK) hO (by decide) hn
      have hK8 : f_39 166 = K := by rw [hly.1 166 (by decide) (by decide) (by decide) (by decide) (by decide) (by decide), stF_n _ _ _ (by decide)]; exact hK
      have hmq : MSq f f_39 := ⟨fun a ha => by rw [hly.1 a (by omega) (by omega) (by omega) (by omega) (by omega) (by omega), stF_n _ _ _ (by omega)], fun q a1 a2 a3 a4 a5 a6 a7 => by rw [hly.2.1 q a1 a2 a3 a4 a5]; exact stF_i _ _ _ a7, hly.2.2.1⟩
      have h9x : f_39 192 = f 192 ∧ f_39 193 = f 193 ∧ f_39 164 43 = f 164 43 := ⟨by rw [hly.1 192 (by decide) (by decide) (by decide) (by decide) (by decide) (by decide), stF_n _ _ _ (by decide)], by rw [hly.1 193 (by decide) (by decide) (by decide) (by decide) (by decide) (by decide), stF_n _ _ _ (by decide)], by rw [hly.2.1 43 (by decide) (by decide) (by decide) (by decide) (by decide)]; exact stF_i _ _ _ (by decide)⟩
      have h44 : f_39 164 44 = ((sd.toNat : Nat) : Int) := by rw [hly.2.1 44 (by decide) (by decide) (by decide) (by decide) (by decide), stF_s]; omega
      refine r_iconst (pc := 42) dX11_queues_42 ?_
      refine r_istore_n (pc := 43) (L2 := [(3, (.int (iI (0)))), (0, (.ref 164)), (1, (.int (iI (sd)))), (2, (.int (iI (m))))]) dX11_queues_43 rfl (by decide) rfl ?_
      have hsd0 : sd.toNat ≤ 1000002 := by omega
      have hmm : 1 ≤ m ∧ m ≤ 20 := c_17
      have hss : 0 ≤ sd ∧ sd ≤ 1000000 := c_7
      have L1 : ∀ q c : Nat, q = n - c → c ≤ n → ∀ f1 : Fm, (∀ q, q ≠ 190 → q ≠ 191 → q ≠ 194 → f1 q = f_39 q) → (∀ q, q < c → f1 190 q = K (5 * q + 3) ∧ f1 191 q = K (5 * q + 4) ∧ f1 194 q = 0) → PW l z (d + 274) mX11_queues 0 0 (fun r g' f' => g = g' ∧ QuM f K n sd m r f') 44 [(3, (.int (iI (((c : Nat) : Int))))), (0, (.ref 164)), (1, (.int (iI (sd)))), (2, (.int (iI (m))))] [] g f1 0 0 := by
        intro q
        induction q using Nat.strongRecOn with
        | _ q ih_L1 =>
          intro c hq_c hi_c f1 hF1 hR1
          have hKx : f1 166 = K := by rw [hF1 166 (by decide) (by decide) (by decide)]; exact hK8
          refine r_iload_n (pc := 44) 0 dX11_queues_44 rfl rfl ?_
          refine r_aload_n (pc := 45) 1 dX11_queues_45 rfl rfl ?_
          refine r_callV (pc := 46) (As := []) (S := [(.int (iI (((c : Nat) : Int))))]) dX11_queues_46 cv_X11_121 hM.k rfl (Nat.le_of_ble_eq_true rfl) (m_cust (v := ((n : Nat) : Int)) l z _ hM ((congrFun hKx 77).trans hn)) (Nat.zero_le _) (Nat.zero_le _) (fun r_46 g_46 f_46 q_46 => ?_)
          obtain ⟨rfl, rfl, rfl⟩ := q_46
          refine r_icmp_ge (pc := 49) (tgt := 89) dX11_queues_49 (by decide) (by omega) (by omega) (fun c_49 => ?_) (fun c_49 => ?_)
          · refine r_iconst (pc := 89) dX11_queues_89 ?_
            refine r_istore_n (pc := 90) (L2 := [(3, (.int (iI (0)))), (0, (.ref 164)), (1, (.int (iI (sd)))), (2, (.int (iI (m))))]) dX11_queues_90 rfl (by decide) rfl ?_
            refine r_iconst (pc := 91) dX11_queues_91 ?_
            refine r_istore (pc := 92) (L2 := [(4, (.int (iI (0)))), (3, (.int (iI (0)))), (0, (.ref 164)), (1, (.int (iI (sd)))), (2, (.int (iI (m))))]) dX11_queues_92 (by decide) rfl ?_
            have L2 : ∀ q i : Nat, q = m.toNat - i → i ≤ m.toNat → ∀ fa : Fm, (∀ j, j < i → fitP (KQ K n sd.toNat j).1 n (odQ K n sd.toNat j)) → fa 166 = K → MSq f fa → (fa 192 = f 192 ∧ fa 193 = f 193 ∧ fa 164 43 = f 164 43) → fa 164 44 = (((KQ K n sd.toNat i).2 : Nat) : Int) → (∀ c, c < n → fa 190 c = (KQ K n sd.toNat i).1 (5 * c + 3)) → (∀ c, c < n → fa 191 c = (KQ K n sd.toNat i).1 (5 * c + 4)) → (∀ o, o ≤ 1 → fa 178 o = ((bkK (KQ K n sd.toNat i).1 o : Nat) : Int)) → (∀ c, c < n → fa 194 c = gtQ K n sd.toNat c i) → (0 < i → ∀ k, k < n → fa 184 k = ((odQ K n sd.toNat (i - 1) k : Nat) : Int)) → PW l z (d + 274) mX11_queues 0 0 (fun r g' f' => g = g' ∧ QuM f K n sd m r f') 94 [(4, (.int (iI (((i : Nat) : Int))))), (3, (.int (iI (alQ K n sd.toNat i)))), (0, (.ref 164)), (1, (.int (iI (sd)))), (2, (.int (iI (m))))] [] g fa 0 0 := by
              intro q
              induction q using Nat.strongRecOn with
              | _ q ih_L2 =>
                intro i hq_i hi_i fa hfj hKx hmq9 h9y hsx h190 h191 h178 h194 h184
                have hKi := KQ_ok (s0 := sd.toNat) hO hn i hfj
                have hoki : okO (odQ K n sd.toNat i) n := okO_q hn8
                refine r_iload (pc := 94) 0 dX11_queues_94 rfl ?_
                refine r_iload_n (pc := 96) 4 dX11_queues_96 rfl rfl ?_
                refine r_icmp_ge (pc := 97) (tgt := 230) dX11_queues_97 (by decide) (by omega) (by omega) (fun c_97 => ?_) (fun c_97 => ?_)
                · refine r_aload_n (pc := 230) 2 dX11_queues_230 rfl rfl ?_
                  refine r_aload_n (pc := 231) 2 dX11_queues_231 rfl rfl ?_
                  refine r_callV (pc := 232) (As := []) (S := [(.ref 164)]) dX11_queues_232 cv_X11_121 hM.k rfl (Nat.le_of_ble_eq_true rfl) (m_cust (v := ((n : Nat) : Int)) l z _ hM ((congrFun hKx 77).trans hn)) (Nat.zero_le _) (Nat.zero_le _) (fun r_232 g_232 f_232 q_232 => ?_)
                  obtain ⟨rfl, rfl, rfl⟩ := q_232
                  refine r_putI (pc := 235) dX11_queues_235 fl_X11_372 rfl rfl hM.k ?_
                  refine r_iconst (pc := 238) dX11_queues_238 ?_
                  refine r_istore (pc := 239) (L2 := [(4, (.int (iI (0)))), (3, (.int (iI (alQ K n sd.toNat i)))), (0, (.ref 164)), (1, (.int (iI (sd)))), (2, (.int (iI (m))))]) dX11_queues_239 (by decide) rfl ?_
                  have hie : i = m.toNat := by omega
                  have L5 : ∀ q c : Nat, q = n - c → c ≤ n → ∀ f4 : Fm, (∀ q, q ≠ 192 → q ≠ 193 → f4 q = (stF fa 164 43 ((n : Nat) : Int)) q) → (∀ q, q < c → f4 192 q = gtQ K n sd.toNat q i) → (∀ q, q < c → f4 193 (odQ K n sd.toNat (i - 1) q) = ((q : Nat) : Int)) → PW l z (d + 274) mX11_queues 0 0 (fun r g' f' => g = g' ∧ QuM f K n sd m r f') 241 [(4, (.int (iI (((c : Nat) : Int))))), (3, (.int (iI (alQ K n sd.toNat i)))), (0, (.ref 164)), (1, (.int (iI (sd)))), (2, (.int (iI (m))))] [] g f4 0 0 := by
                    intro q
                    induction q using Nat.strongRecOn with
                    | _ q ih_L5 =>
                      intro c hq_c hi_c f4 hF4a hR4 hP4
                      have hKa := hKx
                      have hKx : f4 166 = K := by rw [hF4a 166 (by decide) (by decide), stF_n _ _ _ (by decide)]; exact hKa
                      have hF4 : ∀ q, q ≠ 192 → q ≠ 193 → q ≠ 164 → f4 q = fa q := fun q h1 h2 h3 => by rw [hF4a q h1 h2, stF_n _ _ _ h3]
                      refine r_iload (pc := 241) 0 dX11_queues_241 rfl ?_
                      refine r_aload_n (pc := 243) 2 dX11_queues_243 rfl rfl ?_
                      refine r_callV (pc := 244) (As := []) (S := [(.int (iI (((c : Nat) : Int))))]) dX11_queues_244 cv_X11_121 hM.k rfl (Nat.le_of_ble_eq_true rfl) (m_cust (v := ((n : Nat) : Int)) l z _ hM ((congrFun hKx 77).trans hn)) (Nat.zero_le _) (Nat.zero_le _) (fun r_244 g_244 f_244 q_244 => ?_)
                      obtain ⟨rfl, rfl, rfl⟩ := q_244
                      refine r_icmp_ge (pc := 247) (tgt := 284) dX11_queues_247 (by decide) (by omega) (by omega) (fun c_247 => ?_) (fun c_247 => ?_)
                      · refine r_aload_n (pc := 284) 2 dX11_queues_284 rfl rfl ?_
                        refine r_iload_n (pc := 285) 1 dX11_queues_285 rfl rfl ?_
                        refine r_callV (pc := 286) (As := [(.int (iI (alQ K n sd.toNat i)))]) (S := []) dX11_queues_286 cv_X11_118 hM.k rfl (Nat.le_of_ble_eq_true rfl) (m_good l z _ _ hM) (Nat.zero_le _) (Nat.zero_le _) (fun r_286 g_286 f_286 q_286 => ?_)
                        obtain ⟨rfl, rfl, rfl⟩ := q_286
                        exact r_iret (pc := 289) dX11_queues_289 rfl rfl ⟨rfl, Or.inr ⟨⟨hss, hmm⟩, Or.inr ⟨by rw [← hie]; exact hfj, by rw [← hie], f4, ⟨fun a ha => by rw [hF4 a (by omega) (by omega) (by omega)]; exact hmq9.1 a ha, fun q a1 a2 a3 a4 a5 a6 a7 => by rw [hF4a 164 (by decide) (by decide), stF_i _ _ _ a6]; exact hmq9.2.1 q a1 a2 a3 a4 a5 a6 a7, by rw [hF4a 164 (by decide) (by decide), stF_i _ _ _ (by decide)]; exact hmq9.2.2⟩, by rw [hF4a 164 (by decide) (by decide), stF_s], fun c hc => by rw [← hie]; exact hR4 c (by omega), fun k hk => by rw [← hie]; exact hP4 k (by omega), rfl⟩⟩⟩
                      · refine r_aload_n (pc := 250) 2 dX11_queues_250 rfl rfl ?_
                        refine r_getR (pc := 251) (b := 192) dX11_queues_251 fl_X11_101 rfl hM.k hM.r40 ?_
                        refine r_iload (pc := 254) 0 dX11_queues_254 rfl ?_
                        refine r_aload_n (pc := 256) 2 dX11_queues_256 rfl rfl ?_
                        refine r_getR (pc := 257) (b := 194) dX11_queues_257 fl_X11_107 rfl hM.k hM.r42 ?_
                        refine r_iload (pc := 260) 0 dX11_queues_260 rfl ?_
                        refine r_ialdv (pc := 262) (w := gtQ K n sd.toNat c i) dX11_queues_262 hM.a42 (by omega) (by decide) (by rw [hF4 194 (by decide) (by decide) (by decide)]; exact h194 c (by omega)) ?_
                        refine r_iastv (pc := 263) (i := c) dX11_queues_263 hM.a40 (by omega) (by decide) rfl ?_
                        refine r_aload_n (pc := 264) 2 dX11_queues_264 rfl rfl ?_
                        refine r_getR (pc := 265) (b := 193) dX11_queues_265 fl_X11_104 rfl hM.k hM.r41 ?_
                        refine r_aload_n (pc := 268) 2 dX11_queues_268 rfl rfl ?_
                        refine r_getR (pc := 269) (b := 184) dX11_queues_269 fl_X11_76 rfl hM.k hM.r32 ?_
                        refine r_iload (pc := 272) 0 dX11_queues_272 rfl ?_
                        refine r_ialdv (pc := 274) (w := ((odQ K n sd.toNat (i - 1) c : Nat) : Int)) dX11_queues_274 hM.a32 (by omega) (by decide) (rdn (by decide) (by rw [hF4 184 (by decide) (by decide) (by decide)]; exact h184 (by omega) c (by omega))) ?_
                        refine r_iload (pc := 275) 0 dX11_queues_275 rfl ?_
                        refine r_iastv (pc := 277) (i := odQ K n sd.toNat (i - 1) c) dX11_queues_277 hM.a41 (by have := (okO_q (wt := wtK (KQ K n sd.toNat (i - 1)).1 ((KQ K n sd.toNat (i - 1)).1 42) (hdK (KQ K n sd.toNat (i - 1)).1) n) (s0 := (KQ K n sd.toNat (i - 1)).2) hn8 c (by omega)).1; show 0 ≤ ((odQ K n sd.toNat (i - 1) c : Nat) : Int) ∧ _; unfold odQ; omega) (by decide) rfl ?_
                        refine r_iincv (pc := 278) (y := ((c + 1 : Nat) : Int)) (L2 := [(4, (.int (iI (((c + 1 : Nat) : Int))))), (3, (.int (iI (alQ K n sd.toNat i)))), (0, (.ref 164)), (1, (.int (iI (sd)))), (2, (.int (iI (m))))]) 0 dX11_queues_278 rfl (by omega) (by decide) rfl ?_
                        refine r_goto (pc := 281) (tgt := 241) dX11_queues_281 (by decide) ?_
                        refine r_sub (L2 := [(4, (.int (iI (((c + 1 : Nat) : Int))))), (3, (.int (iI (alQ K n sd.toNat i)))), (0, (.ref 164)), (1, (.int (iI (sd)))), (2, (.int (iI (m))))]) [0, 1, 2, 3, 4] rfl ?_
                        have hokm : okO (odQ K n sd.toNat (i - 1)) n := okO_q hn8
                        exact ih_L5 (n - (c + 1)) (by omega) (c + 1) (by omega) (by omega) _ (fun q h1 h2 => by rw [stF_n _ _ _ h2, stF_n _ _ _ h1]; exact hF4a q h1 h2) (fun q hq => by rcases Nat.lt_succ_iff_lt_or_eq.mp hq with h | h; exact rdn (by decide) (rdi (by omega) (hR4 q h)); subst h; exact rdn (by decide) (stF_s _ _ _ _)) (fun q hq => by rcases Nat.lt_succ_iff_lt_or_eq.mp hq with h | h; exact rdi (okO_ne hokm (by omega) h) (rdn (by decide) (hP4 q h)); subst h; exact stF_s _ _ _ _)
                  refine r_sub (L2 := [(4, (.int (iI (((0 : Nat) : Int))))), (3, (.int (iI (alQ K n sd.toNat i)))), (0, (.ref 164)), (1, (.int (iI (sd)))), (2, (.int (iI (m))))]) [0, 1, 2, 3, 4] rfl ?_
                  exact L5 n 0 (by omega) (by omega) _ (fun _ _ _ => rfl) (fun q hq => absurd hq (by omega)) (fun q hq => absurd hq (by omega))
                · refine r_iconst (pc := 100) dX11_queues_100 ?_
                  refine r_istore (pc := 101) (L2 := [(5, (.int (iI (0)))), (4, (.int (iI (((i : Nat) : Int))))), (3, (.int (iI (alQ K n sd.toNat i)))), (0, (.ref 164)), (1, (.int (iI (sd)))), (2, (.int (iI (m))))]) dX11_queues_101 (by decide) rfl ?_
                  have L3 : ∀ q c : Nat, q = n - c → c ≤ n → ∀ f2 : Fm, (∀ q, q ≠ 179 → f2 q = fa q) → (∀ q, q < c → f2 179 q = (KQ K n sd.toNat i).1 (5 * q + 3)) → PW l z (d + 274) mX11_queues 0 0 (fun r g' f' => g = g' ∧ QuM f K n sd m r f') 103 [(5, (.int (iI (((c : Nat) : Int))))), (4, (.int (iI (((i : Nat) : Int))))), (3, (.int (iI (alQ K n sd.toNat i)))), (0, (.ref 164)), (1, (.int (iI (sd)))), (2, (.int (iI (m))))] [] g f2 0 0 := by
                    intro q
                    induction q using Nat.strongRecOn with
                    | _ q ih_L3 =>
                      intro c hq_c hi_c f2 hF2 h179
                      have hKa := hKx
                      have hKx : f2 166 = K := by rw [hF2 166 (by decide)]; exact hKa
                      have hbx : ∃ bk : Bool, f2 164 20 = b01 (bk = true) := by rw [hF2 164 (by decide)]; exact hmq9.2.2
                      have hsa := hsx
                      have hsx : f2 164 44 = (((KQ K n sd.toNat i).2 : Nat) : Int) := by rw [hF2 164 (by decide)]; exact hsa
                      have h178a := h178
                      have h178 : ∀ o, o ≤ 1 → f2 178 o = ((bkK (KQ K n sd.toNat i).1 o : Nat) : Int) := fun o ho => by rw [hF2 178 (by decide)]; exact h178a o ho
                      have h190a := h190
                      have h190 : ∀ c, c < n → f2 190 c = (KQ K n sd.toNat i).1 (5 * c + 3) := fun c hc => by rw [hF2 190 (by decide)]; exact h190a c hc
                      have h191a := h191
                      have h191 : ∀ c, c < n → f2 191 c = (KQ K n sd.toNat i).1 (5 * c + 4) := fun c hc => by rw [hF2 191 (by decide)]; exact h191a c hc
                      refine r_iload (pc := 103) 0 dX11_queues_103 rfl ?_
                      refine r_aload_n (pc := 105) 3 dX11_queues_105 rfl rfl ?_
                      refine r_callV (pc := 106) (As := []) (S := [(.int (iI (((c : Nat) : Int))))]) dX11_queues_106 cv_X11_121 hM.k rfl (Nat.le_of_ble_eq_true rfl) (m_cust (v := ((n : Nat) : Int)) l z _ hM ((congrFun hKx 77).trans hn)) (Nat.zero_le _) (Nat.zero_le _) (fun r_106 g_106 f_106 q_106 => ?_)
                      obtain ⟨rfl, rfl, rfl⟩ := q_106
                      refine r_icmp_ge (pc := 109) (tgt := 132) dX11_queues_109 (by decide) (by omega) (by omega) (fun c_109 => ?_) (fun c_109 => ?_)
                      · refine r_aload_n (pc := 132) 3 dX11_queues_132 rfl rfl ?_
                        refine r_aload_n (pc := 133) 3 dX11_queues_133 rfl rfl ?_
                        refine r_getR (pc := 134) (b := 166) dX11_queues_134 fl_X11_17 rfl hM.k hM.r2 ?_
                        refine r_bipush (pc := 137) dX11_queues_137 (by decide) ?_
                        refine r_ialdv (pc := 139) (w := K 42) dX11_queues_139 hM.a2 (by decide) (by decide) (congrFun hKx 42) ?_
                        refine r_iload (pc := 140) 1 dX11_queues_140 rfl ?_
                        refine r_iadd (pc := 142) dX11_queues_142 ?_
                        refine r_callV (pc := 143) (As := [(.int (iI ((K 42) + (((i : Nat) : Int)))))]) (S := []) dX11_queues_143 cv_X11_284 hM.k rfl (Nat.le_of_ble_eq_true rfl) (m_asksAll (K := K) (day := (K 42 + ((i : Nat) : Int))) (hd := fun c => (KQ K n sd.toNat i).1 (5 * c + 3)) (n := n) l z hM hKx hO hn hbx (by omega) (fun c hc => ⟨h179 c (by omega), by have := (hKi.1.f (c := c) (by omega)).2.2.2.1; show -1000000000 ≤ (KQ K n sd.toNat i).1 (5 * c + 3); omega, by have := (hKi.1.f (c := c) (by omega)).2.2.2.1; show (KQ K n sd.toNat i).1 (5 * c + 3) ≤ 1000000000; omega⟩) (D := d + 273) (by omega)) (Nat.zero_le _) (Nat.zero_le _) (fun r_143 g_143 f_143 q_143 => ?_)
                        obtain ⟨rfl, rfl, hA1, hA2, hA3, hA4⟩ := q_143
                        have hK2 : f_143 166 = K := by rw [hA1 166 (by decide) (by decide) (by decide) (by decide)]; exact hKx
                        have hwt : ∀ c, c < n → wtK K (K 42 + ((i : Nat) : Int)) (fun c => (KQ K n sd.toNat i).1 (5 * c + 3)) n c = (wtK (KQ K n sd.toNat i).1 ((KQ K n sd.toNat i).1 42) (hdK (KQ K n sd.toNat i).1) n) c := fun c hc => by
                          unfold wtK
                          apply wmk_c
                          intro q hq
                          rw [KQ_42, waitK_e2 hO (KQ_e hn8 i) (fun j hj => KQ_o hn8 i (Or.inr hj)) _ _ (by omega) (by omega)]
                          rfl
                        have hMDi : MD f_143 n (ovK (KQ K n sd.toNat i).1) (waK (KQ K n sd.toNat i).1 ((KQ K n sd.toNat i).1 42) (hdK (KQ K n sd.toNat i).1)) (wtK (KQ K n sd.toNat i).1 ((KQ K n sd.toNat i).1 42) (hdK (KQ K n sd.toNat i).1) n) (bkK (KQ K n sd.toNat i).1) := ⟨by rw [hK2]; exact hn, hn8, fun c hc => ⟨by rw [hK2, ← KQ_o (K := K) (n := n) (s0 := sd.toNat) hn8 i (show (5 * c + 2 < 42 ∧ (5 * c + 2) % 5 < 3) ∨ 44 < 5 * c + 2 by omega)]; exact (ovK_r hKi.1 (by omega)).1, (ovK_r hKi.1 (by omega)).2⟩, fun c hc => ⟨by have h2 := wantK_r (day := (KQ K n sd.toNat i).1 42) (had := hdK (KQ K n sd.toNat i).1 c) hKi.1 (c := c) (by omega); have h3 := wantK_e2 hO (KQ_e (s0 := sd.toNat) hn8 i) (fun j hj => KQ_o hn8 i (Or.inr hj)) ((KQ K n sd.toNat i).1 42) (hdK (KQ K n sd.toNat i).1 c) (show c < 8 by omega); rw [(hA4 c hc).1]; unfold waK; rw [KQ_42] at h2 h3 ⊢; show wantK K (K 42 + ((i : Nat) : Int)) (hdK (KQ K n sd.toNat i).1 c) c = _; rw [← h3]; omega, waK_r hKi.1 (by omega)⟩, fun c hc => ⟨by rw [(hA4 c hc).2, hwt c hc], wmk_8 _ hn8⟩, fun o ho => ⟨by rw [hA1 178 (by decide) (by decide) (by decide) (by decide)]; exact h178 o ho, (bkK_r hKi.1 (by decide) ho).2⟩⟩
                        refine r_aload_n (pc := 146) 3 dX11_queues_146 rfl rfl ?_
                        refine r_callV (pc := 147) (As := []) (S := []) dX11_queues_147 cv_X11_369 hM.k rfl (Nat.le_of_ble_eq_true rfl) (m_queuesUp (s0 := (KQ K n sd.toNat i).2) l z (d + 271) hM hMDi (KQ_sd hsd0 i) (by rw [hA2 44 (by decide) (by decide) (by decide) (by decide) (by decide)]; exact hsx)) (Nat.zero_le _) (Nat.zero_le _) (fun r_147 g_147 f_147 q_147 => ?_)
                        obtain ⟨rfl, rfl, hu1, hu2, hu3, hu4⟩ := q_147
                        have hMDu : MD f_147 n (ovK (KQ K n sd.toNat i).1) (waK (KQ K n sd.toNat i).1 ((KQ K n sd.toNat i).1 42) (hdK (KQ K n sd.toNat i).1)) (wtK (KQ K n sd.toNat i).1 ((KQ K n sd.toNat i).1 42) (hdK (KQ K n sd.toNat i).1) n) (bkK (KQ K n sd.toNat i).1) := hMDi.mv (hu1 166 (by decide) (by decide)) (hu1 176 (by decide) (by decide)) (hu1 177 (by decide) (by decide)) (hu1 178 (by decide) (by decide))
                        have hK3 : f_147 166 = K := (hu1 166 (by decide) (by decide)).trans hK2
                        have hb0r := (bkK_r (o := 0) hKi.1 (by decide) (by decide)).2
                        have hb1r := (bkK_r (o := 1) hKi.1 (by decide) (by decide)).2
                        have hsw0 := swN_r (ov := ovK (KQ K n sd.toNat i).1) (wa := (waK (KQ K n sd.toNat i).1 ((KQ K n sd.toNat i).1 42) (hdK (KQ K n sd.toNat i).1))) (o := 0) n (fun c hc => waK_r hKi.1 (by omega))
                        have hsw1 := swN_r (ov := ovK (KQ K n sd.toNat i).1) (wa := (waK (KQ K n sd.toNat i).1 ((KQ K n sd.toNat i).1 42) (hdK (KQ K n sd.toNat i).1))) (o := 1) n (fun c hc => waK_r hKi.1 (by omega))
                        refine r_iload_n (pc := 150) 2 dX11_queues_150 rfl rfl ?_
                        refine r_aload_n (pc := 151) 3 dX11_queues_151 rfl rfl ?_
                        refine r_callV (pc := 152) (As := []) (S := [(.int (iI (alQ K n sd.toNat i)))]) dX11_queues_152 cv_X11_354 hM.k rfl (Nat.le_of_ble_eq_true rfl) (m_goesBy (K := (KQ K n sd.toNat i).1) (od := (odQ K n sd.toNat i)) (pH := fun c => (KQ K n sd.toNat i).1 (5 * c + 3)) (pB := fun c => (KQ K n sd.toNat i).1 (5 * c + 4)) l z (d + 270) hM hMDu hKi.1 ((congrFun hK3 40).trans (KQ_o hn8 i (by omega)).symm) ((congrFun hK3 41).trans (KQ_o hn8 i (by omega)).symm) hoki hu4 (fun q hq => by rw [hu1 190 (by decide) (by decide), hA1 190 (by decide) (by decide) (by decide) (by decide)]; exact h190 q hq) (fun q hq => by rw [hu1 191 (by decide) (by decide), hA1 191 (by decide) (by decide) (by decide) (by decide)]; exact h191 q hq)) (Nat.zero_le _) (Nat.zero_le _) (fun r_152 g_152 f_152 q_152 => ?_)
                        obtain ⟨rfl, rfl, hg1, hg2, hg3⟩ := q_152
                        have hKg : f_152 166 = K := by rw [hg1 166 (by decide) (by decide) (by decide) (by decide)]; exact hK3
                        refine r_iadd (pc := 155) dX11_queues_155 ?_
                        refine r_istore_n (pc := 156) (L2 := [(3, (.int (iI ((alQ K n sd.toNat i) + (alK (KQ K n sd.toNat i).1 n (odQ K n sd.toNat i) n))))), (5, (.int (iI (((c : Nat) : Int))))), (4, (.int (iI (((i : Nat) : Int))))), (0, (.ref 164)), (1, (.int (iI (sd)))), (2, (.int (iI (m))))]) dX11_queues_156 rfl (by decide) rfl ?_
                        refine r_aload_n (pc := 157) 3 dX11_queues_157 rfl rfl ?_
                        refine r_callV (pc := 158) (As := []) (S := []) dX11_queues_158 cv_X11_357 hM.k rfl (Nat.le_of_ble_eq_true rfl) (m_canBe (n := n) (b0 := bkK (KQ K n sd.toNat i).1 0 + swN (ovK (KQ K n sd.toNat i).1) (waK (KQ K n sd.toNat i).1 ((KQ K n sd.toNat i).1 42) (hdK (KQ K n sd.toNat i).1)) 0 n) (b1 := bkK (KQ K n sd.toNat i).1 1 + swN (ovK (KQ K n sd.toNat i).1) (waK (KQ K n sd.toNat i).1 ((KQ K n sd.toNat i).1 42) (hdK (KQ K n sd.toNat i).1)) 1 n) (pH := fun c => (KQ K n sd.toNat i).1 (5 * c + 3) + gcK (KQ K n sd.toNat i).1 n (odQ K n sd.toNat i) c) (pB := fun c => (KQ K n sd.toNat i).1 (5 * c + 4) + (((waK (KQ K n sd.toNat i).1 ((KQ K n sd.toNat i).1 42) (hdK (KQ K n sd.toNat i).1)) c : Nat) : Int)) l z (d + 272) hM ((congrFun hKg 77).trans hn) hn8 (fun q hq => ⟨(hg3 q hq).2.1, (hg3 q hq).2.2, by have h1 := hKi.1.f (c := q) (by omega); have h2 := gcK_r hKi.1 hn8 hoki hq; show -1000000000 ≤ (KQ K n sd.toNat i).1 (5 * q + 3) + gcK (KQ K n sd.toNat i).1 n (odQ K n sd.toNat i) q ∧ (KQ K n sd.toNat i).1 (5 * q + 3) + gcK (KQ K n sd.toNat i).1 n (odQ K n sd.toNat i) q ≤ 1000000000; omega, by have h1 := hKi.1.f (c := q) (by omega); have h2 := waK_r (day := (KQ K n sd.toNat i).1 42) (hd := hdK (KQ K n sd.toNat i).1) hKi.1 (show q < 8 by omega); show -1000000000 ≤ (KQ K n sd.toNat i).1 (5 * q + 4) + (((waK (KQ K n sd.toNat i).1 ((KQ K n sd.toNat i).1 42) (hdK (KQ K n sd.toNat i).1)) q : Nat) : Int) ∧ (KQ K n sd.toNat i).1 (5 * q + 4) + (((waK (KQ K n sd.toNat i).1 ((KQ K n sd.toNat i).1 42) (hdK (KQ K n sd.toNat i).1)) q : Nat) : Int) ≤ 1000000000; omega⟩) ⟨hg2 0 (by decide), hg2 1 (by decide)⟩ ⟨by omega, by omega⟩) (Nat.zero_le _) (Nat.zero_le _) (fun r_158 g_158 f_158 q_158 => ?_)
                        obtain ⟨⟨bb, rfl, hbb⟩, rfl, rfl⟩ := q_158
                        have hfb : (bb = true ∧ (KQ K n sd.toNat i).1 42 < 9999) ↔ fitP (KQ K n sd.toNat i).1 n (odQ K n sd.toNat i) := ⟨fun h => ⟨h.2, (hbb.mp h.1).1, (hbb.mp h.1).2.1, (hbb.mp h.1).2.2⟩, fun h => ⟨hbb.mpr ⟨h.2.1, h.2.2.1, h.2.2.2⟩, h.1⟩⟩
                        have hk42 := KQ_42 (K := K) (n := n) (s0 := sd.toNat) i
                        refine r_if_eq (pc := 161) (tgt := 182) dX11_queues_161 (by decide) (b01_r) (fun c_161 => ?_) (fun c_161 => ?_)
                        · replace c_161 := b01_z c_161
                          refine r_aload_n (pc := 182) 3 dX11_queues_182 rfl rfl ?_
                          refine r_bipush (pc := 183) dX11_queues_183 (by decide) ?_
                          refine r_callV (pc := 185) (As := [(.int (iI (-5)))]) (S := []) dX11_queues_185 cv_X11_114 hM.k rfl (Nat.le_of_ble_eq_true rfl) (m_refuses l z _ hM (by omega)) (Nat.zero_le _) (Nat.zero_le _) (fun r_185 g_185 f_185 q_185 => ?_)
                          obtain ⟨rfl, rfl, rfl⟩ := q_185
                          exact r_iret (pc := 188) dX11_queues_188 rfl rfl ⟨rfl, Or.inr ⟨⟨hss, hmm⟩, Or.inl ⟨i, by omega, hfj, fun h => c_161 (hfb.mpr h).1, rfl, f_152, ⟨fun a ha => by rw [hg1 a (by omega) (by omega) (by omega) (by omega), hu1 a (by omega) (by omega), hA1 a (by omega) (by omega) (by omega) (by omega), hF2 a (by omega)]; exact hmq9.1 a ha, fun q a1 a2 a3 a4 a5 a6 a7 => by rw [hg1 164 (by decide) (by decide) (by decide) (by decide), hu2 q a7, hA2 q a1 a2 a3 a4 a5, hF2 164 (by decide)]; exact hmq9.2.1 q a1 a2 a3 a4 a5 a6 a7, by rw [hg1 164 (by decide) (by decide) (by decide) (by decide), hu2 20 (by decide)]; exact hA3⟩, by rw [hg1 192 (by decide) (by decide) (by decide) (by decide), hu1 192 (by decide) (by decide), hA1 192 (by decide) (by decide) (by decide) (by decide), hF2 192 (by decide)]; exact h9y.1, by rw [hg1 193 (by decide) (by decide) (by decide) (by decide), hu1 193 (by decide) (by decide), hA1 193 (by decide) (by decide) (by decide) (by decide), hF2 193 (by decide)]; exact h9y.2.1, by rw [hg1 164 (by decide) (by decide) (by decide) (by decide), hu2 43 (by decide), hA2 43 (by decide) (by decide) (by decide) (by decide) (by decide), hF2 164 (by decide)]; exact h9y.2.2, rfl⟩⟩⟩
                        · replace c_161 := b01_nz c_161
                          refine r_aload_n (pc := 164) 3 dX11_queues_164 rfl rfl ?_
                          refine r_getR (pc := 165) (b := 166) dX11_queues_165 fl_X11_17 rfl hM.k hM.r2 ?_
                          refine r_bipush (pc := 168) dX11_queues_168 (by decide) ?_
                          refine r_ialdv (pc := 170) (w := K 42) dX11_queues_170 hM.a2 (by decide) (by decide) (congrFun hKg 42) ?_
                          refine r_iload (pc := 171) 2 dX11_queues_171 rfl ?_
                          refine r_iadd (pc := 173) dX11_queues_173 ?_
                          refine r_iconst (pc := 174) dX11_queues_174 ?_
                          refine r_iadd (pc := 175) dX11_queues_175 ?_
                          refine r_sipush (pc := 176) dX11_queues_176 (by decide) ?_
                          refine r_icmp_le (pc := 179) (tgt := 189) dX11_queues_179 (by decide) (by omega) (by omega) (fun c_179 => ?_) (fun c_179 => ?_)
                          · refine r_iconst (pc := 189) dX11_queues_189 ?_
                            refine r_istore (pc := 190) (L2 := [(5, (.int (iI (0)))), (3, (.int (iI ((alQ K n sd.toNat i) + (alK (KQ K n sd.toNat i).1 n (odQ K n sd.toNat i) n))))), (4, (.int (iI (((i : Nat) : Int))))), (0, (.ref 164)), (1, (.int (iI (sd)))), (2, (.int (iI (m))))]) dX11_queues_190 (by decide) rfl ?_
                            have hfit : fitP (KQ K n sd.toNat i).1 n (odQ K n sd.toNat i) := hfb.mp ⟨c_161, by omega⟩
                            have L4 : ∀ q c : Nat, q = n - c → c ≤ n → ∀ f3 : Fm, (∀ q, q ≠ 194 → f3 q = f_152 q) → (∀ q, q < n → f3 194 q = if q < c then gtQ K n sd.toNat q i + gcK (KQ K n sd.toNat i).1 n (odQ K n sd.toNat i) q else gtQ K n sd.toNat q i) → PW l z (d + 274) mX11_queues 0 0 (fun r g' f' => g = g' ∧ QuM f K n sd m r f') 192 [(5, (.int (iI (((c : Nat) : Int))))), (4, (.int (iI (((i : Nat) : Int))))), (3, (.int (iI ((alQ K n sd.toNat i) + (alK (KQ K n sd.toNat i).1 n (odQ K n sd.toNat i) n))))), (0, (.ref 164)), (1, (.int (iI (sd)))), (2, (.int (iI (m))))] [] g f3 0 0 := by
                              intro q
                              induction q using Nat.strongRecOn with
                              | _ q ih_L4 =>
                                intro c hq_c hi_c f3 hF3 hR3
                                have hKf : f3 166 = K := by rw [hF3 166 (by decide)]; exact hKg
                                have hKx := hKf
                                have hmq3 : MSq f f3 := ⟨fun a ha => by rw [hF3 a (by omega), hg1 a (by omega) (by omega) (by omega) (by omega), hu1 a (by omega) (by omega), hA1 a (by omega) (by omega) (by omega) (by omega), hF2 a (by omega)]; exact hmq9.1 a ha, fun q a1 a2 a3 a4 a5 a6 a7 => by rw [hF3 164 (by decide), hg1 164 (by decide) (by decide) (by decide) (by decide), hu2 q a7, hA2 q a1 a2 a3 a4 a5, hF2 164 (by decide)]; exact hmq9.2.1 q a1 a2 a3 a4 a5 a6 a7, by rw [hF3 164 (by decide), hg1 164 (by decide) (by decide) (by decide) (by decide), hu2 20 (by decide)]; exact hA3⟩
                                have hmz : f3 192 = f 192 ∧ f3 193 = f 193 ∧ f3 164 43 = f 164 43 := ⟨by rw [hF3 192 (by decide), hg1 192 (by decide) (by decide) (by decide) (by decide), hu1 192 (by decide) (by decide), hA1 192 (by decide) (by decide) (by decide) (by decide), hF2 192 (by decide)]; exact h9y.1, by rw [hF3 193 (by decide), hg1 193 (by decide) (by decide) (by decide) (by decide), hu1 193 (by decide) (by decide), hA1 193 (by decide) (by decide) (by decide) (by decide), hF2 193 (by decide)]; exact h9y.2.1, by rw [hF3 164 (by decide), hg1 164 (by decide) (by decide) (by decide) (by decide), hu2 43 (by decide), hA2 43 (by decide) (by decide) (by decide) (by decide) (by decide), hF2 164 (by decide)]; exact h9y.2.2⟩
                                refine r_iload (pc := 192) 0 dX11_queues_192 rfl ?_
                                refine r_aload_n (pc := 194) 3 dX11_queues_194 rfl rfl ?_
                                refine r_callV (pc := 195) (As := []) (S := [(.int (iI (((c : Nat) : Int))))]) dX11_queues_195 cv_X11_121 hM.k rfl (Nat.le_of_ble_eq_true rfl) (m_cust (v := ((n : Nat) : Int)) l z _ hM ((congrFun hKx 77).trans hn)) (Nat.zero_le _) (Nat.zero_le _) (fun r_195 g_195 f_195 q_195 => ?_)
                                obtain ⟨rfl, rfl, rfl⟩ := q_195
                                refine r_icmp_ge (pc := 198) (tgt := 224) dX11_queues_198 (by decide) (by omega) (by omega) (fun c_198 => ?_) (fun c_198 => ?_)
                                · refine r_iincv (pc := 224) (y := ((i + 1 : Nat) : Int)) (L2 := [(4, (.int (iI (((i + 1 : Nat) : Int))))), (5, (.int (iI (((c : Nat) : Int))))), (3, (.int (iI ((alQ K n sd.toNat i) + (alK (KQ K n sd.toNat i).1 n (odQ K n sd.toNat i) n))))), (0, (.ref 164)), (1, (.int (iI (sd)))), (2, (.int (iI (m))))]) 1 dX11_queues_224 rfl (by omega) (by decide) rfl ?_
                                  refine r_goto (pc := 227) (tgt := 94) dX11_queues_227 (by decide) ?_
                                  refine r_sub (L2 := [(4, (.int (iI (((i + 1 : Nat) : Int))))), (3, (.int (iI (alQ K n sd.toNat (i + 1))))), (0, (.ref 164)), (1, (.int (iI (sd)))), (2, (.int (iI (m))))]) [0, 2, 3, 4, 5] rfl ?_
                                  have hcn3 : c = n := by omega
                                  exact ih_L2 (m.toNat - (i + 1)) (by omega) (i + 1) (by omega) (by omega) _ (fun j hj => by rcases Nat.lt_succ_iff_lt_or_eq.mp hj with h | h; exact hfj j h; subst h; exact hfit) (by rw [hF3 166 (by decide)]; exact hKg) hmq3 hmz (by rw [hF3 164 (by decide), hg1 164 (by decide) (by decide) (by decide) (by decide)]; exact hu3) (fun c hc => by rw [hF3 190 (by decide), (hg3 c hc).2.1, KQ_s]; exact (goK_3 _ _ hn8 hc).symm) (fun c hc => by rw [hF3 191 (by decide), (hg3 c hc).2.2, KQ_s]; exact (goK_4 _ _ hn8 hc).symm) (fun o ho => by rw [hF3 178 (by decide), hg2 o ho, KQ_bk hKi.1 ho]) (fun c hc => by rw [hR3 c hc, if_pos (by omega)]; rfl) (fun _ k hk => by rw [hF3 184 (by decide), hg1 184 (by decide) (by decide) (by decide) (by decide), show i + 1 - 1 = i by omega]; exact hu4 k hk)
                                · refine r_aload_n (pc := 201) 3 dX11_queues_201 rfl rfl ?_
                                  refine r_getR (pc := 202) (b := 194) dX11_queues_202 fl_X11_107 rfl hM.k hM.r42 ?_
                                  refine r_iload (pc := 205) 0 dX11_queues_205 rfl ?_
                                  refine r_dup2 (pc := 207) dX11_queues_207 rfl rfl ?_
                                  refine r_ialdv (pc := 208) (w := gtQ K n sd.toNat c i) dX11_queues_208 hM.a42 (by omega) (by decide) ((hR3 c (by omega)).trans (if_neg (by omega))) ?_
                                  refine r_aload_n (pc := 209) 3 dX11_queues_209 rfl rfl ?_
                                  refine r_getR (pc := 210) (b := 189) dX11_queues_210 fl_X11_92 rfl hM.k hM.r37 ?_
                                  refine r_iload (pc := 213) 0 dX11_queues_213 rfl ?_
                                  refine r_ialdv (pc := 215) (w := gcK (KQ K n sd.toNat i).1 n (odQ K n sd.toNat i) c) dX11_queues_215 hM.a37 (by omega) (by decide) (by rw [hF3 189 (by decide)]; exact (hg3 c (by omega)).1) ?_
                                  refine r_iadd (pc := 216) dX11_queues_216 ?_
                                  refine r_iastv (pc := 217) (i := c) dX11_queues_217 hM.a42 (by omega) (by decide) rfl ?_
                                  refine r_iincv (pc := 218) (y := ((c + 1 : Nat) : Int)) (L2 := [(5, (.int (iI (((c + 1 : Nat) : Int))))), (4, (.int (iI (((i : Nat) : Int))))), (3, (.int (iI ((alQ K n sd.toNat i) + (alK (KQ K n sd.toNat i).1 n (odQ K n sd.toNat i) n))))), (0, (.ref 164)), (1, (.int (iI (sd)))), (2, (.int (iI (m))))]) 0 dX11_queues_218 rfl (by omega) (by decide) rfl ?_
                                  refine r_goto (pc := 221) (tgt := 192) dX11_queues_221 (by decide) ?_
                                  refine r_sub (L2 := [(5, (.int (iI (((c + 1 : Nat) : Int))))), (4, (.int (iI (((i : Nat) : Int))))), (3, (.int (iI ((alQ K n sd.toNat i) + (alK (KQ K n sd.toNat i).1 n (odQ K n sd.toNat i) n))))), (0, (.ref 164)), (1, (.int (iI (sd)))), (2, (.int (iI (m))))]) [0, 1, 2, 3, 4, 5] rfl ?_
                                  exact ih_L4 (n - (c + 1)) (by omega) (c + 1) (by omega) (by omega) _ (fun q hq => by rw [stF_n _ _ _ hq]; exact hF3 q hq) (fun q hq => by
                                    by_cases e : q = c
                                    · subst e; rw [stF_s, if_pos (by omega)]
                                    · rw [stF_i _ _ _ e, hR3 q hq]
                                      by_cases h : q < c
                                      · rw [if_pos h, if_pos (by omega)]
                                      · rw [if_neg h, if_neg (by omega)])
                            refine r_sub (L2 := [(5, (.int (iI (((0 : Nat) : Int))))), (4, (.int (iI (((i : Nat) : Int))))), (3, (.int (iI ((alQ K n sd.toNat i) + (alK (KQ K n sd.toNat i).1 n (odQ K n sd.toNat i) n))))), (0, (.ref 164)), (1, (.int (iI (sd)))), (2, (.int (iI (m))))]) [0, 2, 1, 3, 4, 5] rfl ?_
                            exact L4 n 0 (by omega) (by omega) f_152 (fun _ _ => rfl) (fun q hq => by rw [if_neg (by omega), hg1 194 (by decide) (by decide) (by decide) (by decide), hu1 194 (by decide) (by decide), hA1 194 (by decide) (by decide) (by decide) (by decide), hF2 194 (by decide)]; exact h194 q hq)
                          · refine r_aload_n (pc := 182) 3 dX11_queues_182 rfl rfl ?_
                            refine r_bipush (pc := 183) dX11_queues_183 (by decide) ?_
                            refine r_callV (pc := 185) (As := [(.int (iI (-5)))]) (S := []) dX11_queues_185 cv_X11_114 hM.k rfl (Nat.le_of_ble_eq_true rfl) (m_refuses l z _ hM (by omega)) (Nat.zero_le _) (Nat.zero_le _) (fun r_185 g_185 f_185 q_185 => ?_)
                            obtain ⟨rfl, rfl, rfl⟩ := q_185
                            exact r_iret (pc := 188) dX11_queues_188 rfl rfl ⟨rfl, Or.inr ⟨⟨hss, hmm⟩, Or.inl ⟨i, by omega, hfj, fun h => by have := (hfb.mpr h).2; omega, rfl, f_152, ⟨fun a ha => by rw [hg1 a (by omega) (by omega) (by omega) (by omega), hu1 a (by omega) (by omega), hA1 a (by omega) (by omega) (by omega) (by omega), hF2 a (by omega)]; exact hmq9.1 a ha, fun q a1 a2 a3 a4 a5 a6 a7 => by rw [hg1 164 (by decide) (by decide) (by decide) (by decide), hu2 q a7, hA2 q a1 a2 a3 a4 a5, hF2 164 (by decide)]; exact hmq9.2.1 q a1 a2 a3 a4 a5 a6 a7, by rw [hg1 164 (by decide) (by decide) (by decide) (by decide), hu2 20 (by decide)]; exact hA3⟩, by rw [hg1 192 (by decide) (by decide) (by decide) (by decide), hu1 192 (by decide) (by decide), hA1 192 (by decide) (by decide) (by decide) (by decide), hF2 192 (by decide)]; exact h9y.1, by rw [hg1 193 (by decide) (by decide) (by decide) (by decide), hu1 193 (by decide) (by decide), hA1 193 (by decide) (by decide) (by decide) (by decide), hF2 193 (by decide)]; exact h9y.2.1, by rw [hg1 164 (by decide) (by decide) (by decide) (by decide), hu2 43 (by decide), hA2 43 (by decide) (by decide) (by decide) (by decide) (by decide), hF2 164 (by decide)]; exact h9y.2.2, rfl⟩⟩⟩
                      · refine r_aload_n (pc := 112) 3 dX11_queues_112 rfl rfl ?_
                        refine r_getR (pc := 113) (b := 179) dX11_queues_113 fl_X11_61 rfl hM.k hM.r27 ?_
                        refine r_iload (pc := 116) 0 dX11_queues_116 rfl ?_
                        refine r_aload_n (pc := 118) 3 dX11_queues_118 rfl rfl ?_
                        refine r_getR (pc := 119) (b := 190) dX11_queues_119 fl_X11_95 rfl hM.k hM.r38 ?_
                        refine r_iload (pc := 122) 0 dX11_queues_122 rfl ?_
                        refine r_ialdv (pc := 124) (w := (KQ K n sd.toNat i).1 (5 * c + 3)) dX11_queues_124 hM.a38 (by omega) (by decide) (h190 c (by omega)) ?_
                        refine r_iastv (pc := 125) (i := c) dX11_queues_125 hM.a27 (by omega) (by decide) rfl ?_
                        refine r_iincv (pc := 126) (y := ((c + 1 : Nat) : Int)) (L2 := [(5, (.int (iI (((c + 1 : Nat) : Int))))), (4, (.int (iI (((i : Nat) : Int))))), (3, (.int (iI (alQ K n sd.toNat i)))), (0, (.ref 164)), (1, (.int (iI (sd)))), (2, (.int (iI (m))))]) 0 dX11_queues_126 rfl (by omega) (by decide) rfl ?_
                        refine r_goto (pc := 129) (tgt := 103) dX11_queues_129 (by decide) ?_
                        refine r_sub (L2 := [(5, (.int (iI (((c + 1 : Nat) : Int))))), (4, (.int (iI (((i : Nat) : Int))))), (3, (.int (iI (alQ K n sd.toNat i)))), (0, (.ref 164)), (1, (.int (iI (sd)))), (2, (.int (iI (m))))]) [0, 1, 2, 3, 4, 5] rfl ?_
                        exact ih_L3 (n - (c + 1)) (by omega) (c + 1) (by omega) (by omega) _ (fun q hq => by rw [stF_n _ _ _ hq]; exact hF2 q hq) (fun q hq => by rcases Nat.lt_succ_iff_lt_or_eq.mp hq with h | h; exact rdi (by omega) (h179 q h); subst h; exact stF_s _ _ _ _)
                  refine r_sub (L2 := [(5, (.int (iI (((0 : Nat) : Int))))), (4, (.int (iI (((i : Nat) : Int))))), (3, (.int (iI (alQ K n sd.toNat i)))), (0, (.ref 164)), (1, (.int (iI (sd)))), (2, (.int (iI (m))))]) [0, 1, 2, 3, 4, 5] rfl ?_
                  exact L3 n 0 (by omega) (by omega) fa (fun _ _ => rfl) (fun q hq => absurd hq (by omega))
            refine r_sub (L2 := [(4, (.int (iI (((0 : Nat) : Int))))), (3, (.int (iI (alQ K n sd.toNat 0)))), (0, (.ref 164)), (1, (.int (iI (sd)))), (2, (.int (iI (m))))]) [0, 1, 2, 3, 4] rfl ?_
            have hcn : c = n := by omega
            exact L2 m.toNat 0 (by omega) (by omega) f1 (fun j hj => absurd hj (by omega)) hKx ⟨fun a ha => by rw [hF1 a (by omega) (by omega) (by omega)]; exact hmq.1 a ha, fun q a1 a2 a3 a4 a5 a6 a7 => by rw [hF1 164 (by decide) (by decide) (by decide)]; exact hmq.2.1 q a1 a2 a3 a4 a5 a6 a7, by rw [hF1 164 (by decide) (by decide) (by decide)]; exact hmq.2.2⟩ (by rw [hF1 192 (by decide) (by decide) (by decide), hF1 193 (by decide) (by decide) (by decide), hF1 164 (by decide) (by decide) (by decide)]; exact h9x) (by rw [hF1 164 (by decide) (by decide) (by decide)]; exact h44) (fun c hc => (hR1 c (by omega)).1) (fun c hc => (hR1 c (by omega)).2.1) (fun o ho => by rw [hF1 178 (by decide) (by decide) (by decide)]; exact (hMD.2.2.2.2.2 o ho).1) (fun c hc => (hR1 c (by omega)).2.2) (fun h => absurd h (by omega))
          · refine r_aload_n (pc := 52) 1 dX11_queues_52 rfl rfl ?_
            refine r_getR (pc := 53) (b := 190) dX11_queues_53 fl_X11_95 rfl hM.k hM.r38 ?_
            refine r_iload_n (pc := 56) 0 dX11_queues_56 rfl rfl ?_
            refine r_aload_n (pc := 57) 1 dX11_queues_57 rfl rfl ?_
            refine r_iload_n (pc := 58) 0 dX11_queues_58 rfl rfl ?_
            refine r_iconst (pc := 59) dX11_queues_59 ?_
            refine r_callV (pc := 60) (As := [(.int (iI (((c : Nat) : Int)))), (.int (iI (3)))]) (S := [(.int (iI (((c : Nat) : Int)))), (.ref 190)]) dX11_queues_60 cv_X11_138 hM.k rfl (Nat.le_of_ble_eq_true rfl) (m_fact (c := c) (w := 3) (v := K (5 * c + 3)) l z _ hM (by omega) (by decide) (congrFun hKx _)) (Nat.zero_le _) (Nat.zero_le _) (fun r_60 g_60 f_60 q_60 => ?_)
            obtain ⟨rfl, rfl, rfl⟩ := q_60
            refine r_iastv (pc := 63) (i := c) dX11_queues_63 hM.a38 (by omega) (by decide) rfl ?_
            refine r_aload_n (pc := 64) 1 dX11_queues_64 rfl rfl ?_
            refine r_getR (pc := 65) (b := 191) dX11_queues_65 fl_X11_98 rfl hM.k hM.r39 ?_
            refine r_iload_n (pc := 68) 0 dX11_queues_68 rfl rfl ?_
            refine r_aload_n (pc := 69) 1 dX11_queues_69 rfl rfl ?_
            refine r_iload_n (pc := 70) 0 dX11_queues_70 rfl rfl ?_
            refine r_iconst (pc := 71) dX11_queues_71 ?_
            refine r_callV (pc := 72) (As := [(.int (iI (((c : Nat) : Int)))), (.int (iI (4)))]) (S := [(.int (iI (((c : Nat) : Int)))), (.ref 191)]) dX11_queues_72 cv_X11_138 hM.k rfl (Nat.le_of_ble_eq_true rfl) (m_fact (c := c) (w := 4) (v := K (5 * c + 4)) l z _ hM (by omega) (by decide) (rdn (by decide) (congrFun hKx _))) (Nat.zero_le _) (Nat.zero_le _) (fun r_72 g_72 f_72 q_72 => ?_)
            obtain ⟨rfl, rfl, rfl⟩ := q_72
            refine r_iastv (pc := 75) (i := c) dX11_queues_75 hM.a39 (by omega) (by decide) rfl ?_
            refine r_aload_n (pc := 76) 1 dX11_queues_76 rfl rfl ?_
            refine r_getR (pc := 77) (b := 194) dX11_queues_77 fl_X11_107 rfl hM.k hM.r42 ?_
            refine r_iload_n (pc := 80) 0 dX11_queues_80 rfl rfl ?_
            refine r_iconst (pc := 81) dX11_queues_81 ?_
            refine r_iastv (pc := 82) (i := c) dX11_queues_82 hM.a42 (by omega) (by decide) rfl ?_
            refine r_iincv (pc := 83) (y := ((c + 1 : Nat) : Int)) (L2 := [(3, (.int (iI (((c + 1 : Nat) : Int))))), (0, (.ref 164)), (1, (.int (iI (sd)))), (2, (.int (iI (m))))]) 0 dX11_queues_83 rfl (by omega) (by decide) rfl ?_
            refine r_goto (pc := 86) (tgt := 44) dX11_queues_86 (by decide) ?_
            refine r_sub (L2 := [(3, (.int (iI (((c + 1 : Nat) : Int))))), (0, (.ref 164)), (1, (.int (iI (sd)))), (2, (.int (iI (m))))]) [0, 1, 2, 3] rfl ?_
            exact ih_L1 (n - (c + 1)) (by omega) (c + 1) (by omega) (by omega) _ (fun q h1 h2 h3 => by rw [stF_n _ _ _ h3, stF_n _ _ _ h2, stF_n _ _ _ h1]; exact hF1 q h1 h2 h3) (fun q hq => by
              rcases Nat.lt_succ_iff_lt_or_eq.mp hq with h | h
              · have := hR1 q h
                exact ⟨rdn (by decide) (rdn (by decide) (rdi (by omega) this.1)), rdn (by decide) (rdi (by omega) (rdn (by decide) this.2.1)), rdi (by omega) (rdn (by decide) (rdn (by decide) this.2.2))⟩
              · subst h; exact ⟨rdn (by decide) (rdn (by decide) (stF_s _ _ _ _)), rdn (by decide) (stF_s _ _ _ _), stF_s _ _ _ _⟩)
      refine r_sub (L2 := [(3, (.int (iI (((0 : Nat) : Int))))), (0, (.ref 164)), (1, (.int (iI (sd)))), (2, (.int (iI (m))))]) [0, 1, 2, 3] rfl ?_
      exact L1 n 0 (by omega) (by omega) f_39 (fun _ _ _ _ => rfl) (fun q hq => absurd hq (by omega))
    · replace c_17 := b01_z c_17
      refine r_aload_n (pc := 20) 0 dX11_queues_20 rfl rfl ?_
      refine r_iconst (pc := 21) dX11_queues_21 ?_
      refine r_callV (pc := 22) (As := [(.int (iI (-1)))]) (S := []) dX11_queues_22 cv_X11_114 hM.k rfl (Nat.le_of_ble_eq_true rfl) (m_refuses l z _ hM (by omega)) (Nat.zero_le _) (Nat.zero_le _) (fun r_22 g_22 f_22 q_22 => ?_)
      obtain ⟨rfl, rfl, rfl⟩ := q_22
      exact r_iret (pc := 25) dX11_queues_25 rfl rfl ⟨rfl, Or.inl ⟨by omega, rfl, rfl⟩⟩

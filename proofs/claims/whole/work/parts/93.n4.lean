theorem nx_out2 {wt : Nat → Nat} {n s i : Nat} (h : (nxM wt n s).testBit i = true) : ¬ s.testBit i = true := by
  unfold nxM at h
  rw [wmk_bit] at h
  simp [nxP] at h
  simp [h]
theorem xb_l {s i : Nat} (h : s.testBit i = true) : xb s i < s := by
  have := or_gt (xb_n h)
  rw [xb_or h] at this
  exact this
theorem cW_full {wt : Nat → Nat} {n s : Nat} (hs : s < 2 ^ n) : (if s = 2 ^ n - 1 then 1 else 0) + sN n (fun i => if (fun s i => (nxM wt n s).testBit i) s i = true then cW (fun s i => (nxM wt n s).testBit i) n (s ||| 2 ^ i) else 0) = cW (fun s i => (nxM wt n s).testBit i) n s := by
  by_cases h : s = 2 ^ n - 1
  · rw [if_pos h, sN_0, h, cW_all]
    intro i hi
    rw [if_neg]
    intro q
    exact nx_out2 q (by rw [h]; exact all_bit hi)
  · rw [if_neg h, Nat.zero_add, cW_step (fun i hi => nx_out2 hi) (by omega)]
theorem aW_8 {may : Nat → Nat → Bool} {n s : Nat} (hn : n ≤ 8) : aW may n s ≤ 16777216 := Nat.le_trans (an_r hn _ s) (Nat.le_trans (Nat.pow_le_pow_right (by decide) (Nat.le_trans (bc_le s n) hn)) (by decide))
theorem cW_8 {al : Nat → Nat → Bool} {n s : Nat} (hn : n ≤ 8) : cW al n s ≤ 16777216 := Nat.le_trans (cn_r hn _ s) (Nat.le_trans (Nat.pow_le_pow_right (by decide) (show n - bc s n ≤ 8 by omega)) (by decide))

set_option maxRecDepth 100000 in
set_option maxHeartbeats 4000000 in
theorem m_counts0 (l : Launch) (z : Zv) (d : Nat) {g : Gm} {f : Fm} {n : Nat} {ov wa wt bk : Nat → Nat} (hM : ML g) (hD : MD f n ov wa wt bk) : PM l z (d + 2) mX11_counts0 [.ref 164] g f 0 0 (fun r g' f' => r = none ∧ g = g' ∧ (∀ q, q ≠ 180 → q ≠ 181 → f' q = f q) ∧ ∀ u, u < 2 ^ n → f' 180 u = ((aW (fun s i => (nxM wt n s).testBit i) n u : Nat) : Int) ∧ f' 181 u = ((cW (fun s i => (nxM wt n s).testBit i) n u : Nat) : Int)) := by
  have hn8 := hD.n8
  have hp8 := pow8 hn8
  refine PM.of (by decide +kernel) (Nat.le_of_ble_eq_true rfl) ?_
  have innerB : ∀ s, s < 2 ^ n → ∀ m i : Nat, m = n - i → i ≤ n → ∀ f1 : Fm, (∀ q, q ≠ 180 → q ≠ 181 → f1 q = f q) → (∀ u, u < 2 ^ n → f1 180 u = ((aW (fun s i => (nxM wt n s).testBit i) n u : Nat) : Int)) → (∀ u, s < u → u < 2 ^ n → f1 181 u = ((cW (fun s i => (nxM wt n s).testBit i) n u : Nat) : Int)) → f1 181 s = (((if s = 2 ^ n - 1 then 1 else 0) + sN i (fun i => if (fun s i => (nxM wt n s).testBit i) s i = true then cW (fun s i => (nxM wt n s).testBit i) n (s ||| 2 ^ i) else 0) : Nat) : Int) → (∀ f2 : Fm, (∀ q, q ≠ 180 → q ≠ 181 → f2 q = f q) → (∀ u, u < 2 ^ n → f2 180 u = ((aW (fun s i => (nxM wt n s).testBit i) n u : Nat) : Int)) → (∀ u, s ≤ u → u < 2 ^ n → f2 181 u = ((cW (fun s i => (nxM wt n s).testBit i) n u : Nat) : Int)) → PW l z (d + 2) mX11_counts0 0 0 (fun r g' f' => r = none ∧ g = g' ∧ (∀ q, q ≠ 180 → q ≠ 181 → f' q = f q) ∧ ∀ u, u < 2 ^ n → f' 180 u = ((aW (fun s i => (nxM wt n s).testBit i) n u : Nat) : Int) ∧ f' 181 u = ((cW (fun s i => (nxM wt n s).testBit i) n u : Nat) : Int)) 95 [(2, (.int (iI (((s : Nat) : Int) - 1)))), (1, (.int (iI (((2 ^ n - 1 : Nat) : Int))))), (0, (.ref 164))] [] g f2 0 0) → PW l z (d + 2) mX11_counts0 0 0 (fun r g' f' => r = none ∧ g = g' ∧ (∀ q, q ≠ 180 → q ≠ 181 → f' q = f q) ∧ ∀ u, u < 2 ^ n → f' 180 u = ((aW (fun s i => (nxM wt n s).testBit i) n u : Nat) : Int) ∧ f' 181 u = ((cW (fun s i => (nxM wt n s).testBit i) n u : Nat) : Int)) 117 [(3, (.int (iI (((i : Nat) : Int))))), (2, (.int (iI (((s : Nat) : Int))))), (1, (.int (iI (((2 ^ n - 1 : Nat) : Int))))), (0, (.ref 164))] [] g f1 0 0 := by
    intro s hs m
    induction m using Nat.strongRecOn with
    | _ m ih2 =>
      intro i hm hi f1 hF1 hA hB hcu hk
      have hD1 : MD f1 n ov wa wt bk := hD.mv (hF1 166 (by decide) (by decide)) (hF1 176 (by decide) (by decide)) (hF1 177 (by decide) (by decide)) (hF1 178 (by decide) (by decide))
      refine r_iload_n (pc := 117) 0 dX11_counts0_117 rfl rfl ?_
      refine r_aload_n (pc := 118) 3 dX11_counts0_118 rfl rfl ?_
      refine r_callV (pc := 119) (As := []) (S := [(.int (iI (((i : Nat) : Int))))]) dX11_counts0_119 cv_X11_121 hM.k rfl (Nat.le_of_ble_eq_true rfl) (m_cust (v := ((n : Nat) : Int)) l z _ hM hD1.n) (Nat.zero_le _) (Nat.zero_le _) (fun r_119 g_119 f_119 q_119 => ?_)
      obtain ⟨rfl, rfl, rfl⟩ := q_119
      refine r_icmp_ge (pc := 122) (tgt := 159) dX11_counts0_122 (by decide) (by omega) (by omega) (fun c_122 => ?_) (fun c_122 => ?_)
      · refine r_iincv (pc := 159) (y := ((s : Nat) : Int) - 1) (L2 := [(2, (.int (iI (((s : Nat) : Int) - 1)))), (3, (.int (iI (((i : Nat) : Int))))), (1, (.int (iI (((2 ^ n - 1 : Nat) : Int))))), (0, (.ref 164))]) 1 dX11_counts0_159 rfl (by omega) (by decide) rfl ?_
        refine r_goto (pc := 162) (tgt := 95) dX11_counts0_162 (by decide) ?_
        have hin : i = n := by omega
        rw [hin, cW_full hs] at hcu
        refine r_sub (L2 := [(2, (.int (iI (((s : Nat) : Int) - 1)))), (1, (.int (iI (((2 ^ n - 1 : Nat) : Int))))), (0, (.ref 164))]) [0, 2, 3] rfl ?_
        exact hk f1 hF1 hA (fun u hu1 hu2 => by rcases Nat.eq_or_lt_of_le hu1 with h | h; subst h; exact hcu; exact hB u h hu2)
      · refine r_aload_n (pc := 125) 3 dX11_counts0_125 rfl rfl ?_
        refine r_iload_n (pc := 126) 1 dX11_counts0_126 rfl rfl ?_
        refine r_iload_n (pc := 127) 0 dX11_counts0_127 rfl rfl ?_
        refine r_callV (pc := 128) (As := [(.int (iI (((s : Nat) : Int)))), (.int (iI (((i : Nat) : Int))))]) (S := []) dX11_counts0_128 cv_X11_305 hM.k rfl (Nat.le_of_ble_eq_true rfl) (m_mayNext (s := s) (c := i) l z _ hM hD1 (by omega) (by omega)) (Nat.zero_le _) (Nat.zero_le _) (fun r_128 g_128 f_128 q_128 => ?_)
        obtain ⟨rfl, rfl, rfl⟩ := q_128
        refine r_if_eq (pc := 131) (tgt := 153) dX11_counts0_131 (by decide) (b01_r) (fun c_131 => ?_) (fun c_131 => ?_)
        · replace c_131 := b01_z c_131
          refine r_iincv (pc := 153) (y := ((i + 1 : Nat) : Int)) (L2 := [(3, (.int (iI (((i + 1 : Nat) : Int))))), (2, (.int (iI (((s : Nat) : Int))))), (1, (.int (iI (((2 ^ n - 1 : Nat) : Int))))), (0, (.ref 164))]) 0 dX11_counts0_153 rfl (by omega) (by decide) rfl ?_
          refine r_goto (pc := 156) (tgt := 117) dX11_counts0_156 (by decide) ?_
          refine r_sub (L2 := [(3, (.int (iI (((i + 1 : Nat) : Int))))), (2, (.int (iI (((s : Nat) : Int))))), (1, (.int (iI (((2 ^ n - 1 : Nat) : Int))))), (0, (.ref 164))]) [0, 1, 2, 3] rfl ?_
          exact ih2 (n - (i + 1)) (by omega) (i + 1) (by omega) (by omega) f1 hF1 hA hB (by rw [sN_s, if_neg (fun q => c_131 ((nx_may (by omega)).mp q)), Nat.add_zero]; exact hcu) hk
        · replace c_131 := b01_nz c_131
          refine r_aload_n (pc := 134) 3 dX11_counts0_134 rfl rfl ?_
          refine r_getR (pc := 135) (b := 181) dX11_counts0_135 fl_X11_67 rfl hM.k hM.r29 ?_
          refine r_iload_n (pc := 138) 1 dX11_counts0_138 rfl rfl ?_
          refine r_dup2 (pc := 139) dX11_counts0_139 rfl rfl ?_
          refine r_ialdv (pc := 140) (w := (((if s = 2 ^ n - 1 then 1 else 0) + sN i (fun i => if (fun s i => (nxM wt n s).testBit i) s i = true then cW (fun s i => (nxM wt n s).testBit i) n (s ||| 2 ^ i) else 0) : Nat) : Int)) dX11_counts0_140 hM.a29 (by omega) (by decide) (hcu) ?_
          refine r_aload_n (pc := 141) 3 dX11_counts0_141 rfl rfl ?_
          refine r_getR (pc := 142) (b := 181) dX11_counts0_142 fl_X11_67 rfl hM.k hM.r29 ?_
          refine r_iload_n (pc := 145) 1 dX11_counts0_145 rfl rfl ?_
          refine r_iconst (pc := 146) dX11_counts0_146 ?_
          refine r_iload_n (pc := 147) 0 dX11_counts0_147 rfl rfl ?_
          refine r_ishl (pc := 148) (w := ((2 ^ i : Nat) : Int)) dX11_counts0_148  (iI_shl1 (by omega)) ?_
          refine r_ior (pc := 149) (w := ((s ||| (2 ^ i) : Nat) : Int)) dX11_counts0_149  (iI_or _ _) ?_
          refine r_ialdv (pc := 150) (w := ((cW (fun s i => (nxM wt n s).testBit i) n (s ||| 2 ^ i) : Nat) : Int)) dX11_counts0_150 hM.a29 (by have := or_lt (n := n) (s := s) (i := i) hs (by omega); omega) (by decide) (hB _ (or_gt c_131.1) (or_lt hs (by omega))) ?_
          refine r_iadd (pc := 151) dX11_counts0_151 ?_
          refine r_eqI (y := ((((if s = 2 ^ n - 1 then 1 else 0) + sN i (fun i => if (fun s i => (nxM wt n s).testBit i) s i = true then cW (fun s i => (nxM wt n s).testBit i) n (s ||| 2 ^ i) else 0)) + (cW (fun s i => (nxM wt n s).testBit i) n (s ||| 2 ^ i)) : Nat) : Int)) (Int.natCast_add _ _ |>.symm) ?_
          refine r_iastv (pc := 152) (i := s) dX11_counts0_152 hM.a29 (by omega) (by decide) rfl ?_
          refine r_iincv (pc := 153) (y := ((i + 1 : Nat) : Int)) (L2 := [(3, (.int (iI (((i + 1 : Nat) : Int))))), (2, (.int (iI (((s : Nat) : Int))))), (1, (.int (iI (((2 ^ n - 1 : Nat) : Int))))), (0, (.ref 164))]) 0 dX11_counts0_153 rfl (by omega) (by decide) rfl ?_
          refine r_goto (pc := 156) (tgt := 117) dX11_counts0_156 (by decide) ?_
          refine r_sub (L2 := [(3, (.int (iI (((i + 1 : Nat) : Int))))), (2, (.int (iI (((s : Nat) : Int))))), (1, (.int (iI (((2 ^ n - 1 : Nat) : Int))))), (0, (.ref 164))]) [0, 1, 2, 3] rfl ?_
          exact ih2 (n - (i + 1)) (by omega) (i + 1) (by omega) (by omega) _ (fun q h1 h2 => by rw [stF_n _ _ _ h2]; exact hF1 q h1 h2) (fun u hu => rdn (by decide) (hA u hu)) (fun u hu1 hu2 => rdi (by omega) (hB u hu1 hu2)) (by rw [sN_s, if_pos ((nx_may (by omega)).mpr c_131), ← Nat.add_assoc]; exact stF_s _ _ _ _) hk
  have outB : ∀ m k : Nat, m = k → k ≤ 2 ^ n → ∀ f1 : Fm, (∀ q, q ≠ 180 → q ≠ 181 → f1 q = f q) → (∀ u, u < 2 ^ n → f1 180 u = ((aW (fun s i => (nxM wt n s).testBit i) n u : Nat) : Int)) → (∀ u, k ≤ u → u < 2 ^ n → f1 181 u = ((cW (fun s i => (nxM wt n s).testBit i) n u : Nat) : Int)) → PW l z (d + 2) mX11_counts0 0 0 (fun r g' f' => r = none ∧ g = g' ∧ (∀ q, q ≠ 180 → q ≠ 181 → f' q = f q) ∧ ∀ u, u < 2 ^ n → f' 180 u = ((aW (fun s i => (nxM wt n s).testBit i) n u : Nat) : Int) ∧ f' 181 u = ((cW (fun s i => (nxM wt n s).testBit i) n u : Nat) : Int)) 95 [(2, (.int (iI (((k : Nat) : Int) - 1)))), (1, (.int (iI (((2 ^ n - 1 : Nat) : Int))))), (0, (.ref 164))] [] g f1 0 0 := by
    intro m
    induction m using Nat.strongRecOn with
    | _ m ih =>
      intro k hm hk f1 hF1 hA hB
      have hD1 : MD f1 n ov wa wt bk := hD.mv (hF1 166 (by decide) (by decide)) (hF1 176 (by decide) (by decide)) (hF1 177 (by decide) (by decide)) (hF1 178 (by decide) (by decide))
      refine r_iload_n (pc := 95) 0 dX11_counts0_95 rfl rfl ?_
      refine r_if_lt (pc := 96) (tgt := 165) dX11_counts0_96 (by decide) (by omega) (fun c_96 => ?_) (fun c_96 => ?_)
      · exact r_vret (pc := 165) dX11_counts0_165 rfl ⟨rfl, rfl, hF1, fun u hu => ⟨hA u hu, hB u (by omega) hu⟩⟩
      · obtain ⟨s, rfl⟩ : ∃ s, k = s + 1 := ⟨k - 1, by omega⟩
        have hs : s < 2 ^ n := by omega
        refine r_sub (L2 := [(2, (.int (iI (((s : Nat) : Int))))), (1, (.int (iI (((2 ^ n - 1 : Nat) : Int))))), (0, (.ref 164))]) [0, 1, 2] (by rw [show ((s : Nat) : Int) = ((s + 1 : Nat) : Int) - 1 by omega]; rfl) ?_
        refine r_aload_n (pc := 99) 2 dX11_counts0_99 rfl rfl ?_
        refine r_getR (pc := 100) (b := 181) dX11_counts0_100 fl_X11_67 rfl hM.k hM.r29 ?_
        refine r_iload_n (pc := 103) 0 dX11_counts0_103 rfl rfl ?_
        refine r_iload_n (pc := 104) 0 dX11_counts0_104 rfl rfl ?_
        refine r_iload_n (pc := 105) 1 dX11_counts0_105 rfl rfl ?_
        refine r_icmp_ne (pc := 106) (tgt := 113) dX11_counts0_106 (by decide) (by omega) (by omega) (fun c_106 => ?_) (fun c_106 => ?_)
        · refine r_iconst (pc := 113) dX11_counts0_113 ?_
          refine r_iastv (pc := 114) (i := s) dX11_counts0_114 hM.a29 (by omega) (by decide) rfl ?_
          refine r_iconst (pc := 115) dX11_counts0_115 ?_
          refine r_istore_n (pc := 116) (L2 := [(3, (.int (iI (0)))), (2, (.int (iI (((s : Nat) : Int))))), (1, (.int (iI (((2 ^ n - 1 : Nat) : Int))))), (0, (.ref 164))]) dX11_counts0_116 rfl (by decide) rfl ?_
          refine r_sub (L2 := [(3, (.int (iI (((0 : Nat) : Int))))), (2, (.int (iI (((s : Nat) : Int))))), (1, (.int (iI (((2 ^ n - 1 : Nat) : Int))))), (0, (.ref 164))]) [0, 1, 2, 3] rfl ?_
          refine innerB s hs n 0 (by omega) (by omega) _ (fun q h1 h2 => by rw [stF_n _ _ _ h2]; exact hF1 q h1 h2) (fun u hu => rdn (by decide) (hA u hu)) (fun u hu1 hu2 => rdi (by omega) (hB u (by omega) hu2)) ?_ (fun f2 k1 k2 k3 => ih s (by omega) s rfl (by omega) f2 k1 k2 k3)
          rw [if_neg (by omega)]; exact stF_s _ _ _ _
        · refine r_iconst (pc := 109) dX11_counts0_109 ?_
          refine r_goto (pc := 110) (tgt := 114) dX11_counts0_110 (by decide) ?_
          refine r_iastv (pc := 114) (i := s) dX11_counts0_114 hM.a29 (by omega) (by decide) rfl ?_
          refine r_iconst (pc := 115) dX11_counts0_115 ?_
          refine r_istore_n (pc := 116) (L2 := [(3, (.int (iI (0)))), (2, (.int (iI (((s : Nat) : Int))))), (1, (.int (iI (((2 ^ n - 1 : Nat) : Int))))), (0, (.ref 164))]) dX11_counts0_116 rfl (by decide) rfl ?_
          refine r_sub (L2 := [(3, (.int (iI (((0 : Nat) : Int))))), (2, (.int (iI (((s : Nat) : Int))))), (1, (.int (iI (((2 ^ n - 1 : Nat) : Int))))), (0, (.ref 164))]) [0, 1, 2, 3] rfl ?_
          refine innerB s hs n 0 (by omega) (by omega) _ (fun q h1 h2 => by rw [stF_n _ _ _ h2]; exact hF1 q h1 h2) (fun u hu => rdn (by decide) (hA u hu)) (fun u hu1 hu2 => rdi (by omega) (hB u (by omega) hu2)) ?_ (fun f2 k1 k2 k3 => ih s (by omega) s rfl (by omega) f2 k1 k2 k3)
          rw [if_pos (by omega)]; exact stF_s _ _ _ _
  have innerA : ∀ s, s < 2 ^ n → ∀ m i : Nat, m = n - i → i ≤ n → ∀ f1 : Fm, (∀ q, q ≠ 180 → q ≠ 181 → f1 q = f q) → (∀ u, u < s → f1 180 u = ((aW (fun s i => (nxM wt n s).testBit i) n u : Nat) : Int)) → f1 180 s = (((if s = 0 then 1 else 0) + sN i (anT (fun s i => (nxM wt n s).testBit i) (aW (fun s i => (nxM wt n s).testBit i) n) s) : Nat) : Int) → (∀ f2 : Fm, (∀ q, q ≠ 180 → q ≠ 181 → f2 q = f q) → (∀ u, u < s + 1 → f2 180 u = ((aW (fun s i => (nxM wt n s).testBit i) n u : Nat) : Int)) → PW l z (d + 2) mX11_counts0 0 0 (fun r g' f' => r = none ∧ g = g' ∧ (∀ q, q ≠ 180 → q ≠ 181 → f' q = f q) ∧ ∀ u, u < 2 ^ n → f' 180 u = ((aW (fun s i => (nxM wt n s).testBit i) n u : Nat) : Int) ∧ f' 181 u = ((cW (fun s i => (nxM wt n s).testBit i) n u : Nat) : Int)) 7 [(2, (.int (iI (((s + 1 : Nat) : Int))))), (1, (.int (iI (((2 ^ n - 1 : Nat) : Int))))), (0, (.ref 164))] [] g f2 0 0) → PW l z (d + 2) mX11_counts0 0 0 (fun r g' f' => r = none ∧ g = g' ∧ (∀ q, q ≠ 180 → q ≠ 181 → f' q = f q) ∧ ∀ u, u < 2 ^ n → f' 180 u = ((aW (fun s i => (nxM wt n s).testBit i) n u : Nat) : Int) ∧ f' 181 u = ((cW (fun s i => (nxM wt n s).testBit i) n u : Nat) : Int)) 29 [(3, (.int (iI (((i : Nat) : Int))))), (2, (.int (iI (((s : Nat) : Int))))), (1, (.int (iI (((2 ^ n - 1 : Nat) : Int))))), (0, (.ref 164))] [] g f1 0 0 := by
    intro s hs m
    induction m using Nat.strongRecOn with
    | _ m ih2 =>
      intro i hm hi f1 hF1 hA hcu hk
      have hD1 : MD f1 n ov wa wt bk := hD.mv (hF1 166 (by decide) (by decide)) (hF1 176 (by decide) (by decide)) (hF1 177 (by decide) (by decide)) (hF1 178 (by decide) (by decide))
      refine r_iload_n (pc := 29) 0 dX11_counts0_29 rfl rfl ?_
      refine r_aload_n (pc := 30) 3 dX11_counts0_30 rfl rfl ?_
      refine r_callV (pc := 31) (As := []) (S := [(.int (iI (((i : Nat) : Int))))]) dX11_counts0_31 cv_X11_121 hM.k rfl (Nat.le_of_ble_eq_true rfl) (m_cust (v := ((n : Nat) : Int)) l z _ hM hD1.n) (Nat.zero_le _) (Nat.zero_le _) (fun r_31 g_31 f_31 q_31 => ?_)
      obtain ⟨rfl, rfl, rfl⟩ := q_31
      refine r_icmp_ge (pc := 34) (tgt := 87) dX11_counts0_34 (by decide) (by omega) (by omega) (fun c_34 => ?_) (fun c_34 => ?_)
      · refine r_iincv (pc := 87) (y := ((s + 1 : Nat) : Int)) (L2 := [(2, (.int (iI (((s + 1 : Nat) : Int))))), (3, (.int (iI (((i : Nat) : Int))))), (1, (.int (iI (((2 ^ n - 1 : Nat) : Int))))), (0, (.ref 164))]) 1 dX11_counts0_87 rfl (by omega) (by decide) rfl ?_
        refine r_goto (pc := 90) (tgt := 7) dX11_counts0_90 (by decide) ?_
        have hin : i = n := by omega
        rw [hin, ← aW_rec _ hs] at hcu
        refine r_sub (L2 := [(2, (.int (iI (((s + 1 : Nat) : Int))))), (1, (.int (iI (((2 ^ n - 1 : Nat) : Int))))), (0, (.ref 164))]) [0, 2, 3] rfl ?_
        exact hk f1 hF1 (fun u hu => by rcases Nat.lt_succ_iff_lt_or_eq.mp hu with h | h; exact hA u h; subst h; exact hcu)
      · refine r_iload_n (pc := 37) 1 dX11_counts0_37 rfl rfl ?_
        refine r_iload_n (pc := 38) 0 dX11_counts0_38 rfl rfl ?_
        refine r_callS (pc := 39) (As := [(.int (iI (((s : Nat) : Int)))), (.int (iI (((i : Nat) : Int))))]) (S := []) dX11_counts0_39 cs_X11_287 rfl (Nat.le_of_ble_eq_true rfl) (m_isIn (s := s) (c := i) l z _ (by omega) (by omega)) (Nat.zero_le _) (Nat.zero_le _) (fun r_39 g_39 f_39 q_39 => ?_)
        obtain ⟨rfl, rfl, rfl⟩ := q_39
        refine r_if_eq (pc := 42) (tgt := 81) dX11_counts0_42 (by decide) (b01_r) (fun c_42 => ?_) (fun c_42 => ?_)
        · replace c_42 := b01_z c_42
          refine r_iincv (pc := 81) (y := ((i + 1 : Nat) : Int)) (L2 := [(3, (.int (iI (((i + 1 : Nat) : Int))))), (2, (.int (iI (((s : Nat) : Int))))), (1, (.int (iI (((2 ^ n - 1 : Nat) : Int))))), (0, (.ref 164))]) 0 dX11_counts0_81 rfl (by omega) (by decide) rfl ?_
          refine r_goto (pc := 84) (tgt := 29) dX11_counts0_84 (by decide) ?_
          refine r_sub (L2 := [(3, (.int (iI (((i + 1 : Nat) : Int))))), (2, (.int (iI (((s : Nat) : Int))))), (1, (.int (iI (((2 ^ n - 1 : Nat) : Int))))), (0, (.ref 164))]) [0, 1, 2, 3] rfl ?_
          exact ih2 (n - (i + 1)) (by omega) (i + 1) (by omega) (by omega) f1 hF1 hA (by rw [sN_s, show (anT (fun s i => (nxM wt n s).testBit i) (aW (fun s i => (nxM wt n s).testBit i) n) s) i = 0 from if_neg (fun q => c_42 q.1), Nat.add_zero]; exact hcu) hk
        · replace c_42 := b01_nz c_42
          refine r_aload_n (pc := 45) 3 dX11_counts0_45 rfl rfl ?_
          refine r_iload_n (pc := 46) 1 dX11_counts0_46 rfl rfl ?_
          refine r_iconst (pc := 47) dX11_counts0_47 ?_
          refine r_iload_n (pc := 48) 0 dX11_counts0_48 rfl rfl ?_
          refine r_ishl (pc := 49) (w := ((2 ^ i : Nat) : Int)) dX11_counts0_49  (iI_shl1 (by omega)) ?_
          refine r_iconst (pc := 50) dX11_counts0_50 ?_
          refine r_ixor (pc := 51) (w := -(((2 ^ i : Nat) : Int)) - 1) dX11_counts0_51  (iI_not _) ?_
          refine r_iand (pc := 52) (w := ((ndf s (2 ^ i) : Nat) : Int)) dX11_counts0_52  (iI_andn _ _) ?_
          refine r_iload_n (pc := 53) 0 dX11_counts0_53 rfl rfl ?_
          refine r_callV (pc := 54) (As := [(.int (iI (((ndf s (2 ^ i) : Nat) : Int)))), (.int (iI (((i : Nat) : Int))))]) (S := []) dX11_counts0_54 cv_X11_305 hM.k rfl (Nat.le_of_ble_eq_true rfl) (m_mayNext (s := ndf s (2 ^ i)) (c := i) l z _ hM hD1 (by have := ndf_le s (2 ^ i); omega) (by omega)) (Nat.zero_le _) (Nat.zero_le _) (fun r_54 g_54 f_54 q_54 => ?_)
          obtain ⟨rfl, rfl, rfl⟩ := q_54
          refine r_if_eq (pc := 57) (tgt := 81) dX11_counts0_57 (by decide) (b01_r) (fun c_57 => ?_) (fun c_57 => ?_)
          · replace c_57 := b01_z c_57
            refine r_iincv (pc := 81) (y := ((i + 1 : Nat) : Int)) (L2 := [(3, (.int (iI (((i + 1 : Nat) : Int))))), (2, (.int (iI (((s : Nat) : Int))))), (1, (.int (iI (((2 ^ n - 1 : Nat) : Int))))), (0, (.ref 164))]) 0 dX11_counts0_81 rfl (by omega) (by decide) rfl ?_
            refine r_goto (pc := 84) (tgt := 29) dX11_counts0_84 (by decide) ?_
            refine r_sub (L2 := [(3, (.int (iI (((i + 1 : Nat) : Int))))), (2, (.int (iI (((s : Nat) : Int))))), (1, (.int (iI (((2 ^ n - 1 : Nat) : Int))))), (0, (.ref 164))]) [0, 1, 2, 3] rfl ?_
            exact ih2 (n - (i + 1)) (by omega) (i + 1) (by omega) (by omega) f1 hF1 hA (by rw [sN_s, show (anT (fun s i => (nxM wt n s).testBit i) (aW (fun s i => (nxM wt n s).testBit i) n) s) i = 0 from if_neg (fun q => by rw [xb_ndf q.1] at c_57; exact c_57 ((nx_may (by omega)).mp q.2)), Nat.add_zero]; exact hcu) hk
          · replace c_57 := b01_nz c_57
            refine r_aload_n (pc := 60) 3 dX11_counts0_60 rfl rfl ?_
            refine r_getR (pc := 61) (b := 180) dX11_counts0_61 fl_X11_64 rfl hM.k hM.r28 ?_
            refine r_iload_n (pc := 64) 1 dX11_counts0_64 rfl rfl ?_
            refine r_dup2 (pc := 65) dX11_counts0_65 rfl rfl ?_
            refine r_ialdv (pc := 66) (w := (((if s = 0 then 1 else 0) + sN i (anT (fun s i => (nxM wt n s).testBit i) (aW (fun s i => (nxM wt n s).testBit i) n) s) : Nat) : Int)) dX11_counts0_66 hM.a28 (by omega) (by decide) (hcu) ?_
            refine r_aload_n (pc := 67) 3 dX11_counts0_67 rfl rfl ?_
            refine r_getR (pc := 68) (b := 180) dX11_counts0_68 fl_X11_64 rfl hM.k hM.r28 ?_
            refine r_iload_n (pc := 71) 1 dX11_counts0_71 rfl rfl ?_
            refine r_iconst (pc := 72) dX11_counts0_72 ?_
            refine r_iload_n (pc := 73) 0 dX11_counts0_73 rfl rfl ?_
            refine r_ishl (pc := 74) (w := ((2 ^ i : Nat) : Int)) dX11_counts0_74  (iI_shl1 (by omega)) ?_
            refine r_iconst (pc := 75) dX11_counts0_75 ?_
            refine r_ixor (pc := 76) (w := -(((2 ^ i : Nat) : Int)) - 1) dX11_counts0_76  (iI_not _) ?_
            refine r_iand (pc := 77) (w := ((ndf s (2 ^ i) : Nat) : Int)) dX11_counts0_77  (iI_andn _ _) ?_
            refine r_ialdv (pc := 78) (w := ((aW (fun s i => (nxM wt n s).testBit i) n (xb s i) : Nat) : Int)) dX11_counts0_78 hM.a28 (by have := ndf_le s (2 ^ i); omega) (by decide) (by rw [xb_ndf c_42]; exact hA _ (xb_l c_42)) ?_
            refine r_iadd (pc := 79) dX11_counts0_79 ?_
            refine r_eqI (y := ((((if s = 0 then 1 else 0) + sN i (anT (fun s i => (nxM wt n s).testBit i) (aW (fun s i => (nxM wt n s).testBit i) n) s)) + (aW (fun s i => (nxM wt n s).testBit i) n (xb s i)) : Nat) : Int)) (Int.natCast_add _ _ |>.symm) ?_
            refine r_iastv (pc := 80) (i := s) dX11_counts0_80 hM.a28 (by omega) (by decide) rfl ?_
            refine r_iincv (pc := 81) (y := ((i + 1 : Nat) : Int)) (L2 := [(3, (.int (iI (((i + 1 : Nat) : Int))))), (2, (.int (iI (((s : Nat) : Int))))), (1, (.int (iI (((2 ^ n - 1 : Nat) : Int))))), (0, (.ref 164))]) 0 dX11_counts0_81 rfl (by omega) (by decide) rfl ?_
            refine r_goto (pc := 84) (tgt := 29) dX11_counts0_84 (by decide) ?_
            refine r_sub (L2 := [(3, (.int (iI (((i + 1 : Nat) : Int))))), (2, (.int (iI (((s : Nat) : Int))))), (1, (.int (iI (((2 ^ n - 1 : Nat) : Int))))), (0, (.ref 164))]) [0, 1, 2, 3] rfl ?_
            exact ih2 (n - (i + 1)) (by omega) (i + 1) (by omega) (by omega) _ (fun q h1 h2 => by rw [stF_n _ _ _ h1]; exact hF1 q h1 h2) (fun u hu => rdi (by omega) (hA u hu)) (by rw [sN_s, show (anT (fun s i => (nxM wt n s).testBit i) (aW (fun s i => (nxM wt n s).testBit i) n) s) i = aW (fun s i => (nxM wt n s).testBit i) n (xb s i) from if_pos ⟨c_42, by rw [xb_ndf c_42] at c_57; exact (nx_may (by omega)).mpr c_57⟩, ← Nat.add_assoc]; exact stF_s _ _ _ _) hk
  have outA : ∀ m s : Nat, m = 2 ^ n - s → s ≤ 2 ^ n → ∀ f1 : Fm, (∀ q, q ≠ 180 → q ≠ 181 → f1 q = f q) → (∀ u, u < s → f1 180 u = ((aW (fun s i => (nxM wt n s).testBit i) n u : Nat) : Int)) → PW l z (d + 2) mX11_counts0 0 0 (fun r g' f' => r = none ∧ g = g' ∧ (∀ q, q ≠ 180 → q ≠ 181 → f' q = f q) ∧ ∀ u, u < 2 ^ n → f' 180 u = ((aW (fun s i => (nxM wt n s).testBit i) n u : Nat) : Int) ∧ f' 181 u = ((cW (fun s i => (nxM wt n s).testBit i) n u : Nat) : Int)) 7 [(2, (.int (iI (((s : Nat) : Int))))), (1, (.int (iI (((2 ^ n - 1 : Nat) : Int))))), (0, (.ref 164))] [] g f1 0 0 := by
    intro m
    induction m using Nat.strongRecOn with
    | _ m ih =>
      intro s hm hs0 f1 hF1 hA
      have hD1 : MD f1 n ov wa wt bk := hD.mv (hF1 166 (by decide) (by decide)) (hF1 176 (by decide) (by decide)) (hF1 177 (by decide) (by decide)) (hF1 178 (by decide) (by decide))
      refine r_iload_n (pc := 7) 0 dX11_counts0_7 rfl rfl ?_
      refine r_iload_n (pc := 8) 1 dX11_counts0_8 rfl rfl ?_
      refine r_icmp_gt (pc := 9) (tgt := 93) dX11_counts0_9 (by decide) (by omega) (by omega) (fun c_9 => ?_) (fun c_9 => ?_)
      · refine r_iload_n (pc := 93) 1 dX11_counts0_93 rfl rfl ?_
        refine r_istore_n (pc := 94) (L2 := [(2, (.int (iI (((2 ^ n - 1 : Nat) : Int))))), (1, (.int (iI (((2 ^ n - 1 : Nat) : Int))))), (0, (.ref 164))]) dX11_counts0_94 rfl (by decide) rfl ?_
        have hsn : s = 2 ^ n := by omega
        refine r_sub (L2 := [(2, (.int (iI (((2 ^ n : Nat) : Int) - 1)))), (1, (.int (iI (((2 ^ n - 1 : Nat) : Int))))), (0, (.ref 164))]) [0, 1, 2] (by rw [show ((2 ^ n : Nat) : Int) - 1 = ((2 ^ n - 1 : Nat) : Int) by omega]; rfl) ?_
        exact outB (2 ^ n) (2 ^ n) rfl (by omega) f1 hF1 (fun u hu => hA u (by omega)) (fun u hu1 hu2 => absurd hu1 (by omega))
      · have hs : s < 2 ^ n := by omega
        refine r_aload_n (pc := 12) 2 dX11_counts0_12 rfl rfl ?_
        refine r_getR (pc := 13) (b := 180) dX11_counts0_13 fl_X11_64 rfl hM.k hM.r28 ?_
        refine r_iload_n (pc := 16) 0 dX11_counts0_16 rfl rfl ?_
        refine r_iload_n (pc := 17) 0 dX11_counts0_17 rfl rfl ?_
        refine r_if_ne (pc := 18) (tgt := 25) dX11_counts0_18 (by decide) (by omega) (fun c_18 => ?_) (fun c_18 => ?_)
        · refine r_iconst (pc := 25) dX11_counts0_25 ?_
          refine r_iastv (pc := 26) (i := s) dX11_counts0_26 hM.a28 (by omega) (by decide) rfl ?_
          refine r_iconst (pc := 27) dX11_counts0_27 ?_
          refine r_istore_n (pc := 28) (L2 := [(3, (.int (iI (0)))), (2, (.int (iI (((s : Nat) : Int))))), (1, (.int (iI (((2 ^ n - 1 : Nat) : Int))))), (0, (.ref 164))]) dX11_counts0_28 rfl (by decide) rfl ?_
          refine r_sub (L2 := [(3, (.int (iI (((0 : Nat) : Int))))), (2, (.int (iI (((s : Nat) : Int))))), (1, (.int (iI (((2 ^ n - 1 : Nat) : Int))))), (0, (.ref 164))]) [0, 1, 2, 3] rfl ?_
          refine innerA s hs n 0 (by omega) (by omega) _ (fun q h1 h2 => by rw [stF_n _ _ _ h1]; exact hF1 q h1 h2) (fun u hu => rdi (by omega) (hA u hu)) ?_ (fun f2 k1 k2 => ih (2 ^ n - (s + 1)) (by omega) (s + 1) (by omega) (by omega) f2 k1 k2)
          rw [if_neg (by omega)]; exact stF_s _ _ _ _
        · refine r_iconst (pc := 21) dX11_counts0_21 ?_
          refine r_goto (pc := 22) (tgt := 26) dX11_counts0_22 (by decide) ?_
          refine r_iastv (pc := 26) (i := s) dX11_counts0_26 hM.a28 (by omega) (by decide) rfl ?_
          refine r_iconst (pc := 27) dX11_counts0_27 ?_
          refine r_istore_n (pc := 28) (L2 := [(3, (.int (iI (0)))), (2, (.int (iI (((s : Nat) : Int))))), (1, (.int (iI (((2 ^ n - 1 : Nat) : Int))))), (0, (.ref 164))]) dX11_counts0_28 rfl (by decide) rfl ?_
          refine r_sub (L2 := [(3, (.int (iI (((0 : Nat) : Int))))), (2, (.int (iI (((s : Nat) : Int))))), (1, (.int (iI (((2 ^ n - 1 : Nat) : Int))))), (0, (.ref 164))]) [0, 1, 2, 3] rfl ?_
          refine innerA s hs n 0 (by omega) (by omega) _ (fun q h1 h2 => by rw [stF_n _ _ _ h1]; exact hF1 q h1 h2) (fun u hu => rdi (by omega) (hA u hu)) ?_ (fun f2 k1 k2 => ih (2 ^ n - (s + 1)) (by omega) (s + 1) (by omega) (by omega) f2 k1 k2)
          rw [if_pos (by omega)]; exact stF_s _ _ _ _
  refine r_aload_n (pc := 0) 0 dX11_counts0_0 rfl rfl ?_
  refine r_callV (pc := 1) (As := []) (S := []) dX11_counts0_1 cv_X11_302 hM.k rfl (Nat.le_of_ble_eq_true rfl) (m_everyone (n := n) l z _ hM (hD.n) hn8) (Nat.zero_le _) (Nat.zero_le _) (fun r_1 g_1 f_1 q_1 => ?_)
  obtain ⟨rfl, rfl, rfl⟩ := q_1
  refine r_eqI (y := ((2 ^ n - 1 : Nat) : Int)) (by omega) ?_
  refine r_istore_n (pc := 4) (L2 := [(1, (.int (iI (((2 ^ n - 1 : Nat) : Int))))), (0, (.ref 164))]) dX11_counts0_4 rfl (by decide) rfl ?_
  refine r_iconst (pc := 5) dX11_counts0_5 ?_
  refine r_istore_n (pc := 6) (L2 := [(2, (.int (iI (0)))), (1, (.int (iI (((2 ^ n - 1 : Nat) : Int))))), (0, (.ref 164))]) dX11_counts0_6 rfl (by decide) rfl ?_
  refine r_sub (L2 := [(2, (.int (iI (((0 : Nat) : Int))))), (1, (.int (iI (((2 ^ n - 1 : Nat) : Int))))), (0, (.ref 164))]) [0, 1, 2] rfl ?_
  exact outA (2 ^ n) 0 (by omega) (by omega) f (fun _ _ _ => rfl) (fun u hu => absurd hu (by omega))

set_option maxRecDepth 100000 in
set_option maxHeartbeats 4000000 in
theorem m_chanceOf0 (l : Launch) (z : Zv) (d : Nat) {g : Gm} {f : Fm} {n : Nat} {ov wa wt bk : Nat → Nat} (hM : ML g) (hD : MD f n ov wa wt bk) {dz lp many : Int} {c : Nat} (hdz : f 166 40 = dz) (hlp : f 166 41 = lp) (h0 : 2 ≤ dz ∧ dz ≤ 20) (h1 : 0 ≤ lp ∧ lp ≤ 9) (hc : c < n) (hmany : -1 ≤ many ∧ many ≤ 100) : PM l z (d + 3) mX11_chanceOf [.ref 164, .int (iI ((c : Nat) : Int)), .int (iI many)] g f 0 0 (fun r g' f' => r = some (.int (iI ((sN (2 ^ n) (fun s => if (fun s i => (nxM wt n s).testBit i) s c = true ∧ geV dz lp n ov wa bk s c = many then aW (fun s i => (nxM wt n s).testBit i) n s * cW (fun s i => (nxM wt n s).testBit i) n (s ||| 2 ^ c) else 0) : Nat) : Int))) ∧ g = g' ∧ ∀ q, q ≠ 180 → q ≠ 181 → f' q = f q) := by
  have hn8 := hD.n8
  have hp8 := pow8 hn8
  refine PM.of (by decide +kernel) (Nat.le_of_ble_eq_true rfl) ?_
  refine r_aload_n (pc := 0) 0 dX11_chanceOf_0 rfl rfl ?_
  refine r_callV (pc := 1) (As := []) (S := []) dX11_chanceOf_1 cv_X11_308 hM.k rfl (Nat.le_of_ble_eq_true rfl) (m_counts0 l z _ hM hD) (Nat.zero_le _) (Nat.zero_le _) (fun r_1 g_1 f_1 q_1 => ?_)
  obtain ⟨rfl, rfl, hct1, hct2⟩ := q_1
  refine r_iconst (pc := 4) dX11_chanceOf_4 ?_
  refine r_istore_n (pc := 5) (L2 := [(3, (.int (iI (0)))), (0, (.ref 164)), (1, (.int (iI (((c : Nat) : Int))))), (2, (.int (iI (many))))]) dX11_chanceOf_5 rfl (by decide) rfl ?_
  refine r_iconst (pc := 6) dX11_chanceOf_6 ?_
  refine r_istore (pc := 7) (L2 := [(4, (.int (iI (0)))), (3, (.int (iI (0)))), (0, (.ref 164)), (1, (.int (iI (((c : Nat) : Int))))), (2, (.int (iI (many))))]) dX11_chanceOf_7 (by decide) rfl ?_
  have hD1 := hD.mv (hct1 166 (by decide) (by decide)) (hct1 176 (by decide) (by decide)) (hct1 177 (by decide) (by decide)) (hct1 178 (by decide) (by decide))
  have loop : ∀ m s : Nat, m = 2 ^ n - s → s ≤ 2 ^ n → PW l z (d + 3) mX11_chanceOf 0 0 (fun r g' f' => r = some (.int (iI ((sN (2 ^ n) (fun s => if (fun s i => (nxM wt n s).testBit i) s c = true ∧ geV dz lp n ov wa bk s c = many then aW (fun s i => (nxM wt n s).testBit i) n s * cW (fun s i => (nxM wt n s).testBit i) n (s ||| 2 ^ c) else 0) : Nat) : Int))) ∧ g = g' ∧ ∀ q, q ≠ 180 → q ≠ 181 → f' q = f q) 9 [(4, (.int (iI (((s : Nat) : Int))))), (3, (.int (iI (((sN s (fun s => if (fun s i => (nxM wt n s).testBit i) s c = true ∧ geV dz lp n ov wa bk s c = many then aW (fun s i => (nxM wt n s).testBit i) n s * cW (fun s i => (nxM wt n s).testBit i) n (s ||| 2 ^ c) else 0) : Nat) : Int))))), (0, (.ref 164)), (1, (.int (iI (((c : Nat) : Int))))), (2, (.int (iI (many))))] [] g f_1 0 0 := by
    intro m
    induction m using Nat.strongRecOn with
    | _ m ih =>
      intro s hm hs0
      refine r_iload (pc := 9) 0 dX11_chanceOf_9 rfl ?_
      refine r_aload_n (pc := 11) 2 dX11_chanceOf_11 rfl rfl ?_
      refine r_callV (pc := 12) (As := []) (S := [(.int (iI (((s : Nat) : Int))))]) dX11_chanceOf_12 cv_X11_302 hM.k rfl (Nat.le_of_ble_eq_true rfl) (m_everyone (n := n) l z _ hM hD1.n hn8) (Nat.zero_le _) (Nat.zero_le _) (fun r_12 g_12 f_12 q_12 => ?_)
      obtain ⟨rfl, rfl, rfl⟩ := q_12
      refine r_eqI (y := ((2 ^ n - 1 : Nat) : Int)) (by omega) ?_
      refine r_icmp_gt (pc := 15) (tgt := 67) dX11_chanceOf_15 (by decide) (by omega) (by omega) (fun c_15 => ?_) (fun c_15 => ?_)
      · refine r_iload_n (pc := 67) 1 dX11_chanceOf_67 rfl rfl ?_
        have hsn : s = 2 ^ n := by omega
        exact r_iret (pc := 68) dX11_chanceOf_68 rfl rfl ⟨by rw [hsn], rfl, hct1⟩
      · have hs : s < 2 ^ n := by omega
        refine r_aload_n (pc := 18) 2 dX11_chanceOf_18 rfl rfl ?_
        refine r_iload (pc := 19) 0 dX11_chanceOf_19 rfl ?_
        refine r_iload_n (pc := 21) 3 dX11_chanceOf_21 rfl rfl ?_
        refine r_callV (pc := 22) (As := [(.int (iI (((s : Nat) : Int)))), (.int (iI (((c : Nat) : Int))))]) (S := []) dX11_chanceOf_22 cv_X11_305 hM.k rfl (Nat.le_of_ble_eq_true rfl) (m_mayNext (s := s) (c := c) l z _ hM hD1 (by omega) hc) (Nat.zero_le _) (Nat.zero_le _) (fun r_22 g_22 f_22 q_22 => ?_)
        obtain ⟨rfl, rfl, rfl⟩ := q_22
        refine r_if_eq (pc := 25) (tgt := 61) dX11_chanceOf_25 (by decide) (b01_r) (fun c_25 => ?_) (fun c_25 => ?_)
        · replace c_25 := b01_z c_25
          refine r_iincv (pc := 61) (y := ((s + 1 : Nat) : Int)) (L2 := [(4, (.int (iI (((s + 1 : Nat) : Int))))), (3, (.int (iI (((sN s (fun s => if (fun s i => (nxM wt n s).testBit i) s c = true ∧ geV dz lp n ov wa bk s c = many then aW (fun s i => (nxM wt n s).testBit i) n s * cW (fun s i => (nxM wt n s).testBit i) n (s ||| 2 ^ c) else 0) : Nat) : Int))))), (0, (.ref 164)), (1, (.int (iI (((c : Nat) : Int))))), (2, (.int (iI (many))))]) 0 dX11_chanceOf_61 rfl (by omega) (by decide) rfl ?_
          refine r_goto (pc := 64) (tgt := 9) dX11_chanceOf_64 (by decide) ?_
          refine r_sub (L2 := [(4, (.int (iI (((s + 1 : Nat) : Int))))), (3, (.int (iI (((sN (s + 1) (fun s => if (fun s i => (nxM wt n s).testBit i) s c = true ∧ geV dz lp n ov wa bk s c = many then aW (fun s i => (nxM wt n s).testBit i) n s * cW (fun s i => (nxM wt n s).testBit i) n (s ||| 2 ^ c) else 0) : Nat) : Int))))), (0, (.ref 164)), (1, (.int (iI (((c : Nat) : Int))))), (2, (.int (iI (many))))]) [0, 1, 2, 3, 4] (by rw [sN_s, if_neg (fun q => c_25 ((nx_may hc).mp q.1)), Nat.add_zero]; rfl) ?_
          exact ih (2 ^ n - (s + 1)) (by omega) (s + 1) (by omega) (by omega)
        · replace c_25 := b01_nz c_25
          refine r_aload_n (pc := 28) 2 dX11_chanceOf_28 rfl rfl ?_
          refine r_iload (pc := 29) 0 dX11_chanceOf_29 rfl ?_
          refine r_iload_n (pc := 31) 3 dX11_chanceOf_31 rfl rfl ?_
          refine r_callV (pc := 32) (As := [(.int (iI (((s : Nat) : Int)))), (.int (iI (((c : Nat) : Int))))]) (S := []) dX11_chanceOf_32 cv_X11_299 hM.k rfl (Nat.le_of_ble_eq_true rfl) (m_getsOf (s := s) (c := c) l z _ hM hD1 ((congrFun (hct1 166 (by decide) (by decide)) 40).trans hdz) ((congrFun (hct1 166 (by decide) (by decide)) 41).trans hlp) h0 h1 (by omega) hc) (Nat.zero_le _) (Nat.zero_le _) (fun r_32 g_32 f_32 q_32 => ?_)
          obtain ⟨rfl, rfl, rfl⟩ := q_32
          have hgr := geV_r (s := s) hD h0.1 h1 hc
          refine r_iload_n (pc := 35) 4 dX11_chanceOf_35 rfl rfl ?_
          refine r_icmp_ne (pc := 36) (tgt := 61) dX11_chanceOf_36 (by decide) (by omega) (by omega) (fun c_36 => ?_) (fun c_36 => ?_)
          · refine r_iincv (pc := 61) (y := ((s + 1 : Nat) : Int)) (L2 := [(4, (.int (iI (((s + 1 : Nat) : Int))))), (3, (.int (iI (((sN s (fun s => if (fun s i => (nxM wt n s).testBit i) s c = true ∧ geV dz lp n ov wa bk s c = many then aW (fun s i => (nxM wt n s).testBit i) n s * cW (fun s i => (nxM wt n s).testBit i) n (s ||| 2 ^ c) else 0) : Nat) : Int))))), (0, (.ref 164)), (1, (.int (iI (((c : Nat) : Int))))), (2, (.int (iI (many))))]) 0 dX11_chanceOf_61 rfl (by omega) (by decide) rfl ?_
            refine r_goto (pc := 64) (tgt := 9) dX11_chanceOf_64 (by decide) ?_
            refine r_sub (L2 := [(4, (.int (iI (((s + 1 : Nat) : Int))))), (3, (.int (iI (((sN (s + 1) (fun s => if (fun s i => (nxM wt n s).testBit i) s c = true ∧ geV dz lp n ov wa bk s c = many then aW (fun s i => (nxM wt n s).testBit i) n s * cW (fun s i => (nxM wt n s).testBit i) n (s ||| 2 ^ c) else 0) : Nat) : Int))))), (0, (.ref 164)), (1, (.int (iI (((c : Nat) : Int))))), (2, (.int (iI (many))))]) [0, 1, 2, 3, 4] (by rw [sN_s, if_neg (fun q => c_36 q.2), Nat.add_zero]; rfl) ?_
            exact ih (2 ^ n - (s + 1)) (by omega) (s + 1) (by omega) (by omega)
          · refine r_iload_n (pc := 39) 1 dX11_chanceOf_39 rfl rfl ?_
            refine r_aload_n (pc := 40) 2 dX11_chanceOf_40 rfl rfl ?_
            refine r_getR (pc := 41) (b := 180) dX11_chanceOf_41 fl_X11_64 rfl hM.k hM.r28 ?_
            refine r_iload (pc := 44) 0 dX11_chanceOf_44 rfl ?_
            refine r_ialdv (pc := 46) (w := ((aW (fun s i => (nxM wt n s).testBit i) n s : Nat) : Int)) dX11_chanceOf_46 hM.a28 (by have := or_lt (n := n) (s := s) (i := c) hs hc; omega) (by decide) ((hct2 _ hs).1) ?_
            refine r_aload_n (pc := 47) 2 dX11_chanceOf_47 rfl rfl ?_
            refine r_getR (pc := 48) (b := 181) dX11_chanceOf_48 fl_X11_67 rfl hM.k hM.r29 ?_
            refine r_iload (pc := 51) 0 dX11_chanceOf_51 rfl ?_
            refine r_iconst (pc := 53) dX11_chanceOf_53 ?_
            refine r_iload_n (pc := 54) 3 dX11_chanceOf_54 rfl rfl ?_
            refine r_ishl (pc := 55) (w := ((2 ^ c : Nat) : Int)) dX11_chanceOf_55  (iI_shl1 (by omega)) ?_
            refine r_ior (pc := 56) (w := ((s ||| (2 ^ c) : Nat) : Int)) dX11_chanceOf_56  (iI_or _ _) ?_
            refine r_ialdv (pc := 57) (w := ((cW (fun s i => (nxM wt n s).testBit i) n (s ||| 2 ^ c) : Nat) : Int)) dX11_chanceOf_57 hM.a29 (by have := or_lt (n := n) (s := s) (i := c) hs hc; omega) (by decide) ((hct2 _ (or_lt hs hc)).2) ?_
            refine r_imul (pc := 58) dX11_chanceOf_58 ?_
            refine r_eqI (y := (((aW (fun s i => (nxM wt n s).testBit i) n s) * (cW (fun s i => (nxM wt n s).testBit i) n (s ||| 2 ^ c)) : Nat) : Int)) (Int.natCast_mul _ _ |>.symm) ?_
            refine r_iadd (pc := 59) dX11_chanceOf_59 ?_
            refine r_eqI (y := (((sN s (fun s => if (fun s i => (nxM wt n s).testBit i) s c = true ∧ geV dz lp n ov wa bk s c = many then aW (fun s i => (nxM wt n s).testBit i) n s * cW (fun s i => (nxM wt n s).testBit i) n (s ||| 2 ^ c) else 0)) + ((aW (fun s i => (nxM wt n s).testBit i) n s) * (cW (fun s i => (nxM wt n s).testBit i) n (s ||| 2 ^ c))) : Nat) : Int)) (Int.natCast_add _ _ |>.symm) ?_
            refine r_istore_n (pc := 60) (L2 := [(3, (.int (iI ((((sN s (fun s => if (fun s i => (nxM wt n s).testBit i) s c = true ∧ geV dz lp n ov wa bk s c = many then aW (fun s i => (nxM wt n s).testBit i) n s * cW (fun s i => (nxM wt n s).testBit i) n (s ||| 2 ^ c) else 0)) + ((aW (fun s i => (nxM wt n s).testBit i) n s) * (cW (fun s i => (nxM wt n s).testBit i) n (s ||| 2 ^ c))) : Nat) : Int))))), (4, (.int (iI (((s : Nat) : Int))))), (0, (.ref 164)), (1, (.int (iI (((c : Nat) : Int))))), (2, (.int (iI (many))))]) dX11_chanceOf_60 rfl (by decide) rfl ?_
            refine r_iincv (pc := 61) (y := ((s + 1 : Nat) : Int)) (L2 := [(4, (.int (iI (((s + 1 : Nat) : Int))))), (3, (.int (iI ((((sN s (fun s => if (fun s i => (nxM wt n s).testBit i) s c = true ∧ geV dz lp n ov wa bk s c = many then aW (fun s i => (nxM wt n s).testBit i) n s * cW (fun s i => (nxM wt n s).testBit i) n (s ||| 2 ^ c) else 0)) + ((aW (fun s i => (nxM wt n s).testBit i) n s) * (cW (fun s i => (nxM wt n s).testBit i) n (s ||| 2 ^ c))) : Nat) : Int))))), (0, (.ref 164)), (1, (.int (iI (((c : Nat) : Int))))), (2, (.int (iI (many))))]) 1 dX11_chanceOf_61 rfl (by omega) (by decide) rfl ?_
            refine r_goto (pc := 64) (tgt := 9) dX11_chanceOf_64 (by decide) ?_
            refine r_sub (L2 := [(4, (.int (iI (((s + 1 : Nat) : Int))))), (3, (.int (iI (((sN (s + 1) (fun s => if (fun s i => (nxM wt n s).testBit i) s c = true ∧ geV dz lp n ov wa bk s c = many then aW (fun s i => (nxM wt n s).testBit i) n s * cW (fun s i => (nxM wt n s).testBit i) n (s ||| 2 ^ c) else 0) : Nat) : Int))))), (0, (.ref 164)), (1, (.int (iI (((c : Nat) : Int))))), (2, (.int (iI (many))))]) [0, 1, 2, 3, 4] (by rw [sN_s, if_pos ⟨(nx_may (by omega)).mpr c_25, by omega⟩]; rfl) ?_
            exact ih (2 ^ n - (s + 1)) (by omega) (s + 1) (by omega) (by omega)
  refine r_sub (L2 := [(4, (.int (iI (((0 : Nat) : Int))))), (3, (.int (iI (((sN 0 (fun s => if (fun s i => (nxM wt n s).testBit i) s c = true ∧ geV dz lp n ov wa bk s c = many then aW (fun s i => (nxM wt n s).testBit i) n s * cW (fun s i => (nxM wt n s).testBit i) n (s ||| 2 ^ c) else 0) : Nat) : Int))))), (0, (.ref 164)), (1, (.int (iI (((c : Nat) : Int))))), (2, (.int (iI (many))))]) [0, 1, 2, 3, 4] rfl ?_
  exact loop (2 ^ n) 0 (by omega) (by omega)

theorem ch_eq {f : Fm} {n a2 c : Nat} {ov wa wt bk : Nat → Nat} {dz lp many : Int} (hD : MD f n ov wa wt bk) (ha : ∀ k, k < n → a2.testBit k = decide (ov k ≠ 0)) (hc : c < n) : sN (2 ^ n) (fun s => if (fun s i => (nxM wt n s).testBit i) s c = true ∧ geV dz lp n ov wa bk s c = many then aW (fun s i => (nxM wt n s).testBit i) n s * cW (fun s i => (nxM wt n s).testBit i) n (s ||| 2 ^ c) else 0) = cW (alO wt wa n a2 dz lp (bk 0) (bk 1) ((c : Nat) : Int) many) n 0 := by
  rw [cW_congr (al' := fun s i => (fun s i => (nxM wt n s).testBit i) s i && (decide (i ≠ c) || (fun s => decide (gnV dz lp (bk 0) (bk 1) wa n a2 s c = many)) s)) (fun s i hi => by
    show ((nxM wt n s).testBit i && (decide ((i : Int) ≠ ((c : Nat) : Int)) || decide (gnV dz lp (bk 0) (bk 1) wa n a2 s i = many))) = ((nxM wt n s).testBit i && (decide (i ≠ c) || decide (gnV dz lp (bk 0) (bk 1) wa n a2 s c = many)))
    by_cases e : i = c
    · subst e; simp
    · have e2 : (i : Int) ≠ ((c : Nat) : Int) := by omega
      simp [e, e2]) 0]
  rw [path_one (fun s i h => nx_out2 h) hc]
  apply sN_congr
  intro s hs
  show (if (fun s i => (nxM wt n s).testBit i) s c = true ∧ geV dz lp n ov wa bk s c = many then aW (fun s i => (nxM wt n s).testBit i) n s * cW (fun s i => (nxM wt n s).testBit i) n (s ||| 2 ^ c) else 0) = aW (fun s i => (nxM wt n s).testBit i) n s * (if (fun s i => (nxM wt n s).testBit i) s c = true ∧ decide (gnV dz lp (bk 0) (bk 1) wa n a2 s c = many) = true then cW (fun s i => (nxM wt n s).testBit i) n (s ||| 2 ^ c) else 0)
  by_cases h1 : (fun s i => (nxM wt n s).testBit i) s c = true
  · have e := gn_ge (ov := ov) (dz := dz) (lp := lp) (bk := bk) (wa := wa) (fun k hk => hD.o1 hk) ha hc (nx_out2 h1)
    rw [e]
    by_cases h2 : geV dz lp n ov wa bk s c = many
    · rw [if_pos ⟨h1, h2⟩, if_pos ⟨h1, decide_eq_true h2⟩]
    · rw [if_neg (fun q => h2 q.2), if_neg (fun q => h2 (of_decide_eq_true q.2)), Nat.mul_zero]
  · rw [if_neg (fun q => h1 q.1), if_neg (fun q => h1 q.1), Nat.mul_zero]
theorem m_chanceOf (l : Launch) (z : Zv) (d : Nat) {g : Gm} {f : Fm} {n a2 : Nat} {ov wa wt bk : Nat → Nat} (hM : ML g) (hD : MD f n ov wa wt bk) {dz lp many : Int} {c : Nat} (hdz : f 166 40 = dz) (hlp : f 166 41 = lp) (h0 : 2 ≤ dz ∧ dz ≤ 20) (h1 : 0 ≤ lp ∧ lp ≤ 9) (hc : c < n) (hmany : -1 ≤ many ∧ many ≤ 100) (ha : ∀ k, k < n → a2.testBit k = decide (ov k ≠ 0)) : PM l z (d + 3) mX11_chanceOf [.ref 164, .int (iI ((c : Nat) : Int)), .int (iI many)] g f 0 0 (fun r g' f' => r = some (.int (iI ((cW (alO wt wa n a2 dz lp (bk 0) (bk 1) ((c : Nat) : Int) many) n 0 : Nat) : Int))) ∧ g = g' ∧ ∀ q, q ≠ 180 → q ≠ 181 → f' q = f q) := by
  have h := m_chanceOf0 (many := many) l z d hM hD hdz hlp h0 h1 hc hmany
  rw [ch_eq hD ha hc] at h
  exact h

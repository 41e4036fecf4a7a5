set_option maxRecDepth 100000 in
set_option maxHeartbeats 4000000 in
theorem m_measures (l : Launch) (z : Zv) (d : Nat) {g : Gm} {f : Fm} {n a2 b : Nat} {ov wa wt bk : Nat → Nat} {K : Nat → Int} {D0 M0 : Int} (hM : ML g) (hD : MD f n ov wa wt bk) (hK : f 166 = K) (hO : KO K D0 M0) (hb2 : b ≤ 2) (ha : ∀ k, k < n → a2.testBit k = decide (ov k ≠ 0)) : PM l z (d + 4) mX11_measures [.ref 164, .int (iI ((b : Nat) : Int))] g f 0 0 (fun r g' f' => r = none ∧ g = g' ∧ (∀ q, q ≠ 182 → q ≠ 183 → f' q = f q) ∧ ∀ u, u < 2 ^ n → f' 182 u = tbL (fun s i => (nxM wt n s).testBit i) (coV K wa b (K 40) (K 41) (bk 0) (bk 1) n a2) (decide (b = 1)) n u ∧ f' 183 u = ((tbW (fun s i => (nxM wt n s).testBit i) (coV K wa b (K 40) (K 41) (bk 0) (bk 1) n a2) (decide (b = 1)) n u : Nat) : Int)) := by
  have hn8 := hD.n8
  have hp8 := pow8 hn8
  refine PM.of (by decide +kernel) (Nat.le_of_ble_eq_true rfl) ?_
  have inner : ∀ s, s < 2 ^ n → (∀ u, s < u → u < 2 ^ n → True) → (∀ u, s < u → u < 2 ^ n → True) → ∀ m i : Nat, m = n - i → i ≤ n → ∀ f1 : Fm, (∀ q, q ≠ 182 → q ≠ 183 → f1 q = f q) → (∀ u, s < u → u < 2 ^ n → f1 182 u = tbL (fun s i => (nxM wt n s).testBit i) (coV K wa b (K 40) (K 41) (bk 0) (bk 1) n a2) (decide (b = 1)) n u) → (∀ u, s < u → u < 2 ^ n → f1 183 u = ((tbW (fun s i => (nxM wt n s).testBit i) (coV K wa b (K 40) (K 41) (bk 0) (bk 1) n a2) (decide (b = 1)) n u : Nat) : Int)) → (f1 182 s = (msS (fun s i => (nxM wt n s).testBit i) (coV K wa b (K 40) (K 41) (bk 0) (bk 1) n a2) (decide (b = 1)) n s i).1 ∧ f1 183 s = (((msS (fun s i => (nxM wt n s).testBit i) (coV K wa b (K 40) (K 41) (bk 0) (bk 1) n a2) (decide (b = 1)) n s i).2 : Nat) : Int)) → (∀ f2 : Fm, (∀ q, q ≠ 182 → q ≠ 183 → f2 q = f q) → (∀ u, s ≤ u → u < 2 ^ n → f2 182 u = tbL (fun s i => (nxM wt n s).testBit i) (coV K wa b (K 40) (K 41) (bk 0) (bk 1) n a2) (decide (b = 1)) n u) → (∀ u, s ≤ u → u < 2 ^ n → f2 183 u = ((tbW (fun s i => (nxM wt n s).testBit i) (coV K wa b (K 40) (K 41) (bk 0) (bk 1) n a2) (decide (b = 1)) n u : Nat) : Int)) → PW l z (d + 4) mX11_measures 0 0 (fun r g' f' => r = none ∧ g = g' ∧ (∀ q, q ≠ 182 → q ≠ 183 → f' q = f q) ∧ ∀ u, u < 2 ^ n → f' 182 u = tbL (fun s i => (nxM wt n s).testBit i) (coV K wa b (K 40) (K 41) (bk 0) (bk 1) n a2) (decide (b = 1)) n u ∧ f' 183 u = ((tbW (fun s i => (nxM wt n s).testBit i) (coV K wa b (K 40) (K 41) (bk 0) (bk 1) n a2) (decide (b = 1)) n u : Nat) : Int)) 7 [(3, (.int (iI (((s : Nat) : Int) - 1)))), (2, (.int (iI (((2 ^ n - 1 : Nat) : Int))))), (0, (.ref 164)), (1, (.int (iI (((b : Nat) : Int)))))] [] g f2 0 0) → PW l z (d + 4) mX11_measures 0 0 (fun r g' f' => r = none ∧ g = g' ∧ (∀ q, q ≠ 182 → q ≠ 183 → f' q = f q) ∧ ∀ u, u < 2 ^ n → f' 182 u = tbL (fun s i => (nxM wt n s).testBit i) (coV K wa b (K 40) (K 41) (bk 0) (bk 1) n a2) (decide (b = 1)) n u ∧ f' 183 u = ((tbW (fun s i => (nxM wt n s).testBit i) (coV K wa b (K 40) (K 41) (bk 0) (bk 1) n a2) (decide (b = 1)) n u : Nat) : Int)) 48 [(4, (.int (iI (((i : Nat) : Int))))), (3, (.int (iI (((s : Nat) : Int))))), (2, (.int (iI (((2 ^ n - 1 : Nat) : Int))))), (0, (.ref 164)), (1, (.int (iI (((b : Nat) : Int)))))] [] g f1 0 0 := by
    intro s hs _ _ m
    induction m using Nat.strongRecOn with
    | _ m ih2 =>
      intro i hm hi f1 hF1 hL1 hW1 hcu hk
      have hD1 : MD f1 n ov wa wt bk := hD.mv (hF1 166 (by decide) (by decide)) (hF1 176 (by decide) (by decide)) (hF1 177 (by decide) (by decide)) (hF1 178 (by decide) (by decide))
      refine r_iload (pc := 48) 0 dX11_measures_48 rfl ?_
      refine r_aload_n (pc := 50) 3 dX11_measures_50 rfl rfl ?_
      refine r_callV (pc := 51) (As := []) (S := [(.int (iI (((i : Nat) : Int))))]) dX11_measures_51 cv_X11_121 hM.k rfl (Nat.le_of_ble_eq_true rfl) (m_cust (v := ((n : Nat) : Int)) l z _ hM hD1.n) (Nat.zero_le _) (Nat.zero_le _) (fun r_51 g_51 f_51 q_51 => ?_)
      obtain ⟨rfl, rfl, rfl⟩ := q_51
      refine r_icmp_ge (pc := 54) (tgt := 204) dX11_measures_54 (by decide) (by omega) (by omega) (fun c_54 => ?_) (fun c_54 => ?_)
      · refine r_iincv (pc := 204) (y := ((s : Nat) : Int) - 1) (L2 := [(3, (.int (iI (((s : Nat) : Int) - 1)))), (4, (.int (iI (((i : Nat) : Int))))), (2, (.int (iI (((2 ^ n - 1 : Nat) : Int))))), (0, (.ref 164)), (1, (.int (iI (((b : Nat) : Int)))))]) 1 dX11_measures_204 rfl (by omega) (by decide) rfl ?_
        refine r_goto (pc := 207) (tgt := 7) dX11_measures_207 (by decide) ?_
        have hin : i = n := by omega
        have he := msS_e (may := (fun s i => (nxM wt n s).testBit i)) (co := (coV K wa b (K 40) (K 41) (bk 0) (bk 1) n a2)) (bg := (decide (b = 1))) (s := s) (fun j hj => nx_out hj) (by omega)
        rw [hin, he] at hcu
        refine r_sub (L2 := [(3, (.int (iI (((s : Nat) : Int) - 1)))), (2, (.int (iI (((2 ^ n - 1 : Nat) : Int))))), (0, (.ref 164)), (1, (.int (iI (((b : Nat) : Int)))))]) [0, 2, 3, 4] rfl ?_
        exact hk f1 hF1 (fun u hu1 hu2 => by rcases Nat.eq_or_lt_of_le hu1 with h | h; subst h; exact hcu.1; exact hL1 u h hu2) (fun u hu1 hu2 => by rcases Nat.eq_or_lt_of_le hu1 with h | h; subst h; exact hcu.2; exact hW1 u h hu2)
      · refine r_aload_n (pc := 57) 3 dX11_measures_57 rfl rfl ?_
        refine r_iload_n (pc := 58) 1 dX11_measures_58 rfl rfl ?_
        refine r_iload (pc := 59) 0 dX11_measures_59 rfl ?_
        refine r_callV (pc := 61) (As := [(.int (iI (((s : Nat) : Int)))), (.int (iI (((i : Nat) : Int))))]) (S := []) dX11_measures_61 cv_X11_305 hM.k rfl (Nat.le_of_ble_eq_true rfl) (m_mayNext (s := s) (c := i) l z _ hM hD1 (by omega) (by omega)) (Nat.zero_le _) (Nat.zero_le _) (fun r_61 g_61 f_61 q_61 => ?_)
        obtain ⟨rfl, rfl, rfl⟩ := q_61
        refine r_if_eq (pc := 64) (tgt := 198) dX11_measures_64 (by decide) (b01_r) (fun c_64 => ?_) (fun c_64 => ?_)
        · replace c_64 := b01_z c_64
          refine r_iincv (pc := 198) (y := ((i + 1 : Nat) : Int)) (L2 := [(4, (.int (iI (((i + 1 : Nat) : Int))))), (3, (.int (iI (((s : Nat) : Int))))), (2, (.int (iI (((2 ^ n - 1 : Nat) : Int))))), (0, (.ref 164)), (1, (.int (iI (((b : Nat) : Int)))))]) 0 dX11_measures_198 rfl (by omega) (by decide) rfl ?_
          refine r_goto (pc := 201) (tgt := 48) dX11_measures_201 (by decide) ?_
          refine r_sub (L2 := [(4, (.int (iI (((i + 1 : Nat) : Int))))), (3, (.int (iI (((s : Nat) : Int))))), (2, (.int (iI (((2 ^ n - 1 : Nat) : Int))))), (0, (.ref 164)), (1, (.int (iI (((b : Nat) : Int)))))]) [0, 1, 2, 3, 4] rfl ?_
          exact ih2 (n - (i + 1)) (by omega) (i + 1) (by omega) (by omega) f1 hF1 hL1 hW1 (by rw [msS_n (may := (fun s i => (nxM wt n s).testBit i)) (fun h => c_64 ((nx_may (by omega)).mp h.1))]; exact hcu) hk
        · replace c_64 := b01_nz c_64
          have hou := or_lt (i := i) hs (show i < n by omega)
          have hwr := tbW_r (may := (fun s i => (nxM wt n s).testBit i)) (co := (coV K wa b (K 40) (K 41) (bk 0) (bk 1) n a2)) (bg := (decide (b = 1))) hn8 (s ||| 2 ^ i)
          refine r_aload_n (pc := 67) 3 dX11_measures_67 rfl rfl ?_
          refine r_getR (pc := 68) (b := 183) dX11_measures_68 fl_X11_73 rfl hM.k hM.r31 ?_
          refine r_iload_n (pc := 71) 1 dX11_measures_71 rfl rfl ?_
          refine r_iconst (pc := 72) dX11_measures_72 ?_
          refine r_iload (pc := 73) 0 dX11_measures_73 rfl ?_
          refine r_ishl (pc := 75) (w := ((2 ^ i : Nat) : Int)) dX11_measures_75  (iI_shl1 (by omega)) ?_
          refine r_ior (pc := 76) (w := ((s ||| (2 ^ i) : Nat) : Int)) dX11_measures_76  (iI_or _ _) ?_
          refine r_ialdv (pc := 77) (w := ((tbW (fun s i => (nxM wt n s).testBit i) (coV K wa b (K 40) (K 41) (bk 0) (bk 1) n a2) (decide (b = 1)) n (s ||| 2 ^ i) : Nat) : Int)) dX11_measures_77 hM.a31 (by omega) (by decide) (hW1 _ (or_gt c_64.1) (or_lt hs (by omega))) ?_
          refine r_if_ne (pc := 78) (tgt := 84) dX11_measures_78 (by decide) (by omega) (fun c_78 => ?_) (fun c_78 => ?_)
          · have hlr := tbL_r (may := (fun s i => (nxM wt n s).testBit i)) (co := (coV K wa b (K 40) (K 41) (bk 0) (bk 1) n a2)) (bg := (decide (b = 1))) (s := (s ||| 2 ^ i)) hn8 (co_r hD hO) (by omega)
            refine r_iload_n (pc := 84) 4 dX11_measures_84 rfl rfl ?_
            refine r_aload_n (pc := 85) 3 dX11_measures_85 rfl rfl ?_
            refine r_iload_n (pc := 86) 4 dX11_measures_86 rfl rfl ?_
            refine r_iload_n (pc := 87) 1 dX11_measures_87 rfl rfl ?_
            refine r_iload (pc := 88) 0 dX11_measures_88 rfl ?_
            refine r_callV (pc := 90) (As := [(.int (iI (((b : Nat) : Int)))), (.int (iI (((s : Nat) : Int)))), (.int (iI (((i : Nat) : Int))))]) (S := [(.int (iI (((b : Nat) : Int))))]) dX11_measures_90 cv_X11_315 hM.k rfl (Nat.le_of_ble_eq_true rfl) (m_measure (a2 := 0) (b := b) (s := s) (c := i) (K := K) l z _ hM hD1 ((hF1 166 (by decide) (by decide)).trans hK) hO hb2 (by omega) (by omega)) (Nat.zero_le _) (Nat.zero_le _) (fun r_90 g_90 f_90 q_90 => ?_)
            obtain ⟨rfl, rfl, rfl⟩ := q_90
            refine r_eqI (y := (coV K wa b (K 40) (K 41) (bk 0) (bk 1) n a2) s i) (co_ge hD1 hO ha (by omega) c_64.1) ?_
            have hcr := co_r (b := b) (a2 := a2) hD1 hO s i (by omega)
            refine r_aload_n (pc := 93) 3 dX11_measures_93 rfl rfl ?_
            refine r_getR (pc := 94) (b := 182) dX11_measures_94 fl_X11_70 rfl hM.k hM.r30 ?_
            refine r_iload_n (pc := 97) 1 dX11_measures_97 rfl rfl ?_
            refine r_iconst (pc := 98) dX11_measures_98 ?_
            refine r_iload (pc := 99) 0 dX11_measures_99 rfl ?_
            refine r_ishl (pc := 101) (w := ((2 ^ i : Nat) : Int)) dX11_measures_101  (iI_shl1 (by omega)) ?_
            refine r_ior (pc := 102) (w := ((s ||| (2 ^ i) : Nat) : Int)) dX11_measures_102  (iI_or _ _) ?_
            refine r_ialdv (pc := 103) (w := tbL (fun s i => (nxM wt n s).testBit i) (coV K wa b (K 40) (K 41) (bk 0) (bk 1) n a2) (decide (b = 1)) n (s ||| 2 ^ i)) dX11_measures_103 hM.a30 (by omega) (by decide) (hL1 _ (or_gt c_64.1) (or_lt hs (by omega))) ?_
            refine r_callS (pc := 104) (As := [(.int (iI (((b : Nat) : Int)))), (.int (iI ((coV K wa b (K 40) (K 41) (bk 0) (bk 1) n a2) s i))), (.int (iI (tbL (fun s i => (nxM wt n s).testBit i) (coV K wa b (K 40) (K 41) (bk 0) (bk 1) n a2) (decide (b = 1)) n (s ||| 2 ^ i))))]) (S := []) dX11_measures_104 cs_X11_318 rfl (Nat.le_of_ble_eq_true rfl) (m_joined (b := b) l z _ hb2 (by omega) (by omega)) (Nat.zero_le _) (Nat.zero_le _) (fun r_104 g_104 f_104 q_104 => ?_)
            obtain ⟨rfl, rfl, rfl⟩ := q_104
            have hjr := jnB_r (bg := (decide (b = 1))) (x := (coV K wa b (K 40) (K 41) (bk 0) (bk 1) n a2) s i) (y := tbL (fun s i => (nxM wt n s).testBit i) (coV K wa b (K 40) (K 41) (bk 0) (bk 1) n a2) (decide (b = 1)) n (s ||| 2 ^ i)) (by omega) (by omega)
            have hjs : jnB (decide (b = 1)) ((coV K wa b (K 40) (K 41) (bk 0) (bk 1) n a2) s i) (tbL (fun s i => (nxM wt n s).testBit i) (coV K wa b (K 40) (K 41) (bk 0) (bk 1) n a2) (decide (b = 1)) n (s ||| 2 ^ i)) ≤ 900000000 := by unfold jnB; split <;> omega
            refine r_istore (pc := 107) (L2 := [(5, (.int (iI (jnB (decide (b = 1)) ((coV K wa b (K 40) (K 41) (bk 0) (bk 1) n a2) s i) (tbL (fun s i => (nxM wt n s).testBit i) (coV K wa b (K 40) (K 41) (bk 0) (bk 1) n a2) (decide (b = 1)) n (s ||| 2 ^ i)))))), (4, (.int (iI (((i : Nat) : Int))))), (3, (.int (iI (((s : Nat) : Int))))), (2, (.int (iI (((2 ^ n - 1 : Nat) : Int))))), (0, (.ref 164)), (1, (.int (iI (((b : Nat) : Int)))))]) dX11_measures_107 (by decide) rfl ?_
            have hsr := msS_r (may := (fun s i => (nxM wt n s).testBit i)) (co := (coV K wa b (K 40) (K 41) (bk 0) (bk 1) n a2)) (bg := (decide (b = 1))) (s := s) (i := i) hn8 (co_r hD hO) (by omega)
            have hnall : ¬ s = 2 ^ n - 1 := fun h => by rw [h] at c_64; exact c_64.1 (all_bit (by omega))
            have hmw : ((fun s i => (nxM wt n s).testBit i)) s i = true ∧ 0 < tbW (fun s i => (nxM wt n s).testBit i) (coV K wa b (K 40) (K 41) (bk 0) (bk 1) n a2) (decide (b = 1)) n (s ||| 2 ^ i) := ⟨(nx_may (by omega)).mpr c_64, by omega⟩
            refine r_aload_n (pc := 109) 4 dX11_measures_109 rfl rfl ?_
            refine r_getR (pc := 110) (b := 183) dX11_measures_110 fl_X11_73 rfl hM.k hM.r31 ?_
            refine r_iload_n (pc := 113) 2 dX11_measures_113 rfl rfl ?_
            refine r_ialdv (pc := 114) (w := (((msS (fun s i => (nxM wt n s).testBit i) (coV K wa b (K 40) (K 41) (bk 0) (bk 1) n a2) (decide (b = 1)) n s i).2 : Nat) : Int)) dX11_measures_114 hM.a31 (by omega) (by decide) (hcu.2) ?_
            refine r_if_le (pc := 115) (tgt := 132) dX11_measures_115 (by decide) (by omega) (fun c_115 => ?_) (fun c_115 => ?_)
            · refine r_aload_n (pc := 132) 4 dX11_measures_132 rfl rfl ?_
              refine r_getR (pc := 133) (b := 183) dX11_measures_133 fl_X11_73 rfl hM.k hM.r31 ?_
              refine r_iload_n (pc := 136) 2 dX11_measures_136 rfl rfl ?_
              refine r_aload_n (pc := 137) 4 dX11_measures_137 rfl rfl ?_
              refine r_getR (pc := 138) (b := 183) dX11_measures_138 fl_X11_73 rfl hM.k hM.r31 ?_
              refine r_iload_n (pc := 141) 2 dX11_measures_141 rfl rfl ?_
              refine r_ialdv (pc := 142) (w := (((msS (fun s i => (nxM wt n s).testBit i) (coV K wa b (K 40) (K 41) (bk 0) (bk 1) n a2) (decide (b = 1)) n s i).2 : Nat) : Int)) dX11_measures_142 hM.a31 (by omega) (by decide) (hcu.2) ?_
              refine r_if_le (pc := 143) (tgt := 178) dX11_measures_143 (by decide) (by omega) (fun c_143 => ?_) (fun c_143 => ?_)
              · refine r_aload_n (pc := 178) 4 dX11_measures_178 rfl rfl ?_
                refine r_getR (pc := 179) (b := 183) dX11_measures_179 fl_X11_73 rfl hM.k hM.r31 ?_
                refine r_iload_n (pc := 182) 2 dX11_measures_182 rfl rfl ?_
                refine r_iconst (pc := 183) dX11_measures_183 ?_
                refine r_iload (pc := 184) 1 dX11_measures_184 rfl ?_
                refine r_ishl (pc := 186) (w := ((2 ^ i : Nat) : Int)) dX11_measures_186  (iI_shl1 (by omega)) ?_
                refine r_ior (pc := 187) (w := ((s ||| (2 ^ i) : Nat) : Int)) dX11_measures_187  (iI_or _ _) ?_
                refine r_ialdv (pc := 188) (w := ((tbW (fun s i => (nxM wt n s).testBit i) (coV K wa b (K 40) (K 41) (bk 0) (bk 1) n a2) (decide (b = 1)) n (s ||| 2 ^ i) : Nat) : Int)) dX11_measures_188 hM.a31 (by omega) (by decide) (hW1 _ (or_gt c_64.1) (or_lt hs (by omega))) ?_
                refine r_iastv (pc := 189) (i := s) dX11_measures_189 hM.a31 (by omega) (by decide) rfl ?_
                refine r_aload_n (pc := 190) 4 dX11_measures_190 rfl rfl ?_
                refine r_getR (pc := 191) (b := 182) dX11_measures_191 fl_X11_70 rfl hM.k hM.r30 ?_
                refine r_iload_n (pc := 194) 2 dX11_measures_194 rfl rfl ?_
                refine r_iload (pc := 195) 0 dX11_measures_195 rfl ?_
                refine r_iastv (pc := 197) (i := s) dX11_measures_197 hM.a30 (by omega) (by decide) rfl ?_
                refine r_iincv (pc := 198) (y := ((i + 1 : Nat) : Int)) (L2 := [(4, (.int (iI (((i + 1 : Nat) : Int))))), (5, (.int (iI (jnB (decide (b = 1)) ((coV K wa b (K 40) (K 41) (bk 0) (bk 1) n a2) s i) (tbL (fun s i => (nxM wt n s).testBit i) (coV K wa b (K 40) (K 41) (bk 0) (bk 1) n a2) (decide (b = 1)) n (s ||| 2 ^ i)))))), (3, (.int (iI (((s : Nat) : Int))))), (2, (.int (iI (((2 ^ n - 1 : Nat) : Int))))), (0, (.ref 164)), (1, (.int (iI (((b : Nat) : Int)))))]) 1 dX11_measures_198 rfl (by omega) (by decide) rfl ?_
                refine r_goto (pc := 201) (tgt := 48) dX11_measures_201 (by decide) ?_
                refine r_sub (L2 := [(4, (.int (iI (((i + 1 : Nat) : Int))))), (3, (.int (iI (((s : Nat) : Int))))), (2, (.int (iI (((2 ^ n - 1 : Nat) : Int))))), (0, (.ref 164)), (1, (.int (iI (((b : Nat) : Int)))))]) [0, 2, 3, 4, 5] rfl ?_
                exact ih2 (n - (i + 1)) (by omega) (i + 1) (by omega) (by omega) _ (fun q h1 h2 => by rw [stF_n _ _ _ h1, stF_n _ _ _ h2]; exact hF1 q h1 h2) (fun u hu1 hu2 => rdi (by omega) (rdn (by decide) (hL1 u hu1 hu2))) (fun u hu1 hu2 => rdn (by decide) (rdi (by omega) (hW1 u hu1 hu2))) (by rw [msS_y hnall hmw]; unfold lkS; rw [if_pos (by omega)]; exact ⟨stF_s _ _ _ _, rdn (by decide) (stF_s _ _ _ _)⟩) hk
              · refine r_iload (pc := 146) 0 dX11_measures_146 rfl ?_
                refine r_aload_n (pc := 148) 4 dX11_measures_148 rfl rfl ?_
                refine r_getR (pc := 149) (b := 182) dX11_measures_149 fl_X11_70 rfl hM.k hM.r30 ?_
                refine r_iload_n (pc := 152) 2 dX11_measures_152 rfl rfl ?_
                refine r_ialdv (pc := 153) (w := (msS (fun s i => (nxM wt n s).testBit i) (coV K wa b (K 40) (K 41) (bk 0) (bk 1) n a2) (decide (b = 1)) n s i).1) dX11_measures_153 hM.a30 (by omega) (by decide) (hcu.1) ?_
                refine r_icmp_ne (pc := 154) (tgt := 178) dX11_measures_154 (by decide) (by omega) (by omega) (fun c_154 => ?_) (fun c_154 => ?_)
                · refine r_aload_n (pc := 178) 4 dX11_measures_178 rfl rfl ?_
                  refine r_getR (pc := 179) (b := 183) dX11_measures_179 fl_X11_73 rfl hM.k hM.r31 ?_
                  refine r_iload_n (pc := 182) 2 dX11_measures_182 rfl rfl ?_
                  refine r_iconst (pc := 183) dX11_measures_183 ?_
                  refine r_iload (pc := 184) 1 dX11_measures_184 rfl ?_
                  refine r_ishl (pc := 186) (w := ((2 ^ i : Nat) : Int)) dX11_measures_186  (iI_shl1 (by omega)) ?_
                  refine r_ior (pc := 187) (w := ((s ||| (2 ^ i) : Nat) : Int)) dX11_measures_187  (iI_or _ _) ?_
                  refine r_ialdv (pc := 188) (w := ((tbW (fun s i => (nxM wt n s).testBit i) (coV K wa b (K 40) (K 41) (bk 0) (bk 1) n a2) (decide (b = 1)) n (s ||| 2 ^ i) : Nat) : Int)) dX11_measures_188 hM.a31 (by omega) (by decide) (hW1 _ (or_gt c_64.1) (or_lt hs (by omega))) ?_
                  refine r_iastv (pc := 189) (i := s) dX11_measures_189 hM.a31 (by omega) (by decide) rfl ?_
                  refine r_aload_n (pc := 190) 4 dX11_measures_190 rfl rfl ?_
                  refine r_getR (pc := 191) (b := 182) dX11_measures_191 fl_X11_70 rfl hM.k hM.r30 ?_
                  refine r_iload_n (pc := 194) 2 dX11_measures_194 rfl rfl ?_
                  refine r_iload (pc := 195) 0 dX11_measures_195 rfl ?_
                  refine r_iastv (pc := 197) (i := s) dX11_measures_197 hM.a30 (by omega) (by decide) rfl ?_
                  refine r_iincv (pc := 198) (y := ((i + 1 : Nat) : Int)) (L2 := [(4, (.int (iI (((i + 1 : Nat) : Int))))), (5, (.int (iI (jnB (decide (b = 1)) ((coV K wa b (K 40) (K 41) (bk 0) (bk 1) n a2) s i) (tbL (fun s i => (nxM wt n s).testBit i) (coV K wa b (K 40) (K 41) (bk 0) (bk 1) n a2) (decide (b = 1)) n (s ||| 2 ^ i)))))), (3, (.int (iI (((s : Nat) : Int))))), (2, (.int (iI (((2 ^ n - 1 : Nat) : Int))))), (0, (.ref 164)), (1, (.int (iI (((b : Nat) : Int)))))]) 1 dX11_measures_198 rfl (by omega) (by decide) rfl ?_
                  refine r_goto (pc := 201) (tgt := 48) dX11_measures_201 (by decide) ?_
                  refine r_sub (L2 := [(4, (.int (iI (((i + 1 : Nat) : Int))))), (3, (.int (iI (((s : Nat) : Int))))), (2, (.int (iI (((2 ^ n - 1 : Nat) : Int))))), (0, (.ref 164)), (1, (.int (iI (((b : Nat) : Int)))))]) [0, 2, 3, 4, 5] rfl ?_
                  exact ih2 (n - (i + 1)) (by omega) (i + 1) (by omega) (by omega) _ (fun q h1 h2 => by rw [stF_n _ _ _ h1, stF_n _ _ _ h2]; exact hF1 q h1 h2) (fun u hu1 hu2 => rdi (by omega) (rdn (by decide) (hL1 u hu1 hu2))) (fun u hu1 hu2 => rdn (by decide) (rdi (by omega) (hW1 u hu1 hu2))) (by rw [msS_y hnall hmw]; unfold lkS; rw [if_pos (by omega)]; exact ⟨stF_s _ _ _ _, rdn (by decide) (stF_s _ _ _ _)⟩) hk
                · refine r_aload_n (pc := 157) 4 dX11_measures_157 rfl rfl ?_
                  refine r_getR (pc := 158) (b := 183) dX11_measures_158 fl_X11_73 rfl hM.k hM.r31 ?_
                  refine r_iload_n (pc := 161) 2 dX11_measures_161 rfl rfl ?_
                  refine r_ialdv (pc := 162) (w := (((msS (fun s i => (nxM wt n s).testBit i) (coV K wa b (K 40) (K 41) (bk 0) (bk 1) n a2) (decide (b = 1)) n s i).2 : Nat) : Int)) dX11_measures_162 hM.a31 (by omega) (by decide) (hcu.2) ?_
                  refine r_aload_n (pc := 163) 4 dX11_measures_163 rfl rfl ?_
                  refine r_getR (pc := 164) (b := 183) dX11_measures_164 fl_X11_73 rfl hM.k hM.r31 ?_
                  refine r_iload_n (pc := 167) 2 dX11_measures_167 rfl rfl ?_
                  refine r_iconst (pc := 168) dX11_measures_168 ?_
                  refine r_iload (pc := 169) 1 dX11_measures_169 rfl ?_
                  refine r_ishl (pc := 171) (w := ((2 ^ i : Nat) : Int)) dX11_measures_171  (iI_shl1 (by omega)) ?_
                  refine r_ior (pc := 172) (w := ((s ||| (2 ^ i) : Nat) : Int)) dX11_measures_172  (iI_or _ _) ?_
                  refine r_ialdv (pc := 173) (w := ((tbW (fun s i => (nxM wt n s).testBit i) (coV K wa b (K 40) (K 41) (bk 0) (bk 1) n a2) (decide (b = 1)) n (s ||| 2 ^ i) : Nat) : Int)) dX11_measures_173 hM.a31 (by omega) (by decide) (hW1 _ (or_gt c_64.1) (or_lt hs (by omega))) ?_
                  refine r_iadd (pc := 174) dX11_measures_174 ?_
                  refine r_eqI (y := ((((msS (fun s i => (nxM wt n s).testBit i) (coV K wa b (K 40) (K 41) (bk 0) (bk 1) n a2) (decide (b = 1)) n s i).2) + (tbW (fun s i => (nxM wt n s).testBit i) (coV K wa b (K 40) (K 41) (bk 0) (bk 1) n a2) (decide (b = 1)) n (s ||| 2 ^ i)) : Nat) : Int)) (Int.natCast_add _ _ |>.symm) ?_
                  refine r_goto (pc := 175) (tgt := 189) dX11_measures_175 (by decide) ?_
                  refine r_iastv (pc := 189) (i := s) dX11_measures_189 hM.a31 (by omega) (by decide) rfl ?_
                  refine r_aload_n (pc := 190) 4 dX11_measures_190 rfl rfl ?_
                  refine r_getR (pc := 191) (b := 182) dX11_measures_191 fl_X11_70 rfl hM.k hM.r30 ?_
                  refine r_iload_n (pc := 194) 2 dX11_measures_194 rfl rfl ?_
                  refine r_iload (pc := 195) 0 dX11_measures_195 rfl ?_
                  refine r_iastv (pc := 197) (i := s) dX11_measures_197 hM.a30 (by omega) (by decide) rfl ?_
                  refine r_iincv (pc := 198) (y := ((i + 1 : Nat) : Int)) (L2 := [(4, (.int (iI (((i + 1 : Nat) : Int))))), (5, (.int (iI (jnB (decide (b = 1)) ((coV K wa b (K 40) (K 41) (bk 0) (bk 1) n a2) s i) (tbL (fun s i => (nxM wt n s).testBit i) (coV K wa b (K 40) (K 41) (bk 0) (bk 1) n a2) (decide (b = 1)) n (s ||| 2 ^ i)))))), (3, (.int (iI (((s : Nat) : Int))))), (2, (.int (iI (((2 ^ n - 1 : Nat) : Int))))), (0, (.ref 164)), (1, (.int (iI (((b : Nat) : Int)))))]) 1 dX11_measures_198 rfl (by omega) (by decide) rfl ?_
                  refine r_goto (pc := 201) (tgt := 48) dX11_measures_201 (by decide) ?_
                  refine r_sub (L2 := [(4, (.int (iI (((i + 1 : Nat) : Int))))), (3, (.int (iI (((s : Nat) : Int))))), (2, (.int (iI (((2 ^ n - 1 : Nat) : Int))))), (0, (.ref 164)), (1, (.int (iI (((b : Nat) : Int)))))]) [0, 2, 3, 4, 5] rfl ?_
                  exact ih2 (n - (i + 1)) (by omega) (i + 1) (by omega) (by omega) _ (fun q h1 h2 => by rw [stF_n _ _ _ h1, stF_n _ _ _ h2]; exact hF1 q h1 h2) (fun u hu1 hu2 => rdi (by omega) (rdn (by decide) (hL1 u hu1 hu2))) (fun u hu1 hu2 => rdn (by decide) (rdi (by omega) (hW1 u hu1 hu2))) (by rw [msS_y hnall hmw]; unfold lkS; rw [if_neg (by omega), if_pos (by omega)]; exact ⟨(stF_s _ _ _ _).trans (by omega), rdn (by decide) (stF_s _ _ _ _)⟩) hk
            · refine r_iload (pc := 118) 0 dX11_measures_118 rfl ?_
              refine r_aload_n (pc := 120) 4 dX11_measures_120 rfl rfl ?_
              refine r_getR (pc := 121) (b := 182) dX11_measures_121 fl_X11_70 rfl hM.k hM.r30 ?_
              refine r_iload_n (pc := 124) 2 dX11_measures_124 rfl rfl ?_
              refine r_ialdv (pc := 125) (w := (msS (fun s i => (nxM wt n s).testBit i) (coV K wa b (K 40) (K 41) (bk 0) (bk 1) n a2) (decide (b = 1)) n s i).1) dX11_measures_125 hM.a30 (by omega) (by decide) (hcu.1) ?_
              refine r_icmp_le (pc := 126) (tgt := 132) dX11_measures_126 (by decide) (by omega) (by omega) (fun c_126 => ?_) (fun c_126 => ?_)
              · refine r_aload_n (pc := 132) 4 dX11_measures_132 rfl rfl ?_
                refine r_getR (pc := 133) (b := 183) dX11_measures_133 fl_X11_73 rfl hM.k hM.r31 ?_
                refine r_iload_n (pc := 136) 2 dX11_measures_136 rfl rfl ?_
                refine r_aload_n (pc := 137) 4 dX11_measures_137 rfl rfl ?_
                refine r_getR (pc := 138) (b := 183) dX11_measures_138 fl_X11_73 rfl hM.k hM.r31 ?_
                refine r_iload_n (pc := 141) 2 dX11_measures_141 rfl rfl ?_
                refine r_ialdv (pc := 142) (w := (((msS (fun s i => (nxM wt n s).testBit i) (coV K wa b (K 40) (K 41) (bk 0) (bk 1) n a2) (decide (b = 1)) n s i).2 : Nat) : Int)) dX11_measures_142 hM.a31 (by omega) (by decide) (hcu.2) ?_
                refine r_if_le (pc := 143) (tgt := 178) dX11_measures_143 (by decide) (by omega) (fun c_143 => ?_) (fun c_143 => ?_)
                · refine r_aload_n (pc := 178) 4 dX11_measures_178 rfl rfl ?_
                  refine r_getR (pc := 179) (b := 183) dX11_measures_179 fl_X11_73 rfl hM.k hM.r31 ?_
                  refine r_iload_n (pc := 182) 2 dX11_measures_182 rfl rfl ?_
                  refine r_iconst (pc := 183) dX11_measures_183 ?_
                  refine r_iload (pc := 184) 1 dX11_measures_184 rfl ?_
                  refine r_ishl (pc := 186) (w := ((2 ^ i : Nat) : Int)) dX11_measures_186  (iI_shl1 (by omega)) ?_
                  refine r_ior (pc := 187) (w := ((s ||| (2 ^ i) : Nat) : Int)) dX11_measures_187  (iI_or _ _) ?_
                  refine r_ialdv (pc := 188) (w := ((tbW (fun s i => (nxM wt n s).testBit i) (coV K wa b (K 40) (K 41) (bk 0) (bk 1) n a2) (decide (b = 1)) n (s ||| 2 ^ i) : Nat) : Int)) dX11_measures_188 hM.a31 (by omega) (by decide) (hW1 _ (or_gt c_64.1) (or_lt hs (by omega))) ?_
                  refine r_iastv (pc := 189) (i := s) dX11_measures_189 hM.a31 (by omega) (by decide) rfl ?_
                  refine r_aload_n (pc := 190) 4 dX11_measures_190 rfl rfl ?_
                  refine r_getR (pc := 191) (b := 182) dX11_measures_191 fl_X11_70 rfl hM.k hM.r30 ?_
                  refine r_iload_n (pc := 194) 2 dX11_measures_194 rfl rfl ?_
                  refine r_iload (pc := 195) 0 dX11_measures_195 rfl ?_
                  refine r_iastv (pc := 197) (i := s) dX11_measures_197 hM.a30 (by omega) (by decide) rfl ?_
                  refine r_iincv (pc := 198) (y := ((i + 1 : Nat) : Int)) (L2 := [(4, (.int (iI (((i + 1 : Nat) : Int))))), (5, (.int (iI (jnB (decide (b = 1)) ((coV K wa b (K 40) (K 41) (bk 0) (bk 1) n a2) s i) (tbL (fun s i => (nxM wt n s).testBit i) (coV K wa b (K 40) (K 41) (bk 0) (bk 1) n a2) (decide (b = 1)) n (s ||| 2 ^ i)))))), (3, (.int (iI (((s : Nat) : Int))))), (2, (.int (iI (((2 ^ n - 1 : Nat) : Int))))), (0, (.ref 164)), (1, (.int (iI (((b : Nat) : Int)))))]) 1 dX11_measures_198 rfl (by omega) (by decide) rfl ?_
                  refine r_goto (pc := 201) (tgt := 48) dX11_measures_201 (by decide) ?_
                  refine r_sub (L2 := [(4, (.int (iI (((i + 1 : Nat) : Int))))), (3, (.int (iI (((s : Nat) : Int))))), (2, (.int (iI (((2 ^ n - 1 : Nat) : Int))))), (0, (.ref 164)), (1, (.int (iI (((b : Nat) : Int)))))]) [0, 2, 3, 4, 5] rfl ?_
                  exact ih2 (n - (i + 1)) (by omega) (i + 1) (by omega) (by omega) _ (fun q h1 h2 => by rw [stF_n _ _ _ h1, stF_n _ _ _ h2]; exact hF1 q h1 h2) (fun u hu1 hu2 => rdi (by omega) (rdn (by decide) (hL1 u hu1 hu2))) (fun u hu1 hu2 => rdn (by decide) (rdi (by omega) (hW1 u hu1 hu2))) (by rw [msS_y hnall hmw]; unfold lkS; rw [if_pos (by omega)]; exact ⟨stF_s _ _ _ _, rdn (by decide) (stF_s _ _ _ _)⟩) hk
                · refine r_iload (pc := 146) 0 dX11_measures_146 rfl ?_
                  refine r_aload_n (pc := 148) 4 dX11_measures_148 rfl rfl ?_
                  refine r_getR (pc := 149) (b := 182) dX11_measures_149 fl_X11_70 rfl hM.k hM.r30 ?_
                  refine r_iload_n (pc := 152) 2 dX11_measures_152 rfl rfl ?_
                  refine r_ialdv (pc := 153) (w := (msS (fun s i => (nxM wt n s).testBit i) (coV K wa b (K 40) (K 41) (bk 0) (bk 1) n a2) (decide (b = 1)) n s i).1) dX11_measures_153 hM.a30 (by omega) (by decide) (hcu.1) ?_
                  refine r_icmp_ne (pc := 154) (tgt := 178) dX11_measures_154 (by decide) (by omega) (by omega) (fun c_154 => ?_) (fun c_154 => ?_)
                  · refine r_aload_n (pc := 178) 4 dX11_measures_178 rfl rfl ?_
                    refine r_getR (pc := 179) (b := 183) dX11_measures_179 fl_X11_73 rfl hM.k hM.r31 ?_
                    refine r_iload_n (pc := 182) 2 dX11_measures_182 rfl rfl ?_
                    refine r_iconst (pc := 183) dX11_measures_183 ?_
                    refine r_iload (pc := 184) 1 dX11_measures_184 rfl ?_
                    refine r_ishl (pc := 186) (w := ((2 ^ i : Nat) : Int)) dX11_measures_186  (iI_shl1 (by omega)) ?_
                    refine r_ior (pc := 187) (w := ((s ||| (2 ^ i) : Nat) : Int)) dX11_measures_187  (iI_or _ _) ?_
                    refine r_ialdv (pc := 188) (w := ((tbW (fun s i => (nxM wt n s).testBit i) (coV K wa b (K 40) (K 41) (bk 0) (bk 1) n a2) (decide (b = 1)) n (s ||| 2 ^ i) : Nat) : Int)) dX11_measures_188 hM.a31 (by omega) (by decide) (hW1 _ (or_gt c_64.1) (or_lt hs (by omega))) ?_
                    refine r_iastv (pc := 189) (i := s) dX11_measures_189 hM.a31 (by omega) (by decide) rfl ?_
                    refine r_aload_n (pc := 190) 4 dX11_measures_190 rfl rfl ?_
                    refine r_getR (pc := 191) (b := 182) dX11_measures_191 fl_X11_70 rfl hM.k hM.r30 ?_
                    refine r_iload_n (pc := 194) 2 dX11_measures_194 rfl rfl ?_
                    refine r_iload (pc := 195) 0 dX11_measures_195 rfl ?_
                    refine r_iastv (pc := 197) (i := s) dX11_measures_197 hM.a30 (by omega) (by decide) rfl ?_
                    refine r_iincv (pc := 198) (y := ((i + 1 : Nat) : Int)) (L2 := [(4, (.int (iI (((i + 1 : Nat) : Int))))), (5, (.int (iI (jnB (decide (b = 1)) ((coV K wa b (K 40) (K 41) (bk 0) (bk 1) n a2) s i) (tbL (fun s i => (nxM wt n s).testBit i) (coV K wa b (K 40) (K 41) (bk 0) (bk 1) n a2) (decide (b = 1)) n (s ||| 2 ^ i)))))), (3, (.int (iI (((s : Nat) : Int))))), (2, (.int (iI (((2 ^ n - 1 : Nat) : Int))))), (0, (.ref 164)), (1, (.int (iI (((b : Nat) : Int)))))]) 1 dX11_measures_198 rfl (by omega) (by decide) rfl ?_
                    refine r_goto (pc := 201) (tgt := 48) dX11_measures_201 (by decide) ?_
                    refine r_sub (L2 := [(4, (.int (iI (((i + 1 : Nat) : Int))))), (3, (.int (iI (((s : Nat) : Int))))), (2, (.int (iI (((2 ^ n - 1 : Nat) : Int))))), (0, (.ref 164)), (1, (.int (iI (((b : Nat) : Int)))))]) [0, 2, 3, 4, 5] rfl ?_
                    exact ih2 (n - (i + 1)) (by omega) (i + 1) (by omega) (by omega) _ (fun q h1 h2 => by rw [stF_n _ _ _ h1, stF_n _ _ _ h2]; exact hF1 q h1 h2) (fun u hu1 hu2 => rdi (by omega) (rdn (by decide) (hL1 u hu1 hu2))) (fun u hu1 hu2 => rdn (by decide) (rdi (by omega) (hW1 u hu1 hu2))) (by rw [msS_y hnall hmw]; unfold lkS; rw [if_pos (by omega)]; exact ⟨stF_s _ _ _ _, rdn (by decide) (stF_s _ _ _ _)⟩) hk
                  · refine r_aload_n (pc := 157) 4 dX11_measures_157 rfl rfl ?_
                    refine r_getR (pc := 158) (b := 183) dX11_measures_158 fl_X11_73 rfl hM.k hM.r31 ?_
                    refine r_iload_n (pc := 161) 2 dX11_measures_161 rfl rfl ?_
                    refine r_ialdv (pc := 162) (w := (((msS (fun s i => (nxM wt n s).testBit i) (coV K wa b (K 40) (K 41) (bk 0) (bk 1) n a2) (decide (b = 1)) n s i).2 : Nat) : Int)) dX11_measures_162 hM.a31 (by omega) (by decide) (hcu.2) ?_
                    refine r_aload_n (pc := 163) 4 dX11_measures_163 rfl rfl ?_
                    refine r_getR (pc := 164) (b := 183) dX11_measures_164 fl_X11_73 rfl hM.k hM.r31 ?_
                    refine r_iload_n (pc := 167) 2 dX11_measures_167 rfl rfl ?_
                    refine r_iconst (pc := 168) dX11_measures_168 ?_
                    refine r_iload (pc := 169) 1 dX11_measures_169 rfl ?_
                    refine r_ishl (pc := 171) (w := ((2 ^ i : Nat) : Int)) dX11_measures_171  (iI_shl1 (by omega)) ?_
                    refine r_ior (pc := 172) (w := ((s ||| (2 ^ i) : Nat) : Int)) dX11_measures_172  (iI_or _ _) ?_
                    refine r_ialdv (pc := 173) (w := ((tbW (fun s i => (nxM wt n s).testBit i) (coV K wa b (K 40) (K 41) (bk 0) (bk 1) n a2) (decide (b = 1)) n (s ||| 2 ^ i) : Nat) : Int)) dX11_measures_173 hM.a31 (by omega) (by decide) (hW1 _ (or_gt c_64.1) (or_lt hs (by omega))) ?_
                    refine r_iadd (pc := 174) dX11_measures_174 ?_
                    refine r_eqI (y := ((((msS (fun s i => (nxM wt n s).testBit i) (coV K wa b (K 40) (K 41) (bk 0) (bk 1) n a2) (decide (b = 1)) n s i).2) + (tbW (fun s i => (nxM wt n s).testBit i) (coV K wa b (K 40) (K 41) (bk 0) (bk 1) n a2) (decide (b = 1)) n (s ||| 2 ^ i)) : Nat) : Int)) (Int.natCast_add _ _ |>.symm) ?_
                    refine r_goto (pc := 175) (tgt := 189) dX11_measures_175 (by decide) ?_
                    refine r_iastv (pc := 189) (i := s) dX11_measures_189 hM.a31 (by omega) (by decide) rfl ?_
                    refine r_aload_n (pc := 190) 4 dX11_measures_190 rfl rfl ?_
                    refine r_getR (pc := 191) (b := 182) dX11_measures_191 fl_X11_70 rfl hM.k hM.r30 ?_
                    refine r_iload_n (pc := 194) 2 dX11_measures_194 rfl rfl ?_
                    refine r_iload (pc := 195) 0 dX11_measures_195 rfl ?_
                    refine r_iastv (pc := 197) (i := s) dX11_measures_197 hM.a30 (by omega) (by decide) rfl ?_
                    refine r_iincv (pc := 198) (y := ((i + 1 : Nat) : Int)) (L2 := [(4, (.int (iI (((i + 1 : Nat) : Int))))), (5, (.int (iI (jnB (decide (b = 1)) ((coV K wa b (K 40) (K 41) (bk 0) (bk 1) n a2) s i) (tbL (fun s i => (nxM wt n s).testBit i) (coV K wa b (K 40) (K 41) (bk 0) (bk 1) n a2) (decide (b = 1)) n (s ||| 2 ^ i)))))), (3, (.int (iI (((s : Nat) : Int))))), (2, (.int (iI (((2 ^ n - 1 : Nat) : Int))))), (0, (.ref 164)), (1, (.int (iI (((b : Nat) : Int)))))]) 1 dX11_measures_198 rfl (by omega) (by decide) rfl ?_
                    refine r_goto (pc := 201) (tgt := 48) dX11_measures_201 (by decide) ?_
                    refine r_sub (L2 := [(4, (.int (iI (((i + 1 : Nat) : Int))))), (3, (.int (iI (((s : Nat) : Int))))), (2, (.int (iI (((2 ^ n - 1 : Nat) : Int))))), (0, (.ref 164)), (1, (.int (iI (((b : Nat) : Int)))))]) [0, 2, 3, 4, 5] rfl ?_
                    exact ih2 (n - (i + 1)) (by omega) (i + 1) (by omega) (by omega) _ (fun q h1 h2 => by rw [stF_n _ _ _ h1, stF_n _ _ _ h2]; exact hF1 q h1 h2) (fun u hu1 hu2 => rdi (by omega) (rdn (by decide) (hL1 u hu1 hu2))) (fun u hu1 hu2 => rdn (by decide) (rdi (by omega) (hW1 u hu1 hu2))) (by rw [msS_y hnall hmw]; unfold lkS; rw [if_neg (by omega), if_pos (by omega)]; exact ⟨(stF_s _ _ _ _).trans (by omega), rdn (by decide) (stF_s _ _ _ _)⟩) hk
              · refine r_goto (pc := 129) (tgt := 198) dX11_measures_129 (by decide) ?_
                refine r_iincv (pc := 198) (y := ((i + 1 : Nat) : Int)) (L2 := [(4, (.int (iI (((i + 1 : Nat) : Int))))), (5, (.int (iI (jnB (decide (b = 1)) ((coV K wa b (K 40) (K 41) (bk 0) (bk 1) n a2) s i) (tbL (fun s i => (nxM wt n s).testBit i) (coV K wa b (K 40) (K 41) (bk 0) (bk 1) n a2) (decide (b = 1)) n (s ||| 2 ^ i)))))), (3, (.int (iI (((s : Nat) : Int))))), (2, (.int (iI (((2 ^ n - 1 : Nat) : Int))))), (0, (.ref 164)), (1, (.int (iI (((b : Nat) : Int)))))]) 1 dX11_measures_198 rfl (by omega) (by decide) rfl ?_
                refine r_goto (pc := 201) (tgt := 48) dX11_measures_201 (by decide) ?_
                refine r_sub (L2 := [(4, (.int (iI (((i + 1 : Nat) : Int))))), (3, (.int (iI (((s : Nat) : Int))))), (2, (.int (iI (((2 ^ n - 1 : Nat) : Int))))), (0, (.ref 164)), (1, (.int (iI (((b : Nat) : Int)))))]) [0, 2, 3, 4, 5] rfl ?_
                exact ih2 (n - (i + 1)) (by omega) (i + 1) (by omega) (by omega) f1 hF1 hL1 hW1 (by rw [msS_y hnall hmw]; unfold lkS; rw [if_neg (by omega), if_neg (by omega)]; exact hcu) hk
          · refine r_goto (pc := 81) (tgt := 198) dX11_measures_81 (by decide) ?_
            refine r_iincv (pc := 198) (y := ((i + 1 : Nat) : Int)) (L2 := [(4, (.int (iI (((i + 1 : Nat) : Int))))), (3, (.int (iI (((s : Nat) : Int))))), (2, (.int (iI (((2 ^ n - 1 : Nat) : Int))))), (0, (.ref 164)), (1, (.int (iI (((b : Nat) : Int)))))]) 0 dX11_measures_198 rfl (by omega) (by decide) rfl ?_
            refine r_goto (pc := 201) (tgt := 48) dX11_measures_201 (by decide) ?_
            refine r_sub (L2 := [(4, (.int (iI (((i + 1 : Nat) : Int))))), (3, (.int (iI (((s : Nat) : Int))))), (2, (.int (iI (((2 ^ n - 1 : Nat) : Int))))), (0, (.ref 164)), (1, (.int (iI (((b : Nat) : Int)))))]) [0, 1, 2, 3, 4] rfl ?_
            exact ih2 (n - (i + 1)) (by omega) (i + 1) (by omega) (by omega) f1 hF1 hL1 hW1 (by rw [msS_n (may := (fun s i => (nxM wt n s).testBit i)) (fun h => by have := h.2; omega)]; exact hcu) hk
  have outer : ∀ m k : Nat, m = k → k ≤ 2 ^ n → ∀ f1 : Fm, (∀ q, q ≠ 182 → q ≠ 183 → f1 q = f q) → (∀ u, k ≤ u → u < 2 ^ n → f1 182 u = tbL (fun s i => (nxM wt n s).testBit i) (coV K wa b (K 40) (K 41) (bk 0) (bk 1) n a2) (decide (b = 1)) n u) → (∀ u, k ≤ u → u < 2 ^ n → f1 183 u = ((tbW (fun s i => (nxM wt n s).testBit i) (coV K wa b (K 40) (K 41) (bk 0) (bk 1) n a2) (decide (b = 1)) n u : Nat) : Int)) → PW l z (d + 4) mX11_measures 0 0 (fun r g' f' => r = none ∧ g = g' ∧ (∀ q, q ≠ 182 → q ≠ 183 → f' q = f q) ∧ ∀ u, u < 2 ^ n → f' 182 u = tbL (fun s i => (nxM wt n s).testBit i) (coV K wa b (K 40) (K 41) (bk 0) (bk 1) n a2) (decide (b = 1)) n u ∧ f' 183 u = ((tbW (fun s i => (nxM wt n s).testBit i) (coV K wa b (K 40) (K 41) (bk 0) (bk 1) n a2) (decide (b = 1)) n u : Nat) : Int)) 7 [(3, (.int (iI (((k : Nat) : Int) - 1)))), (2, (.int (iI (((2 ^ n - 1 : Nat) : Int))))), (0, (.ref 164)), (1, (.int (iI (((b : Nat) : Int)))))] [] g f1 0 0 := by
    intro m
    induction m using Nat.strongRecOn with
    | _ m ih =>
      intro k hm hk f1 hF1 hL1 hW1
      have hD1 : MD f1 n ov wa wt bk := hD.mv (hF1 166 (by decide) (by decide)) (hF1 176 (by decide) (by decide)) (hF1 177 (by decide) (by decide)) (hF1 178 (by decide) (by decide))
      refine r_iload_n (pc := 7) 0 dX11_measures_7 rfl rfl ?_
      refine r_if_lt (pc := 8) (tgt := 210) dX11_measures_8 (by decide) (by omega) (fun c_8 => ?_) (fun c_8 => ?_)
      · have hk0 : k = 0 := by omega
        subst hk0
        exact r_vret (pc := 210) dX11_measures_210 rfl ⟨rfl, rfl, hF1, fun u hu => ⟨hL1 u (by omega) hu, hW1 u (by omega) hu⟩⟩
      · obtain ⟨s, rfl⟩ : ∃ s, k = s + 1 := ⟨k - 1, by omega⟩
        have hs : s < 2 ^ n := by omega
        refine r_sub (L2 := [(3, (.int (iI (((s : Nat) : Int))))), (2, (.int (iI (((2 ^ n - 1 : Nat) : Int))))), (0, (.ref 164)), (1, (.int (iI (((b : Nat) : Int)))))]) [0, 1, 2, 3] (by rw [show ((s : Nat) : Int) = ((s + 1 : Nat) : Int) - 1 by omega]; rfl) ?_
        refine r_aload_n (pc := 11) 2 dX11_measures_11 rfl rfl ?_
        refine r_getR (pc := 12) (b := 182) dX11_measures_12 fl_X11_70 rfl hM.k hM.r30 ?_
        refine r_iload_n (pc := 15) 0 dX11_measures_15 rfl rfl ?_
        refine r_iload_n (pc := 16) 0 dX11_measures_16 rfl rfl ?_
        refine r_iload_n (pc := 17) 1 dX11_measures_17 rfl rfl ?_
        refine r_icmp_ne (pc := 18) (tgt := 25) dX11_measures_18 (by decide) (by omega) (by omega) (fun c_18 => ?_) (fun c_18 => ?_)
        · refine r_ldcw (pc := 25) (x := 1000000000) dX11_measures_25 kc_X11_314 (by decide) ?_
          refine r_iastv (pc := 28) (i := s) dX11_measures_28 hM.a30 (by omega) (by decide) rfl ?_
          refine r_aload_n (pc := 29) 2 dX11_measures_29 rfl rfl ?_
          refine r_getR (pc := 30) (b := 183) dX11_measures_30 fl_X11_73 rfl hM.k hM.r31 ?_
          refine r_iload_n (pc := 33) 0 dX11_measures_33 rfl rfl ?_
          refine r_iload_n (pc := 34) 0 dX11_measures_34 rfl rfl ?_
          refine r_iload_n (pc := 35) 1 dX11_measures_35 rfl rfl ?_
          refine r_icmp_ne (pc := 36) (tgt := 43) dX11_measures_36 (by decide) (by omega) (by omega) (fun c_36 => ?_) (fun c_36 => ?_)
          · refine r_iconst (pc := 43) dX11_measures_43 ?_
            refine r_iastv (pc := 44) (i := s) dX11_measures_44 hM.a31 (by omega) (by decide) rfl ?_
            refine r_iconst (pc := 45) dX11_measures_45 ?_
            refine r_istore (pc := 46) (L2 := [(4, (.int (iI (0)))), (3, (.int (iI (((s : Nat) : Int))))), (2, (.int (iI (((2 ^ n - 1 : Nat) : Int))))), (0, (.ref 164)), (1, (.int (iI (((b : Nat) : Int)))))]) dX11_measures_46 (by decide) rfl ?_
            refine r_sub (L2 := [(4, (.int (iI (((0 : Nat) : Int))))), (3, (.int (iI (((s : Nat) : Int))))), (2, (.int (iI (((2 ^ n - 1 : Nat) : Int))))), (0, (.ref 164)), (1, (.int (iI (((b : Nat) : Int)))))]) [0, 1, 2, 3, 4] rfl ?_
            refine inner s hs (fun _ _ _ => trivial) (fun _ _ _ => trivial) n 0 (by omega) (by omega) _ (fun q h1 h2 => by rw [stF_n _ _ _ h2, stF_n _ _ _ h1]; exact hF1 q h1 h2) (fun u hu1 hu2 => rdn (by decide) (rdi (by omega) (hL1 u (by omega) hu2))) (fun u hu1 hu2 => rdi (by omega) (rdn (by decide) (hW1 u (by omega) hu2))) ?_ (fun f2 k1 k2 k3 => ih s (by omega) s rfl (by omega) f2 k1 k2 k3)
            unfold msS; rw [if_neg (show ¬ s = 2 ^ n - 1 by omega)]; exact ⟨rdn (by decide) (stF_s _ _ _ _), stF_s _ _ _ _⟩
          · refine r_iconst (pc := 39) dX11_measures_39 ?_
            refine r_goto (pc := 40) (tgt := 44) dX11_measures_40 (by decide) ?_
            refine r_iastv (pc := 44) (i := s) dX11_measures_44 hM.a31 (by omega) (by decide) rfl ?_
            refine r_iconst (pc := 45) dX11_measures_45 ?_
            refine r_istore (pc := 46) (L2 := [(4, (.int (iI (0)))), (3, (.int (iI (((s : Nat) : Int))))), (2, (.int (iI (((2 ^ n - 1 : Nat) : Int))))), (0, (.ref 164)), (1, (.int (iI (((b : Nat) : Int)))))]) dX11_measures_46 (by decide) rfl ?_
            exfalso; omega
        · refine r_iconst (pc := 21) dX11_measures_21 ?_
          refine r_goto (pc := 22) (tgt := 28) dX11_measures_22 (by decide) ?_
          refine r_iastv (pc := 28) (i := s) dX11_measures_28 hM.a30 (by omega) (by decide) rfl ?_
          refine r_aload_n (pc := 29) 2 dX11_measures_29 rfl rfl ?_
          refine r_getR (pc := 30) (b := 183) dX11_measures_30 fl_X11_73 rfl hM.k hM.r31 ?_
          refine r_iload_n (pc := 33) 0 dX11_measures_33 rfl rfl ?_
          refine r_iload_n (pc := 34) 0 dX11_measures_34 rfl rfl ?_
          refine r_iload_n (pc := 35) 1 dX11_measures_35 rfl rfl ?_
          refine r_icmp_ne (pc := 36) (tgt := 43) dX11_measures_36 (by decide) (by omega) (by omega) (fun c_36 => ?_) (fun c_36 => ?_)
          · refine r_iconst (pc := 43) dX11_measures_43 ?_
            refine r_iastv (pc := 44) (i := s) dX11_measures_44 hM.a31 (by omega) (by decide) rfl ?_
            refine r_iconst (pc := 45) dX11_measures_45 ?_
            refine r_istore (pc := 46) (L2 := [(4, (.int (iI (0)))), (3, (.int (iI (((s : Nat) : Int))))), (2, (.int (iI (((2 ^ n - 1 : Nat) : Int))))), (0, (.ref 164)), (1, (.int (iI (((b : Nat) : Int)))))]) dX11_measures_46 (by decide) rfl ?_
            exfalso; omega
          · refine r_iconst (pc := 39) dX11_measures_39 ?_
            refine r_goto (pc := 40) (tgt := 44) dX11_measures_40 (by decide) ?_
            refine r_iastv (pc := 44) (i := s) dX11_measures_44 hM.a31 (by omega) (by decide) rfl ?_
            refine r_iconst (pc := 45) dX11_measures_45 ?_
            refine r_istore (pc := 46) (L2 := [(4, (.int (iI (0)))), (3, (.int (iI (((s : Nat) : Int))))), (2, (.int (iI (((2 ^ n - 1 : Nat) : Int))))), (0, (.ref 164)), (1, (.int (iI (((b : Nat) : Int)))))]) dX11_measures_46 (by decide) rfl ?_
            refine r_sub (L2 := [(4, (.int (iI (((0 : Nat) : Int))))), (3, (.int (iI (((s : Nat) : Int))))), (2, (.int (iI (((2 ^ n - 1 : Nat) : Int))))), (0, (.ref 164)), (1, (.int (iI (((b : Nat) : Int)))))]) [0, 1, 2, 3, 4] rfl ?_
            refine inner s hs (fun _ _ _ => trivial) (fun _ _ _ => trivial) n 0 (by omega) (by omega) _ (fun q h1 h2 => by rw [stF_n _ _ _ h2, stF_n _ _ _ h1]; exact hF1 q h1 h2) (fun u hu1 hu2 => rdn (by decide) (rdi (by omega) (hL1 u (by omega) hu2))) (fun u hu1 hu2 => rdi (by omega) (rdn (by decide) (hW1 u (by omega) hu2))) ?_ (fun f2 k1 k2 k3 => ih s (by omega) s rfl (by omega) f2 k1 k2 k3)
            unfold msS; rw [if_pos (show s = 2 ^ n - 1 by omega)]; exact ⟨rdn (by decide) (stF_s _ _ _ _), stF_s _ _ _ _⟩
  refine r_aload_n (pc := 0) 0 dX11_measures_0 rfl rfl ?_
  refine r_callV (pc := 1) (As := []) (S := []) dX11_measures_1 cv_X11_302 hM.k rfl (Nat.le_of_ble_eq_true rfl) (m_everyone (n := n) l z _ hM (hD.n) hn8) (Nat.zero_le _) (Nat.zero_le _) (fun r_1 g_1 f_1 q_1 => ?_)
  obtain ⟨rfl, rfl, rfl⟩ := q_1
  refine r_eqI (y := ((2 ^ n - 1 : Nat) : Int)) (by omega) ?_
  refine r_istore_n (pc := 4) (L2 := [(2, (.int (iI (((2 ^ n - 1 : Nat) : Int))))), (0, (.ref 164)), (1, (.int (iI (((b : Nat) : Int)))))]) dX11_measures_4 rfl (by decide) rfl ?_
  refine r_iload_n (pc := 5) 0 dX11_measures_5 rfl rfl ?_
  refine r_istore_n (pc := 6) (L2 := [(3, (.int (iI (((2 ^ n - 1 : Nat) : Int))))), (2, (.int (iI (((2 ^ n - 1 : Nat) : Int))))), (0, (.ref 164)), (1, (.int (iI (((b : Nat) : Int)))))]) dX11_measures_6 rfl (by decide) rfl ?_
  refine r_sub (L2 := [(3, (.int (iI (((2 ^ n : Nat) : Int) - 1)))), (2, (.int (iI (((2 ^ n - 1 : Nat) : Int))))), (0, (.ref 164)), (1, (.int (iI (((b : Nat) : Int)))))]) [0, 1, 2, 3] (by rw [show ((2 ^ n : Nat) : Int) - 1 = ((2 ^ n - 1 : Nat) : Int) by omega]; rfl) ?_
  exact outer (2 ^ n) (2 ^ n) rfl (by omega) f (fun _ _ _ => rfl) (fun u hu1 hu2 => absurd hu1 (by omega)) (fun u hu1 hu2 => absurd hu1 (by omega))

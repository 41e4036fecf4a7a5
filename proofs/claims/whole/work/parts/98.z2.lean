theorem gv01 {v : Int} {P : Prop} [Decidable P] (h01 : v = 0 ∨ v = 1) (h : v = 1 ↔ P) : v = b01 P := by
  by_cases p : P
  · rw [b01_t p]; exact h.mpr p
  · rw [b01_f p]
    rcases h01 with q | q
    · exact q
    · exact absurd (h.mp q) p

set_option maxRecDepth 100000 in
set_option maxHeartbeats 4000000 in
theorem m_families (l : Launch) (z : Zv) (d : Nat) {g : Gm} {f : Fm} {n a2 : Nat} {ov wa wt bk : Nat → Nat} {dz lp : Int} (hM : ML g) (hD : MD f n ov wa wt bk) (ha : ∀ k, k < n → a2.testBit k = decide (ov k ≠ 0)) (hdz : f 166 40 = dz) (hlp : f 166 41 = lp) (h0 : 2 ≤ dz ∧ dz ≤ 20) (h1 : 0 ≤ lp ∧ lp ≤ 9) {dy : Nat} (hdy : dy < 30) : PM l z (d + 3) mX11_families [.ref 164, .int (iI ((dy : Nat) : Int))] g f 0 0 (fun r g' f' => r = none ∧ g = g' ∧ (∀ q, q ≠ 185 → q ≠ 186 → f' q = f q) ∧ (∀ k, k < 256 * dy ∨ 256 * dy + 256 ≤ k → f' 185 k = f 185 k) ∧ ∀ x, x < 2 ^ n → f' 185 (256 * dy + x) = b01 (rW (fun s i => (nxM wt n s).testBit i) (fun s i => decide (0 < gnV dz lp (bk 0) (bk 1) wa n a2 s i)) n (2 ^ n - 1) x = true)) := by
  have hn8 := hD.n8
  have hp8 := pow8 hn8
  refine PM.of (by decide +kernel) (Nat.le_of_ble_eq_true rfl) ?_
  have Le : ∀ f1 : Fm, (∀ q, q ≠ 186 → f1 q = f q) → (∀ x, x < 2 ^ n → f1 186 (256 * (2 ^ n - 1) + x) = b01 (rW (fun s i => (nxM wt n s).testBit i) (fun s i => decide (0 < gnV dz lp (bk 0) (bk 1) wa n a2 s i)) n (2 ^ n - 1) x = true)) → ∀ m x : Nat, m = 2 ^ n - x → x ≤ 2 ^ n → ∀ f4 : Fm, (∀ q, q ≠ 185 → f4 q = f1 q) → (∀ k, k < 256 * dy ∨ 256 * dy + 256 ≤ k → f4 185 k = f1 185 k) → (∀ q, q < x → f4 185 (256 * dy + q) = b01 (rW (fun s i => (nxM wt n s).testBit i) (fun s i => decide (0 < gnV dz lp (bk 0) (bk 1) wa n a2 s i)) n (2 ^ n - 1) q = true)) → PW l z (d + 3) mX11_families 0 0 (fun r g' f' => r = none ∧ g = g' ∧ (∀ q, q ≠ 185 → q ≠ 186 → f' q = f q) ∧ (∀ k, k < 256 * dy ∨ 256 * dy + 256 ≤ k → f' 185 k = f 185 k) ∧ ∀ x, x < 2 ^ n → f' 185 (256 * dy + x) = b01 (rW (fun s i => (nxM wt n s).testBit i) (fun s i => decide (0 < gnV dz lp (bk 0) (bk 1) wa n a2 s i)) n (2 ^ n - 1) x = true)) 162 [(3, (.int (iI (((x : Nat) : Int))))), (2, (.int (iI (((2 ^ n - 1 : Nat) : Int))))), (0, (.ref 164)), (1, (.int (iI (((dy : Nat) : Int)))))] [] g f4 0 0 := by
    intro f1 hF1 hG m
    induction m using Nat.strongRecOn with
    | _ m ih_Le =>
      intro x hm hx0 f4 hF4 hO4 hR4
      refine r_iload_n (pc := 162) 0 dX11_families_162 rfl rfl ?_
      refine r_iload_n (pc := 163) 1 dX11_families_163 rfl rfl ?_
      refine r_icmp_gt (pc := 164) (tgt := 197) dX11_families_164 (by decide) (by omega) (by omega) (fun c_164 => ?_) (fun c_164 => ?_)
      · exact r_vret (pc := 197) dX11_families_197 rfl ⟨rfl, rfl, fun q h1 h2 => (hF4 q h1).trans (hF1 q h2), fun k hk => (hO4 k (by omega)).trans (congrFun (hF1 185 (by decide)) k), fun x hx => hR4 x (by omega)⟩
      · refine r_aload_n (pc := 167) 2 dX11_families_167 rfl rfl ?_
        refine r_getR (pc := 168) (b := 185) dX11_families_168 fl_X11_79 rfl hM.k hM.r33 ?_
        refine r_sipush (pc := 171) dX11_families_171 (by decide) ?_
        refine r_iload_n (pc := 174) 3 dX11_families_174 rfl rfl ?_
        refine r_imul (pc := 175) dX11_families_175 ?_
        refine r_eqI (y := ((256 * dy : Nat) : Int)) (Int.natCast_mul _ _ |>.symm) ?_
        refine r_iload_n (pc := 176) 0 dX11_families_176 rfl rfl ?_
        refine r_iadd (pc := 177) dX11_families_177 ?_
        refine r_eqI (y := ((256 * dy + x : Nat) : Int)) (by omega) ?_
        refine r_aload_n (pc := 178) 2 dX11_families_178 rfl rfl ?_
        refine r_getR (pc := 179) (b := 186) dX11_families_179 fl_X11_83 rfl hM.k hM.r34 ?_
        refine r_sipush (pc := 182) dX11_families_182 (by decide) ?_
        refine r_iload_n (pc := 185) 1 dX11_families_185 rfl rfl ?_
        refine r_imul (pc := 186) dX11_families_186 ?_
        refine r_eqI (y := ((256 * (2 ^ n - 1) : Nat) : Int)) (Int.natCast_mul _ _ |>.symm) ?_
        refine r_iload_n (pc := 187) 0 dX11_families_187 rfl rfl ?_
        refine r_iadd (pc := 188) dX11_families_188 ?_
        refine r_eqI (y := ((256 * (2 ^ n - 1) + x : Nat) : Int)) (by omega) ?_
        refine r_zaldv (pc := 189) (w := b01 (rW (fun s i => (nxM wt n s).testBit i) (fun s i => decide (0 < gnV dz lp (bk 0) (bk 1) wa n a2 s i)) n (2 ^ n - 1) x = true)) dX11_families_189 hM.a34 (by omega) (by decide) (by rw [hF4 186 (by decide)]; exact hG x (by omega)) ?_
        refine r_zastv (pc := 190) (i := 256 * dy + x) dX11_families_190 hM.a33 (by omega) (by decide) (by rcases b01_01 (p := rW (fun s i => (nxM wt n s).testBit i) (fun s i => decide (0 < gnV dz lp (bk 0) (bk 1) wa n a2 s i)) n (2 ^ n - 1) x = true) with q | q <;> rw [q] <;> decide) rfl ?_
        refine r_iincv (pc := 191) (y := ((x + 1 : Nat) : Int)) (L2 := [(3, (.int (iI (((x + 1 : Nat) : Int))))), (2, (.int (iI (((2 ^ n - 1 : Nat) : Int))))), (0, (.ref 164)), (1, (.int (iI (((dy : Nat) : Int)))))]) 0 dX11_families_191 rfl (by omega) (by decide) rfl ?_
        refine r_goto (pc := 194) (tgt := 162) dX11_families_194 (by decide) ?_
        refine r_sub (L2 := [(3, (.int (iI (((x + 1 : Nat) : Int))))), (2, (.int (iI (((2 ^ n - 1 : Nat) : Int))))), (0, (.ref 164)), (1, (.int (iI (((dy : Nat) : Int)))))]) [0, 1, 2, 3] rfl ?_
        exact ih_Le (2 ^ n - (x + 1)) (by omega) (x + 1) (by omega) (by omega) _ (fun q hq => by rw [stF_n _ _ _ hq]; exact hF4 q hq) (fun k hk => by rw [stF_i _ _ _ (by omega)]; exact hO4 k hk) (fun q hq => by rcases Nat.lt_succ_iff_lt_or_eq.mp hq with h | h; exact rdi (by omega) (hR4 q h); subst h; exact stF_s _ _ _ _)
  have Lc : ∀ s, s < 2 ^ n → ∀ m e : Nat, m = e → (0 < e → subP (e - 1) s) → e ≤ 2 ^ n → ∀ f1 : Fm, (∀ q, q ≠ 186 → f1 q = f q) → (∀ t, t < 2 ^ n → ∀ x, x < 256 → f1 186 (256 * t + x) = 0 ∨ f1 186 (256 * t + x) = 1) → (∀ t, t < 2 ^ n → ∀ x, x < 256 → (f1 186 (256 * t + x) = 1 ↔ (ptG (fun s i => (nxM wt n s).testBit i) (fun s i => decide (0 < gnV dz lp (bk 0) (bk 1) wa n a2 s i)) n s (fun w d => e ≤ w)) t x)) → (∀ f1 : Fm, (∀ q, q ≠ 186 → f1 q = f q) → (∀ t, t < 2 ^ n → ∀ x, x < 256 → f1 186 (256 * t + x) = 0 ∨ f1 186 (256 * t + x) = 1) → (∀ t, t < 2 ^ n → ∀ x, x < 256 → (f1 186 (256 * t + x) = 1 ↔ (ptP (fun s i => (nxM wt n s).testBit i) (fun s i => decide (0 < gnV dz lp (bk 0) (bk 1) wa n a2 s i)) n (s + 1) 0) t x)) → PW l z (d + 3) mX11_families 0 0 (fun r g' f' => r = none ∧ g = g' ∧ (∀ q, q ≠ 185 → q ≠ 186 → f' q = f q) ∧ (∀ k, k < 256 * dy ∨ 256 * dy + 256 ≤ k → f' 185 k = f 185 k) ∧ ∀ x, x < 2 ^ n → f' 185 (256 * dy + x) = b01 (rW (fun s i => (nxM wt n s).testBit i) (fun s i => decide (0 < gnV dz lp (bk 0) (bk 1) wa n a2 s i)) n (2 ^ n - 1) x = true)) 35 [(3, (.int (iI (((s + 1 : Nat) : Int))))), (2, (.int (iI (((2 ^ n - 1 : Nat) : Int))))), (0, (.ref 164)), (1, (.int (iI (((dy : Nat) : Int)))))] [] g f1 0 0) → PW l z (d + 3) mX11_families 0 0 (fun r g' f' => r = none ∧ g = g' ∧ (∀ q, q ≠ 185 → q ≠ 186 → f' q = f q) ∧ (∀ k, k < 256 * dy ∨ 256 * dy + 256 ≤ k → f' 185 k = f 185 k) ∧ ∀ x, x < 2 ^ n → f' 185 (256 * dy + x) = b01 (rW (fun s i => (nxM wt n s).testBit i) (fun s i => decide (0 < gnV dz lp (bk 0) (bk 1) wa n a2 s i)) n (2 ^ n - 1) x = true)) 43 [(4, (.int (iI (((e : Nat) : Int) - 1)))), (3, (.int (iI (((s : Nat) : Int))))), (2, (.int (iI (((2 ^ n - 1 : Nat) : Int))))), (0, (.ref 164)), (1, (.int (iI (((dy : Nat) : Int)))))] [] g f1 0 0 := by
    intro s hs m
    induction m using Nat.strongRecOn with
    | _ m ih_Lc =>
      intro e hm hsb he0 f1 hF1 hZ hB hk
      have hD1 : MD f1 n ov wa wt bk := hD.mv (hF1 166 (by decide)) (hF1 176 (by decide)) (hF1 177 (by decide)) (hF1 178 (by decide))
      have hmx : ∀ i, (fun s i => (nxM wt n s).testBit i) s i = true → ¬ s.testBit i = true := fun i h => nx_out2 h
      refine r_iload (pc := 43) 0 dX11_families_43 rfl ?_
      refine r_if_lt (pc := 45) (tgt := 154) dX11_families_45 (by decide) (by omega) (fun c_45 => ?_) (fun c_45 => ?_)
      · refine r_iincv (pc := 154) (y := ((s + 1 : Nat) : Int)) (L2 := [(3, (.int (iI (((s + 1 : Nat) : Int))))), (4, (.int (iI (((e : Nat) : Int) - 1)))), (2, (.int (iI (((2 ^ n - 1 : Nat) : Int))))), (0, (.ref 164)), (1, (.int (iI (((dy : Nat) : Int)))))]) 1 dX11_families_154 rfl (by omega) (by decide) rfl ?_
        refine r_goto (pc := 157) (tgt := 35) dX11_families_157 (by decide) ?_
        have he0 : e = 0 := by omega
        refine r_sub (L2 := [(3, (.int (iI (((s + 1 : Nat) : Int))))), (2, (.int (iI (((2 ^ n - 1 : Nat) : Int))))), (0, (.ref 164)), (1, (.int (iI (((dy : Nat) : Int)))))]) [0, 2, 3, 4] rfl ?_
        exact hk f1 hF1 hZ (fun t ht x hx => by rw [hB t ht x hx, ← ptG_all hmx hs]; exact ptG_c (fun w d _ _ _ => ⟨fun _ => trivial, fun _ => by omega⟩) t x)
      · obtain ⟨e, rfl⟩ : ∃ w, e = w + 1 := ⟨e - 1, by omega⟩
        have hsub : subP e s := hsb (by omega)
        have hes := sub_le hsub
        refine r_sub (L2 := [(4, (.int (iI (((e : Nat) : Int))))), (3, (.int (iI (((s : Nat) : Int))))), (2, (.int (iI (((2 ^ n - 1 : Nat) : Int))))), (0, (.ref 164)), (1, (.int (iI (((dy : Nat) : Int)))))]) [0, 1, 2, 3, 4] (by rw [show ((e : Nat) : Int) = ((e + 1 : Nat) : Int) - 1 by omega]; rfl) ?_
        refine r_aload_n (pc := 48) 3 dX11_families_48 rfl rfl ?_
        refine r_getR (pc := 49) (b := 186) dX11_families_49 fl_X11_83 rfl hM.k hM.r34 ?_
        refine r_sipush (pc := 52) dX11_families_52 (by decide) ?_
        refine r_iload_n (pc := 55) 1 dX11_families_55 rfl rfl ?_
        refine r_imul (pc := 56) dX11_families_56 ?_
        refine r_eqI (y := ((256 * s : Nat) : Int)) (Int.natCast_mul _ _ |>.symm) ?_
        refine r_iload (pc := 57) 0 dX11_families_57 rfl ?_
        refine r_iadd (pc := 59) dX11_families_59 ?_
        refine r_eqI (y := ((256 * s + e : Nat) : Int)) (by omega) ?_
        refine r_zaldv (pc := 60) (w := b01 (rW (fun s i => (nxM wt n s).testBit i) (fun s i => decide (0 < gnV dz lp (bk 0) (bk 1) wa n a2 s i)) n s e = true)) dX11_families_60 hM.a34 (by omega) (by decide) (gv01 (hZ s hs e (by omega)) ((hB s hs e (by omega)).trans (ptG_self hmx hs))) ?_
        refine r_if_ne (pc := 61) (tgt := 67) dX11_families_61 (by decide) (b01_r) (fun c_61 => ?_) (fun c_61 => ?_)
        · replace c_61 := b01_nz c_61
          refine r_iconst (pc := 67) dX11_families_67 ?_
          refine r_istore (pc := 68) (L2 := [(5, (.int (iI (0)))), (4, (.int (iI (((e : Nat) : Int))))), (3, (.int (iI (((s : Nat) : Int))))), (2, (.int (iI (((2 ^ n - 1 : Nat) : Int))))), (0, (.ref 164)), (1, (.int (iI (((dy : Nat) : Int)))))]) dX11_families_68 (by decide) rfl ?_
          have Ld : ∀ m c : Nat, m = n - c → c ≤ n → ∀ f1 : Fm, (∀ q, q ≠ 186 → f1 q = f q) → (∀ t, t < 2 ^ n → ∀ x, x < 256 → f1 186 (256 * t + x) = 0 ∨ f1 186 (256 * t + x) = 1) → (∀ t, t < 2 ^ n → ∀ x, x < 256 → (f1 186 (256 * t + x) = 1 ↔ (ptG (fun s i => (nxM wt n s).testBit i) (fun s i => decide (0 < gnV dz lp (bk 0) (bk 1) wa n a2 s i)) n s (fun w d => e + 1 ≤ w ∨ (w = e ∧ d < c))) t x)) → PW l z (d + 3) mX11_families 0 0 (fun r g' f' => r = none ∧ g = g' ∧ (∀ q, q ≠ 185 → q ≠ 186 → f' q = f q) ∧ (∀ k, k < 256 * dy ∨ 256 * dy + 256 ≤ k → f' 185 k = f 185 k) ∧ ∀ x, x < 2 ^ n → f' 185 (256 * dy + x) = b01 (rW (fun s i => (nxM wt n s).testBit i) (fun s i => decide (0 < gnV dz lp (bk 0) (bk 1) wa n a2 s i)) n (2 ^ n - 1) x = true)) 70 [(5, (.int (iI (((c : Nat) : Int))))), (4, (.int (iI (((e : Nat) : Int))))), (3, (.int (iI (((s : Nat) : Int))))), (2, (.int (iI (((2 ^ n - 1 : Nat) : Int))))), (0, (.ref 164)), (1, (.int (iI (((dy : Nat) : Int)))))] [] g f1 0 0 := by
            intro m
            induction m using Nat.strongRecOn with
            | _ m ih_Ld =>
              intro c hm3 hc0 f1 hF1 hZ hB
              have hD1 : MD f1 n ov wa wt bk := hD.mv (hF1 166 (by decide)) (hF1 176 (by decide)) (hF1 177 (by decide)) (hF1 178 (by decide))
              refine r_iload (pc := 70) 0 dX11_families_70 rfl ?_
              refine r_aload_n (pc := 72) 4 dX11_families_72 rfl rfl ?_
              refine r_callV (pc := 73) (As := []) (S := [(.int (iI (((c : Nat) : Int))))]) dX11_families_73 cv_X11_121 hM.k rfl (Nat.le_of_ble_eq_true rfl) (m_cust (v := ((n : Nat) : Int)) l z _ hM hD1.n) (Nat.zero_le _) (Nat.zero_le _) (fun r_73 g_73 f_73 q_73 => ?_)
              obtain ⟨rfl, rfl, rfl⟩ := q_73
              refine r_icmp_ge (pc := 76) (tgt := 134) dX11_families_76 (by decide) (by omega) (by omega) (fun c_76 => ?_) (fun c_76 => ?_)
              · have hcn : c = n := by omega
                rw [hcn] at hB
                refine r_iload (pc := 134) 1 dX11_families_134 rfl ?_
                refine r_if_ne (pc := 136) (tgt := 143) dX11_families_136 (by decide) (by omega) (fun c_136 => ?_) (fun c_136 => ?_)
                · refine r_iload (pc := 143) 1 dX11_families_143 rfl ?_
                  refine r_iconst (pc := 145) dX11_families_145 ?_
                  refine r_isub (pc := 146) dX11_families_146 ?_
                  refine r_eqI (y := ((e - 1 : Nat) : Int)) (by omega) ?_
                  refine r_iload_n (pc := 147) 2 dX11_families_147 rfl rfl ?_
                  refine r_iand (pc := 148) (w := ((((e - 1) &&& s) : Nat) : Int)) dX11_families_148  (by rw [← iI_and]) ?_
                  refine r_istore (pc := 149) (L2 := [(4, (.int (iI (((((e - 1) &&& s) : Nat) : Int))))), (5, (.int (iI (((c : Nat) : Int))))), (3, (.int (iI (((s : Nat) : Int))))), (2, (.int (iI (((2 ^ n - 1 : Nat) : Int))))), (0, (.ref 164)), (1, (.int (iI (((dy : Nat) : Int)))))]) dX11_families_149 (by decide) rfl ?_
                  refine r_goto (pc := 151) (tgt := 43) dX11_families_151 (by decide) ?_
                  have hal : (e - 1) &&& s ≤ e - 1 := Nat.and_le_left
                  refine r_sub (L2 := [(4, (.int (iI ((((((e - 1) &&& s) + 1) : Nat) : Int) - 1)))), (3, (.int (iI (((s : Nat) : Int))))), (2, (.int (iI (((2 ^ n - 1 : Nat) : Int))))), (0, (.ref 164)), (1, (.int (iI (((dy : Nat) : Int)))))]) [0, 2, 3, 4, 5] (by rw [show (((((e - 1) &&& s) + 1) : Nat) : Int) - 1 = ((((e - 1) &&& s) : Nat) : Int) by omega]; rfl) ?_
                  exact ih_Lc (((e - 1) &&& s) + 1) (by omega) (((e - 1) &&& s) + 1) rfl (fun _ => by show subP ((((e - 1) &&& s) + 1) - 1) s; rw [show (((e - 1) &&& s) + 1) - 1 = (e - 1) &&& s by omega]; exact subP_and _ _) (by omega) f1 hF1 hZ (fun t ht x hx => by
                    rw [hB t ht x hx]
                    refine ptG_c (fun w d hd hr hmm => ?_) t x
                    have hw := rW_sub (bc s n) s w rfl hs hr
                    exact ⟨fun q => by omega, fun q => by rcases (show w < e ∨ w = e ∨ e + 1 ≤ w by omega) with v | v | v; (have := sub_pred e s w hsub hw v; omega); exact Or.inr ⟨v, hd⟩; exact Or.inl v⟩) hk
                · refine r_iconst (pc := 139) dX11_families_139 ?_
                  refine r_goto (pc := 140) (tgt := 149) dX11_families_140 (by decide) ?_
                  refine r_istore (pc := 149) (L2 := [(4, (.int (iI (-1)))), (5, (.int (iI (((c : Nat) : Int))))), (3, (.int (iI (((s : Nat) : Int))))), (2, (.int (iI (((2 ^ n - 1 : Nat) : Int))))), (0, (.ref 164)), (1, (.int (iI (((dy : Nat) : Int)))))]) dX11_families_149 (by decide) rfl ?_
                  refine r_goto (pc := 151) (tgt := 43) dX11_families_151 (by decide) ?_
                  refine r_sub (L2 := [(4, (.int (iI (((0 : Nat) : Int) - 1)))), (3, (.int (iI (((s : Nat) : Int))))), (2, (.int (iI (((2 ^ n - 1 : Nat) : Int))))), (0, (.ref 164)), (1, (.int (iI (((dy : Nat) : Int)))))]) [0, 2, 3, 4, 5] (by rw [show ((0 : Nat) : Int) - 1 = -1 by omega]; rfl) ?_
                  exact ih_Lc 0 (by omega) 0 rfl (fun h => absurd h (by omega)) (by omega) f1 hF1 hZ (fun t ht x hx => by
                    rw [hB t ht x hx]
                    refine ptG_c (fun w d hd hr hmm => ?_) t x
                    have hw := rW_sub (bc s n) s w rfl hs hr
                    exact ⟨fun q => by omega, fun q => by rcases (show w = e ∨ e + 1 ≤ w by omega) with v | v; exact Or.inr ⟨v, hd⟩; exact Or.inl v⟩) hk
              · refine r_aload_n (pc := 79) 4 dX11_families_79 rfl rfl ?_
                refine r_iload_n (pc := 80) 2 dX11_families_80 rfl rfl ?_
                refine r_iload (pc := 81) 0 dX11_families_81 rfl ?_
                refine r_callV (pc := 83) (As := [(.int (iI (((s : Nat) : Int)))), (.int (iI (((c : Nat) : Int))))]) (S := []) dX11_families_83 cv_X11_305 hM.k rfl (Nat.le_of_ble_eq_true rfl) (m_mayNext (s := s) (c := c) l z _ hM hD1 (by omega) (by omega)) (Nat.zero_le _) (Nat.zero_le _) (fun r_83 g_83 f_83 q_83 => ?_)
                obtain ⟨rfl, rfl, rfl⟩ := q_83
                refine r_if_eq (pc := 86) (tgt := 128) dX11_families_86 (by decide) (b01_r) (fun c_86 => ?_) (fun c_86 => ?_)
                · replace c_86 := b01_z c_86
                  refine r_iincv (pc := 128) (y := ((c + 1 : Nat) : Int)) (L2 := [(5, (.int (iI (((c + 1 : Nat) : Int))))), (4, (.int (iI (((e : Nat) : Int))))), (3, (.int (iI (((s : Nat) : Int))))), (2, (.int (iI (((2 ^ n - 1 : Nat) : Int))))), (0, (.ref 164)), (1, (.int (iI (((dy : Nat) : Int)))))]) 0 dX11_families_128 rfl (by omega) (by decide) rfl ?_
                  refine r_goto (pc := 131) (tgt := 70) dX11_families_131 (by decide) ?_
                  refine r_sub (L2 := [(5, (.int (iI (((c + 1 : Nat) : Int))))), (4, (.int (iI (((e : Nat) : Int))))), (3, (.int (iI (((s : Nat) : Int))))), (2, (.int (iI (((2 ^ n - 1 : Nat) : Int))))), (0, (.ref 164)), (1, (.int (iI (((dy : Nat) : Int)))))]) [0, 1, 2, 3, 4, 5] rfl ?_
                  exact ih_Ld (n - (c + 1)) (by omega) (c + 1) (by omega) (by omega) f1 hF1 hZ (fun t ht x hx => by
                    rw [hB t ht x hx]
                    refine ptG_c (fun w d hd hr hmm => ?_) t x
                    have hdc : d ≠ c := fun q => c_86 (by rw [← q]; exact (nx_may hd).mp hmm)
                    omega)
                · replace c_86 := b01_nz c_86
                  have hul := or_lt hs (show c < n by omega)
                  have hue : e ||| 2 ^ c < 2 ^ n := or_lt (by omega) (by omega)
                  refine r_aload_n (pc := 89) 4 dX11_families_89 rfl rfl ?_
                  refine r_getR (pc := 90) (b := 186) dX11_families_90 fl_X11_83 rfl hM.k hM.r34 ?_
                  refine r_sipush (pc := 93) dX11_families_93 (by decide) ?_
                  refine r_iload_n (pc := 96) 2 dX11_families_96 rfl rfl ?_
                  refine r_iconst (pc := 97) dX11_families_97 ?_
                  refine r_iload (pc := 98) 0 dX11_families_98 rfl ?_
                  refine r_ishl (pc := 100) (w := ((2 ^ c : Nat) : Int)) dX11_families_100  (iI_shl1 (by omega)) ?_
                  refine r_ior (pc := 101) (w := ((s ||| (2 ^ c) : Nat) : Int)) dX11_families_101  (iI_or _ _) ?_
                  refine r_imul (pc := 102) dX11_families_102 ?_
                  refine r_eqI (y := ((256 * (s ||| (2 ^ c)) : Nat) : Int)) (Int.natCast_mul _ _ |>.symm) ?_
                  refine r_aload_n (pc := 103) 4 dX11_families_103 rfl rfl ?_
                  refine r_iload_n (pc := 104) 2 dX11_families_104 rfl rfl ?_
                  refine r_iload (pc := 105) 0 dX11_families_105 rfl ?_
                  refine r_callV (pc := 107) (As := [(.int (iI (((s : Nat) : Int)))), (.int (iI (((c : Nat) : Int))))]) (S := [(.int (iI (((256 * (s ||| (2 ^ c)) : Nat) : Int)))), (.ref 186)]) dX11_families_107 cv_X11_299 hM.k rfl (Nat.le_of_ble_eq_true rfl) (m_getsOf (s := s) (c := c) (dz := dz) (lp := lp) l z d hM hD1 ((congrFun (hF1 166 (by decide)) 40).trans hdz) ((congrFun (hF1 166 (by decide)) 41).trans hlp) h0 h1 (by omega) (by omega)) (Nat.zero_le _) (Nat.zero_le _) (fun r_107 g_107 f_107 q_107 => ?_)
                  obtain ⟨rfl, rfl, rfl⟩ := q_107
                  refine r_eqI (y := gnV dz lp (bk 0) (bk 1) wa n a2 s c) (gn_ge (ov := ov) (fun k hk => hD.o1 hk) ha (by omega) c_86.1).symm ?_
                  have hgr : -20000000 ≤ gnV dz lp (bk 0) (bk 1) wa n a2 s c ∧ gnV dz lp (bk 0) (bk 1) wa n a2 s c ≤ 20000000 := gnV_r h0.1 h1 ⟨hD.b1 (by decide), hD.b1 (by decide)⟩ (fun c hc => hD.w4 hc) hn8
                  refine r_if_le (pc := 110) (tgt := 123) dX11_families_110 (by decide) (by omega) (fun c_110 => ?_) (fun c_110 => ?_)
                  · refine r_iload (pc := 123) 1 dX11_families_123 rfl ?_
                    refine r_iadd (pc := 125) dX11_families_125 ?_
                    refine r_eqI (y := ((256 * (s ||| 2 ^ c) + e : Nat) : Int)) (by omega) ?_
                    refine r_iconst (pc := 126) dX11_families_126 ?_
                    refine r_zastv (pc := 127) (i := 256 * (s ||| 2 ^ c) + e) dX11_families_127 hM.a34 (by omega) (by decide) (by decide) rfl ?_
                    refine r_iincv (pc := 128) (y := ((c + 1 : Nat) : Int)) (L2 := [(5, (.int (iI (((c + 1 : Nat) : Int))))), (4, (.int (iI (((e : Nat) : Int))))), (3, (.int (iI (((s : Nat) : Int))))), (2, (.int (iI (((2 ^ n - 1 : Nat) : Int))))), (0, (.ref 164)), (1, (.int (iI (((dy : Nat) : Int)))))]) 0 dX11_families_128 rfl (by omega) (by decide) rfl ?_
                    refine r_goto (pc := 131) (tgt := 70) dX11_families_131 (by decide) ?_
                    refine r_sub (L2 := [(5, (.int (iI (((c + 1 : Nat) : Int))))), (4, (.int (iI (((e : Nat) : Int))))), (3, (.int (iI (((s : Nat) : Int))))), (2, (.int (iI (((2 ^ n - 1 : Nat) : Int))))), (0, (.ref 164)), (1, (.int (iI (((dy : Nat) : Int)))))]) [0, 1, 2, 3, 4, 5] rfl ?_
                    exact ih_Ld (n - (c + 1)) (by omega) (c + 1) (by omega) (by omega) _ (fun q hq => by rw [stF_n _ _ _ hq]; exact hF1 q hq) (fun t ht x hx => by
                      by_cases w : 256 * t + x = 256 * (s ||| 2 ^ c) + e
                      · rw [w, stF_s]; exact Or.inr rfl
                      · rw [stF_i _ _ _ w]; exact hZ t ht x hx) (fun t ht x hx => by
                      have hadd := ptG_add (may := (fun s i => (nxM wt n s).testBit i)) (lk := (fun s i => decide (0 < gnV dz lp (bk 0) (bk 1) wa n a2 s i))) (n := n) (s := s) (t := t) (x := x) (g := e) (c := c) (Q := fun w d => e + 1 ≤ w ∨ (w = e ∧ d < c)) (by omega) c_61 ((nx_may (by omega)).mpr c_86)
                      rw [show (if (fun s i => decide (0 < gnV dz lp (bk 0) (bk 1) wa n a2 s i)) s c = true then e ||| 2 ^ c else e) = e from if_neg (fun q => by have := of_decide_eq_true q; omega)] at hadd
                      rw [ptG_c (Q' := fun w d => (e + 1 ≤ w ∨ (w = e ∧ d < c)) ∨ (w = e ∧ d = c)) (fun w d _ _ _ => by omega) t x, hadd]
                      by_cases w : 256 * t + x = 256 * (s ||| 2 ^ c) + e
                      · rw [w, stF_s]; exact ⟨fun _ => Or.inr ⟨by omega, by omega⟩, fun _ => rfl⟩
                      · rw [stF_i _ _ _ w, hB t ht x hx]
                        exact ⟨fun q => Or.inl q, fun q => q.elim id (fun v => absurd (by rw [v.1, v.2]) w)⟩)
                  · refine r_iload (pc := 113) 1 dX11_families_113 rfl ?_
                    refine r_iconst (pc := 115) dX11_families_115 ?_
                    refine r_iload (pc := 116) 0 dX11_families_116 rfl ?_
                    refine r_ishl (pc := 118) (w := ((2 ^ c : Nat) : Int)) dX11_families_118  (iI_shl1 (by omega)) ?_
                    refine r_ior (pc := 119) (w := ((e ||| (2 ^ c) : Nat) : Int)) dX11_families_119  (iI_or _ _) ?_
                    refine r_goto (pc := 120) (tgt := 125) dX11_families_120 (by decide) ?_
                    refine r_iadd (pc := 125) dX11_families_125 ?_
                    refine r_eqI (y := ((256 * (s ||| 2 ^ c) + (e ||| 2 ^ c) : Nat) : Int)) (by omega) ?_
                    refine r_iconst (pc := 126) dX11_families_126 ?_
                    refine r_zastv (pc := 127) (i := 256 * (s ||| 2 ^ c) + (e ||| 2 ^ c)) dX11_families_127 hM.a34 (by omega) (by decide) (by decide) rfl ?_
                    refine r_iincv (pc := 128) (y := ((c + 1 : Nat) : Int)) (L2 := [(5, (.int (iI (((c + 1 : Nat) : Int))))), (4, (.int (iI (((e : Nat) : Int))))), (3, (.int (iI (((s : Nat) : Int))))), (2, (.int (iI (((2 ^ n - 1 : Nat) : Int))))), (0, (.ref 164)), (1, (.int (iI (((dy : Nat) : Int)))))]) 0 dX11_families_128 rfl (by omega) (by decide) rfl ?_
                    refine r_goto (pc := 131) (tgt := 70) dX11_families_131 (by decide) ?_
                    refine r_sub (L2 := [(5, (.int (iI (((c + 1 : Nat) : Int))))), (4, (.int (iI (((e : Nat) : Int))))), (3, (.int (iI (((s : Nat) : Int))))), (2, (.int (iI (((2 ^ n - 1 : Nat) : Int))))), (0, (.ref 164)), (1, (.int (iI (((dy : Nat) : Int)))))]) [0, 1, 2, 3, 4, 5] rfl ?_
                    exact ih_Ld (n - (c + 1)) (by omega) (c + 1) (by omega) (by omega) _ (fun q hq => by rw [stF_n _ _ _ hq]; exact hF1 q hq) (fun t ht x hx => by
                      by_cases w : 256 * t + x = 256 * (s ||| 2 ^ c) + (e ||| 2 ^ c)
                      · rw [w, stF_s]; exact Or.inr rfl
                      · rw [stF_i _ _ _ w]; exact hZ t ht x hx) (fun t ht x hx => by
                      have hadd := ptG_add (may := (fun s i => (nxM wt n s).testBit i)) (lk := (fun s i => decide (0 < gnV dz lp (bk 0) (bk 1) wa n a2 s i))) (n := n) (s := s) (t := t) (x := x) (g := e) (c := c) (Q := fun w d => e + 1 ≤ w ∨ (w = e ∧ d < c)) (by omega) c_61 ((nx_may (by omega)).mpr c_86)
                      rw [show (if (fun s i => decide (0 < gnV dz lp (bk 0) (bk 1) wa n a2 s i)) s c = true then e ||| 2 ^ c else e) = (e ||| 2 ^ c) from if_pos (decide_eq_true (by omega))] at hadd
                      rw [ptG_c (Q' := fun w d => (e + 1 ≤ w ∨ (w = e ∧ d < c)) ∨ (w = e ∧ d = c)) (fun w d _ _ _ => by omega) t x, hadd]
                      by_cases w : 256 * t + x = 256 * (s ||| 2 ^ c) + (e ||| 2 ^ c)
                      · rw [w, stF_s]; exact ⟨fun _ => Or.inr ⟨by omega, by omega⟩, fun _ => rfl⟩
                      · rw [stF_i _ _ _ w, hB t ht x hx]
                        exact ⟨fun q => Or.inl q, fun q => q.elim id (fun v => absurd (by rw [v.1, v.2]) w)⟩)
          refine r_sub (L2 := [(5, (.int (iI (((0 : Nat) : Int))))), (4, (.int (iI (((e : Nat) : Int))))), (3, (.int (iI (((s : Nat) : Int))))), (2, (.int (iI (((2 ^ n - 1 : Nat) : Int))))), (0, (.ref 164)), (1, (.int (iI (((dy : Nat) : Int)))))]) [0, 1, 2, 3, 4, 5] rfl ?_
          exact Ld n 0 (by omega) (by omega) f1 hF1 hZ (fun t ht x hx => by rw [hB t ht x hx]; exact ptG_c (fun w d _ _ _ => by omega) t x)
        · replace c_61 := b01_z c_61
          refine r_goto (pc := 64) (tgt := 134) dX11_families_64 (by decide) ?_
          refine r_iload (pc := 134) 0 dX11_families_134 rfl ?_
          refine r_if_ne (pc := 136) (tgt := 143) dX11_families_136 (by decide) (by omega) (fun c_136 => ?_) (fun c_136 => ?_)
          · refine r_iload (pc := 143) 0 dX11_families_143 rfl ?_
            refine r_iconst (pc := 145) dX11_families_145 ?_
            refine r_isub (pc := 146) dX11_families_146 ?_
            refine r_eqI (y := ((e - 1 : Nat) : Int)) (by omega) ?_
            refine r_iload_n (pc := 147) 1 dX11_families_147 rfl rfl ?_
            refine r_iand (pc := 148) (w := ((((e - 1) &&& s) : Nat) : Int)) dX11_families_148  (by rw [← iI_and]) ?_
            refine r_istore (pc := 149) (L2 := [(4, (.int (iI (((((e - 1) &&& s) : Nat) : Int))))), (3, (.int (iI (((s : Nat) : Int))))), (2, (.int (iI (((2 ^ n - 1 : Nat) : Int))))), (0, (.ref 164)), (1, (.int (iI (((dy : Nat) : Int)))))]) dX11_families_149 (by decide) rfl ?_
            refine r_goto (pc := 151) (tgt := 43) dX11_families_151 (by decide) ?_
            have hal : (e - 1) &&& s ≤ e - 1 := Nat.and_le_left
            refine r_sub (L2 := [(4, (.int (iI ((((((e - 1) &&& s) + 1) : Nat) : Int) - 1)))), (3, (.int (iI (((s : Nat) : Int))))), (2, (.int (iI (((2 ^ n - 1 : Nat) : Int))))), (0, (.ref 164)), (1, (.int (iI (((dy : Nat) : Int)))))]) [0, 1, 2, 3, 4] (by rw [show (((((e - 1) &&& s) + 1) : Nat) : Int) - 1 = ((((e - 1) &&& s) : Nat) : Int) by omega]; rfl) ?_
            exact ih_Lc (((e - 1) &&& s) + 1) (by omega) (((e - 1) &&& s) + 1) rfl (fun _ => by show subP ((((e - 1) &&& s) + 1) - 1) s; rw [show (((e - 1) &&& s) + 1) - 1 = (e - 1) &&& s by omega]; exact subP_and _ _) (by omega) f1 hF1 hZ (fun t ht x hx => by
              rw [hB t ht x hx]
              refine ptG_c (fun w d hd hr hmm => ?_) t x
              have hw := rW_sub (bc s n) s w rfl hs hr
              exact ⟨fun q => by omega, fun q => by rcases (show w < e ∨ w = e ∨ e + 1 ≤ w by omega) with v | v | v; (have := sub_pred e s w hsub hw v; omega); (rw [v] at hr; exact absurd hr c_61); exact v⟩) hk
          · refine r_iconst (pc := 139) dX11_families_139 ?_
            refine r_goto (pc := 140) (tgt := 149) dX11_families_140 (by decide) ?_
            refine r_istore (pc := 149) (L2 := [(4, (.int (iI (-1)))), (3, (.int (iI (((s : Nat) : Int))))), (2, (.int (iI (((2 ^ n - 1 : Nat) : Int))))), (0, (.ref 164)), (1, (.int (iI (((dy : Nat) : Int)))))]) dX11_families_149 (by decide) rfl ?_
            refine r_goto (pc := 151) (tgt := 43) dX11_families_151 (by decide) ?_
            refine r_sub (L2 := [(4, (.int (iI (((0 : Nat) : Int) - 1)))), (3, (.int (iI (((s : Nat) : Int))))), (2, (.int (iI (((2 ^ n - 1 : Nat) : Int))))), (0, (.ref 164)), (1, (.int (iI (((dy : Nat) : Int)))))]) [0, 1, 2, 3, 4] (by rw [show ((0 : Nat) : Int) - 1 = -1 by omega]; rfl) ?_
            exact ih_Lc 0 (by omega) 0 rfl (fun h => absurd h (by omega)) (by omega) f1 hF1 hZ (fun t ht x hx => by
              rw [hB t ht x hx]
              refine ptG_c (fun w d hd hr hmm => ?_) t x
              have hw := rW_sub (bc s n) s w rfl hs hr
              exact ⟨fun q => by omega, fun q => by rcases (show w = e ∨ e + 1 ≤ w by omega) with v | v; (rw [v] at hr; exact absurd hr c_61); exact v⟩) hk
  have Lb : ∀ m s : Nat, m = 2 ^ n - s → s ≤ 2 ^ n → ∀ f1 : Fm, (∀ q, q ≠ 186 → f1 q = f q) → (∀ t, t < 2 ^ n → ∀ x, x < 256 → f1 186 (256 * t + x) = 0 ∨ f1 186 (256 * t + x) = 1) → (∀ t, t < 2 ^ n → ∀ x, x < 256 → (f1 186 (256 * t + x) = 1 ↔ (ptP (fun s i => (nxM wt n s).testBit i) (fun s i => decide (0 < gnV dz lp (bk 0) (bk 1) wa n a2 s i)) n s 0) t x)) → PW l z (d + 3) mX11_families 0 0 (fun r g' f' => r = none ∧ g = g' ∧ (∀ q, q ≠ 185 → q ≠ 186 → f' q = f q) ∧ (∀ k, k < 256 * dy ∨ 256 * dy + 256 ≤ k → f' 185 k = f 185 k) ∧ ∀ x, x < 2 ^ n → f' 185 (256 * dy + x) = b01 (rW (fun s i => (nxM wt n s).testBit i) (fun s i => decide (0 < gnV dz lp (bk 0) (bk 1) wa n a2 s i)) n (2 ^ n - 1) x = true)) 35 [(3, (.int (iI (((s : Nat) : Int))))), (2, (.int (iI (((2 ^ n - 1 : Nat) : Int))))), (0, (.ref 164)), (1, (.int (iI (((dy : Nat) : Int)))))] [] g f1 0 0 := by
    intro m
    induction m using Nat.strongRecOn with
    | _ m ih_Lb =>
      intro s hm hs0 f1 hF1 hZ hB
      refine r_iload_n (pc := 35) 0 dX11_families_35 rfl rfl ?_
      refine r_iload_n (pc := 36) 1 dX11_families_36 rfl rfl ?_
      refine r_icmp_gt (pc := 37) (tgt := 160) dX11_families_37 (by decide) (by omega) (by omega) (fun c_37 => ?_) (fun c_37 => ?_)
      · refine r_iconst (pc := 160) dX11_families_160 ?_
        refine r_istore_n (pc := 161) (L2 := [(3, (.int (iI (0)))), (2, (.int (iI (((2 ^ n - 1 : Nat) : Int))))), (0, (.ref 164)), (1, (.int (iI (((dy : Nat) : Int)))))]) dX11_families_161 rfl (by decide) rfl ?_
        have hse : s = 2 ^ n := by omega
        refine r_sub (L2 := [(3, (.int (iI (((0 : Nat) : Int))))), (2, (.int (iI (((2 ^ n - 1 : Nat) : Int))))), (0, (.ref 164)), (1, (.int (iI (((dy : Nat) : Int)))))]) [0, 1, 2, 3] rfl ?_
        exact Le f1 hF1 (fun x hx => gv01 (hZ (2 ^ n - 1) (by omega) x (by omega)) ((hB (2 ^ n - 1) (by omega) x (by omega)).trans (ptP_full (by omega) (by omega)))) (2 ^ n) 0 (by omega) (by omega) f1 (fun _ _ => rfl) (fun _ _ => rfl) (fun q hq => absurd hq (by omega))
      · refine r_iload_n (pc := 40) 0 dX11_families_40 rfl rfl ?_
        refine r_istore (pc := 41) (L2 := [(4, (.int (iI (((s : Nat) : Int))))), (3, (.int (iI (((s : Nat) : Int))))), (2, (.int (iI (((2 ^ n - 1 : Nat) : Int))))), (0, (.ref 164)), (1, (.int (iI (((dy : Nat) : Int)))))]) dX11_families_41 (by decide) rfl ?_
        have hs : s < 2 ^ n := by omega
        refine r_sub (L2 := [(4, (.int (iI (((s + 1 : Nat) : Int) - 1)))), (3, (.int (iI (((s : Nat) : Int))))), (2, (.int (iI (((2 ^ n - 1 : Nat) : Int))))), (0, (.ref 164)), (1, (.int (iI (((dy : Nat) : Int)))))]) [0, 1, 2, 3, 4] (by rw [show ((s + 1 : Nat) : Int) - 1 = ((s : Nat) : Int) by omega]; rfl) ?_
        exact Lc s hs (s + 1) (s + 1) rfl (fun _ => fun k h => h) (by omega) f1 hF1 hZ (fun t ht x hx => by rw [hB t ht x hx]; exact (ptG_none (fun w d hr q => by have := sub_le (rW_sub (bc s n) s w rfl hs hr); omega)).symm) (fun f2 k1 k2 k3 => ih_Lb (2 ^ n - (s + 1)) (by omega) (s + 1) (by omega) (by omega) f2 k1 k2 k3)
  have La : ∀ m k : Nat, m = 65536 - k → k ≤ 65536 → ∀ f0 : Fm, (∀ q, q ≠ 186 → f0 q = f q) → (∀ q, q < k → f0 186 q = 0) → PW l z (d + 3) mX11_families 0 0 (fun r g' f' => r = none ∧ g = g' ∧ (∀ q, q ≠ 185 → q ≠ 186 → f' q = f q) ∧ (∀ k, k < 256 * dy ∨ 256 * dy + 256 ≤ k → f' 185 k = f 185 k) ∧ ∀ x, x < 2 ^ n → f' 185 (256 * dy + x) = b01 (rW (fun s i => (nxM wt n s).testBit i) (fun s i => decide (0 < gnV dz lp (bk 0) (bk 1) wa n a2 s i)) n (2 ^ n - 1) x = true)) 7 [(3, (.int (iI (((k : Nat) : Int))))), (2, (.int (iI (((2 ^ n - 1 : Nat) : Int))))), (0, (.ref 164)), (1, (.int (iI (((dy : Nat) : Int)))))] [] g f0 0 0 := by
    intro m
    induction m using Nat.strongRecOn with
    | _ m ih_La =>
      intro k hm hk0 f0 hF0 hR0
      refine r_iload_n (pc := 7) 0 dX11_families_7 rfl rfl ?_
      refine r_ldc (pc := 8) (x := 65536) dX11_families_8 kc_X11_82 (by decide) ?_
      refine r_icmp_ge (pc := 10) (tgt := 26) dX11_families_10 (by decide) (by omega) (by omega) (fun c_10 => ?_) (fun c_10 => ?_)
      · refine r_aload_n (pc := 26) 2 dX11_families_26 rfl rfl ?_
        refine r_getR (pc := 27) (b := 186) dX11_families_27 fl_X11_83 rfl hM.k hM.r34 ?_
        refine r_iconst (pc := 30) dX11_families_30 ?_
        refine r_iconst (pc := 31) dX11_families_31 ?_
        refine r_zastv (pc := 32) (i := 0) dX11_families_32 hM.a34 (by decide) (by decide) (by decide) rfl ?_
        refine r_iconst (pc := 33) dX11_families_33 ?_
        refine r_istore_n (pc := 34) (L2 := [(3, (.int (iI (0)))), (2, (.int (iI (((2 ^ n - 1 : Nat) : Int))))), (0, (.ref 164)), (1, (.int (iI (((dy : Nat) : Int)))))]) dX11_families_34 rfl (by decide) rfl ?_
        refine r_sub (L2 := [(3, (.int (iI (((0 : Nat) : Int))))), (2, (.int (iI (((2 ^ n - 1 : Nat) : Int))))), (0, (.ref 164)), (1, (.int (iI (((dy : Nat) : Int)))))]) [0, 1, 2, 3] rfl ?_
        exact Lb (2 ^ n) 0 (by omega) (by omega) _ (fun q hq => by rw [stF_n _ _ _ hq]; exact hF0 q hq) (fun t ht x hx => by
          by_cases e : 256 * t + x = 0
          · rw [e, stF_s]; exact Or.inr rfl
          · rw [stF_i _ _ _ e, hR0 _ (by omega)]; exact Or.inl rfl) (fun t ht x hx => by
          rw [ptP_00]
          by_cases e : 256 * t + x = 0
          · rw [e, stF_s]; exact ⟨fun _ => ⟨by omega, by omega⟩, fun _ => rfl⟩
          · rw [stF_i _ _ _ e, hR0 _ (by omega)]; exact ⟨fun h => absurd h (by decide), fun h => absurd h (by omega)⟩)
      · refine r_aload_n (pc := 13) 2 dX11_families_13 rfl rfl ?_
        refine r_getR (pc := 14) (b := 186) dX11_families_14 fl_X11_83 rfl hM.k hM.r34 ?_
        refine r_iload_n (pc := 17) 0 dX11_families_17 rfl rfl ?_
        refine r_iconst (pc := 18) dX11_families_18 ?_
        refine r_zastv (pc := 19) (i := k) dX11_families_19 hM.a34 (by omega) (by decide) (by decide) rfl ?_
        refine r_iincv (pc := 20) (y := ((k + 1 : Nat) : Int)) (L2 := [(3, (.int (iI (((k + 1 : Nat) : Int))))), (2, (.int (iI (((2 ^ n - 1 : Nat) : Int))))), (0, (.ref 164)), (1, (.int (iI (((dy : Nat) : Int)))))]) 0 dX11_families_20 rfl (by omega) (by decide) rfl ?_
        refine r_goto (pc := 23) (tgt := 7) dX11_families_23 (by decide) ?_
        refine r_sub (L2 := [(3, (.int (iI (((k + 1 : Nat) : Int))))), (2, (.int (iI (((2 ^ n - 1 : Nat) : Int))))), (0, (.ref 164)), (1, (.int (iI (((dy : Nat) : Int)))))]) [0, 1, 2, 3] rfl ?_
        exact ih_La (65536 - (k + 1)) (by omega) (k + 1) (by omega) (by omega) _ (fun q hq => by rw [stF_n _ _ _ hq]; exact hF0 q hq) (fun q hq => by rcases Nat.lt_succ_iff_lt_or_eq.mp hq with h | h; exact rdi (by omega) (hR0 q h); subst h; exact stF_s _ _ _ _)
  refine r_aload_n (pc := 0) 0 dX11_families_0 rfl rfl ?_
  refine r_callV (pc := 1) (As := []) (S := []) dX11_families_1 cv_X11_302 hM.k rfl (Nat.le_of_ble_eq_true rfl) (m_everyone (n := n) l z _ hM hD.n hn8) (Nat.zero_le _) (Nat.zero_le _) (fun r_1 g_1 f_1 q_1 => ?_)
  obtain ⟨rfl, rfl, rfl⟩ := q_1
  refine r_eqI (y := ((2 ^ n - 1 : Nat) : Int)) (by omega) ?_
  refine r_istore_n (pc := 4) (L2 := [(2, (.int (iI (((2 ^ n - 1 : Nat) : Int))))), (0, (.ref 164)), (1, (.int (iI (((dy : Nat) : Int)))))]) dX11_families_4 rfl (by decide) rfl ?_
  refine r_iconst (pc := 5) dX11_families_5 ?_
  refine r_istore_n (pc := 6) (L2 := [(3, (.int (iI (0)))), (2, (.int (iI (((2 ^ n - 1 : Nat) : Int))))), (0, (.ref 164)), (1, (.int (iI (((dy : Nat) : Int)))))]) dX11_families_6 rfl (by decide) rfl ?_
  refine r_sub (L2 := [(3, (.int (iI (((0 : Nat) : Int))))), (2, (.int (iI (((2 ^ n - 1 : Nat) : Int))))), (0, (.ref 164)), (1, (.int (iI (((dy : Nat) : Int)))))]) [0, 1, 2, 3] rfl ?_
  exact La 65536 0 (by omega) (by omega) f (fun _ _ => rfl) (fun q hq => absurd hq (by omega))

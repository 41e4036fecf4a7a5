def mnV (A : Nat → Int) (p : Nat) : Nat → Int
  | 0 => 0
  | n + 1 => if 1000000 < mnV A p n then mnV A p n else 10 * mnV A p n + A (p + n) - 48
theorem mn_nu {A B : Nat → Int} {p : Nat} (hS : SB A B) : ∀ n : Nat, (∀ i, i < n → 48 ≤ A (p + i) ∧ A (p + i) ≤ 57) → (0 ≤ mnV A p n ∧ mnV A p n ≤ 10000009) ∧ min (mnV A p n) 1001 = nuV B p n
  | 0, _ => by simp only [mnV, nuV]; omega
  | n + 1, h => by
    have h1 := mn_nu (p := p) hS n (fun i hi => h i (by omega))
    have h2 := h n (by omega)
    have h3 := hS (p + n)
    simp only [mnV, nuV]
    split <;> omega
/-- a token in the model's rows -/
def TkO (f1 : Fm) (B : Nat → Int) (t i : Nat) : Prop := f1 172 i = cj B t i ∧ f1 174 i = ((pl B t i : Nat) : Int) ∧ min (f1 173 i) 1001 = vj B t i ∧ 0 ≤ f1 173 i ∧ f1 173 i ≤ 10000009
def SpI (f f1 : Fm) (B : Nat → Int) (t j : Nat) : Prop := (∀ a, a ≠ 164 → a ≠ 172 → a ≠ 173 → a ≠ 174 → f1 a = f a) ∧ (∀ i, i ≠ 14 → f1 164 i = f 164 i) ∧ f1 164 14 = ((j : Nat) : Int) ∧ ∀ i, i < j → TkO f1 B t i ∧ pl B t i < t
theorem pl_end {B : Nat → Int} {t j : Nat} (h : t ≤ pl B t j) : ∀ k, t ≤ pl B t (j + k)
  | 0 => h
  | k + 1 => by
    have h1 := pl_end h k
    have h2 := (pl_r (B := B) (t := t) (j + k)).2
    have h3 : tkQ B t (j + (k + 1)) = tkE B t (pl B t (j + k)) := rfl
    have h4 := (tkE_r (B := B) h2).1
    have h5 := (pl_r (B := B) (t := t) (j + (k + 1))).1
    omega
theorem enj_T {B : Nat → Int} {t T : Nat} (h1 : ∀ i, i < T → pl B t i < t) (h2 : t ≤ pl B t T) : enj B t = fun j => decide (T ≤ j) := by
  funext j
  unfold enj
  rcases (show j < T ∨ T ≤ j by omega) with h | h
  · have := h1 j h
    rw [decide_eq_false (by omega), decide_eq_false (by omega)]
  · have := pl_end h2 (j - T)
    rw [show T + (j - T) = j by omega] at this
    rw [decide_eq_true this, decide_eq_true h]

theorem iI_and255 {a b : Int} (h : (0 ≤ b ∧ b ≤ 255) ∧ (a = b ∧ b < 128 ∨ a = b - 256 ∧ 128 ≤ b)) : iI a &&& iI 255 = iI b := by
  have key : ∀ n : Nat, n < 256 → iI (n : Int) &&& iI 255 = iI (n : Int) := fun n hn => by
    rw [show (255 : Int) = ((255 : Nat) : Int) from rfl, iI_and, and255, Nat.mod_eq_of_lt hn]
  have e : iI a = iI (a + 4294967296 * 0) := by congr 1; omega
  rcases h.2 with ⟨h1, h2⟩ | ⟨h1, h2⟩
  · have := key b.toNat (by omega)
    rw [show ((b.toNat : Nat) : Int) = b by omega] at this
    rw [h1]; exact this
  · have h3 : iI a = iI ((4294967296 + a) : Int) := by
      unfold iI
      apply Int32.toBitVec_inj.mp
      rw [Int32.toBitVec_ofInt, Int32.toBitVec_ofInt]
      apply BitVec.eq_of_toNat_eq
      rw [BitVec.toNat_ofInt, BitVec.toNat_ofInt]
      congr 1
      show a % 4294967296 = (4294967296 + a) % 4294967296
      omega
    have h4 : 4294967296 + a = ((4294967040 + b.toNat : Nat) : Int) := by omega
    rw [h3, h4, show (255 : Int) = ((255 : Nat) : Int) from rfl, iI_and, and255]
    congr 1
    omega

set_option maxRecDepth 100000 in
set_option maxHeartbeats 4000000 in
theorem m_splits (l : Launch) (z : Zv) (d : Nat) {g : Gm} {f : Fm} {A B : Nat → Int} {t : Nat} (hM : ML g) (hwd : ∀ k, k < 66 → f 169 k = wdl.getD k 0) (hA : ∀ i, f 170 i = A i) (hS : SB A B) (ht4 : t ≤ 400) : PM l z (d + 1) mX11_splits [.ref 164, .int (iI ((t : Nat) : Int))] g f 0 0 (fun r g' f' => r = none ∧ g = g' ∧ ∃ T, T ≤ 400 ∧ SpI f f' B t T ∧ t ≤ pl B t T ∧ TkO f' B t T) := by
  refine PM.of (by decide +kernel) (Nat.le_of_ble_eq_true rfl) ?_
  have main : ∀ m k j : Nat, m = t + 1 - k → k ≤ t → ∀ f1 : Fm, SpI f f1 B t j → (tkQ B t j ≤ k ∧ j ≤ tkQ B t j) → j ≤ k → adv (blB B) t (t - k) k = pl B t j → PW l z (d + 1) mX11_splits 0 0 (fun r g' f' => r = none ∧ g = g' ∧ ∃ T, T ≤ 400 ∧ SpI f f' B t T ∧ t ≤ pl B t T ∧ TkO f' B t T) 7 [(2, (.int (iI (((k : Nat) : Int))))), (0, (.ref 164)), (1, (.int (iI (((t : Nat) : Int)))))] [] g f1 0 0 := by
    intro m
    induction m using Nat.strongRecOn with
    | _ m ih =>
      intro k j hm hk f1 hI hjq2 hjk hadv
      have hjq := hjq2.2
      have hpr := pl_r (B := B) (t := t) j
      have fin : t ≤ k → PW l z (d + 1) mX11_splits 0 0 (fun r g' f' => r = none ∧ g = g' ∧ ∃ T, T ≤ 400 ∧ SpI f f' B t T ∧ t ≤ pl B t T ∧ TkO f' B t T) 263 [(2, (.int (iI (((k : Nat) : Int))))), (0, (.ref 164)), (1, (.int (iI (((t : Nat) : Int)))))] [] g f1 0 0 := by
        intro htk
        have hpe : pl B t j = k := by rw [← hadv]; exact adv_off (fun h => by omega)
        refine r_aload_n (pc := 263) 1 dX11_splits_263 rfl rfl ?_
        refine r_getR (pc := 264) (b := 174) dX11_splits_264 fl_X11_46 rfl hM.k hM.r13 ?_
        refine r_aload_n (pc := 267) 1 dX11_splits_267 rfl rfl ?_
        refine r_getIv (pc := 268) (x := ((j : Nat) : Int)) dX11_splits_268 fl_X11_156 rfl hM.k (hI.2.2.1) ?_
        refine r_iload_n (pc := 271) 2 dX11_splits_271 rfl rfl ?_
        refine r_iastv (pc := 272) (i := j) dX11_splits_272 hM.a13 (by omega) (by decide) rfl ?_
        refine r_aload_n (pc := 273) 1 dX11_splits_273 rfl rfl ?_
        refine r_getR (pc := 274) (b := 172) dX11_splits_274 fl_X11_40 rfl hM.k hM.r11 ?_
        refine r_aload_n (pc := 277) 1 dX11_splits_277 rfl rfl ?_
        refine r_getIv (pc := 278) (x := ((j : Nat) : Int)) dX11_splits_278 fl_X11_156 rfl hM.k (rdn (by decide) (hI.2.2.1)) ?_
        refine r_iconst (pc := 281) dX11_splits_281 ?_
        refine r_iastv (pc := 282) (i := j) dX11_splits_282 hM.a11 (by omega) (by decide) rfl ?_
        refine r_aload_n (pc := 283) 1 dX11_splits_283 rfl rfl ?_
        refine r_getR (pc := 284) (b := 173) dX11_splits_284 fl_X11_43 rfl hM.k hM.r12 ?_
        refine r_aload_n (pc := 287) 1 dX11_splits_287 rfl rfl ?_
        refine r_getIv (pc := 288) (x := ((j : Nat) : Int)) dX11_splits_288 fl_X11_156 rfl hM.k (rdn (by decide) (rdn (by decide) (hI.2.2.1))) ?_
        refine r_iconst (pc := 291) dX11_splits_291 ?_
        refine r_iastv (pc := 292) (i := j) dX11_splits_292 hM.a12 (by omega) (by decide) rfl ?_
        refine r_vret (pc := 293) dX11_splits_293 rfl ⟨rfl, rfl, j, by omega, ⟨fun a h1 h2 h3 h4 => by rw [stF_n _ _ _ h3, stF_n _ _ _ h2, stF_n _ _ _ h4]; exact hI.1 a h1 h2 h3 h4, fun i hi => by rw [stF_n _ _ _ (by decide), stF_n _ _ _ (by decide), stF_n _ _ _ (by decide)]; exact hI.2.1 i hi, rdn (by decide) (rdn (by decide) (rdn (by decide) hI.2.2.1)), fun i hi => ?_⟩, by omega, ?_⟩
        · obtain ⟨⟨a1, a2, a3, a4, a5⟩, a6⟩ := hI.2.2.2 i hi
          exact ⟨⟨rdn (by decide) (rdi (by omega) (rdn (by decide) a1)), rdn (by decide) (rdn (by decide) (rdi (by omega) a2)), by rw [stF_i _ _ _ (by omega), stF_n _ _ _ (by decide), stF_n _ _ _ (by decide)]; exact a3, by rw [stF_i _ _ _ (by omega), stF_n _ _ _ (by decide), stF_n _ _ _ (by decide)]; exact a4, by rw [stF_i _ _ _ (by omega), stF_n _ _ _ (by decide), stF_n _ _ _ (by decide)]; exact a5⟩, a6⟩
        · have hk6 : ¬ kj B t j = 257 := fun h => (kj_257 hS.by h).1 (by omega)
          have hpt : pl B t j = t := by omega
          exact ⟨rdn (by decide) (by rw [stF_s, cj, tC, if_pos (by omega)]), rdn (by decide) (rdn (by decide) (by rw [stF_s, hpt])), by rw [stF_s, vj, if_neg hk6]; rfl, by rw [stF_s]; decide, by rw [stF_s]; decide⟩
      have hSk := hS k
      have tail : k < t → pl B t j = k → ∀ to_ : Nat, to_ = tkE B t k → k < to_ → to_ ≤ t → PW l z (d + 1) mX11_splits 0 0 (fun r g' f' => r = none ∧ g = g' ∧ ∃ T, T ≤ 400 ∧ SpI f f' B t T ∧ t ≤ pl B t T ∧ TkO f' B t T) 100 [(4, (.int (iI (((to_ : Nat) : Int))))), (3, (.int (iI (A k)))), (2, (.int (iI (((k : Nat) : Int))))), (0, (.ref 164)), (1, (.int (iI (((t : Nat) : Int)))))] [] g f1 0 0 := by
        intro hkt hpk to_ hto hlt htt
        have loopV : ∀ m2 n : Nat, m2 = to_ - (k + n) → k + n ≤ to_ → ∀ f2 : Fm, (∀ a, a ≠ 164 → a ≠ 172 → a ≠ 173 → a ≠ 174 → f2 a = f a) → f2 164 = f1 164 → (∀ q, q ≠ j → f2 172 q = f1 172 q ∧ f2 173 q = f1 173 q ∧ f2 174 q = f1 174 q) → f2 172 j = cj B t j → f2 173 j = mnV A k n → f2 174 j = ((k : Nat) : Int) → (¬ (48 ≤ A k ∧ A k ≤ 57) → n = 0) → PW l z (d + 1) mX11_splits 0 0 (fun r g' f' => r = none ∧ g = g' ∧ ∃ T, T ≤ 400 ∧ SpI f f' B t T ∧ t ≤ pl B t T ∧ TkO f' B t T) 169 [(5, (.int (iI (((k + n : Nat) : Int))))), (4, (.int (iI (((to_ : Nat) : Int))))), (3, (.int (iI (A k)))), (2, (.int (iI (((k : Nat) : Int))))), (0, (.ref 164)), (1, (.int (iI (((t : Nat) : Int)))))] [] g f2 0 0 := by
          intro m2
          induction m2 using Nat.strongRecOn with
          | _ m2 ihV =>
            intro n hm2 hn2 f2 hfr2 h164 hlow hcode hval hplc hn0
            refine r_iload (pc := 169) 0 dX11_splits_169 rfl ?_
            refine r_iload (pc := 171) 1 dX11_splits_171 rfl ?_
            refine r_icmp_ge (pc := 173) (tgt := 247) dX11_splits_173 (by decide) (by omega) (by omega) (fun c_173 => ?_) (fun c_173 => ?_)
            · refine r_aload_n (pc := 247) 4 dX11_splits_247 rfl rfl ?_
              refine r_dup (pc := 248) dX11_splits_248 rfl ?_
              refine r_getIv (pc := 249) (x := ((j : Nat) : Int)) dX11_splits_249 fl_X11_156 rfl hM.k (by rw [h164]; exact hI.2.2.1) ?_
              refine r_iconst (pc := 252) dX11_splits_252 ?_
              refine r_iadd (pc := 253) dX11_splits_253 ?_
              refine r_eqI (y := ((j + 1 : Nat) : Int)) (Int.natCast_add _ _ |>.symm) ?_
              refine r_putI (pc := 254) dX11_splits_254 fl_X11_156 rfl rfl hM.k ?_
              refine r_iload (pc := 257) 1 dX11_splits_257 rfl ?_
              refine r_istore_n (pc := 259) (L2 := [(2, (.int (iI (((to_ : Nat) : Int))))), (5, (.int (iI (((k + n : Nat) : Int))))), (4, (.int (iI (((to_ : Nat) : Int))))), (3, (.int (iI (A k)))), (0, (.ref 164)), (1, (.int (iI (((t : Nat) : Int)))))]) dX11_splits_259 rfl (by decide) rfl ?_
              refine r_goto (pc := 260) (tgt := 7) dX11_splits_260 (by decide) ?_
              have hval2 : min (f2 173 j) 1001 = vj B t j ∧ 0 ≤ f2 173 j ∧ f2 173 j ≤ 10000009 := by
                rw [hval]
                by_cases hd : 48 ≤ A k ∧ A k ≤ 57
                · have hnn : n = to_ - k := by omega
                  have hk7 : kj B t j = 257 := by rw [kj, hpk, tkK, if_neg (by omega), if_neg (by simp only [ltB, decide_eq_true_eq]; omega), if_pos (by simp only [dgB, decide_eq_true_eq]; omega)]
                  have hall : ∀ i, i < n → 48 ≤ A (k + i) ∧ A (k + i) ≤ 57 := fun i hi => by
                    have e1 : tkE B t k = adv (dgB B) t (t - k) k := by unfold tkE; rw [if_neg (by omega), if_neg (by simp only [ltB, decide_eq_true_eq]; omega), if_pos (by simp only [dgB, decide_eq_true_eq]; omega)]
                    have e2 := adv_all (P := dgB B) (t := t) (t - k) k (k + i) (by omega) (by rw [← e1, ← hto]; omega)
                    have e3 := hS (k + i)
                    simp only [dgB, decide_eq_true_eq] at e2
                    omega
                  have hmn := mn_nu (p := k) hS n hall
                  rw [vj, if_pos hk7, hpk, ← hto, ← hnn]
                  exact ⟨hmn.2, hmn.1⟩
                · have hnn : n = 0 := by omega
                  have hk7 : ¬ kj B t j = 257 := fun h => by
                    have := (kj_257 hS.by h).2.2
                    rw [hpk] at this
                    simp only [dgB, decide_eq_true_eq] at this
                    omega
                  rw [vj, if_neg hk7, hnn]
                  simp only [mnV]; omega
              refine r_sub (L2 := [(2, (.int (iI (((to_ : Nat) : Int))))), (0, (.ref 164)), (1, (.int (iI (((t : Nat) : Int)))))]) [0, 4, 5] rfl ?_
              refine ih (t + 1 - to_) (by omega) to_ (j + 1) rfl (by omega) _ ?_ ?_ (by omega) ?_
              · refine ⟨fun a h1 h2 h3 h4 => by rw [stF_n _ _ _ h1]; exact hfr2 a h1 h2 h3 h4, fun i hi => by rw [stF_i _ _ _ hi, h164]; exact hI.2.1 i hi, stF_s _ _ _ _, fun i hi => ?_⟩
                rcases (show i < j ∨ i = j by omega) with q | rfl
                · obtain ⟨⟨a1, a2, a3, a4, a5⟩, a6⟩ := hI.2.2.2 i q
                  have hl := hlow i (by omega)
                  exact ⟨⟨rdn (by decide) (hl.1.trans a1), rdn (by decide) (hl.2.2.trans a2), by rw [stF_n _ _ _ (by decide), hl.2.1]; exact a3, by rw [stF_n _ _ _ (by decide), hl.2.1]; exact a4, by rw [stF_n _ _ _ (by decide), hl.2.1]; exact a5⟩, a6⟩
                · exact ⟨⟨rdn (by decide) hcode, rdn (by decide) (by rw [hplc, hpk]), by rw [stF_n _ _ _ (by decide)]; exact hval2.1, by rw [stF_n _ _ _ (by decide)]; exact hval2.2.1, by rw [stF_n _ _ _ (by decide)]; exact hval2.2.2⟩, by omega⟩
              · have e1 : tkQ B t (j + 1) = tkE B t (pl B t j) := rfl
                have e2 := q_next (B := B) (t := t) (j := j) (by omega) hjq
                rw [e1, hpk, ← hto] at e2
                rw [e1, hpk, ← hto]; exact ⟨by omega, by omega⟩
              · rw [pl, show tkQ B t (j + 1) = tkE B t (pl B t j) from rfl, hpk, ← hto]; rfl
            · refine r_iload_n (pc := 176) 2 dX11_splits_176 rfl rfl ?_
              refine r_callS (pc := 177) (As := [(.int (iI (A k)))]) (S := []) dX11_splits_177 cs_X11_162 rfl (Nat.le_of_ble_eq_true rfl) (m_digit l z _ (by omega)) (Nat.zero_le _) (Nat.zero_le _) (fun r_177 g_177 f_177 q_177 => ?_)
              obtain ⟨rfl, rfl, rfl⟩ := q_177
              refine r_if_eq (pc := 180) (tgt := 247) dX11_splits_180 (by decide) (b01_r) (fun c_180 => ?_) (fun c_180 => ?_)
              · replace c_180 := b01_z c_180
                refine r_aload_n (pc := 247) 4 dX11_splits_247 rfl rfl ?_
                refine r_dup (pc := 248) dX11_splits_248 rfl ?_
                refine r_getIv (pc := 249) (x := ((j : Nat) : Int)) dX11_splits_249 fl_X11_156 rfl hM.k (by rw [h164]; exact hI.2.2.1) ?_
                refine r_iconst (pc := 252) dX11_splits_252 ?_
                refine r_iadd (pc := 253) dX11_splits_253 ?_
                refine r_eqI (y := ((j + 1 : Nat) : Int)) (Int.natCast_add _ _ |>.symm) ?_
                refine r_putI (pc := 254) dX11_splits_254 fl_X11_156 rfl rfl hM.k ?_
                refine r_iload (pc := 257) 1 dX11_splits_257 rfl ?_
                refine r_istore_n (pc := 259) (L2 := [(2, (.int (iI (((to_ : Nat) : Int))))), (5, (.int (iI (((k + n : Nat) : Int))))), (4, (.int (iI (((to_ : Nat) : Int))))), (3, (.int (iI (A k)))), (0, (.ref 164)), (1, (.int (iI (((t : Nat) : Int)))))]) dX11_splits_259 rfl (by decide) rfl ?_
                refine r_goto (pc := 260) (tgt := 7) dX11_splits_260 (by decide) ?_
                have hval2 : min (f2 173 j) 1001 = vj B t j ∧ 0 ≤ f2 173 j ∧ f2 173 j ≤ 10000009 := by
                  rw [hval]
                  by_cases hd : 48 ≤ A k ∧ A k ≤ 57
                  · have hnn : n = to_ - k := by omega
                    have hk7 : kj B t j = 257 := by rw [kj, hpk, tkK, if_neg (by omega), if_neg (by simp only [ltB, decide_eq_true_eq]; omega), if_pos (by simp only [dgB, decide_eq_true_eq]; omega)]
                    have hall : ∀ i, i < n → 48 ≤ A (k + i) ∧ A (k + i) ≤ 57 := fun i hi => by
                      have e1 : tkE B t k = adv (dgB B) t (t - k) k := by unfold tkE; rw [if_neg (by omega), if_neg (by simp only [ltB, decide_eq_true_eq]; omega), if_pos (by simp only [dgB, decide_eq_true_eq]; omega)]
                      have e2 := adv_all (P := dgB B) (t := t) (t - k) k (k + i) (by omega) (by rw [← e1, ← hto]; omega)
                      have e3 := hS (k + i)
                      simp only [dgB, decide_eq_true_eq] at e2
                      omega
                    have hmn := mn_nu (p := k) hS n hall
                    rw [vj, if_pos hk7, hpk, ← hto, ← hnn]
                    exact ⟨hmn.2, hmn.1⟩
                  · have hnn : n = 0 := by omega
                    have hk7 : ¬ kj B t j = 257 := fun h => by
                      have := (kj_257 hS.by h).2.2
                      rw [hpk] at this
                      simp only [dgB, decide_eq_true_eq] at this
                      omega
                    rw [vj, if_neg hk7, hnn]
                    simp only [mnV]; omega
                refine r_sub (L2 := [(2, (.int (iI (((to_ : Nat) : Int))))), (0, (.ref 164)), (1, (.int (iI (((t : Nat) : Int)))))]) [0, 4, 5] rfl ?_
                refine ih (t + 1 - to_) (by omega) to_ (j + 1) rfl (by omega) _ ?_ ?_ (by omega) ?_
                · refine ⟨fun a h1 h2 h3 h4 => by rw [stF_n _ _ _ h1]; exact hfr2 a h1 h2 h3 h4, fun i hi => by rw [stF_i _ _ _ hi, h164]; exact hI.2.1 i hi, stF_s _ _ _ _, fun i hi => ?_⟩
                  rcases (show i < j ∨ i = j by omega) with q | rfl
                  · obtain ⟨⟨a1, a2, a3, a4, a5⟩, a6⟩ := hI.2.2.2 i q
                    have hl := hlow i (by omega)
                    exact ⟨⟨rdn (by decide) (hl.1.trans a1), rdn (by decide) (hl.2.2.trans a2), by rw [stF_n _ _ _ (by decide), hl.2.1]; exact a3, by rw [stF_n _ _ _ (by decide), hl.2.1]; exact a4, by rw [stF_n _ _ _ (by decide), hl.2.1]; exact a5⟩, a6⟩
                  · exact ⟨⟨rdn (by decide) hcode, rdn (by decide) (by rw [hplc, hpk]), by rw [stF_n _ _ _ (by decide)]; exact hval2.1, by rw [stF_n _ _ _ (by decide)]; exact hval2.2.1, by rw [stF_n _ _ _ (by decide)]; exact hval2.2.2⟩, by omega⟩
                · have e1 : tkQ B t (j + 1) = tkE B t (pl B t j) := rfl
                  have e2 := q_next (B := B) (t := t) (j := j) (by omega) hjq
                  rw [e1, hpk, ← hto] at e2
                  rw [e1, hpk, ← hto]; exact ⟨by omega, by omega⟩
                · rw [pl, show tkQ B t (j + 1) = tkE B t (pl B t j) from rfl, hpk, ← hto]; rfl
              · replace c_180 := b01_nz c_180
                have hmr : 0 ≤ mnV A k n ∧ mnV A k n ≤ 10000009 := (mn_nu (p := k) hS n (fun i hi => by
                  have e1 : tkE B t k = adv (dgB B) t (t - k) k := by unfold tkE; rw [if_neg (by omega), if_neg (by simp only [ltB, decide_eq_true_eq]; omega), if_pos (by simp only [dgB, decide_eq_true_eq]; omega)]
                  have e2 := adv_all (P := dgB B) (t := t) (t - k) k (k + i) (by omega) (by rw [← e1, ← hto]; omega)
                  have e3 := hS (k + i)
                  simp only [dgB, decide_eq_true_eq] at e2
                  omega)).1
                have hSn := hS (k + n)
                refine r_aload_n (pc := 183) 4 dX11_splits_183 rfl rfl ?_
                refine r_getR (pc := 184) (b := 173) dX11_splits_184 fl_X11_43 rfl hM.k hM.r12 ?_
                refine r_aload_n (pc := 187) 4 dX11_splits_187 rfl rfl ?_
                refine r_getIv (pc := 188) (x := ((j : Nat) : Int)) dX11_splits_188 fl_X11_156 rfl hM.k (by rw [h164]; exact hI.2.2.1) ?_
                refine r_aload_n (pc := 191) 4 dX11_splits_191 rfl rfl ?_
                refine r_getR (pc := 192) (b := 173) dX11_splits_192 fl_X11_43 rfl hM.k hM.r12 ?_
                refine r_aload_n (pc := 195) 4 dX11_splits_195 rfl rfl ?_
                refine r_getIv (pc := 196) (x := ((j : Nat) : Int)) dX11_splits_196 fl_X11_156 rfl hM.k (by rw [h164]; exact hI.2.2.1) ?_
                refine r_ialdv (pc := 199) (w := mnV A k n) dX11_splits_199 hM.a12 (by omega) (by decide) (hval) ?_
                refine r_ldc (pc := 200) (x := 1000000) dX11_splits_200 kc_X11_168 (by decide) ?_
                refine r_icmp_le (pc := 202) (tgt := 217) dX11_splits_202 (by decide) (by omega) (by omega) (fun c_202 => ?_) (fun c_202 => ?_)
                · refine r_bipush (pc := 217) dX11_splits_217 (by decide) ?_
                  refine r_aload_n (pc := 219) 4 dX11_splits_219 rfl rfl ?_
                  refine r_getR (pc := 220) (b := 173) dX11_splits_220 fl_X11_43 rfl hM.k hM.r12 ?_
                  refine r_aload_n (pc := 223) 4 dX11_splits_223 rfl rfl ?_
                  refine r_getIv (pc := 224) (x := ((j : Nat) : Int)) dX11_splits_224 fl_X11_156 rfl hM.k (by rw [h164]; exact hI.2.2.1) ?_
                  refine r_ialdv (pc := 227) (w := mnV A k n) dX11_splits_227 hM.a12 (by omega) (by decide) (hval) ?_
                  refine r_imul (pc := 228) dX11_splits_228 ?_
                  refine r_aload_n (pc := 229) 4 dX11_splits_229 rfl rfl ?_
                  refine r_getR (pc := 230) (b := 170) dX11_splits_230 fl_X11_31 rfl hM.k hM.r7 ?_
                  refine r_iload (pc := 233) 0 dX11_splits_233 rfl ?_
                  refine r_baldv (pc := 235) (w := A (k + n)) dX11_splits_235 hM.a7 (by omega) (by decide) (by rw [hfr2 170 (by decide) (by decide) (by decide) (by decide)]; exact hA _) ?_
                  refine r_iadd (pc := 236) dX11_splits_236 ?_
                  refine r_bipush (pc := 237) dX11_splits_237 (by decide) ?_
                  refine r_isub (pc := 239) dX11_splits_239 ?_
                  refine r_eqI (y := mnV A k (n + 1)) (by simp only [mnV]; rw [if_neg (by omega)]) ?_
                  refine r_iastv (pc := 240) (i := j) dX11_splits_240 hM.a12 (by omega) (by decide) rfl ?_
                  refine r_iincv (pc := 241) (y := ((k + n + 1 : Nat) : Int)) (L2 := [(5, (.int (iI (((k + n + 1 : Nat) : Int))))), (4, (.int (iI (((to_ : Nat) : Int))))), (3, (.int (iI (A k)))), (2, (.int (iI (((k : Nat) : Int))))), (0, (.ref 164)), (1, (.int (iI (((t : Nat) : Int)))))]) 0 dX11_splits_241 rfl (by omega) (by decide) rfl ?_
                  refine r_goto (pc := 244) (tgt := 169) dX11_splits_244 (by decide) ?_
                  refine r_sub (L2 := [(5, (.int (iI (((k + (n + 1) : Nat) : Int))))), (4, (.int (iI (((to_ : Nat) : Int))))), (3, (.int (iI (A k)))), (2, (.int (iI (((k : Nat) : Int))))), (0, (.ref 164)), (1, (.int (iI (((t : Nat) : Int)))))]) [0, 1, 2, 3, 4, 5] rfl ?_
                  exact ihV (to_ - (k + (n + 1))) (by omega) (n + 1) (by omega) (by omega) _ (fun a h1 h2 h3 h4 => by rw [stF_n _ _ _ h3]; exact hfr2 a h1 h2 h3 h4) (by rw [stF_n _ _ _ (by decide)]; exact h164) (fun q hq => ⟨rdn (by decide) (hlow q hq).1, rdi (by omega) (hlow q hq).2.1, rdn (by decide) (hlow q hq).2.2⟩) (rdn (by decide) hcode) (stF_s _ _ _ _) (rdn (by decide) hplc) (fun h => absurd c_180 h)
                · refine r_aload_n (pc := 205) 4 dX11_splits_205 rfl rfl ?_
                  refine r_getR (pc := 206) (b := 173) dX11_splits_206 fl_X11_43 rfl hM.k hM.r12 ?_
                  refine r_aload_n (pc := 209) 4 dX11_splits_209 rfl rfl ?_
                  refine r_getIv (pc := 210) (x := ((j : Nat) : Int)) dX11_splits_210 fl_X11_156 rfl hM.k (by rw [h164]; exact hI.2.2.1) ?_
                  refine r_ialdv (pc := 213) (w := mnV A k n) dX11_splits_213 hM.a12 (by omega) (by decide) (hval) ?_
                  refine r_goto (pc := 214) (tgt := 240) dX11_splits_214 (by decide) ?_
                  refine r_eqI (y := mnV A k (n + 1)) (by simp only [mnV]; rw [if_pos (by omega)]) ?_
                  refine r_iastv (pc := 240) (i := j) dX11_splits_240 hM.a12 (by omega) (by decide) rfl ?_
                  refine r_iincv (pc := 241) (y := ((k + n + 1 : Nat) : Int)) (L2 := [(5, (.int (iI (((k + n + 1 : Nat) : Int))))), (4, (.int (iI (((to_ : Nat) : Int))))), (3, (.int (iI (A k)))), (2, (.int (iI (((k : Nat) : Int))))), (0, (.ref 164)), (1, (.int (iI (((t : Nat) : Int)))))]) 0 dX11_splits_241 rfl (by omega) (by decide) rfl ?_
                  refine r_goto (pc := 244) (tgt := 169) dX11_splits_244 (by decide) ?_
                  refine r_sub (L2 := [(5, (.int (iI (((k + (n + 1) : Nat) : Int))))), (4, (.int (iI (((to_ : Nat) : Int))))), (3, (.int (iI (A k)))), (2, (.int (iI (((k : Nat) : Int))))), (0, (.ref 164)), (1, (.int (iI (((t : Nat) : Int)))))]) [0, 1, 2, 3, 4, 5] rfl ?_
                  exact ihV (to_ - (k + (n + 1))) (by omega) (n + 1) (by omega) (by omega) _ (fun a h1 h2 h3 h4 => by rw [stF_n _ _ _ h3]; exact hfr2 a h1 h2 h3 h4) (by rw [stF_n _ _ _ (by decide)]; exact h164) (fun q hq => ⟨rdn (by decide) (hlow q hq).1, rdi (by omega) (hlow q hq).2.1, rdn (by decide) (hlow q hq).2.2⟩) (rdn (by decide) hcode) (stF_s _ _ _ _) (rdn (by decide) hplc) (fun h => absurd c_180 h)
        refine r_aload_n (pc := 100) 3 dX11_splits_100 rfl rfl ?_
        refine r_getR (pc := 101) (b := 174) dX11_splits_101 fl_X11_46 rfl hM.k hM.r13 ?_
        refine r_aload_n (pc := 104) 3 dX11_splits_104 rfl rfl ?_
        refine r_getIv (pc := 105) (x := ((j : Nat) : Int)) dX11_splits_105 fl_X11_156 rfl hM.k (hI.2.2.1) ?_
        refine r_iload_n (pc := 108) 2 dX11_splits_108 rfl rfl ?_
        refine r_iastv (pc := 109) (i := j) dX11_splits_109 hM.a13 (by omega) (by decide) rfl ?_
        refine r_aload_n (pc := 110) 3 dX11_splits_110 rfl rfl ?_
        refine r_getR (pc := 111) (b := 173) dX11_splits_111 fl_X11_43 rfl hM.k hM.r12 ?_
        refine r_aload_n (pc := 114) 3 dX11_splits_114 rfl rfl ?_
        refine r_getIv (pc := 115) (x := ((j : Nat) : Int)) dX11_splits_115 fl_X11_156 rfl hM.k (rdn (by decide) (hI.2.2.1)) ?_
        refine r_iconst (pc := 118) dX11_splits_118 ?_
        refine r_iastv (pc := 119) (i := j) dX11_splits_119 hM.a12 (by omega) (by decide) rfl ?_
        refine r_aload_n (pc := 120) 3 dX11_splits_120 rfl rfl ?_
        refine r_getR (pc := 121) (b := 172) dX11_splits_121 fl_X11_40 rfl hM.k hM.r11 ?_
        refine r_aload_n (pc := 124) 3 dX11_splits_124 rfl rfl ?_
        refine r_getIv (pc := 125) (x := ((j : Nat) : Int)) dX11_splits_125 fl_X11_156 rfl hM.k (rdn (by decide) (rdn (by decide) (hI.2.2.1))) ?_
        refine r_iload_n (pc := 128) 1 dX11_splits_128 rfl rfl ?_
        refine r_callS (pc := 129) (As := [(.int (iI (A k)))]) (S := [(.int (iI (((j : Nat) : Int)))), (.ref 172)]) dX11_splits_129 cs_X11_159 rfl (Nat.le_of_ble_eq_true rfl) (m_small l z _ (by omega)) (Nat.zero_le _) (Nat.zero_le _) (fun r_129 g_129 f_129 q_129 => ?_)
        obtain ⟨rfl, rfl, rfl⟩ := q_129
        refine r_if_eq (pc := 132) (tgt := 145) dX11_splits_132 (by decide) (b01_r) (fun c_132 => ?_) (fun c_132 => ?_)
        · replace c_132 := b01_z c_132
          refine r_iload_n (pc := 145) 1 dX11_splits_145 rfl rfl ?_
          refine r_callS (pc := 146) (As := [(.int (iI (A k)))]) (S := [(.int (iI (((j : Nat) : Int)))), (.ref 172)]) dX11_splits_146 cs_X11_162 rfl (Nat.le_of_ble_eq_true rfl) (m_digit l z _ (by omega)) (Nat.zero_le _) (Nat.zero_le _) (fun r_146 g_146 f_146 q_146 => ?_)
          obtain ⟨rfl, rfl, rfl⟩ := q_146
          refine r_if_eq (pc := 149) (tgt := 157) dX11_splits_149 (by decide) (b01_r) (fun c_149 => ?_) (fun c_149 => ?_)
          · replace c_149 := b01_z c_149
            refine r_bipush (pc := 157) dX11_splits_157 (by decide) ?_
            refine r_iload_n (pc := 159) 1 dX11_splits_159 rfl rfl ?_
            refine r_sipush (pc := 160) dX11_splits_160 (by decide) ?_
            refine r_iand (pc := 163) (w := B k) dX11_splits_163  (by have h1 := iI_and255 hSk; exact h1) ?_
            refine r_iadd (pc := 164) dX11_splits_164 ?_
            refine r_iastv (pc := 165) (i := j) dX11_splits_165 hM.a11 (by omega) (by decide) rfl ?_
            refine r_iload_n (pc := 166) 2 dX11_splits_166 rfl rfl ?_
            refine r_istore (pc := 167) (L2 := [(5, (.int (iI (((k : Nat) : Int))))), (4, (.int (iI (((to_ : Nat) : Int))))), (3, (.int (iI (A k)))), (2, (.int (iI (((k : Nat) : Int))))), (0, (.ref 164)), (1, (.int (iI (((t : Nat) : Int)))))]) dX11_splits_167 (by decide) rfl ?_
            refine r_sub (L2 := [(5, (.int (iI (((k + 0 : Nat) : Int))))), (4, (.int (iI (((to_ : Nat) : Int))))), (3, (.int (iI (A k)))), (2, (.int (iI (((k : Nat) : Int))))), (0, (.ref 164)), (1, (.int (iI (((t : Nat) : Int)))))]) [0, 1, 2, 3, 4, 5] rfl ?_
            exact loopV (to_ - k) 0 rfl (by omega) _ (fun a h1 h2 h3 h4 => by rw [stF_n _ _ _ h2, stF_n _ _ _ h3, stF_n _ _ _ h4]; exact hI.1 a h1 h2 h3 h4) (by rw [stF_n _ _ _ (by decide), stF_n _ _ _ (by decide), stF_n _ _ _ (by decide)]) (fun q hq => ⟨rdi (by omega) (rdn (by decide) (rdn (by decide) rfl)), rdn (by decide) (rdi (by omega) (rdn (by decide) rfl)), rdn (by decide) (rdn (by decide) (rdi (by omega) rfl))⟩) (by rw [stF_s]; rw [cj, hpk, tC, if_neg (by omega), if_neg (by simp only [ltB, decide_eq_true_eq]; omega), if_neg (by simp only [dgB, decide_eq_true_eq]; omega)]) (rdn (by decide) (stF_s _ _ _ _)) (rdn (by decide) (rdn (by decide) (stF_s _ _ _ _))) (fun _ => rfl)
          · replace c_149 := b01_nz c_149
            refine r_bipush (pc := 152) dX11_splits_152 (by decide) ?_
            refine r_goto (pc := 154) (tgt := 165) dX11_splits_154 (by decide) ?_
            refine r_iastv (pc := 165) (i := j) dX11_splits_165 hM.a11 (by omega) (by decide) rfl ?_
            refine r_iload_n (pc := 166) 2 dX11_splits_166 rfl rfl ?_
            refine r_istore (pc := 167) (L2 := [(5, (.int (iI (((k : Nat) : Int))))), (4, (.int (iI (((to_ : Nat) : Int))))), (3, (.int (iI (A k)))), (2, (.int (iI (((k : Nat) : Int))))), (0, (.ref 164)), (1, (.int (iI (((t : Nat) : Int)))))]) dX11_splits_167 (by decide) rfl ?_
            refine r_sub (L2 := [(5, (.int (iI (((k + 0 : Nat) : Int))))), (4, (.int (iI (((to_ : Nat) : Int))))), (3, (.int (iI (A k)))), (2, (.int (iI (((k : Nat) : Int))))), (0, (.ref 164)), (1, (.int (iI (((t : Nat) : Int)))))]) [0, 1, 2, 3, 4, 5] rfl ?_
            exact loopV (to_ - k) 0 rfl (by omega) _ (fun a h1 h2 h3 h4 => by rw [stF_n _ _ _ h2, stF_n _ _ _ h3, stF_n _ _ _ h4]; exact hI.1 a h1 h2 h3 h4) (by rw [stF_n _ _ _ (by decide), stF_n _ _ _ (by decide), stF_n _ _ _ (by decide)]) (fun q hq => ⟨rdi (by omega) (rdn (by decide) (rdn (by decide) rfl)), rdn (by decide) (rdi (by omega) (rdn (by decide) rfl)), rdn (by decide) (rdn (by decide) (rdi (by omega) rfl))⟩) (by rw [stF_s]; rw [cj, hpk, tC, if_neg (by omega), if_neg (by simp only [ltB, decide_eq_true_eq]; omega), if_pos (by simp only [dgB, decide_eq_true_eq]; omega)]) (rdn (by decide) (stF_s _ _ _ _)) (rdn (by decide) (rdn (by decide) (stF_s _ _ _ _))) (fun _ => rfl)
        · replace c_132 := b01_nz c_132
          refine r_aload_n (pc := 135) 3 dX11_splits_135 rfl rfl ?_
          refine r_iload_n (pc := 136) 2 dX11_splits_136 rfl rfl ?_
          refine r_iload (pc := 137) 0 dX11_splits_137 rfl ?_
          refine r_callV (pc := 139) (As := [(.int (iI (((k : Nat) : Int)))), (.int (iI (((to_ : Nat) : Int))))]) (S := [(.int (iI (((j : Nat) : Int)))), (.ref 172)]) dX11_splits_139 cv_X11_165 hM.k rfl (Nat.le_of_ble_eq_true rfl) (m_wordOf (A := A) (B := B) (p := k) (e := to_) l z _ hM (fun q hq => rdn (by decide) (rdn (by decide) (by rw [hI.1 169 (by decide) (by decide) (by decide) (by decide)]; exact hwd q hq))) (fun q => rdn (by decide) (rdn (by decide) (by rw [hI.1 170 (by decide) (by decide) (by decide) (by decide)]; exact hA q))) hS (by omega) (by omega)) (Nat.zero_le _) (Nat.zero_le _) (fun r_139 g_139 f_139 q_139 => ?_)
          obtain ⟨rfl, rfl, rfl⟩ := q_139
          refine r_goto (pc := 142) (tgt := 165) dX11_splits_142 (by decide) ?_
          refine r_iastv (pc := 165) (i := j) dX11_splits_165 hM.a11 (by omega) (by decide) rfl ?_
          refine r_iload_n (pc := 166) 2 dX11_splits_166 rfl rfl ?_
          refine r_istore (pc := 167) (L2 := [(5, (.int (iI (((k : Nat) : Int))))), (4, (.int (iI (((to_ : Nat) : Int))))), (3, (.int (iI (A k)))), (2, (.int (iI (((k : Nat) : Int))))), (0, (.ref 164)), (1, (.int (iI (((t : Nat) : Int)))))]) dX11_splits_167 (by decide) rfl ?_
          refine r_sub (L2 := [(5, (.int (iI (((k + 0 : Nat) : Int))))), (4, (.int (iI (((to_ : Nat) : Int))))), (3, (.int (iI (A k)))), (2, (.int (iI (((k : Nat) : Int))))), (0, (.ref 164)), (1, (.int (iI (((t : Nat) : Int)))))]) [0, 1, 2, 3, 4, 5] rfl ?_
          exact loopV (to_ - k) 0 rfl (by omega) _ (fun a h1 h2 h3 h4 => by rw [stF_n _ _ _ h2, stF_n _ _ _ h3, stF_n _ _ _ h4]; exact hI.1 a h1 h2 h3 h4) (by rw [stF_n _ _ _ (by decide), stF_n _ _ _ (by decide), stF_n _ _ _ (by decide)]) (fun q hq => ⟨rdi (by omega) (rdn (by decide) (rdn (by decide) rfl)), rdn (by decide) (rdi (by omega) (rdn (by decide) rfl)), rdn (by decide) (rdn (by decide) (rdi (by omega) rfl))⟩) (by rw [stF_s]; rw [cj, hpk, tC, if_neg (by omega), if_pos (by simp only [ltB, decide_eq_true_eq]; omega), hto]) (rdn (by decide) (stF_s _ _ _ _)) (rdn (by decide) (rdn (by decide) (stF_s _ _ _ _))) (fun _ => rfl)
      have loopL : k < t → pl B t j = k → (97 ≤ A k ∧ A k ≤ 122) → ∀ m2 to_ : Nat, m2 = t + 1 - to_ → k < to_ → to_ ≤ t → adv (ltB B) t (t - k) k = adv (ltB B) t (t - to_) to_ → PW l z (d + 1) mX11_splits 0 0 (fun r g' f' => r = none ∧ g = g' ∧ ∃ T, T ≤ 400 ∧ SpI f f' B t T ∧ t ≤ pl B t T ∧ TkO f' B t T) 43 [(4, (.int (iI (((to_ : Nat) : Int))))), (3, (.int (iI (A k)))), (2, (.int (iI (((k : Nat) : Int))))), (0, (.ref 164)), (1, (.int (iI (((t : Nat) : Int)))))] [] g f1 0 0 := by
        intro hkt hpk hlet m2
        induction m2 using Nat.strongRecOn with
        | _ m2 ihL =>
          intro to_ hm2 hlt htt hadL
          refine r_iload (pc := 43) 0 dX11_splits_43 rfl ?_
          refine r_iload_n (pc := 45) 4 dX11_splits_45 rfl rfl ?_
          refine r_icmp_ge (pc := 46) (tgt := 68) dX11_splits_46 (by decide) (by omega) (by omega) (fun c_46 => ?_) (fun c_46 => ?_)
          · refine r_iload_n (pc := 68) 1 dX11_splits_68 rfl rfl ?_
            refine r_callS (pc := 69) (As := [(.int (iI (A k)))]) (S := []) dX11_splits_69 cs_X11_162 rfl (Nat.le_of_ble_eq_true rfl) (m_digit l z _ (by omega)) (Nat.zero_le _) (Nat.zero_le _) (fun r_69 g_69 f_69 q_69 => ?_)
            obtain ⟨rfl, rfl, rfl⟩ := q_69
            refine r_if_eq (pc := 72) (tgt := 100) dX11_splits_72 (by decide) (b01_r) (fun c_72 => ?_) (fun c_72 => ?_)
            · replace c_72 := b01_z c_72
              refine r_sub (L2 := [(4, (.int (iI (((to_ : Nat) : Int))))), (3, (.int (iI (A k)))), (2, (.int (iI (((k : Nat) : Int))))), (0, (.ref 164)), (1, (.int (iI (((t : Nat) : Int)))))]) [0, 1, 2, 3, 4] rfl ?_
              exact tail (by omega) hpk to_ (by unfold tkE; rw [if_neg (by omega), if_pos (by simp only [ltB, decide_eq_true_eq]; omega), hadL]; exact (adv_off (fun h => by have := h.2; simp only [ltB, decide_eq_true_eq] at this; omega)).symm) (by omega) (by omega)
            · replace c_72 := b01_nz c_72
              exfalso; omega
          · have hSt := hS to_
            refine r_aload_n (pc := 49) 3 dX11_splits_49 rfl rfl ?_
            refine r_getR (pc := 50) (b := 170) dX11_splits_50 fl_X11_31 rfl hM.k hM.r7 ?_
            refine r_iload (pc := 53) 0 dX11_splits_53 rfl ?_
            refine r_baldv (pc := 55) (w := A to_) dX11_splits_55 hM.a7 (by omega) (by decide) ((congrFun (hI.1 170 (by decide) (by decide) (by decide) (by decide)) _).trans (hA _)) ?_
            refine r_callS (pc := 56) (As := [(.int (iI (A to_)))]) (S := []) dX11_splits_56 cs_X11_159 rfl (Nat.le_of_ble_eq_true rfl) (m_small l z _ (by omega)) (Nat.zero_le _) (Nat.zero_le _) (fun r_56 g_56 f_56 q_56 => ?_)
            obtain ⟨rfl, rfl, rfl⟩ := q_56
            refine r_if_eq (pc := 59) (tgt := 68) dX11_splits_59 (by decide) (b01_r) (fun c_59 => ?_) (fun c_59 => ?_)
            · replace c_59 := b01_z c_59
              refine r_iload_n (pc := 68) 1 dX11_splits_68 rfl rfl ?_
              refine r_callS (pc := 69) (As := [(.int (iI (A k)))]) (S := []) dX11_splits_69 cs_X11_162 rfl (Nat.le_of_ble_eq_true rfl) (m_digit l z _ (by omega)) (Nat.zero_le _) (Nat.zero_le _) (fun r_69 g_69 f_69 q_69 => ?_)
              obtain ⟨rfl, rfl, rfl⟩ := q_69
              refine r_if_eq (pc := 72) (tgt := 100) dX11_splits_72 (by decide) (b01_r) (fun c_72 => ?_) (fun c_72 => ?_)
              · replace c_72 := b01_z c_72
                refine r_sub (L2 := [(4, (.int (iI (((to_ : Nat) : Int))))), (3, (.int (iI (A k)))), (2, (.int (iI (((k : Nat) : Int))))), (0, (.ref 164)), (1, (.int (iI (((t : Nat) : Int)))))]) [0, 1, 2, 3, 4] rfl ?_
                exact tail (by omega) hpk to_ (by unfold tkE; rw [if_neg (by omega), if_pos (by simp only [ltB, decide_eq_true_eq]; omega), hadL]; exact (adv_off (fun h => by have := h.2; simp only [ltB, decide_eq_true_eq] at this; omega)).symm) (by omega) (by omega)
              · replace c_72 := b01_nz c_72
                exfalso; omega
            · replace c_59 := b01_nz c_59
              refine r_iincv (pc := 62) (y := ((to_ + 1 : Nat) : Int)) (L2 := [(4, (.int (iI (((to_ + 1 : Nat) : Int))))), (3, (.int (iI (A k)))), (2, (.int (iI (((k : Nat) : Int))))), (0, (.ref 164)), (1, (.int (iI (((t : Nat) : Int)))))]) 0 dX11_splits_62 rfl (by omega) (by decide) rfl ?_
              refine r_goto (pc := 65) (tgt := 43) dX11_splits_65 (by decide) ?_
              refine r_sub (L2 := [(4, (.int (iI (((to_ + 1 : Nat) : Int))))), (3, (.int (iI (A k)))), (2, (.int (iI (((k : Nat) : Int))))), (0, (.ref 164)), (1, (.int (iI (((t : Nat) : Int)))))]) [0, 1, 2, 3, 4] rfl ?_
              exact ihL (t + 1 - (to_ + 1)) (by omega) (to_ + 1) rfl (by omega) (by omega) (by rw [hadL, show t - to_ = (t - (to_ + 1)) + 1 by omega, adv_on (by omega) (by simp only [ltB, decide_eq_true_eq]; omega)])
      have loopD : k < t → pl B t j = k → (48 ≤ A k ∧ A k ≤ 57) → ∀ m2 to_ : Nat, m2 = t + 1 - to_ → k < to_ → to_ ≤ t → adv (dgB B) t (t - k) k = adv (dgB B) t (t - to_) to_ → PW l z (d + 1) mX11_splits 0 0 (fun r g' f' => r = none ∧ g = g' ∧ ∃ T, T ≤ 400 ∧ SpI f f' B t T ∧ t ≤ pl B t T ∧ TkO f' B t T) 75 [(4, (.int (iI (((to_ : Nat) : Int))))), (3, (.int (iI (A k)))), (2, (.int (iI (((k : Nat) : Int))))), (0, (.ref 164)), (1, (.int (iI (((t : Nat) : Int)))))] [] g f1 0 0 := by
        intro hkt hpk hdig m2
        induction m2 using Nat.strongRecOn with
        | _ m2 ihD =>
          intro to_ hm2 hlt htt hadD
          refine r_iload (pc := 75) 0 dX11_splits_75 rfl ?_
          refine r_iload_n (pc := 77) 4 dX11_splits_77 rfl rfl ?_
          refine r_icmp_ge (pc := 78) (tgt := 100) dX11_splits_78 (by decide) (by omega) (by omega) (fun c_78 => ?_) (fun c_78 => ?_)
          · refine r_sub (L2 := [(4, (.int (iI (((to_ : Nat) : Int))))), (3, (.int (iI (A k)))), (2, (.int (iI (((k : Nat) : Int))))), (0, (.ref 164)), (1, (.int (iI (((t : Nat) : Int)))))]) [0, 1, 2, 3, 4] rfl ?_
            exact tail (by omega) hpk to_ (by unfold tkE; rw [if_neg (by omega), if_neg (by simp only [ltB, decide_eq_true_eq]; omega), if_pos (by simp only [dgB, decide_eq_true_eq]; omega), hadD]; exact (adv_off (fun h => by have := h.2; simp only [dgB, decide_eq_true_eq] at this; omega)).symm) (by omega) (by omega)
          · have hSt := hS to_
            refine r_aload_n (pc := 81) 3 dX11_splits_81 rfl rfl ?_
            refine r_getR (pc := 82) (b := 170) dX11_splits_82 fl_X11_31 rfl hM.k hM.r7 ?_
            refine r_iload (pc := 85) 0 dX11_splits_85 rfl ?_
            refine r_baldv (pc := 87) (w := A to_) dX11_splits_87 hM.a7 (by omega) (by decide) ((congrFun (hI.1 170 (by decide) (by decide) (by decide) (by decide)) _).trans (hA _)) ?_
            refine r_callS (pc := 88) (As := [(.int (iI (A to_)))]) (S := []) dX11_splits_88 cs_X11_162 rfl (Nat.le_of_ble_eq_true rfl) (m_digit l z _ (by omega)) (Nat.zero_le _) (Nat.zero_le _) (fun r_88 g_88 f_88 q_88 => ?_)
            obtain ⟨rfl, rfl, rfl⟩ := q_88
            refine r_if_eq (pc := 91) (tgt := 100) dX11_splits_91 (by decide) (b01_r) (fun c_91 => ?_) (fun c_91 => ?_)
            · replace c_91 := b01_z c_91
              refine r_sub (L2 := [(4, (.int (iI (((to_ : Nat) : Int))))), (3, (.int (iI (A k)))), (2, (.int (iI (((k : Nat) : Int))))), (0, (.ref 164)), (1, (.int (iI (((t : Nat) : Int)))))]) [0, 1, 2, 3, 4] rfl ?_
              exact tail (by omega) hpk to_ (by unfold tkE; rw [if_neg (by omega), if_neg (by simp only [ltB, decide_eq_true_eq]; omega), if_pos (by simp only [dgB, decide_eq_true_eq]; omega), hadD]; exact (adv_off (fun h => by have := h.2; simp only [dgB, decide_eq_true_eq] at this; omega)).symm) (by omega) (by omega)
            · replace c_91 := b01_nz c_91
              refine r_iincv (pc := 94) (y := ((to_ + 1 : Nat) : Int)) (L2 := [(4, (.int (iI (((to_ + 1 : Nat) : Int))))), (3, (.int (iI (A k)))), (2, (.int (iI (((k : Nat) : Int))))), (0, (.ref 164)), (1, (.int (iI (((t : Nat) : Int)))))]) 0 dX11_splits_94 rfl (by omega) (by decide) rfl ?_
              refine r_goto (pc := 97) (tgt := 75) dX11_splits_97 (by decide) ?_
              refine r_sub (L2 := [(4, (.int (iI (((to_ + 1 : Nat) : Int))))), (3, (.int (iI (A k)))), (2, (.int (iI (((k : Nat) : Int))))), (0, (.ref 164)), (1, (.int (iI (((t : Nat) : Int)))))]) [0, 1, 2, 3, 4] rfl ?_
              exact ihD (t + 1 - (to_ + 1)) (by omega) (to_ + 1) rfl (by omega) (by omega) (by rw [hadD, show t - to_ = (t - (to_ + 1)) + 1 by omega, adv_on (by omega) (by simp only [dgB, decide_eq_true_eq]; omega)])
      refine r_iload_n (pc := 7) 0 dX11_splits_7 rfl rfl ?_
      refine r_iload_n (pc := 8) 2 dX11_splits_8 rfl rfl ?_
      refine r_icmp_ge (pc := 9) (tgt := 263) dX11_splits_9 (by decide) (by omega) (by omega) (fun c_9 => ?_) (fun c_9 => ?_)
      · exact fin (by omega)
      · have hSk := hS k
        refine r_aload_n (pc := 12) 1 dX11_splits_12 rfl rfl ?_
        refine r_getR (pc := 13) (b := 170) dX11_splits_13 fl_X11_31 rfl hM.k hM.r7 ?_
        refine r_iload_n (pc := 16) 0 dX11_splits_16 rfl rfl ?_
        refine r_baldv (pc := 17) (w := A k) dX11_splits_17 hM.a7 (by omega) (by decide) ((congrFun (hI.1 170 (by decide) (by decide) (by decide) (by decide)) _).trans (hA _)) ?_
        refine r_istore_n (pc := 18) (L2 := [(3, (.int (iI (A k)))), (2, (.int (iI (((k : Nat) : Int))))), (0, (.ref 164)), (1, (.int (iI (((t : Nat) : Int)))))]) dX11_splits_18 rfl (by decide) rfl ?_
        refine r_iload_n (pc := 19) 0 dX11_splits_19 rfl rfl ?_
        refine r_bipush (pc := 20) dX11_splits_20 (by decide) ?_
        refine r_icmp_ne (pc := 22) (tgt := 31) dX11_splits_22 (by decide) (by omega) (by omega) (fun c_22 => ?_) (fun c_22 => ?_)
        · have hpk : pl B t j = k := by rw [← hadv]; exact adv_off (fun h => by have := h.2; simp only [blB, decide_eq_true_eq] at this; omega)
          refine r_iload_n (pc := 31) 1 dX11_splits_31 rfl rfl ?_
          refine r_iconst (pc := 32) dX11_splits_32 ?_
          refine r_iadd (pc := 33) dX11_splits_33 ?_
          refine r_eqI (y := ((k + 1 : Nat) : Int)) (Int.natCast_add _ _ |>.symm) ?_
          refine r_istore (pc := 34) (L2 := [(4, (.int (iI (((k + 1 : Nat) : Int))))), (3, (.int (iI (A k)))), (2, (.int (iI (((k : Nat) : Int))))), (0, (.ref 164)), (1, (.int (iI (((t : Nat) : Int)))))]) dX11_splits_34 (by decide) rfl ?_
          refine r_iload_n (pc := 36) 1 dX11_splits_36 rfl rfl ?_
          refine r_callS (pc := 37) (As := [(.int (iI (A k)))]) (S := []) dX11_splits_37 cs_X11_159 rfl (Nat.le_of_ble_eq_true rfl) (m_small l z _ (by omega)) (Nat.zero_le _) (Nat.zero_le _) (fun r_37 g_37 f_37 q_37 => ?_)
          obtain ⟨rfl, rfl, rfl⟩ := q_37
          refine r_if_eq (pc := 40) (tgt := 68) dX11_splits_40 (by decide) (b01_r) (fun c_40 => ?_) (fun c_40 => ?_)
          · replace c_40 := b01_z c_40
            refine r_iload_n (pc := 68) 1 dX11_splits_68 rfl rfl ?_
            refine r_callS (pc := 69) (As := [(.int (iI (A k)))]) (S := []) dX11_splits_69 cs_X11_162 rfl (Nat.le_of_ble_eq_true rfl) (m_digit l z _ (by omega)) (Nat.zero_le _) (Nat.zero_le _) (fun r_69 g_69 f_69 q_69 => ?_)
            obtain ⟨rfl, rfl, rfl⟩ := q_69
            refine r_if_eq (pc := 72) (tgt := 100) dX11_splits_72 (by decide) (b01_r) (fun c_72 => ?_) (fun c_72 => ?_)
            · replace c_72 := b01_z c_72
              refine r_sub (L2 := [(4, (.int (iI (((k + 1 : Nat) : Int))))), (3, (.int (iI (A k)))), (2, (.int (iI (((k : Nat) : Int))))), (0, (.ref 164)), (1, (.int (iI (((t : Nat) : Int)))))]) [0, 1, 2, 3, 4] rfl ?_
              exact tail (by omega) hpk (k + 1) (by unfold tkE; rw [if_neg (by omega), if_neg (by simp only [ltB, decide_eq_true_eq]; omega), if_neg (by simp only [dgB, decide_eq_true_eq]; omega)]) (by omega) (by omega)
            · replace c_72 := b01_nz c_72
              refine r_sub (L2 := [(4, (.int (iI (((k + 1 : Nat) : Int))))), (3, (.int (iI (A k)))), (2, (.int (iI (((k : Nat) : Int))))), (0, (.ref 164)), (1, (.int (iI (((t : Nat) : Int)))))]) [0, 1, 2, 3, 4] rfl ?_
              exact loopD (by omega) hpk c_72 (t + 1 - (k + 1)) (k + 1) rfl (by omega) (by omega) (by rw [show t - k = (t - (k + 1)) + 1 by omega, adv_on (by omega) (by simp only [dgB, decide_eq_true_eq]; omega)])
          · replace c_40 := b01_nz c_40
            refine r_sub (L2 := [(4, (.int (iI (((k + 1 : Nat) : Int))))), (3, (.int (iI (A k)))), (2, (.int (iI (((k : Nat) : Int))))), (0, (.ref 164)), (1, (.int (iI (((t : Nat) : Int)))))]) [0, 1, 2, 3, 4] rfl ?_
            exact loopL (by omega) hpk c_40 (t + 1 - (k + 1)) (k + 1) rfl (by omega) (by omega) (by rw [show t - k = (t - (k + 1)) + 1 by omega, adv_on (by omega) (by simp only [ltB, decide_eq_true_eq]; omega)])
        · refine r_iincv (pc := 25) (y := ((k + 1 : Nat) : Int)) (L2 := [(2, (.int (iI (((k + 1 : Nat) : Int))))), (3, (.int (iI (A k)))), (0, (.ref 164)), (1, (.int (iI (((t : Nat) : Int)))))]) 1 dX11_splits_25 rfl (by omega) (by decide) rfl ?_
          refine r_goto (pc := 28) (tgt := 7) dX11_splits_28 (by decide) ?_
          refine r_sub (L2 := [(2, (.int (iI (((k + 1 : Nat) : Int))))), (0, (.ref 164)), (1, (.int (iI (((t : Nat) : Int)))))]) [0, 2, 3] rfl ?_
          exact ih (t + 1 - (k + 1)) (by omega) (k + 1) j rfl (by omega) f1 hI (by omega) (by omega) (by rw [← hadv, show t - k = (t - (k + 1)) + 1 by omega, adv_on (by omega) (by simp [blB]; omega)])
  refine r_aload_n (pc := 0) 0 dX11_splits_0 rfl rfl ?_
  refine r_iconst (pc := 1) dX11_splits_1 ?_
  refine r_putI (pc := 2) dX11_splits_2 fl_X11_156 rfl rfl hM.k ?_
  refine r_iconst (pc := 5) dX11_splits_5 ?_
  refine r_istore_n (pc := 6) (L2 := [(2, (.int (iI (0)))), (0, (.ref 164)), (1, (.int (iI (((t : Nat) : Int)))))]) dX11_splits_6 rfl (by decide) rfl ?_
  refine r_sub (L2 := [(2, (.int (iI (0)))), (0, (.ref 164)), (1, (.int (iI (((t : Nat) : Int)))))]) [0, 1, 2] rfl ?_
  exact main (t + 1) 0 0 rfl (by omega) _ ⟨fun a h1 _ _ _ => stF_n _ _ _ h1, fun i hi => stF_i _ _ _ hi, stF_s _ _ _ _, fun i hi => absurd hi (by omega)⟩ ⟨Nat.zero_le _, Nat.zero_le _⟩ (Nat.zero_le _) rfl

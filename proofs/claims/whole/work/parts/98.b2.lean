theorem BK.go {g : Gm} {f f' : Fm} {b n : Nat} {od : Nat → Nat} {K : Nat → Int} {D M : Int} (h : BK g f b K) (hO : KO K D M) (hn : n ≤ 8) (hb : b + 10 ≤ 163) (hf : ∀ q, q ≠ b + 1 → q ≠ b + 2 → q ≠ 163 → f' q = f q) (htr : ∀ w c, w < 5 → c < 8 → f' (b + 1) (8 * w + c) = goK K n od (5 * c + w)) (hte : ∀ t, t < 5 → f' (b + 2) t = goK K n od (40 + t)) : BK g f' b (goK K n od) := by
  have e : ∀ j, 44 < j → goK K n od j = K j := fun j h => goK_o K od (Or.inr h) hn
  refine ⟨by rw [hf b (by omega) (by omega) (by omega), e _ (by omega)]; exact h.n, by rw [hf b (by omega) (by omega) (by omega), e _ (by omega)]; exact h.nl, by rw [hf b (by omega) (by omega) (by omega), e _ (by omega)]; exact h.fo, htr, hte, by rw [hf _ (by omega) (by omega) (by omega), e _ (by omega)]; exact h.sm, fun i hi => by rw [hf _ (by omega) (by omega) (by omega), hf _ (by omega) (by omega) (by omega), e _ (by omega), e _ (by omega)]; exact h.si hi, by rw [hf _ (by omega) (by omega) (by omega), e _ (by omega)]; exact h.cm, fun i hi => by rw [hf _ (by omega) (by omega) (by omega), hf _ (by omega) (by omega) (by omega), e _ (by omega), e _ (by omega)]; exact h.ci hi, fun i hi => ?_, h.lk⟩
  rw [e 80 (by omega)] at hi
  obtain ⟨q, a1, a2⟩ := h.lw i hi
  have h80 := hO.nl
  have hw := hO.lw i hi
  rw [(lawK_e (K := K) (K' := goK K n od) (i := i) (e _ (by omega)) (by unfold kT; omega) (fun j hj => ⟨e _ (by omega), e _ (by omega)⟩)).1]
  exact ⟨q, a1, a2.mem (gx.rf g) (fun a h3 h4 => hf a (by omega) (by omega) (by omega))⟩

theorem stO_r {K : Nat → Int} {D M : Int} {n q s : Nat} (hO : KO K D M) (hM : M ≤ 1100000) (hn : n ≤ 8) (hq : q ≤ 1) : stO (ovK K) (waK K (K 42) (hdK K)) (bkK K) n q s ≤ 1100320 := by
  unfold stO
  have h1 := (bkK_r (o := q) hO hM hq).2
  have h2 := lvN_r (wa := fun k => if ovK K k = q then (waK K (K 42) (hdK K)) k else 0) (s := s) n (fun c hc => by
    have := waK_r (day := K 42) (hd := hdK K) hO (show c < 8 by omega)
    split <;> omega)
  omega

set_option maxRecDepth 100000 in
set_option maxHeartbeats 4000000 in
theorem x_goBy (l : Launch) (z : Zv) (d : Nat) {g : Gm} {f : Fm} {y b n : Nat} {K : Nat → Int} {D0 M0 : Int} {od : Nat → Nat} (hY : DL g y) (hB : BL g b) (hK : BK g f b K) (hO : KO K D0 M0) (hD0 : D0 ≤ 1000000) (hM0 : M0 ≤ 1100000) (hn : K 77 = ((n : Nat) : Int)) (hby : b + 10 ≤ y) (hy : y + 12 ≤ 163) (hDA : DA f y K n) (hok : okO od n) (hG : isA g 163 11 8) {o : Nat} (hA : isA g o 11 8) (ho3 : o ≠ 163) (ho : ∀ i, i < n → f o i = ((od i : Nat) : Int)) : PM l z (d + 3) mX1_goBy [.ref b, .ref y, .ref o, .ref 163] g f 0 0 (fun r g' f' => g = g' ∧ (∀ q, q ≠ b + 1 → q ≠ b + 2 → q ≠ 163 → f' q = f q) ∧ (∀ c, c < n → f' 163 c = gcK K n od c) ∧ ((fitP K n od ∧ r = some (.int (iI (alK K n od n))) ∧ BK g f' b (goK K n od)) ∨ (¬ fitP K n od ∧ r = some (.int (iI (-1))) ∧ f' (b + 1) = f (b + 1) ∧ f' (b + 2) = f (b + 2)))) := by
  have hn8 : n ≤ 8 := by have := hO.n; omega
  have hdy := hO.dy
  have hA4 := hDA.2.2
  have hst0 : stO (ovK K) (waK K (K 42) (hdK K)) (bkK K) n 0 (sO od n) = bkK K 0 + swN (ovK K) (waK K (K 42) (hdK K)) 0 n := stO_full (bc_full n (sO_bc hok n (Nat.le_refl _)))
  have hst1 : stO (ovK K) (waK K (K 42) (hdK K)) (bkK K) n 1 (sO od n) = bkK K 1 + swN (ovK K) (waK K (K 42) (hdK K)) 1 n := stO_full (bc_full n (sO_bc hok n (Nat.le_refl _)))
  refine PM.of (by decide +kernel) (Nat.le_of_ble_eq_true rfl) ?_
  have loop2 : fitP K n od → ∀ f1 : Fm, (∀ q, q ≠ 163 → f1 q = f q) → (∀ c, c < n → f1 163 c = gcK K n od c) → ∀ m c : Nat, m = n - c → c ≤ n → ∀ f2 : Fm, (∀ q, q ≠ b + 1 → f2 q = f1 q) → (∀ w c', w < 5 → c' < 8 → f2 (b + 1) (8 * w + c') = if c' < c ∧ w = 3 then K (5 * c' + 3) + gcK K n od c' else if c' < c ∧ w = 4 then K (5 * c' + 4) + (((waK K (K 42) (hdK K)) c' : Nat) : Int) else K (5 * c' + w)) → PW l z (d + 3) mX1_goBy 0 0 (fun r g' f' => g = g' ∧ (∀ q, q ≠ b + 1 → q ≠ b + 2 → q ≠ 163 → f' q = f q) ∧ (∀ c, c < n → f' 163 c = gcK K n od c) ∧ ((fitP K n od ∧ r = some (.int (iI (alK K n od n))) ∧ BK g f' b (goK K n od)) ∨ (¬ fitP K n od ∧ r = some (.int (iI (-1))) ∧ f' (b + 1) = f (b + 1) ∧ f' (b + 2) = f (b + 2)))) 232 [(8, (.int (iI (((c : Nat) : Int))))), (6, (.int (iI (alK K n od n)))), (5, (.int (iI (((stO (ovK K) (waK K (K 42) (hdK K)) (bkK K) n 1 (sO od n) : Nat) : Int))))), (4, (.int (iI (((stO (ovK K) (waK K (K 42) (hdK K)) (bkK K) n 0 (sO od n) : Nat) : Int))))), (0, (.ref b)), (1, (.ref y)), (2, (.ref o)), (3, (.ref 163))] [] g f2 0 0 := by
    intro hfit f1 hF1 hGc m
    induction m using Nat.strongRecOn with
    | _ m ih =>
      intro c hm hc0 f2 hF2 hT2
      refine r_iload (pc := 232) 0 dX1_goBy_232 rfl ?_
      refine r_aload_n (pc := 234) 4 dX1_goBy_234 rfl rfl ?_
      refine r_getIv (pc := 235) (x := ((n : Nat) : Int)) dX1_goBy_235 fl_X1_38 rfl hB.k (by rw [hF2 b (by omega), hF1 b (by omega)]; exact hK.n.trans hn) ?_
      refine r_icmp_ge (pc := 238) (tgt := 288) dX1_goBy_238 (by decide) (by omega) (by omega) (fun c_238 => ?_) (fun c_238 => ?_)
      · refine r_aload_n (pc := 288) 4 dX1_goBy_288 rfl rfl ?_
        refine r_getR (pc := 289) (b := (b + 2)) dX1_goBy_289 fl_X1_15 rfl hB.k hB.r1 ?_
        refine r_iconst (pc := 292) dX1_goBy_292 ?_
        refine r_iload (pc := 293) 3 dX1_goBy_293 rfl ?_
        refine r_iastv (pc := 295) (i := 3) dX1_goBy_295 hB.a1 (by decide) (by decide) rfl ?_
        refine r_aload_n (pc := 296) 4 dX1_goBy_296 rfl rfl ?_
        refine r_getR (pc := 297) (b := (b + 2)) dX1_goBy_297 fl_X1_15 rfl hB.k hB.r1 ?_
        refine r_iconst (pc := 300) dX1_goBy_300 ?_
        refine r_iload (pc := 301) 2 dX1_goBy_301 rfl ?_
        refine r_iastv (pc := 303) (i := 4) dX1_goBy_303 hB.a1 (by decide) (by decide) rfl ?_
        refine r_aload_n (pc := 304) 4 dX1_goBy_304 rfl rfl ?_
        refine r_getR (pc := 305) (b := (b + 2)) dX1_goBy_305 fl_X1_15 rfl hB.k hB.r1 ?_
        refine r_iconst (pc := 308) dX1_goBy_308 ?_
        refine r_dup2 (pc := 309) dX1_goBy_309 rfl rfl ?_
        refine r_ialdv (pc := 310) (w := K 42) dX1_goBy_310 hB.a1 (by decide) (by decide) (rdi (by decide) (rdi (by decide) (by rw [hF2 (b + 2) (by omega), hF1 (b + 2) (by omega)]; exact hK.te (t := 2) (by decide)))) ?_
        refine r_iconst (pc := 311) dX1_goBy_311 ?_
        refine r_iadd (pc := 312) dX1_goBy_312 ?_
        refine r_iastv (pc := 313) (i := 2) dX1_goBy_313 hB.a1 (by decide) (by decide) rfl ?_
        refine r_iload (pc := 314) 1 dX1_goBy_314 rfl ?_
        refine r_iret (pc := 316) dX1_goBy_316 rfl rfl ⟨rfl, fun q h1 h2 h3 => by rw [stF_n _ _ _ h2, stF_n _ _ _ h2, stF_n _ _ _ h2, hF2 q h1]; exact hF1 q h3, fun c hc => by rw [stF_n _ _ _ (by omega), stF_n _ _ _ (by omega), stF_n _ _ _ (by omega), hF2 163 (by omega)]; exact hGc c hc, Or.inl ⟨hfit, rfl, hK.go hO hn8 (by omega) (fun q h1 h2 h3 => by rw [stF_n _ _ _ h2, stF_n _ _ _ h2, stF_n _ _ _ h2, hF2 q h1]; exact hF1 q h3) (fun w c' hw hc' => ?_) (fun t ht => ?_)⟩⟩
        · rw [stF_n _ _ _ (by omega), stF_n _ _ _ (by omega), stF_n _ _ _ (by omega), hT2 w c' hw hc']
          by_cases hcn' : c' < n
          · by_cases h3 : w = 3
            · rw [if_pos (by omega), h3, goK_3 K od hn8 hcn']
            · rw [if_neg (fun q => h3 q.2)]
              by_cases h4 : w = 4
              · rw [if_pos (by omega), h4, goK_4 K od hn8 hcn']
              · rw [if_neg (fun q => h4 q.2), goK_o K od (by omega) hn8]
          · rw [if_neg (fun q => hcn' (by omega)), if_neg (fun q => hcn' (by omega)), goK_o K od (by omega) hn8]
        · rcases (show t = 0 ∨ t = 1 ∨ t = 2 ∨ t = 3 ∨ t = 4 by omega) with rfl | rfl | rfl | rfl | rfl
          · rw [stF_i _ _ _ (by decide), stF_i _ _ _ (by decide), stF_i _ _ _ (by decide), hF2 (b + 2) (by omega), hF1 (b + 2) (by omega), goK_o K od (by omega) hn8]; exact hK.te (by decide)
          · rw [stF_i _ _ _ (by decide), stF_i _ _ _ (by decide), stF_i _ _ _ (by decide), hF2 (b + 2) (by omega), hF1 (b + 2) (by omega), goK_o K od (by omega) hn8]; exact hK.te (by decide)
          · rw [stF_s, goK_42]
          · rw [stF_i _ _ _ (by decide), stF_i _ _ _ (by decide), stF_s, goK_43, hst0]; have h43 : K 43 = ((bkK K 0 : Nat) : Int) := (bkK_r (o := 0) hO hM0 (by decide)).1; omega
          · rw [stF_i _ _ _ (by decide), stF_s, goK_44, hst1]; have h44 : K 44 = ((bkK K 1 : Nat) : Int) := (bkK_r (o := 1) hO hM0 (by decide)).1; omega
      · refine r_aload_n (pc := 241) 4 dX1_goBy_241 rfl rfl ?_
        refine r_iconst (pc := 242) dX1_goBy_242 ?_
        refine r_iload (pc := 243) 0 dX1_goBy_243 rfl ?_
        refine r_aload_n (pc := 245) 4 dX1_goBy_245 rfl rfl ?_
        refine r_iconst (pc := 246) dX1_goBy_246 ?_
        refine r_iload (pc := 247) 0 dX1_goBy_247 rfl ?_
        refine r_callV (pc := 249) (As := [(.int (iI (3))), (.int (iI (((c : Nat) : Int))))]) (S := [(.int (iI (((c : Nat) : Int)))), (.int (iI (3))), (.ref b)]) dX1_goBy_249 cv_X1_41 hB.k rfl (Nat.le_of_ble_eq_true rfl) (c_trait (w := 3) (c := ((c : Nat) : Int)) l z _ _ hB (by omega) (by omega)) (Nat.zero_le _) (Nat.zero_le _) (fun r_249 g_249 f_249 q_249 => ?_)
        obtain ⟨rfl, rfl, rfl⟩ := q_249
        refine r_eqI (y := K (5 * c + 3)) (by rw [show (3 * 8 + ((c : Nat) : Int)).toNat = 8 * 3 + c by omega, hT2 3 c (by decide) (by omega), if_neg (by omega), if_neg (by omega)]) ?_
        refine r_aload_n (pc := 252) 7 dX1_goBy_252 rfl rfl ?_
        refine r_iload (pc := 253) 0 dX1_goBy_253 rfl ?_
        refine r_ialdv (pc := 255) (w := gcK K n od c) dX1_goBy_255 hG (by omega) (by decide) (by rw [hF2 163 (by omega)]; exact hGc _ (by omega)) ?_
        refine r_iadd (pc := 256) dX1_goBy_256 ?_
        refine r_callV (pc := 257) (As := [(.int (iI (3))), (.int (iI (((c : Nat) : Int)))), (.int (iI ((K (5 * c + 3)) + (gcK K n od c))))]) (S := []) dX1_goBy_257 cv_X1_45 hB.k rfl (Nat.le_of_ble_eq_true rfl) (c_setTrait (w := 3) (c := ((c : Nat) : Int)) l z _ _ _ hB (by omega) (by omega)) (Nat.zero_le _) (Nat.zero_le _) (fun r_257 g_257 f_257 q_257 => ?_)
        obtain ⟨rfl, rfl, rfl⟩ := q_257
        refine r_aload_n (pc := 260) 4 dX1_goBy_260 rfl rfl ?_
        refine r_iconst (pc := 261) dX1_goBy_261 ?_
        refine r_iload (pc := 262) 0 dX1_goBy_262 rfl ?_
        refine r_aload_n (pc := 264) 4 dX1_goBy_264 rfl rfl ?_
        refine r_iconst (pc := 265) dX1_goBy_265 ?_
        refine r_iload (pc := 266) 0 dX1_goBy_266 rfl ?_
        refine r_callV (pc := 268) (As := [(.int (iI (4))), (.int (iI (((c : Nat) : Int))))]) (S := [(.int (iI (((c : Nat) : Int)))), (.int (iI (4))), (.ref b)]) dX1_goBy_268 cv_X1_41 hB.k rfl (Nat.le_of_ble_eq_true rfl) (c_trait (w := 4) (c := ((c : Nat) : Int)) l z _ _ hB (by omega) (by omega)) (Nat.zero_le _) (Nat.zero_le _) (fun r_268 g_268 f_268 q_268 => ?_)
        obtain ⟨rfl, rfl, rfl⟩ := q_268
        refine r_eqI (y := K (5 * c + 4)) (by rw [stF_i _ _ _ (by omega), show (4 * 8 + ((c : Nat) : Int)).toNat = 8 * 4 + c by omega, hT2 4 c (by decide) (by omega), if_neg (by omega), if_neg (by omega)]) ?_
        refine r_aload_n (pc := 271) 5 dX1_goBy_271 rfl rfl ?_
        refine r_getR (pc := 272) (b := (y + 4)) dX1_goBy_272 fl_X1_64 rfl hY.k hY.r1 ?_
        refine r_iload (pc := 275) 0 dX1_goBy_275 rfl ?_
        refine r_ialdv (pc := 277) (w := (((waK K (K 42) (hdK K)) c : Nat) : Int)) dX1_goBy_277 hY.a1 (by omega) (by decide) (rdn (by omega) (by rw [hF2 (y + 4) (by omega), hF1 (y + 4) (by omega)]; exact (hA4 _ (by omega)).1)) ?_
        refine r_iadd (pc := 278) dX1_goBy_278 ?_
        refine r_callV (pc := 279) (As := [(.int (iI (4))), (.int (iI (((c : Nat) : Int)))), (.int (iI ((K (5 * c + 4)) + ((((waK K (K 42) (hdK K)) c : Nat) : Int)))))]) (S := []) dX1_goBy_279 cv_X1_45 hB.k rfl (Nat.le_of_ble_eq_true rfl) (c_setTrait (w := 4) (c := ((c : Nat) : Int)) l z _ _ _ hB (by omega) (by omega)) (Nat.zero_le _) (Nat.zero_le _) (fun r_279 g_279 f_279 q_279 => ?_)
        obtain ⟨rfl, rfl, rfl⟩ := q_279
        refine r_iincv (pc := 282) (y := ((c + 1 : Nat) : Int)) (L2 := [(8, (.int (iI (((c + 1 : Nat) : Int))))), (6, (.int (iI (alK K n od n)))), (5, (.int (iI (((stO (ovK K) (waK K (K 42) (hdK K)) (bkK K) n 1 (sO od n) : Nat) : Int))))), (4, (.int (iI (((stO (ovK K) (waK K (K 42) (hdK K)) (bkK K) n 0 (sO od n) : Nat) : Int))))), (0, (.ref b)), (1, (.ref y)), (2, (.ref o)), (3, (.ref 163))]) 0 dX1_goBy_282 rfl (by omega) (by decide) rfl ?_
        refine r_goto (pc := 285) (tgt := 232) dX1_goBy_285 (by decide) ?_
        refine r_sub (L2 := [(8, (.int (iI (((c + 1 : Nat) : Int))))), (6, (.int (iI (alK K n od n)))), (5, (.int (iI (((stO (ovK K) (waK K (K 42) (hdK K)) (bkK K) n 1 (sO od n) : Nat) : Int))))), (4, (.int (iI (((stO (ovK K) (waK K (K 42) (hdK K)) (bkK K) n 0 (sO od n) : Nat) : Int))))), (0, (.ref b)), (1, (.ref y)), (2, (.ref o)), (3, (.ref 163))]) [0, 1, 2, 3, 4, 5, 6, 7] rfl ?_
        exact ih (n - (c + 1)) (by omega) (c + 1) (by omega) (by omega) _ (fun q hq => by rw [stF_n _ _ _ hq, stF_n _ _ _ hq]; exact hF2 q hq) (fun w c' hw hc' => by
          by_cases h4 : w = 4 ∧ c' = c
          · obtain ⟨rfl, rfl⟩ := h4
            rw [show 8 * 4 + c' = (4 * 8 + ((c' : Nat) : Int)).toNat by omega, stF_s, if_neg (by omega), if_pos (by omega)]
          · by_cases h3 : w = 3 ∧ c' = c
            · obtain ⟨rfl, rfl⟩ := h3
              rw [stF_i _ _ _ (by omega), show 8 * 3 + c' = (3 * 8 + ((c' : Nat) : Int)).toNat by omega, stF_s, if_pos (by omega)]
            · rw [stF_i _ _ _ (by omega), stF_i _ _ _ (by omega), hT2 w c' hw hc']
              by_cases hw3 : w = 3
              · by_cases hcc : c' < c
                · rw [if_pos ⟨hcc, hw3⟩, if_pos ⟨by omega, hw3⟩]
                · rw [if_neg (fun q => hcc q.1), if_neg (fun q => hcc q.1), if_neg (show ¬ (c' < c + 1 ∧ w = 3) by omega), if_neg (show ¬ (c' < c + 1 ∧ w = 4) by omega)]
              · rw [if_neg (fun q => hw3 q.2), if_neg (show ¬ (c' < c + 1 ∧ w = 3) from fun q => hw3 q.2)]
                by_cases hcc : c' < c ∧ w = 4
                · rw [if_pos hcc, if_pos (show c' < c + 1 ∧ w = 4 by omega)]
                · rw [if_neg hcc, if_neg (show ¬ (c' < c + 1 ∧ w = 4) by omega)])
  have loop1 : ∀ m i : Nat, m = n - i → i ≤ n → ∀ f1 : Fm, (∀ q, q ≠ 163 → f1 q = f q) → (∀ j, j < i → f1 163 (od j) = gsK K n od j) → PW l z (d + 3) mX1_goBy 0 0 (fun r g' f' => g = g' ∧ (∀ q, q ≠ b + 1 → q ≠ b + 2 → q ≠ 163 → f' q = f q) ∧ (∀ c, c < n → f' 163 c = gcK K n od c) ∧ ((fitP K n od ∧ r = some (.int (iI (alK K n od n))) ∧ BK g f' b (goK K n od)) ∨ (¬ fitP K n od ∧ r = some (.int (iI (-1))) ∧ f' (b + 1) = f (b + 1) ∧ f' (b + 2) = f (b + 2)))) 43 [(8, (.int (iI (((i : Nat) : Int))))), (7, (.int (iI (b01 (ftB K n od i = true))))), (6, (.int (iI (alK K n od i)))), (5, (.int (iI (((stO (ovK K) (waK K (K 42) (hdK K)) (bkK K) n 1 (sO od i) : Nat) : Int))))), (4, (.int (iI (((stO (ovK K) (waK K (K 42) (hdK K)) (bkK K) n 0 (sO od i) : Nat) : Int))))), (0, (.ref b)), (1, (.ref y)), (2, (.ref o)), (3, (.ref 163))] [] g f1 0 0 := by
    intro m
    induction m using Nat.strongRecOn with
    | _ m ih =>
      intro i hm hi f1 hF1 hR1
      have hr0 : stO (ovK K) (waK K (K 42) (hdK K)) (bkK K) n 0 (sO od i) ≤ 1100320 := stO_r hO hM0 hn8 (by decide)
      have hr1 : stO (ovK K) (waK K (K 42) (hdK K)) (bkK K) n 1 (sO od i) ≤ 1100320 := stO_r hO hM0 hn8 (by decide)
      have hal := alK_r hO hn8 hok i hi
      refine r_iload (pc := 43) 0 dX1_goBy_43 rfl ?_
      refine r_aload_n (pc := 45) 5 dX1_goBy_45 rfl rfl ?_
      refine r_getIv (pc := 46) (x := ((n : Nat) : Int)) dX1_goBy_46 fl_X1_38 rfl hB.k ((congrFun (hF1 b (by omega)) _).trans (hK.n.trans hn)) ?_
      refine r_icmp_ge (pc := 49) (tgt := 202) dX1_goBy_49 (by decide) (by omega) (by omega) (fun c_49 => ?_) (fun c_49 => ?_)
      · have hin : i = n := by omega
        have hGc : ∀ c, c < n → f1 163 c = gcK K n od c := fun c hc => by
          obtain ⟨j, hj, rfl⟩ := okO_sur hok hc
          rw [gcK_at hok hj]; exact hR1 j (by omega)
        have hs0n : stO (ovK K) (waK K (K 42) (hdK K)) (bkK K) n 0 (sO od i) = bkK K 0 + swN (ovK K) (waK K (K 42) (hdK K)) 0 n := by rw [hin]; exact hst0
        have hs1n : stO (ovK K) (waK K (K 42) (hdK K)) (bkK K) n 1 (sO od i) = bkK K 1 + swN (ovK K) (waK K (K 42) (hdK K)) 1 n := by rw [hin]; exact hst1
        refine r_iload (pc := 202) 1 dX1_goBy_202 rfl ?_
        refine r_if_eq (pc := 204) (tgt := 227) dX1_goBy_204 (by decide) (b01_r) (fun c_204 => ?_) (fun c_204 => ?_)
        · replace c_204 := b01_z c_204
          refine r_iconst (pc := 227) dX1_goBy_227 ?_
          exact r_iret (pc := 228) dX1_goBy_228 rfl rfl ⟨rfl, fun q h1 h2 h3 => hF1 q h3, hGc, Or.inr ⟨fun h => c_204 (by rw [hin]; exact (ftB_iff hok).mpr ⟨h.1, h.2.1⟩), rfl, hF1 (b + 1) (by omega), hF1 (b + 2) (by omega)⟩⟩
        · replace c_204 := b01_nz c_204
          refine r_iload (pc := 207) 4 dX1_goBy_207 rfl ?_
          refine r_getsN (pc := 209) (j := 2) dX1_goBy_209 (by decide) sl_X1_61 ?_
          refine r_iconst (pc := 212) dX1_goBy_212 ?_
          refine r_ialdS (pc := 213) dX1_goBy_213 (by decide) (by decide) ?_
          refine r_eqI (y := 999999) (by decide) ?_
          refine r_icmp_gt (pc := 214) (tgt := 227) dX1_goBy_214 (by decide) (by omega) (by omega) (fun c_214 => ?_) (fun c_214 => ?_)
          · refine r_iconst (pc := 227) dX1_goBy_227 ?_
            exact r_iret (pc := 228) dX1_goBy_228 rfl rfl ⟨rfl, fun q h1 h2 h3 => hF1 q h3, hGc, Or.inr ⟨fun h => by have := h.2.2.1; omega, rfl, hF1 (b + 1) (by omega), hF1 (b + 2) (by omega)⟩⟩
          · refine r_iload (pc := 217) 3 dX1_goBy_217 rfl ?_
            refine r_getsN (pc := 219) (j := 2) dX1_goBy_219 (by decide) sl_X1_61 ?_
            refine r_iconst (pc := 222) dX1_goBy_222 ?_
            refine r_ialdS (pc := 223) dX1_goBy_223 (by decide) (by decide) ?_
            refine r_eqI (y := 999999) (by decide) ?_
            refine r_icmp_le (pc := 224) (tgt := 229) dX1_goBy_224 (by decide) (by omega) (by omega) (fun c_224 => ?_) (fun c_224 => ?_)
            · refine r_iconst (pc := 229) dX1_goBy_229 ?_
              refine r_istore (pc := 230) (L2 := [(8, (.int (iI (0)))), (7, (.int (iI (b01 (ftB K n od i = true))))), (6, (.int (iI (alK K n od i)))), (5, (.int (iI (((stO (ovK K) (waK K (K 42) (hdK K)) (bkK K) n 1 (sO od i) : Nat) : Int))))), (4, (.int (iI (((stO (ovK K) (waK K (K 42) (hdK K)) (bkK K) n 0 (sO od i) : Nat) : Int))))), (0, (.ref b)), (1, (.ref y)), (2, (.ref o)), (3, (.ref 163))]) dX1_goBy_230 (by decide) rfl ?_
              have hfb : ftB K n od n = true := by have := c_204; rw [hin] at this; exact this
              have hfit : fitP K n od := ⟨((ftB_iff hok).mp hfb).1, ((ftB_iff hok).mp hfb).2, by omega, by omega⟩
              refine r_sub (L2 := [(8, (.int (iI (((0 : Nat) : Int))))), (6, (.int (iI (alK K n od n)))), (5, (.int (iI (((stO (ovK K) (waK K (K 42) (hdK K)) (bkK K) n 1 (sO od n) : Nat) : Int))))), (4, (.int (iI (((stO (ovK K) (waK K (K 42) (hdK K)) (bkK K) n 0 (sO od n) : Nat) : Int))))), (0, (.ref b)), (1, (.ref y)), (2, (.ref o)), (3, (.ref 163))]) [0, 2, 3, 4, 5, 6, 7, 8] (by rw [hin]; rfl) ?_
              exact loop2 hfit f1 hF1 hGc n 0 (by omega) (by omega) f1 (fun _ _ => rfl) (fun w c' hw hc' => by rw [if_neg (by omega), if_neg (by omega), hF1 (b + 1) (by omega)]; exact hK.tr hw hc')
            · refine r_iconst (pc := 227) dX1_goBy_227 ?_
              exact r_iret (pc := 228) dX1_goBy_228 rfl rfl ⟨rfl, fun q h1 h2 h3 => hF1 q h3, hGc, Or.inr ⟨fun h => by have := h.2.2.2; omega, rfl, hF1 (b + 1) (by omega), hF1 (b + 2) (by omega)⟩⟩
      · have hod := hok i (by omega)
        have hov := ovK_r (c := od i) hO (by omega)
        have hw40 := waK_r (day := K 42) (hd := hdK K) hO (show od i < 8 by omega)
        have hgr := gsK_r (od := od) hO hn8 i hod.1
        have hcf := hO.f (c := od i) (by omega)
        refine r_aload_n (pc := 52) 7 dX1_goBy_52 rfl rfl ?_
        refine r_iload (pc := 53) 0 dX1_goBy_53 rfl ?_
        refine r_ialdv (pc := 55) (w := ((od i : Nat) : Int)) dX1_goBy_55 hA (by omega) (by decide) ((congrFun (hF1 o ho3) _).trans (ho i (by omega))) ?_
        refine r_istore (pc := 56) (L2 := [(9, (.int (iI (((od i : Nat) : Int))))), (8, (.int (iI (((i : Nat) : Int))))), (7, (.int (iI (b01 (ftB K n od i = true))))), (6, (.int (iI (alK K n od i)))), (5, (.int (iI (((stO (ovK K) (waK K (K 42) (hdK K)) (bkK K) n 1 (sO od i) : Nat) : Int))))), (4, (.int (iI (((stO (ovK K) (waK K (K 42) (hdK K)) (bkK K) n 0 (sO od i) : Nat) : Int))))), (0, (.ref b)), (1, (.ref y)), (2, (.ref o)), (3, (.ref 163))]) dX1_goBy_56 (by decide) rfl ?_
        refine r_aload_n (pc := 58) 7 dX1_goBy_58 rfl rfl ?_
        refine r_getR (pc := 59) (b := (y + 4)) dX1_goBy_59 fl_X1_64 rfl hY.k hY.r1 ?_
        refine r_iload (pc := 62) 0 dX1_goBy_62 rfl ?_
        refine r_ialdv (pc := 64) (w := (((waK K (K 42) (hdK K)) (od i) : Nat) : Int)) dX1_goBy_64 hY.a1 (by omega) (by decide) ((congrFun (hF1 (y + 4) (by omega)) _).trans (hA4 _ (by omega)).1) ?_
        refine r_istore (pc := 65) (L2 := [(10, (.int (iI ((((waK K (K 42) (hdK K)) (od i) : Nat) : Int))))), (9, (.int (iI (((od i : Nat) : Int))))), (8, (.int (iI (((i : Nat) : Int))))), (7, (.int (iI (b01 (ftB K n od i = true))))), (6, (.int (iI (alK K n od i)))), (5, (.int (iI (((stO (ovK K) (waK K (K 42) (hdK K)) (bkK K) n 1 (sO od i) : Nat) : Int))))), (4, (.int (iI (((stO (ovK K) (waK K (K 42) (hdK K)) (bkK K) n 0 (sO od i) : Nat) : Int))))), (0, (.ref b)), (1, (.ref y)), (2, (.ref o)), (3, (.ref 163))]) dX1_goBy_65 (by decide) rfl ?_
        refine r_aload_n (pc := 67) 7 dX1_goBy_67 rfl rfl ?_
        refine r_iload (pc := 68) 1 dX1_goBy_68 rfl ?_
        refine r_callV (pc := 70) (As := [(.int (iI (((od i : Nat) : Int))))]) (S := []) dX1_goBy_70 cv_X1_69 hB.k rfl (Nat.le_of_ble_eq_true rfl) (c_ovenOf (c := ((od i : Nat) : Int)) l z _ _ hB (by omega)) (Nat.zero_le _) (Nat.zero_le _) (fun r_70 g_70 f_70 q_70 => ?_)
        obtain ⟨rfl, rfl, rfl⟩ := q_70
        refine r_eqI (y := ((ovK K (od i) : Nat) : Int)) (by rw [show (2 * 8 + ((od i : Nat) : Int)).toNat = 8 * 2 + od i by omega, hF1 (b + 1) (by omega)]; exact (hK.tr (w := 2) (by decide) (by omega)).trans hov.1) ?_
        refine r_if_ne (pc := 73) (tgt := 80) dX1_goBy_73 (by decide) (by omega) (fun c_73 => ?_) (fun c_73 => ?_)
        · refine r_iconst (pc := 80) dX1_goBy_80 ?_
          refine r_istore (pc := 81) (L2 := [(11, (.int (iI (0)))), (10, (.int (iI ((((waK K (K 42) (hdK K)) (od i) : Nat) : Int))))), (9, (.int (iI (((od i : Nat) : Int))))), (8, (.int (iI (((i : Nat) : Int))))), (7, (.int (iI (b01 (ftB K n od i = true))))), (6, (.int (iI (alK K n od i)))), (5, (.int (iI (((stO (ovK K) (waK K (K 42) (hdK K)) (bkK K) n 1 (sO od i) : Nat) : Int))))), (4, (.int (iI (((stO (ovK K) (waK K (K 42) (hdK K)) (bkK K) n 0 (sO od i) : Nat) : Int))))), (0, (.ref b)), (1, (.ref y)), (2, (.ref o)), (3, (.ref 163))]) dX1_goBy_81 (by decide) rfl ?_
          refine r_aload_n (pc := 83) 8 dX1_goBy_83 rfl rfl ?_
          refine r_iload (pc := 84) 0 dX1_goBy_84 rfl ?_
          refine r_if_eq (pc := 86) (tgt := 94) dX1_goBy_86 (by decide) (by omega) (fun c_86 => ?_) (fun c_86 => ?_)
          · refine r_iload (pc := 94) 6 dX1_goBy_94 rfl ?_
            refine r_iload (pc := 96) 1 dX1_goBy_96 rfl ?_
            refine r_callV (pc := 98) (As := [(.int (iI (((stO (ovK K) (waK K (K 42) (hdK K)) (bkK K) n 1 (sO od i) : Nat) : Int)))), (.int (iI ((((waK K (K 42) (hdK K)) (od i) : Nat) : Int))))]) (S := []) dX1_goBy_98 cv_X1_72 hB.k rfl (Nat.le_of_ble_eq_true rfl) (c_blessedBetween (dz := K 40) (lp := K 41) (n := ((stO (ovK K) (waK K (K 42) (hdK K)) (bkK K) n 1 (sO od i) : Nat) : Int)) (m := (((waK K (K 42) (hdK K)) (od i) : Nat) : Int)) l z _ hB (by rw [hF1 (b + 2) (by omega)]; exact hK.te (t := 0) (by decide)) (by rw [hF1 (b + 2) (by omega)]; exact hK.te (t := 1) (by decide)) hO.dz hO.lp (by omega) (by omega)) (Nat.zero_le _) (Nat.zero_le _) (fun r_98 g_98 f_98 q_98 => ?_)
            obtain ⟨rfl, rfl, rfl⟩ := q_98
            refine r_eqI (y := gsK K n od i) (by unfold gsK geV; rw [stV_O, show ovK K (od i) = 1 by omega]) ?_
            refine r_istore (pc := 101) (L2 := [(12, (.int (iI (gsK K n od i)))), (11, (.int (iI (0)))), (10, (.int (iI ((((waK K (K 42) (hdK K)) (od i) : Nat) : Int))))), (9, (.int (iI (((od i : Nat) : Int))))), (8, (.int (iI (((i : Nat) : Int))))), (7, (.int (iI (b01 (ftB K n od i = true))))), (6, (.int (iI (alK K n od i)))), (5, (.int (iI (((stO (ovK K) (waK K (K 42) (hdK K)) (bkK K) n 1 (sO od i) : Nat) : Int))))), (4, (.int (iI (((stO (ovK K) (waK K (K 42) (hdK K)) (bkK K) n 0 (sO od i) : Nat) : Int))))), (0, (.ref b)), (1, (.ref y)), (2, (.ref o)), (3, (.ref 163))]) dX1_goBy_101 (by decide) rfl ?_
            refine r_iload (pc := 103) 8 dX1_goBy_103 rfl ?_
            refine r_iload (pc := 105) 1 dX1_goBy_105 rfl ?_
            refine r_if_eq (pc := 107) (tgt := 115) dX1_goBy_107 (by decide) (by omega) (fun c_107 => ?_) (fun c_107 => ?_)
            · refine r_iconst (pc := 115) dX1_goBy_115 ?_
              refine r_iadd (pc := 116) dX1_goBy_116 ?_
              refine r_eqI (y := ((stO (ovK K) (waK K (K 42) (hdK K)) (bkK K) n 0 (sO od (i + 1)) : Nat) : Int)) (by have e := stO_s (ov := ovK K) (wa := (waK K (K 42) (hdK K))) (bk := bkK K) (o := 0) hod.1 hod.2; rw [if_neg (by omega)] at e; rw [sO_s]; omega) ?_
              refine r_istore (pc := 117) (L2 := [(4, (.int (iI (((stO (ovK K) (waK K (K 42) (hdK K)) (bkK K) n 0 (sO od (i + 1)) : Nat) : Int))))), (12, (.int (iI (gsK K n od i)))), (11, (.int (iI (0)))), (10, (.int (iI ((((waK K (K 42) (hdK K)) (od i) : Nat) : Int))))), (9, (.int (iI (((od i : Nat) : Int))))), (8, (.int (iI (((i : Nat) : Int))))), (7, (.int (iI (b01 (ftB K n od i = true))))), (6, (.int (iI (alK K n od i)))), (5, (.int (iI (((stO (ovK K) (waK K (K 42) (hdK K)) (bkK K) n 1 (sO od i) : Nat) : Int))))), (0, (.ref b)), (1, (.ref y)), (2, (.ref o)), (3, (.ref 163))]) dX1_goBy_117 (by decide) rfl ?_
              refine r_iload (pc := 119) 8 dX1_goBy_119 rfl ?_
              refine r_iload (pc := 121) 2 dX1_goBy_121 rfl ?_
              refine r_if_eq (pc := 123) (tgt := 130) dX1_goBy_123 (by decide) (by omega) (fun c_123 => ?_) (fun c_123 => ?_)
              · refine r_iload (pc := 130) 3 dX1_goBy_130 rfl ?_
                refine r_iadd (pc := 132) dX1_goBy_132 ?_
                refine r_eqI (y := ((stO (ovK K) (waK K (K 42) (hdK K)) (bkK K) n 1 (sO od (i + 1)) : Nat) : Int)) (by have e := stO_s (ov := ovK K) (wa := (waK K (K 42) (hdK K))) (bk := bkK K) (o := 1) hod.1 hod.2; rw [if_pos (by omega)] at e; rw [sO_s]; omega) ?_
                refine r_istore (pc := 133) (L2 := [(5, (.int (iI (((stO (ovK K) (waK K (K 42) (hdK K)) (bkK K) n 1 (sO od (i + 1)) : Nat) : Int))))), (4, (.int (iI (((stO (ovK K) (waK K (K 42) (hdK K)) (bkK K) n 0 (sO od (i + 1)) : Nat) : Int))))), (12, (.int (iI (gsK K n od i)))), (11, (.int (iI (0)))), (10, (.int (iI ((((waK K (K 42) (hdK K)) (od i) : Nat) : Int))))), (9, (.int (iI (((od i : Nat) : Int))))), (8, (.int (iI (((i : Nat) : Int))))), (7, (.int (iI (b01 (ftB K n od i = true))))), (6, (.int (iI (alK K n od i)))), (0, (.ref b)), (1, (.ref y)), (2, (.ref o)), (3, (.ref 163))]) dX1_goBy_133 (by decide) rfl ?_
                refine r_aload_n (pc := 135) 12 dX1_goBy_135 rfl rfl ?_
                refine r_iload (pc := 136) 5 dX1_goBy_136 rfl ?_
                refine r_iload (pc := 138) 2 dX1_goBy_138 rfl ?_
                refine r_iastv (pc := 140) (i := od i) dX1_goBy_140 hG (by omega) (by decide) rfl ?_
                refine r_iload (pc := 141) 8 dX1_goBy_141 rfl ?_
                refine r_iload (pc := 143) 2 dX1_goBy_143 rfl ?_
                refine r_iadd (pc := 145) dX1_goBy_145 ?_
                refine r_eqI (y := alK K n od (i + 1)) (rfl) ?_
                refine r_istore (pc := 146) (L2 := [(6, (.int (iI (alK K n od (i + 1))))), (5, (.int (iI (((stO (ovK K) (waK K (K 42) (hdK K)) (bkK K) n 1 (sO od (i + 1)) : Nat) : Int))))), (4, (.int (iI (((stO (ovK K) (waK K (K 42) (hdK K)) (bkK K) n 0 (sO od (i + 1)) : Nat) : Int))))), (12, (.int (iI (gsK K n od i)))), (11, (.int (iI (0)))), (10, (.int (iI ((((waK K (K 42) (hdK K)) (od i) : Nat) : Int))))), (9, (.int (iI (((od i : Nat) : Int))))), (8, (.int (iI (((i : Nat) : Int))))), (7, (.int (iI (b01 (ftB K n od i = true))))), (0, (.ref b)), (1, (.ref y)), (2, (.ref o)), (3, (.ref 163))]) dX1_goBy_146 (by decide) rfl ?_
                refine r_iload (pc := 148) 8 dX1_goBy_148 rfl ?_
                refine r_if_eq (pc := 150) (tgt := 193) dX1_goBy_150 (by decide) (b01_r) (fun c_150 => ?_) (fun c_150 => ?_)
                · replace c_150 := b01_z c_150
                  refine r_iconst (pc := 193) dX1_goBy_193 ?_
                  refine r_istore (pc := 194) (L2 := [(7, (.int (iI (0)))), (6, (.int (iI (alK K n od (i + 1))))), (5, (.int (iI (((stO (ovK K) (waK K (K 42) (hdK K)) (bkK K) n 1 (sO od (i + 1)) : Nat) : Int))))), (4, (.int (iI (((stO (ovK K) (waK K (K 42) (hdK K)) (bkK K) n 0 (sO od (i + 1)) : Nat) : Int))))), (12, (.int (iI (gsK K n od i)))), (11, (.int (iI (0)))), (10, (.int (iI ((((waK K (K 42) (hdK K)) (od i) : Nat) : Int))))), (9, (.int (iI (((od i : Nat) : Int))))), (8, (.int (iI (((i : Nat) : Int))))), (0, (.ref b)), (1, (.ref y)), (2, (.ref o)), (3, (.ref 163))]) dX1_goBy_194 (by decide) rfl ?_
                  refine r_iincv (pc := 196) (y := ((i + 1 : Nat) : Int)) (L2 := [(8, (.int (iI (((i + 1 : Nat) : Int))))), (7, (.int (iI (0)))), (6, (.int (iI (alK K n od (i + 1))))), (5, (.int (iI (((stO (ovK K) (waK K (K 42) (hdK K)) (bkK K) n 1 (sO od (i + 1)) : Nat) : Int))))), (4, (.int (iI (((stO (ovK K) (waK K (K 42) (hdK K)) (bkK K) n 0 (sO od (i + 1)) : Nat) : Int))))), (12, (.int (iI (gsK K n od i)))), (11, (.int (iI (0)))), (10, (.int (iI ((((waK K (K 42) (hdK K)) (od i) : Nat) : Int))))), (9, (.int (iI (((od i : Nat) : Int))))), (0, (.ref b)), (1, (.ref y)), (2, (.ref o)), (3, (.ref 163))]) 8 dX1_goBy_196 rfl (by omega) (by decide) rfl ?_
                  refine r_goto (pc := 199) (tgt := 43) dX1_goBy_199 (by decide) ?_
                  refine r_sub (L2 := [(8, (.int (iI (((i + 1 : Nat) : Int))))), (7, (.int (iI (b01 (ftB K n od (i + 1) = true))))), (6, (.int (iI (alK K n od (i + 1))))), (5, (.int (iI (((stO (ovK K) (waK K (K 42) (hdK K)) (bkK K) n 1 (sO od (i + 1)) : Nat) : Int))))), (4, (.int (iI (((stO (ovK K) (waK K (K 42) (hdK K)) (bkK K) n 0 (sO od (i + 1)) : Nat) : Int))))), (0, (.ref b)), (1, (.ref y)), (2, (.ref o)), (3, (.ref 163))]) [0, 1, 2, 3, 4, 9, 10, 11, 12] (by rw [b01_f (ftB_n (fun h => c_150 h.1))]; rfl) ?_
                  exact ih (n - (i + 1)) (by omega) (i + 1) (by omega) (by omega) _ (fun q hq => by rw [stF_n _ _ _ hq]; exact hF1 q hq) (fun j hj => by
                    rcases Nat.lt_succ_iff_lt_or_eq.mp hj with h | h
                    · rw [stF_i _ _ _ (okO_ne hok (by omega) h)]; exact hR1 j h
                    · subst h; exact stF_s _ _ _ _)
                · replace c_150 := b01_nz c_150
                  refine r_aload_n (pc := 153) 9 dX1_goBy_153 rfl rfl ?_
                  refine r_iconst (pc := 154) dX1_goBy_154 ?_
                  refine r_iload (pc := 155) 6 dX1_goBy_155 rfl ?_
                  refine r_callV (pc := 157) (As := [(.int (iI (3))), (.int (iI (((od i : Nat) : Int))))]) (S := []) dX1_goBy_157 cv_X1_41 hB.k rfl (Nat.le_of_ble_eq_true rfl) (c_trait (w := 3) (c := ((od i : Nat) : Int)) l z _ _ hB (by omega) (by omega)) (Nat.zero_le _) (Nat.zero_le _) (fun r_157 g_157 f_157 q_157 => ?_)
                  obtain ⟨rfl, rfl, rfl⟩ := q_157
                  refine r_eqI (y := K (5 * od i + 3)) (by rw [stF_n _ _ _ (by omega), hF1 (b + 1) (by omega), show (3 * 8 + ((od i : Nat) : Int)).toNat = 8 * 3 + od i by omega]; exact hK.tr (by decide) (by omega)) ?_
                  refine r_iload (pc := 160) 3 dX1_goBy_160 rfl ?_
                  refine r_iadd (pc := 162) dX1_goBy_162 ?_
                  refine r_getsN (pc := 163) (j := 0) dX1_goBy_163 (by decide) sl_X1_75 ?_
                  refine r_iconst (pc := 166) dX1_goBy_166 ?_
                  refine r_ialdS (pc := 167) dX1_goBy_167 (by decide) (by decide) ?_
                  refine r_eqI (y := 9999) (by decide) ?_
                  refine r_icmp_gt (pc := 168) (tgt := 193) dX1_goBy_168 (by decide) (by omega) (by omega) (fun c_168 => ?_) (fun c_168 => ?_)
                  · refine r_iconst (pc := 193) dX1_goBy_193 ?_
                    refine r_istore (pc := 194) (L2 := [(7, (.int (iI (0)))), (6, (.int (iI (alK K n od (i + 1))))), (5, (.int (iI (((stO (ovK K) (waK K (K 42) (hdK K)) (bkK K) n 1 (sO od (i + 1)) : Nat) : Int))))), (4, (.int (iI (((stO (ovK K) (waK K (K 42) (hdK K)) (bkK K) n 0 (sO od (i + 1)) : Nat) : Int))))), (12, (.int (iI (gsK K n od i)))), (11, (.int (iI (0)))), (10, (.int (iI ((((waK K (K 42) (hdK K)) (od i) : Nat) : Int))))), (9, (.int (iI (((od i : Nat) : Int))))), (8, (.int (iI (((i : Nat) : Int))))), (0, (.ref b)), (1, (.ref y)), (2, (.ref o)), (3, (.ref 163))]) dX1_goBy_194 (by decide) rfl ?_
                    refine r_iincv (pc := 196) (y := ((i + 1 : Nat) : Int)) (L2 := [(8, (.int (iI (((i + 1 : Nat) : Int))))), (7, (.int (iI (0)))), (6, (.int (iI (alK K n od (i + 1))))), (5, (.int (iI (((stO (ovK K) (waK K (K 42) (hdK K)) (bkK K) n 1 (sO od (i + 1)) : Nat) : Int))))), (4, (.int (iI (((stO (ovK K) (waK K (K 42) (hdK K)) (bkK K) n 0 (sO od (i + 1)) : Nat) : Int))))), (12, (.int (iI (gsK K n od i)))), (11, (.int (iI (0)))), (10, (.int (iI ((((waK K (K 42) (hdK K)) (od i) : Nat) : Int))))), (9, (.int (iI (((od i : Nat) : Int))))), (0, (.ref b)), (1, (.ref y)), (2, (.ref o)), (3, (.ref 163))]) 8 dX1_goBy_196 rfl (by omega) (by decide) rfl ?_
                    refine r_goto (pc := 199) (tgt := 43) dX1_goBy_199 (by decide) ?_
                    refine r_sub (L2 := [(8, (.int (iI (((i + 1 : Nat) : Int))))), (7, (.int (iI (b01 (ftB K n od (i + 1) = true))))), (6, (.int (iI (alK K n od (i + 1))))), (5, (.int (iI (((stO (ovK K) (waK K (K 42) (hdK K)) (bkK K) n 1 (sO od (i + 1)) : Nat) : Int))))), (4, (.int (iI (((stO (ovK K) (waK K (K 42) (hdK K)) (bkK K) n 0 (sO od (i + 1)) : Nat) : Int))))), (0, (.ref b)), (1, (.ref y)), (2, (.ref o)), (3, (.ref 163))]) [0, 1, 2, 3, 4, 9, 10, 11, 12] (by rw [b01_f (ftB_n (fun h => by obtain ⟨_, h1, h2⟩ := h; omega))]; rfl) ?_
                    exact ih (n - (i + 1)) (by omega) (i + 1) (by omega) (by omega) _ (fun q hq => by rw [stF_n _ _ _ hq]; exact hF1 q hq) (fun j hj => by
                      rcases Nat.lt_succ_iff_lt_or_eq.mp hj with h | h
                      · rw [stF_i _ _ _ (okO_ne hok (by omega) h)]; exact hR1 j h
                      · subst h; exact stF_s _ _ _ _)
                  · refine r_aload_n (pc := 171) 9 dX1_goBy_171 rfl rfl ?_
                    refine r_iconst (pc := 172) dX1_goBy_172 ?_
                    refine r_iload (pc := 173) 6 dX1_goBy_173 rfl ?_
                    refine r_callV (pc := 175) (As := [(.int (iI (4))), (.int (iI (((od i : Nat) : Int))))]) (S := []) dX1_goBy_175 cv_X1_41 hB.k rfl (Nat.le_of_ble_eq_true rfl) (c_trait (w := 4) (c := ((od i : Nat) : Int)) l z _ _ hB (by omega) (by omega)) (Nat.zero_le _) (Nat.zero_le _) (fun r_175 g_175 f_175 q_175 => ?_)
                    obtain ⟨rfl, rfl, rfl⟩ := q_175
                    refine r_eqI (y := K (5 * od i + 4)) (by rw [stF_n _ _ _ (by omega), hF1 (b + 1) (by omega), show (4 * 8 + ((od i : Nat) : Int)).toNat = 8 * 4 + od i by omega]; exact hK.tr (by decide) (by omega)) ?_
                    refine r_iload (pc := 178) 5 dX1_goBy_178 rfl ?_
                    refine r_iadd (pc := 180) dX1_goBy_180 ?_
                    refine r_getsN (pc := 181) (j := 0) dX1_goBy_181 (by decide) sl_X1_75 ?_
                    refine r_iconst (pc := 184) dX1_goBy_184 ?_
                    refine r_ialdS (pc := 185) dX1_goBy_185 (by decide) (by decide) ?_
                    refine r_eqI (y := 999999) (by decide) ?_
                    refine r_icmp_gt (pc := 186) (tgt := 193) dX1_goBy_186 (by decide) (by omega) (by omega) (fun c_186 => ?_) (fun c_186 => ?_)
                    · refine r_iconst (pc := 193) dX1_goBy_193 ?_
                      refine r_istore (pc := 194) (L2 := [(7, (.int (iI (0)))), (6, (.int (iI (alK K n od (i + 1))))), (5, (.int (iI (((stO (ovK K) (waK K (K 42) (hdK K)) (bkK K) n 1 (sO od (i + 1)) : Nat) : Int))))), (4, (.int (iI (((stO (ovK K) (waK K (K 42) (hdK K)) (bkK K) n 0 (sO od (i + 1)) : Nat) : Int))))), (12, (.int (iI (gsK K n od i)))), (11, (.int (iI (0)))), (10, (.int (iI ((((waK K (K 42) (hdK K)) (od i) : Nat) : Int))))), (9, (.int (iI (((od i : Nat) : Int))))), (8, (.int (iI (((i : Nat) : Int))))), (0, (.ref b)), (1, (.ref y)), (2, (.ref o)), (3, (.ref 163))]) dX1_goBy_194 (by decide) rfl ?_
                      refine r_iincv (pc := 196) (y := ((i + 1 : Nat) : Int)) (L2 := [(8, (.int (iI (((i + 1 : Nat) : Int))))), (7, (.int (iI (0)))), (6, (.int (iI (alK K n od (i + 1))))), (5, (.int (iI (((stO (ovK K) (waK K (K 42) (hdK K)) (bkK K) n 1 (sO od (i + 1)) : Nat) : Int))))), (4, (.int (iI (((stO (ovK K) (waK K (K 42) (hdK K)) (bkK K) n 0 (sO od (i + 1)) : Nat) : Int))))), (12, (.int (iI (gsK K n od i)))), (11, (.int (iI (0)))), (10, (.int (iI ((((waK K (K 42) (hdK K)) (od i) : Nat) : Int))))), (9, (.int (iI (((od i : Nat) : Int))))), (0, (.ref b)), (1, (.ref y)), (2, (.ref o)), (3, (.ref 163))]) 8 dX1_goBy_196 rfl (by omega) (by decide) rfl ?_
                      refine r_goto (pc := 199) (tgt := 43) dX1_goBy_199 (by decide) ?_
                      refine r_sub (L2 := [(8, (.int (iI (((i + 1 : Nat) : Int))))), (7, (.int (iI (b01 (ftB K n od (i + 1) = true))))), (6, (.int (iI (alK K n od (i + 1))))), (5, (.int (iI (((stO (ovK K) (waK K (K 42) (hdK K)) (bkK K) n 1 (sO od (i + 1)) : Nat) : Int))))), (4, (.int (iI (((stO (ovK K) (waK K (K 42) (hdK K)) (bkK K) n 0 (sO od (i + 1)) : Nat) : Int))))), (0, (.ref b)), (1, (.ref y)), (2, (.ref o)), (3, (.ref 163))]) [0, 1, 2, 3, 4, 9, 10, 11, 12] (by rw [b01_f (ftB_n (fun h => by obtain ⟨_, h1, h2⟩ := h; omega))]; rfl) ?_
                      exact ih (n - (i + 1)) (by omega) (i + 1) (by omega) (by omega) _ (fun q hq => by rw [stF_n _ _ _ hq]; exact hF1 q hq) (fun j hj => by
                        rcases Nat.lt_succ_iff_lt_or_eq.mp hj with h | h
                        · rw [stF_i _ _ _ (okO_ne hok (by omega) h)]; exact hR1 j h
                        · subst h; exact stF_s _ _ _ _)
                    · refine r_iconst (pc := 189) dX1_goBy_189 ?_
                      refine r_goto (pc := 190) (tgt := 194) dX1_goBy_190 (by decide) ?_
                      refine r_istore (pc := 194) (L2 := [(7, (.int (iI (1)))), (6, (.int (iI (alK K n od (i + 1))))), (5, (.int (iI (((stO (ovK K) (waK K (K 42) (hdK K)) (bkK K) n 1 (sO od (i + 1)) : Nat) : Int))))), (4, (.int (iI (((stO (ovK K) (waK K (K 42) (hdK K)) (bkK K) n 0 (sO od (i + 1)) : Nat) : Int))))), (12, (.int (iI (gsK K n od i)))), (11, (.int (iI (0)))), (10, (.int (iI ((((waK K (K 42) (hdK K)) (od i) : Nat) : Int))))), (9, (.int (iI (((od i : Nat) : Int))))), (8, (.int (iI (((i : Nat) : Int))))), (0, (.ref b)), (1, (.ref y)), (2, (.ref o)), (3, (.ref 163))]) dX1_goBy_194 (by decide) rfl ?_
                      refine r_iincv (pc := 196) (y := ((i + 1 : Nat) : Int)) (L2 := [(8, (.int (iI (((i + 1 : Nat) : Int))))), (7, (.int (iI (1)))), (6, (.int (iI (alK K n od (i + 1))))), (5, (.int (iI (((stO (ovK K) (waK K (K 42) (hdK K)) (bkK K) n 1 (sO od (i + 1)) : Nat) : Int))))), (4, (.int (iI (((stO (ovK K) (waK K (K 42) (hdK K)) (bkK K) n 0 (sO od (i + 1)) : Nat) : Int))))), (12, (.int (iI (gsK K n od i)))), (11, (.int (iI (0)))), (10, (.int (iI ((((waK K (K 42) (hdK K)) (od i) : Nat) : Int))))), (9, (.int (iI (((od i : Nat) : Int))))), (0, (.ref b)), (1, (.ref y)), (2, (.ref o)), (3, (.ref 163))]) 8 dX1_goBy_196 rfl (by omega) (by decide) rfl ?_
                      refine r_goto (pc := 199) (tgt := 43) dX1_goBy_199 (by decide) ?_
                      refine r_sub (L2 := [(8, (.int (iI (((i + 1 : Nat) : Int))))), (7, (.int (iI (b01 (ftB K n od (i + 1) = true))))), (6, (.int (iI (alK K n od (i + 1))))), (5, (.int (iI (((stO (ovK K) (waK K (K 42) (hdK K)) (bkK K) n 1 (sO od (i + 1)) : Nat) : Int))))), (4, (.int (iI (((stO (ovK K) (waK K (K 42) (hdK K)) (bkK K) n 0 (sO od (i + 1)) : Nat) : Int))))), (0, (.ref b)), (1, (.ref y)), (2, (.ref o)), (3, (.ref 163))]) [0, 1, 2, 3, 4, 9, 10, 11, 12] (by rw [b01_t (ftB_y c_150 (by omega) (by omega))]; rfl) ?_
                      exact ih (n - (i + 1)) (by omega) (i + 1) (by omega) (by omega) _ (fun q hq => by rw [stF_n _ _ _ hq]; exact hF1 q hq) (fun j hj => by
                        rcases Nat.lt_succ_iff_lt_or_eq.mp hj with h | h
                        · rw [stF_i _ _ _ (okO_ne hok (by omega) h)]; exact hR1 j h
                        · subst h; exact stF_s _ _ _ _)
              · exact absurd c_123 (by decide)
            · exact absurd c_107 (by decide)
          · exact absurd c_86 (by decide)
        · refine r_iconst (pc := 76) dX1_goBy_76 ?_
          refine r_goto (pc := 77) (tgt := 81) dX1_goBy_77 (by decide) ?_
          refine r_istore (pc := 81) (L2 := [(11, (.int (iI (1)))), (10, (.int (iI ((((waK K (K 42) (hdK K)) (od i) : Nat) : Int))))), (9, (.int (iI (((od i : Nat) : Int))))), (8, (.int (iI (((i : Nat) : Int))))), (7, (.int (iI (b01 (ftB K n od i = true))))), (6, (.int (iI (alK K n od i)))), (5, (.int (iI (((stO (ovK K) (waK K (K 42) (hdK K)) (bkK K) n 1 (sO od i) : Nat) : Int))))), (4, (.int (iI (((stO (ovK K) (waK K (K 42) (hdK K)) (bkK K) n 0 (sO od i) : Nat) : Int))))), (0, (.ref b)), (1, (.ref y)), (2, (.ref o)), (3, (.ref 163))]) dX1_goBy_81 (by decide) rfl ?_
          refine r_aload_n (pc := 83) 8 dX1_goBy_83 rfl rfl ?_
          refine r_iload (pc := 84) 0 dX1_goBy_84 rfl ?_
          refine r_if_eq (pc := 86) (tgt := 94) dX1_goBy_86 (by decide) (by omega) (fun c_86 => ?_) (fun c_86 => ?_)
          · exact absurd c_86 (by decide)
          · refine r_iload (pc := 89) 7 dX1_goBy_89 rfl ?_
            refine r_goto (pc := 91) (tgt := 96) dX1_goBy_91 (by decide) ?_
            refine r_iload (pc := 96) 1 dX1_goBy_96 rfl ?_
            refine r_callV (pc := 98) (As := [(.int (iI (((stO (ovK K) (waK K (K 42) (hdK K)) (bkK K) n 0 (sO od i) : Nat) : Int)))), (.int (iI ((((waK K (K 42) (hdK K)) (od i) : Nat) : Int))))]) (S := []) dX1_goBy_98 cv_X1_72 hB.k rfl (Nat.le_of_ble_eq_true rfl) (c_blessedBetween (dz := K 40) (lp := K 41) (n := ((stO (ovK K) (waK K (K 42) (hdK K)) (bkK K) n 0 (sO od i) : Nat) : Int)) (m := (((waK K (K 42) (hdK K)) (od i) : Nat) : Int)) l z _ hB (by rw [hF1 (b + 2) (by omega)]; exact hK.te (t := 0) (by decide)) (by rw [hF1 (b + 2) (by omega)]; exact hK.te (t := 1) (by decide)) hO.dz hO.lp (by omega) (by omega)) (Nat.zero_le _) (Nat.zero_le _) (fun r_98 g_98 f_98 q_98 => ?_)
            obtain ⟨rfl, rfl, rfl⟩ := q_98
            refine r_eqI (y := gsK K n od i) (by unfold gsK geV; rw [stV_O, show ovK K (od i) = 0 by omega]) ?_
            refine r_istore (pc := 101) (L2 := [(12, (.int (iI (gsK K n od i)))), (11, (.int (iI (1)))), (10, (.int (iI ((((waK K (K 42) (hdK K)) (od i) : Nat) : Int))))), (9, (.int (iI (((od i : Nat) : Int))))), (8, (.int (iI (((i : Nat) : Int))))), (7, (.int (iI (b01 (ftB K n od i = true))))), (6, (.int (iI (alK K n od i)))), (5, (.int (iI (((stO (ovK K) (waK K (K 42) (hdK K)) (bkK K) n 1 (sO od i) : Nat) : Int))))), (4, (.int (iI (((stO (ovK K) (waK K (K 42) (hdK K)) (bkK K) n 0 (sO od i) : Nat) : Int))))), (0, (.ref b)), (1, (.ref y)), (2, (.ref o)), (3, (.ref 163))]) dX1_goBy_101 (by decide) rfl ?_
            refine r_iload (pc := 103) 8 dX1_goBy_103 rfl ?_
            refine r_iload (pc := 105) 1 dX1_goBy_105 rfl ?_
            refine r_if_eq (pc := 107) (tgt := 115) dX1_goBy_107 (by decide) (by omega) (fun c_107 => ?_) (fun c_107 => ?_)
            · exact absurd c_107 (by decide)
            · refine r_iload (pc := 110) 2 dX1_goBy_110 rfl ?_
              refine r_goto (pc := 112) (tgt := 116) dX1_goBy_112 (by decide) ?_
              refine r_iadd (pc := 116) dX1_goBy_116 ?_
              refine r_eqI (y := ((stO (ovK K) (waK K (K 42) (hdK K)) (bkK K) n 0 (sO od (i + 1)) : Nat) : Int)) (by have e := stO_s (ov := ovK K) (wa := (waK K (K 42) (hdK K))) (bk := bkK K) (o := 0) hod.1 hod.2; rw [if_pos (by omega)] at e; rw [sO_s]; omega) ?_
              refine r_istore (pc := 117) (L2 := [(4, (.int (iI (((stO (ovK K) (waK K (K 42) (hdK K)) (bkK K) n 0 (sO od (i + 1)) : Nat) : Int))))), (12, (.int (iI (gsK K n od i)))), (11, (.int (iI (1)))), (10, (.int (iI ((((waK K (K 42) (hdK K)) (od i) : Nat) : Int))))), (9, (.int (iI (((od i : Nat) : Int))))), (8, (.int (iI (((i : Nat) : Int))))), (7, (.int (iI (b01 (ftB K n od i = true))))), (6, (.int (iI (alK K n od i)))), (5, (.int (iI (((stO (ovK K) (waK K (K 42) (hdK K)) (bkK K) n 1 (sO od i) : Nat) : Int))))), (0, (.ref b)), (1, (.ref y)), (2, (.ref o)), (3, (.ref 163))]) dX1_goBy_117 (by decide) rfl ?_
              refine r_iload (pc := 119) 8 dX1_goBy_119 rfl ?_
              refine r_iload (pc := 121) 2 dX1_goBy_121 rfl ?_
              refine r_if_eq (pc := 123) (tgt := 130) dX1_goBy_123 (by decide) (by omega) (fun c_123 => ?_) (fun c_123 => ?_)
              · exact absurd c_123 (by decide)
              · refine r_iconst (pc := 126) dX1_goBy_126 ?_
                refine r_goto (pc := 127) (tgt := 132) dX1_goBy_127 (by decide) ?_
                refine r_iadd (pc := 132) dX1_goBy_132 ?_
                refine r_eqI (y := ((stO (ovK K) (waK K (K 42) (hdK K)) (bkK K) n 1 (sO od (i + 1)) : Nat) : Int)) (by have e := stO_s (ov := ovK K) (wa := (waK K (K 42) (hdK K))) (bk := bkK K) (o := 1) hod.1 hod.2; rw [if_neg (by omega)] at e; rw [sO_s]; omega) ?_
                refine r_istore (pc := 133) (L2 := [(5, (.int (iI (((stO (ovK K) (waK K (K 42) (hdK K)) (bkK K) n 1 (sO od (i + 1)) : Nat) : Int))))), (4, (.int (iI (((stO (ovK K) (waK K (K 42) (hdK K)) (bkK K) n 0 (sO od (i + 1)) : Nat) : Int))))), (12, (.int (iI (gsK K n od i)))), (11, (.int (iI (1)))), (10, (.int (iI ((((waK K (K 42) (hdK K)) (od i) : Nat) : Int))))), (9, (.int (iI (((od i : Nat) : Int))))), (8, (.int (iI (((i : Nat) : Int))))), (7, (.int (iI (b01 (ftB K n od i = true))))), (6, (.int (iI (alK K n od i)))), (0, (.ref b)), (1, (.ref y)), (2, (.ref o)), (3, (.ref 163))]) dX1_goBy_133 (by decide) rfl ?_
                refine r_aload_n (pc := 135) 12 dX1_goBy_135 rfl rfl ?_
                refine r_iload (pc := 136) 5 dX1_goBy_136 rfl ?_
                refine r_iload (pc := 138) 2 dX1_goBy_138 rfl ?_
                refine r_iastv (pc := 140) (i := od i) dX1_goBy_140 hG (by omega) (by decide) rfl ?_
                refine r_iload (pc := 141) 8 dX1_goBy_141 rfl ?_
                refine r_iload (pc := 143) 2 dX1_goBy_143 rfl ?_
                refine r_iadd (pc := 145) dX1_goBy_145 ?_
                refine r_eqI (y := alK K n od (i + 1)) (rfl) ?_
                refine r_istore (pc := 146) (L2 := [(6, (.int (iI (alK K n od (i + 1))))), (5, (.int (iI (((stO (ovK K) (waK K (K 42) (hdK K)) (bkK K) n 1 (sO od (i + 1)) : Nat) : Int))))), (4, (.int (iI (((stO (ovK K) (waK K (K 42) (hdK K)) (bkK K) n 0 (sO od (i + 1)) : Nat) : Int))))), (12, (.int (iI (gsK K n od i)))), (11, (.int (iI (1)))), (10, (.int (iI ((((waK K (K 42) (hdK K)) (od i) : Nat) : Int))))), (9, (.int (iI (((od i : Nat) : Int))))), (8, (.int (iI (((i : Nat) : Int))))), (7, (.int (iI (b01 (ftB K n od i = true))))), (0, (.ref b)), (1, (.ref y)), (2, (.ref o)), (3, (.ref 163))]) dX1_goBy_146 (by decide) rfl ?_
                refine r_iload (pc := 148) 8 dX1_goBy_148 rfl ?_
                refine r_if_eq (pc := 150) (tgt := 193) dX1_goBy_150 (by decide) (b01_r) (fun c_150 => ?_) (fun c_150 => ?_)
                · replace c_150 := b01_z c_150
                  refine r_iconst (pc := 193) dX1_goBy_193 ?_
                  refine r_istore (pc := 194) (L2 := [(7, (.int (iI (0)))), (6, (.int (iI (alK K n od (i + 1))))), (5, (.int (iI (((stO (ovK K) (waK K (K 42) (hdK K)) (bkK K) n 1 (sO od (i + 1)) : Nat) : Int))))), (4, (.int (iI (((stO (ovK K) (waK K (K 42) (hdK K)) (bkK K) n 0 (sO od (i + 1)) : Nat) : Int))))), (12, (.int (iI (gsK K n od i)))), (11, (.int (iI (1)))), (10, (.int (iI ((((waK K (K 42) (hdK K)) (od i) : Nat) : Int))))), (9, (.int (iI (((od i : Nat) : Int))))), (8, (.int (iI (((i : Nat) : Int))))), (0, (.ref b)), (1, (.ref y)), (2, (.ref o)), (3, (.ref 163))]) dX1_goBy_194 (by decide) rfl ?_
                  refine r_iincv (pc := 196) (y := ((i + 1 : Nat) : Int)) (L2 := [(8, (.int (iI (((i + 1 : Nat) : Int))))), (7, (.int (iI (0)))), (6, (.int (iI (alK K n od (i + 1))))), (5, (.int (iI (((stO (ovK K) (waK K (K 42) (hdK K)) (bkK K) n 1 (sO od (i + 1)) : Nat) : Int))))), (4, (.int (iI (((stO (ovK K) (waK K (K 42) (hdK K)) (bkK K) n 0 (sO od (i + 1)) : Nat) : Int))))), (12, (.int (iI (gsK K n od i)))), (11, (.int (iI (1)))), (10, (.int (iI ((((waK K (K 42) (hdK K)) (od i) : Nat) : Int))))), (9, (.int (iI (((od i : Nat) : Int))))), (0, (.ref b)), (1, (.ref y)), (2, (.ref o)), (3, (.ref 163))]) 8 dX1_goBy_196 rfl (by omega) (by decide) rfl ?_
                  refine r_goto (pc := 199) (tgt := 43) dX1_goBy_199 (by decide) ?_
                  refine r_sub (L2 := [(8, (.int (iI (((i + 1 : Nat) : Int))))), (7, (.int (iI (b01 (ftB K n od (i + 1) = true))))), (6, (.int (iI (alK K n od (i + 1))))), (5, (.int (iI (((stO (ovK K) (waK K (K 42) (hdK K)) (bkK K) n 1 (sO od (i + 1)) : Nat) : Int))))), (4, (.int (iI (((stO (ovK K) (waK K (K 42) (hdK K)) (bkK K) n 0 (sO od (i + 1)) : Nat) : Int))))), (0, (.ref b)), (1, (.ref y)), (2, (.ref o)), (3, (.ref 163))]) [0, 1, 2, 3, 4, 9, 10, 11, 12] (by rw [b01_f (ftB_n (fun h => c_150 h.1))]; rfl) ?_
                  exact ih (n - (i + 1)) (by omega) (i + 1) (by omega) (by omega) _ (fun q hq => by rw [stF_n _ _ _ hq]; exact hF1 q hq) (fun j hj => by
                    rcases Nat.lt_succ_iff_lt_or_eq.mp hj with h | h
                    · rw [stF_i _ _ _ (okO_ne hok (by omega) h)]; exact hR1 j h
                    · subst h; exact stF_s _ _ _ _)
                · replace c_150 := b01_nz c_150
                  refine r_aload_n (pc := 153) 9 dX1_goBy_153 rfl rfl ?_
                  refine r_iconst (pc := 154) dX1_goBy_154 ?_
                  refine r_iload (pc := 155) 6 dX1_goBy_155 rfl ?_
                  refine r_callV (pc := 157) (As := [(.int (iI (3))), (.int (iI (((od i : Nat) : Int))))]) (S := []) dX1_goBy_157 cv_X1_41 hB.k rfl (Nat.le_of_ble_eq_true rfl) (c_trait (w := 3) (c := ((od i : Nat) : Int)) l z _ _ hB (by omega) (by omega)) (Nat.zero_le _) (Nat.zero_le _) (fun r_157 g_157 f_157 q_157 => ?_)
                  obtain ⟨rfl, rfl, rfl⟩ := q_157
                  refine r_eqI (y := K (5 * od i + 3)) (by rw [stF_n _ _ _ (by omega), hF1 (b + 1) (by omega), show (3 * 8 + ((od i : Nat) : Int)).toNat = 8 * 3 + od i by omega]; exact hK.tr (by decide) (by omega)) ?_
                  refine r_iload (pc := 160) 3 dX1_goBy_160 rfl ?_
                  refine r_iadd (pc := 162) dX1_goBy_162 ?_
                  refine r_getsN (pc := 163) (j := 0) dX1_goBy_163 (by decide) sl_X1_75 ?_
                  refine r_iconst (pc := 166) dX1_goBy_166 ?_
                  refine r_ialdS (pc := 167) dX1_goBy_167 (by decide) (by decide) ?_
                  refine r_eqI (y := 9999) (by decide) ?_
                  refine r_icmp_gt (pc := 168) (tgt := 193) dX1_goBy_168 (by decide) (by omega) (by omega) (fun c_168 => ?_) (fun c_168 => ?_)
                  · refine r_iconst (pc := 193) dX1_goBy_193 ?_
                    refine r_istore (pc := 194) (L2 := [(7, (.int (iI (0)))), (6, (.int (iI (alK K n od (i + 1))))), (5, (.int (iI (((stO (ovK K) (waK K (K 42) (hdK K)) (bkK K) n 1 (sO od (i + 1)) : Nat) : Int))))), (4, (.int (iI (((stO (ovK K) (waK K (K 42) (hdK K)) (bkK K) n 0 (sO od (i + 1)) : Nat) : Int))))), (12, (.int (iI (gsK K n od i)))), (11, (.int (iI (1)))), (10, (.int (iI ((((waK K (K 42) (hdK K)) (od i) : Nat) : Int))))), (9, (.int (iI (((od i : Nat) : Int))))), (8, (.int (iI (((i : Nat) : Int))))), (0, (.ref b)), (1, (.ref y)), (2, (.ref o)), (3, (.ref 163))]) dX1_goBy_194 (by decide) rfl ?_
                    refine r_iincv (pc := 196) (y := ((i + 1 : Nat) : Int)) (L2 := [(8, (.int (iI (((i + 1 : Nat) : Int))))), (7, (.int (iI (0)))), (6, (.int (iI (alK K n od (i + 1))))), (5, (.int (iI (((stO (ovK K) (waK K (K 42) (hdK K)) (bkK K) n 1 (sO od (i + 1)) : Nat) : Int))))), (4, (.int (iI (((stO (ovK K) (waK K (K 42) (hdK K)) (bkK K) n 0 (sO od (i + 1)) : Nat) : Int))))), (12, (.int (iI (gsK K n od i)))), (11, (.int (iI (1)))), (10, (.int (iI ((((waK K (K 42) (hdK K)) (od i) : Nat) : Int))))), (9, (.int (iI (((od i : Nat) : Int))))), (0, (.ref b)), (1, (.ref y)), (2, (.ref o)), (3, (.ref 163))]) 8 dX1_goBy_196 rfl (by omega) (by decide) rfl ?_
                    refine r_goto (pc := 199) (tgt := 43) dX1_goBy_199 (by decide) ?_
                    refine r_sub (L2 := [(8, (.int (iI (((i + 1 : Nat) : Int))))), (7, (.int (iI (b01 (ftB K n od (i + 1) = true))))), (6, (.int (iI (alK K n od (i + 1))))), (5, (.int (iI (((stO (ovK K) (waK K (K 42) (hdK K)) (bkK K) n 1 (sO od (i + 1)) : Nat) : Int))))), (4, (.int (iI (((stO (ovK K) (waK K (K 42) (hdK K)) (bkK K) n 0 (sO od (i + 1)) : Nat) : Int))))), (0, (.ref b)), (1, (.ref y)), (2, (.ref o)), (3, (.ref 163))]) [0, 1, 2, 3, 4, 9, 10, 11, 12] (by rw [b01_f (ftB_n (fun h => by obtain ⟨_, h1, h2⟩ := h; omega))]; rfl) ?_
                    exact ih (n - (i + 1)) (by omega) (i + 1) (by omega) (by omega) _ (fun q hq => by rw [stF_n _ _ _ hq]; exact hF1 q hq) (fun j hj => by
                      rcases Nat.lt_succ_iff_lt_or_eq.mp hj with h | h
                      · rw [stF_i _ _ _ (okO_ne hok (by omega) h)]; exact hR1 j h
                      · subst h; exact stF_s _ _ _ _)
                  · refine r_aload_n (pc := 171) 9 dX1_goBy_171 rfl rfl ?_
                    refine r_iconst (pc := 172) dX1_goBy_172 ?_
                    refine r_iload (pc := 173) 6 dX1_goBy_173 rfl ?_
                    refine r_callV (pc := 175) (As := [(.int (iI (4))), (.int (iI (((od i : Nat) : Int))))]) (S := []) dX1_goBy_175 cv_X1_41 hB.k rfl (Nat.le_of_ble_eq_true rfl) (c_trait (w := 4) (c := ((od i : Nat) : Int)) l z _ _ hB (by omega) (by omega)) (Nat.zero_le _) (Nat.zero_le _) (fun r_175 g_175 f_175 q_175 => ?_)
                    obtain ⟨rfl, rfl, rfl⟩ := q_175
                    refine r_eqI (y := K (5 * od i + 4)) (by rw [stF_n _ _ _ (by omega), hF1 (b + 1) (by omega), show (4 * 8 + ((od i : Nat) : Int)).toNat = 8 * 4 + od i by omega]; exact hK.tr (by decide) (by omega)) ?_
                    refine r_iload (pc := 178) 5 dX1_goBy_178 rfl ?_
                    refine r_iadd (pc := 180) dX1_goBy_180 ?_
                    refine r_getsN (pc := 181) (j := 0) dX1_goBy_181 (by decide) sl_X1_75 ?_
                    refine r_iconst (pc := 184) dX1_goBy_184 ?_
                    refine r_ialdS (pc := 185) dX1_goBy_185 (by decide) (by decide) ?_
                    refine r_eqI (y := 999999) (by decide) ?_
                    refine r_icmp_gt (pc := 186) (tgt := 193) dX1_goBy_186 (by decide) (by omega) (by omega) (fun c_186 => ?_) (fun c_186 => ?_)
                    · refine r_iconst (pc := 193) dX1_goBy_193 ?_
                      refine r_istore (pc := 194) (L2 := [(7, (.int (iI (0)))), (6, (.int (iI (alK K n od (i + 1))))), (5, (.int (iI (((stO (ovK K) (waK K (K 42) (hdK K)) (bkK K) n 1 (sO od (i + 1)) : Nat) : Int))))), (4, (.int (iI (((stO (ovK K) (waK K (K 42) (hdK K)) (bkK K) n 0 (sO od (i + 1)) : Nat) : Int))))), (12, (.int (iI (gsK K n od i)))), (11, (.int (iI (1)))), (10, (.int (iI ((((waK K (K 42) (hdK K)) (od i) : Nat) : Int))))), (9, (.int (iI (((od i : Nat) : Int))))), (8, (.int (iI (((i : Nat) : Int))))), (0, (.ref b)), (1, (.ref y)), (2, (.ref o)), (3, (.ref 163))]) dX1_goBy_194 (by decide) rfl ?_
                      refine r_iincv (pc := 196) (y := ((i + 1 : Nat) : Int)) (L2 := [(8, (.int (iI (((i + 1 : Nat) : Int))))), (7, (.int (iI (0)))), (6, (.int (iI (alK K n od (i + 1))))), (5, (.int (iI (((stO (ovK K) (waK K (K 42) (hdK K)) (bkK K) n 1 (sO od (i + 1)) : Nat) : Int))))), (4, (.int (iI (((stO (ovK K) (waK K (K 42) (hdK K)) (bkK K) n 0 (sO od (i + 1)) : Nat) : Int))))), (12, (.int (iI (gsK K n od i)))), (11, (.int (iI (1)))), (10, (.int (iI ((((waK K (K 42) (hdK K)) (od i) : Nat) : Int))))), (9, (.int (iI (((od i : Nat) : Int))))), (0, (.ref b)), (1, (.ref y)), (2, (.ref o)), (3, (.ref 163))]) 8 dX1_goBy_196 rfl (by omega) (by decide) rfl ?_
                      refine r_goto (pc := 199) (tgt := 43) dX1_goBy_199 (by decide) ?_
                      refine r_sub (L2 := [(8, (.int (iI (((i + 1 : Nat) : Int))))), (7, (.int (iI (b01 (ftB K n od (i + 1) = true))))), (6, (.int (iI (alK K n od (i + 1))))), (5, (.int (iI (((stO (ovK K) (waK K (K 42) (hdK K)) (bkK K) n 1 (sO od (i + 1)) : Nat) : Int))))), (4, (.int (iI (((stO (ovK K) (waK K (K 42) (hdK K)) (bkK K) n 0 (sO od (i + 1)) : Nat) : Int))))), (0, (.ref b)), (1, (.ref y)), (2, (.ref o)), (3, (.ref 163))]) [0, 1, 2, 3, 4, 9, 10, 11, 12] (by rw [b01_f (ftB_n (fun h => by obtain ⟨_, h1, h2⟩ := h; omega))]; rfl) ?_
                      exact ih (n - (i + 1)) (by omega) (i + 1) (by omega) (by omega) _ (fun q hq => by rw [stF_n _ _ _ hq]; exact hF1 q hq) (fun j hj => by
                        rcases Nat.lt_succ_iff_lt_or_eq.mp hj with h | h
                        · rw [stF_i _ _ _ (okO_ne hok (by omega) h)]; exact hR1 j h
                        · subst h; exact stF_s _ _ _ _)
                    · refine r_iconst (pc := 189) dX1_goBy_189 ?_
                      refine r_goto (pc := 190) (tgt := 194) dX1_goBy_190 (by decide) ?_
                      refine r_istore (pc := 194) (L2 := [(7, (.int (iI (1)))), (6, (.int (iI (alK K n od (i + 1))))), (5, (.int (iI (((stO (ovK K) (waK K (K 42) (hdK K)) (bkK K) n 1 (sO od (i + 1)) : Nat) : Int))))), (4, (.int (iI (((stO (ovK K) (waK K (K 42) (hdK K)) (bkK K) n 0 (sO od (i + 1)) : Nat) : Int))))), (12, (.int (iI (gsK K n od i)))), (11, (.int (iI (1)))), (10, (.int (iI ((((waK K (K 42) (hdK K)) (od i) : Nat) : Int))))), (9, (.int (iI (((od i : Nat) : Int))))), (8, (.int (iI (((i : Nat) : Int))))), (0, (.ref b)), (1, (.ref y)), (2, (.ref o)), (3, (.ref 163))]) dX1_goBy_194 (by decide) rfl ?_
                      refine r_iincv (pc := 196) (y := ((i + 1 : Nat) : Int)) (L2 := [(8, (.int (iI (((i + 1 : Nat) : Int))))), (7, (.int (iI (1)))), (6, (.int (iI (alK K n od (i + 1))))), (5, (.int (iI (((stO (ovK K) (waK K (K 42) (hdK K)) (bkK K) n 1 (sO od (i + 1)) : Nat) : Int))))), (4, (.int (iI (((stO (ovK K) (waK K (K 42) (hdK K)) (bkK K) n 0 (sO od (i + 1)) : Nat) : Int))))), (12, (.int (iI (gsK K n od i)))), (11, (.int (iI (1)))), (10, (.int (iI ((((waK K (K 42) (hdK K)) (od i) : Nat) : Int))))), (9, (.int (iI (((od i : Nat) : Int))))), (0, (.ref b)), (1, (.ref y)), (2, (.ref o)), (3, (.ref 163))]) 8 dX1_goBy_196 rfl (by omega) (by decide) rfl ?_
                      refine r_goto (pc := 199) (tgt := 43) dX1_goBy_199 (by decide) ?_
                      refine r_sub (L2 := [(8, (.int (iI (((i + 1 : Nat) : Int))))), (7, (.int (iI (b01 (ftB K n od (i + 1) = true))))), (6, (.int (iI (alK K n od (i + 1))))), (5, (.int (iI (((stO (ovK K) (waK K (K 42) (hdK K)) (bkK K) n 1 (sO od (i + 1)) : Nat) : Int))))), (4, (.int (iI (((stO (ovK K) (waK K (K 42) (hdK K)) (bkK K) n 0 (sO od (i + 1)) : Nat) : Int))))), (0, (.ref b)), (1, (.ref y)), (2, (.ref o)), (3, (.ref 163))]) [0, 1, 2, 3, 4, 9, 10, 11, 12] (by rw [b01_t (ftB_y c_150 (by omega) (by omega))]; rfl) ?_
                      exact ih (n - (i + 1)) (by omega) (i + 1) (by omega) (by omega) _ (fun q hq => by rw [stF_n _ _ _ hq]; exact hF1 q hq) (fun j hj => by
                        rcases Nat.lt_succ_iff_lt_or_eq.mp hj with h | h
                        · rw [stF_i _ _ _ (okO_ne hok (by omega) h)]; exact hR1 j h
                        · subst h; exact stF_s _ _ _ _)
  refine r_aload_n (pc := 0) 0 dX1_goBy_0 rfl rfl ?_
  refine r_getR (pc := 1) (b := (b + 2)) dX1_goBy_1 fl_X1_15 rfl hB.k hB.r1 ?_
  refine r_iconst (pc := 4) dX1_goBy_4 ?_
  refine r_ialdv (pc := 5) (w := ((bkK K 0 : Nat) : Int)) dX1_goBy_5 hB.a1 (by decide) (by decide) ((hK.te (t := 3) (by decide)).trans (bkK_r (o := 0) hO hM0 (by decide)).1) ?_
  refine r_istore (pc := 6) (L2 := [(4, (.int (iI (((bkK K 0 : Nat) : Int))))), (0, (.ref b)), (1, (.ref y)), (2, (.ref o)), (3, (.ref 163))]) dX1_goBy_6 (by decide) rfl ?_
  refine r_aload_n (pc := 8) 1 dX1_goBy_8 rfl rfl ?_
  refine r_getR (pc := 9) (b := (b + 2)) dX1_goBy_9 fl_X1_15 rfl hB.k hB.r1 ?_
  refine r_iconst (pc := 12) dX1_goBy_12 ?_
  refine r_ialdv (pc := 13) (w := ((bkK K 1 : Nat) : Int)) dX1_goBy_13 hB.a1 (by decide) (by decide) ((hK.te (t := 4) (by decide)).trans (bkK_r (o := 1) hO hM0 (by decide)).1) ?_
  refine r_istore (pc := 14) (L2 := [(5, (.int (iI (((bkK K 1 : Nat) : Int))))), (4, (.int (iI (((bkK K 0 : Nat) : Int))))), (0, (.ref b)), (1, (.ref y)), (2, (.ref o)), (3, (.ref 163))]) dX1_goBy_14 (by decide) rfl ?_
  refine r_iconst (pc := 16) dX1_goBy_16 ?_
  refine r_istore (pc := 17) (L2 := [(6, (.int (iI (0)))), (5, (.int (iI (((bkK K 1 : Nat) : Int))))), (4, (.int (iI (((bkK K 0 : Nat) : Int))))), (0, (.ref b)), (1, (.ref y)), (2, (.ref o)), (3, (.ref 163))]) dX1_goBy_17 (by decide) rfl ?_
  refine r_aload_n (pc := 19) 3 dX1_goBy_19 rfl rfl ?_
  refine r_getR (pc := 20) (b := (b + 2)) dX1_goBy_20 fl_X1_15 rfl hB.k hB.r1 ?_
  refine r_iconst (pc := 23) dX1_goBy_23 ?_
  refine r_ialdv (pc := 24) (w := K 42) dX1_goBy_24 hB.a1 (by decide) (by decide) ((hK.te (t := 2) (by decide))) ?_
  refine r_getsN (pc := 25) (j := 2) dX1_goBy_25 (by decide) sl_X1_61 ?_
  refine r_iconst (pc := 28) dX1_goBy_28 ?_
  refine r_ialdS (pc := 29) dX1_goBy_29 (by decide) (by decide) ?_
  refine r_eqI (y := 9999) (by decide) ?_
  refine r_icmp_ge (pc := 30) (tgt := 37) dX1_goBy_30 (by decide) (by omega) (by omega) (fun c_30 => ?_) (fun c_30 => ?_)
  · refine r_iconst (pc := 37) dX1_goBy_37 ?_
    refine r_istore (pc := 38) (L2 := [(7, (.int (iI (0)))), (6, (.int (iI (0)))), (5, (.int (iI (((bkK K 1 : Nat) : Int))))), (4, (.int (iI (((bkK K 0 : Nat) : Int))))), (0, (.ref b)), (1, (.ref y)), (2, (.ref o)), (3, (.ref 163))]) dX1_goBy_38 (by decide) rfl ?_
    refine r_iconst (pc := 40) dX1_goBy_40 ?_
    refine r_istore (pc := 41) (L2 := [(8, (.int (iI (0)))), (7, (.int (iI (0)))), (6, (.int (iI (0)))), (5, (.int (iI (((bkK K 1 : Nat) : Int))))), (4, (.int (iI (((bkK K 0 : Nat) : Int))))), (0, (.ref b)), (1, (.ref y)), (2, (.ref o)), (3, (.ref 163))]) dX1_goBy_41 (by decide) rfl ?_
    refine r_sub (L2 := [(8, (.int (iI (((0 : Nat) : Int))))), (7, (.int (iI (b01 (ftB K n od 0 = true))))), (6, (.int (iI (alK K n od 0)))), (5, (.int (iI (((stO (ovK K) (waK K (K 42) (hdK K)) (bkK K) n 1 (sO od 0) : Nat) : Int))))), (4, (.int (iI (((stO (ovK K) (waK K (K 42) (hdK K)) (bkK K) n 0 (sO od 0) : Nat) : Int))))), (0, (.ref b)), (1, (.ref y)), (2, (.ref o)), (3, (.ref 163))]) [0, 1, 2, 3, 4, 5, 6, 7, 8] (by rw [b01_f (show ¬ ftB K n od 0 = true from fun q => by have := of_decide_eq_true q; omega), show sO od 0 = 0 from rfl, stO_0, stO_0]; rfl) ?_
    exact loop1 n 0 (by omega) (by omega) f (fun _ _ => rfl) (fun _ h => absurd h (by omega))
  · refine r_iconst (pc := 33) dX1_goBy_33 ?_
    refine r_goto (pc := 34) (tgt := 38) dX1_goBy_34 (by decide) ?_
    refine r_istore (pc := 38) (L2 := [(7, (.int (iI (1)))), (6, (.int (iI (0)))), (5, (.int (iI (((bkK K 1 : Nat) : Int))))), (4, (.int (iI (((bkK K 0 : Nat) : Int))))), (0, (.ref b)), (1, (.ref y)), (2, (.ref o)), (3, (.ref 163))]) dX1_goBy_38 (by decide) rfl ?_
    refine r_iconst (pc := 40) dX1_goBy_40 ?_
    refine r_istore (pc := 41) (L2 := [(8, (.int (iI (0)))), (7, (.int (iI (1)))), (6, (.int (iI (0)))), (5, (.int (iI (((bkK K 1 : Nat) : Int))))), (4, (.int (iI (((bkK K 0 : Nat) : Int))))), (0, (.ref b)), (1, (.ref y)), (2, (.ref o)), (3, (.ref 163))]) dX1_goBy_41 (by decide) rfl ?_
    refine r_sub (L2 := [(8, (.int (iI (((0 : Nat) : Int))))), (7, (.int (iI (b01 (ftB K n od 0 = true))))), (6, (.int (iI (alK K n od 0)))), (5, (.int (iI (((stO (ovK K) (waK K (K 42) (hdK K)) (bkK K) n 1 (sO od 0) : Nat) : Int))))), (4, (.int (iI (((stO (ovK K) (waK K (K 42) (hdK K)) (bkK K) n 0 (sO od 0) : Nat) : Int))))), (0, (.ref b)), (1, (.ref y)), (2, (.ref o)), (3, (.ref 163))]) [0, 1, 2, 3, 4, 5, 6, 7, 8] (by rw [b01_t (show ftB K n od 0 = true from decide_eq_true (by omega)), show sO od 0 = 0 from rfl, stO_0, stO_0]; rfl) ?_
    exact loop1 n 0 (by omega) (by omega) f (fun _ _ => rfl) (fun _ h => absurd h (by omega))

set_option maxRecDepth 100000 in
set_option maxHeartbeats 4000000 in
theorem x_goByS (l : Launch) (z : Zv) (d : Nat) {g : Gm} {f : Fm} {y b n : Nat} {K : Nat → Int} {D0 M0 : Int} {od : Nat → Nat} (hY : DL g y) (hB : BL g b) (hK : BK g f b K) (hO : KO K D0 M0) (hD0 : D0 ≤ 1000000) (hM0 : M0 ≤ 1100000) (hn : K 77 = ((n : Nat) : Int)) (hby : b + 10 ≤ y) (hy : y + 12 ≤ 163) (hDA : DA f y K n) (hok : okO od n) (hG : isA g 163 11 8) (ho : ∀ i, i < n → (sct 3).getD i 0 = ((od i : Nat) : Int)) : PM l z (d + 3) mX1_goBy [.ref b, .ref y, .ref 3, .ref 163] g f 0 0 (fun r g' f' => g = g' ∧ (∀ q, q ≠ b + 1 → q ≠ b + 2 → q ≠ 163 → f' q = f q) ∧ (∀ c, c < n → f' 163 c = gcK K n od c) ∧ ((fitP K n od ∧ r = some (.int (iI (alK K n od n))) ∧ BK g f' b (goK K n od)) ∨ (¬ fitP K n od ∧ r = some (.int (iI (-1))) ∧ f' (b + 1) = f (b + 1) ∧ f' (b + 2) = f (b + 2)))) := by
  have hn8 : n ≤ 8 := by have := hO.n; omega
  have hdy := hO.dy
  have hA4 := hDA.2.2
  have hst0 : stO (ovK K) (waK K (K 42) (hdK K)) (bkK K) n 0 (sO od n) = bkK K 0 + swN (ovK K) (waK K (K 42) (hdK K)) 0 n := stO_full (bc_full n (sO_bc hok n (Nat.le_refl _)))
  have hst1 : stO (ovK K) (waK K (K 42) (hdK K)) (bkK K) n 1 (sO od n) = bkK K 1 + swN (ovK K) (waK K (K 42) (hdK K)) 1 n := stO_full (bc_full n (sO_bc hok n (Nat.le_refl _)))
  refine PM.of (by decide +kernel) (Nat.le_of_ble_eq_true rfl) ?_
  have loop2 : fitP K n od → ∀ f1 : Fm, (∀ q, q ≠ 163 → f1 q = f q) → (∀ c, c < n → f1 163 c = gcK K n od c) → ∀ m c : Nat, m = n - c → c ≤ n → ∀ f2 : Fm, (∀ q, q ≠ b + 1 → f2 q = f1 q) → (∀ w c', w < 5 → c' < 8 → f2 (b + 1) (8 * w + c') = if c' < c ∧ w = 3 then K (5 * c' + 3) + gcK K n od c' else if c' < c ∧ w = 4 then K (5 * c' + 4) + (((waK K (K 42) (hdK K)) c' : Nat) : Int) else K (5 * c' + w)) → PW l z (d + 3) mX1_goBy 0 0 (fun r g' f' => g = g' ∧ (∀ q, q ≠ b + 1 → q ≠ b + 2 → q ≠ 163 → f' q = f q) ∧ (∀ c, c < n → f' 163 c = gcK K n od c) ∧ ((fitP K n od ∧ r = some (.int (iI (alK K n od n))) ∧ BK g f' b (goK K n od)) ∨ (¬ fitP K n od ∧ r = some (.int (iI (-1))) ∧ f' (b + 1) = f (b + 1) ∧ f' (b + 2) = f (b + 2)))) 232 [(8, (.int (iI (((c : Nat) : Int))))), (6, (.int (iI (alK K n od n)))), (5, (.int (iI (((stO (ovK K) (waK K (K 42) (hdK K)) (bkK K) n 1 (sO od n) : Nat) : Int))))), (4, (.int (iI (((stO (ovK K) (waK K (K 42) (hdK K)) (bkK K) n 0 (sO od n) : Nat) : Int))))), (0, (.ref b)), (1, (.ref y)), (2, (.ref 3)), (3, (.ref 163))] [] g f2 0 0 := by
    intro hfit f1 hF1 hGc m
    induction m using Nat.strongRecOn with
    | _ m ih =>
      intro c hm hc0 f2 hF2 hT2
      refine r_iload (pc := 232) 0 dX1_goBy_232 rfl ?_
      refine r_aload_n (pc := 234) 4 dX1_goBy_234 rfl rfl ?_
      refine r_getIv (pc := 235) (x := ((n : Nat) : Int)) dX1_goBy_235 fl_X1_38 rfl hB.k (by rw [hF2 b (by omega), hF1 b (by omega)]; exact hK.n.trans hn) ?_
      refine r_icmp_ge (pc := 238) (tgt := 288) dX1_goBy_238 (by decide) (by omega) (by omega) (fun c_238 => ?_) (fun c_238 => ?_)
      · refine r_aload_n (pc := 288) 4 dX1_goBy_288 rfl rfl ?_
        refine r_getR (pc := 289) (b := (b + 2)) dX1_goBy_289 fl_X1_15 rfl hB.k hB.r1 ?_
        refine r_iconst (pc := 292) dX1_goBy_292 ?_
        refine r_iload (pc := 293) 3 dX1_goBy_293 rfl ?_
        refine r_iastv (pc := 295) (i := 3) dX1_goBy_295 hB.a1 (by decide) (by decide) rfl ?_
        refine r_aload_n (pc := 296) 4 dX1_goBy_296 rfl rfl ?_
        refine r_getR (pc := 297) (b := (b + 2)) dX1_goBy_297 fl_X1_15 rfl hB.k hB.r1 ?_
        refine r_iconst (pc := 300) dX1_goBy_300 ?_
        refine r_iload (pc := 301) 2 dX1_goBy_301 rfl ?_
        refine r_iastv (pc := 303) (i := 4) dX1_goBy_303 hB.a1 (by decide) (by decide) rfl ?_
        refine r_aload_n (pc := 304) 4 dX1_goBy_304 rfl rfl ?_
        refine r_getR (pc := 305) (b := (b + 2)) dX1_goBy_305 fl_X1_15 rfl hB.k hB.r1 ?_
        refine r_iconst (pc := 308) dX1_goBy_308 ?_
        refine r_dup2 (pc := 309) dX1_goBy_309 rfl rfl ?_
        refine r_ialdv (pc := 310) (w := K 42) dX1_goBy_310 hB.a1 (by decide) (by decide) (rdi (by decide) (rdi (by decide) (by rw [hF2 (b + 2) (by omega), hF1 (b + 2) (by omega)]; exact hK.te (t := 2) (by decide)))) ?_
        refine r_iconst (pc := 311) dX1_goBy_311 ?_
        refine r_iadd (pc := 312) dX1_goBy_312 ?_
        refine r_iastv (pc := 313) (i := 2) dX1_goBy_313 hB.a1 (by decide) (by decide) rfl ?_
        refine r_iload (pc := 314) 1 dX1_goBy_314 rfl ?_
        refine r_iret (pc := 316) dX1_goBy_316 rfl rfl ⟨rfl, fun q h1 h2 h3 => by rw [stF_n _ _ _ h2, stF_n _ _ _ h2, stF_n _ _ _ h2, hF2 q h1]; exact hF1 q h3, fun c hc => by rw [stF_n _ _ _ (by omega), stF_n _ _ _ (by omega), stF_n _ _ _ (by omega), hF2 163 (by omega)]; exact hGc c hc, Or.inl ⟨hfit, rfl, hK.go hO hn8 (by omega) (fun q h1 h2 h3 => by rw [stF_n _ _ _ h2, stF_n _ _ _ h2, stF_n _ _ _ h2, hF2 q h1]; exact hF1 q h3) (fun w c' hw hc' => ?_) (fun t ht => ?_)⟩⟩
        · rw [stF_n _ _ _ (by omega), stF_n _ _ _ (by omega), stF_n _ _ _ (by omega), hT2 w c' hw hc']
          by_cases hcn' : c' < n
          · by_cases h3 : w = 3
            · rw [if_pos (by omega), h3, goK_3 K od hn8 hcn']
            · rw [if_neg (fun q => h3 q.2)]
              by_cases h4 : w = 4
              · rw [if_pos (by omega), h4, goK_4 K od hn8 hcn']
              · rw [if_neg (fun q => h4 q.2), goK_o K od (by omega) hn8]
          · rw [if_neg (fun q => hcn' (by omega)), if_neg (fun q => hcn' (by omega)), goK_o K od (by omega) hn8]
        · rcases (show t = 0 ∨ t = 1 ∨ t = 2 ∨ t = 3 ∨ t = 4 by omega) with rfl | rfl | rfl | rfl | rfl
          · rw [stF_i _ _ _ (by decide), stF_i _ _ _ (by decide), stF_i _ _ _ (by decide), hF2 (b + 2) (by omega), hF1 (b + 2) (by omega), goK_o K od (by omega) hn8]; exact hK.te (by decide)
          · rw [stF_i _ _ _ (by decide), stF_i _ _ _ (by decide), stF_i _ _ _ (by decide), hF2 (b + 2) (by omega), hF1 (b + 2) (by omega), goK_o K od (by omega) hn8]; exact hK.te (by decide)
          · rw [stF_s, goK_42]
          · rw [stF_i _ _ _ (by decide), stF_i _ _ _ (by decide), stF_s, goK_43, hst0]; have h43 : K 43 = ((bkK K 0 : Nat) : Int) := (bkK_r (o := 0) hO hM0 (by decide)).1; omega
          · rw [stF_i _ _ _ (by decide), stF_s, goK_44, hst1]; have h44 : K 44 = ((bkK K 1 : Nat) : Int) := (bkK_r (o := 1) hO hM0 (by decide)).1; omega
      · refine r_aload_n (pc := 241) 4 dX1_goBy_241 rfl rfl ?_
        refine r_iconst (pc := 242) dX1_goBy_242 ?_
        refine r_iload (pc := 243) 0 dX1_goBy_243 rfl ?_
        refine r_aload_n (pc := 245) 4 dX1_goBy_245 rfl rfl ?_
        refine r_iconst (pc := 246) dX1_goBy_246 ?_
        refine r_iload (pc := 247) 0 dX1_goBy_247 rfl ?_
        refine r_callV (pc := 249) (As := [(.int (iI (3))), (.int (iI (((c : Nat) : Int))))]) (S := [(.int (iI (((c : Nat) : Int)))), (.int (iI (3))), (.ref b)]) dX1_goBy_249 cv_X1_41 hB.k rfl (Nat.le_of_ble_eq_true rfl) (c_trait (w := 3) (c := ((c : Nat) : Int)) l z _ _ hB (by omega) (by omega)) (Nat.zero_le _) (Nat.zero_le _) (fun r_249 g_249 f_249 q_249 => ?_)
        obtain ⟨rfl, rfl, rfl⟩ := q_249
        refine r_eqI (y := K (5 * c + 3)) (by rw [show (3 * 8 + ((c : Nat) : Int)).toNat = 8 * 3 + c by omega, hT2 3 c (by decide) (by omega), if_neg (by omega), if_neg (by omega)]) ?_
        refine r_aload_n (pc := 252) 7 dX1_goBy_252 rfl rfl ?_
        refine r_iload (pc := 253) 0 dX1_goBy_253 rfl ?_
        refine r_ialdv (pc := 255) (w := gcK K n od c) dX1_goBy_255 hG (by omega) (by decide) (by rw [hF2 163 (by omega)]; exact hGc _ (by omega)) ?_
        refine r_iadd (pc := 256) dX1_goBy_256 ?_
        refine r_callV (pc := 257) (As := [(.int (iI (3))), (.int (iI (((c : Nat) : Int)))), (.int (iI ((K (5 * c + 3)) + (gcK K n od c))))]) (S := []) dX1_goBy_257 cv_X1_45 hB.k rfl (Nat.le_of_ble_eq_true rfl) (c_setTrait (w := 3) (c := ((c : Nat) : Int)) l z _ _ _ hB (by omega) (by omega)) (Nat.zero_le _) (Nat.zero_le _) (fun r_257 g_257 f_257 q_257 => ?_)
        obtain ⟨rfl, rfl, rfl⟩ := q_257
        refine r_aload_n (pc := 260) 4 dX1_goBy_260 rfl rfl ?_
        refine r_iconst (pc := 261) dX1_goBy_261 ?_
        refine r_iload (pc := 262) 0 dX1_goBy_262 rfl ?_
        refine r_aload_n (pc := 264) 4 dX1_goBy_264 rfl rfl ?_
        refine r_iconst (pc := 265) dX1_goBy_265 ?_
        refine r_iload (pc := 266) 0 dX1_goBy_266 rfl ?_
        refine r_callV (pc := 268) (As := [(.int (iI (4))), (.int (iI (((c : Nat) : Int))))]) (S := [(.int (iI (((c : Nat) : Int)))), (.int (iI (4))), (.ref b)]) dX1_goBy_268 cv_X1_41 hB.k rfl (Nat.le_of_ble_eq_true rfl) (c_trait (w := 4) (c := ((c : Nat) : Int)) l z _ _ hB (by omega) (by omega)) (Nat.zero_le _) (Nat.zero_le _) (fun r_268 g_268 f_268 q_268 => ?_)
        obtain ⟨rfl, rfl, rfl⟩ := q_268
        refine r_eqI (y := K (5 * c + 4)) (by rw [stF_i _ _ _ (by omega), show (4 * 8 + ((c : Nat) : Int)).toNat = 8 * 4 + c by omega, hT2 4 c (by decide) (by omega), if_neg (by omega), if_neg (by omega)]) ?_
        refine r_aload_n (pc := 271) 5 dX1_goBy_271 rfl rfl ?_
        refine r_getR (pc := 272) (b := (y + 4)) dX1_goBy_272 fl_X1_64 rfl hY.k hY.r1 ?_
        refine r_iload (pc := 275) 0 dX1_goBy_275 rfl ?_
        refine r_ialdv (pc := 277) (w := (((waK K (K 42) (hdK K)) c : Nat) : Int)) dX1_goBy_277 hY.a1 (by omega) (by decide) (rdn (by omega) (by rw [hF2 (y + 4) (by omega), hF1 (y + 4) (by omega)]; exact (hA4 _ (by omega)).1)) ?_
        refine r_iadd (pc := 278) dX1_goBy_278 ?_
        refine r_callV (pc := 279) (As := [(.int (iI (4))), (.int (iI (((c : Nat) : Int)))), (.int (iI ((K (5 * c + 4)) + ((((waK K (K 42) (hdK K)) c : Nat) : Int)))))]) (S := []) dX1_goBy_279 cv_X1_45 hB.k rfl (Nat.le_of_ble_eq_true rfl) (c_setTrait (w := 4) (c := ((c : Nat) : Int)) l z _ _ _ hB (by omega) (by omega)) (Nat.zero_le _) (Nat.zero_le _) (fun r_279 g_279 f_279 q_279 => ?_)
        obtain ⟨rfl, rfl, rfl⟩ := q_279
        refine r_iincv (pc := 282) (y := ((c + 1 : Nat) : Int)) (L2 := [(8, (.int (iI (((c + 1 : Nat) : Int))))), (6, (.int (iI (alK K n od n)))), (5, (.int (iI (((stO (ovK K) (waK K (K 42) (hdK K)) (bkK K) n 1 (sO od n) : Nat) : Int))))), (4, (.int (iI (((stO (ovK K) (waK K (K 42) (hdK K)) (bkK K) n 0 (sO od n) : Nat) : Int))))), (0, (.ref b)), (1, (.ref y)), (2, (.ref 3)), (3, (.ref 163))]) 0 dX1_goBy_282 rfl (by omega) (by decide) rfl ?_
        refine r_goto (pc := 285) (tgt := 232) dX1_goBy_285 (by decide) ?_
        refine r_sub (L2 := [(8, (.int (iI (((c + 1 : Nat) : Int))))), (6, (.int (iI (alK K n od n)))), (5, (.int (iI (((stO (ovK K) (waK K (K 42) (hdK K)) (bkK K) n 1 (sO od n) : Nat) : Int))))), (4, (.int (iI (((stO (ovK K) (waK K (K 42) (hdK K)) (bkK K) n 0 (sO od n) : Nat) : Int))))), (0, (.ref b)), (1, (.ref y)), (2, (.ref 3)), (3, (.ref 163))]) [0, 1, 2, 3, 4, 5, 6, 7] rfl ?_
        exact ih (n - (c + 1)) (by omega) (c + 1) (by omega) (by omega) _ (fun q hq => by rw [stF_n _ _ _ hq, stF_n _ _ _ hq]; exact hF2 q hq) (fun w c' hw hc' => by
          by_cases h4 : w = 4 ∧ c' = c
          · obtain ⟨rfl, rfl⟩ := h4
            rw [show 8 * 4 + c' = (4 * 8 + ((c' : Nat) : Int)).toNat by omega, stF_s, if_neg (by omega), if_pos (by omega)]
          · by_cases h3 : w = 3 ∧ c' = c
            · obtain ⟨rfl, rfl⟩ := h3
              rw [stF_i _ _ _ (by omega), show 8 * 3 + c' = (3 * 8 + ((c' : Nat) : Int)).toNat by omega, stF_s, if_pos (by omega)]
            · rw [stF_i _ _ _ (by omega), stF_i _ _ _ (by omega), hT2 w c' hw hc']
              by_cases hw3 : w = 3
              · by_cases hcc : c' < c
                · rw [if_pos ⟨hcc, hw3⟩, if_pos ⟨by omega, hw3⟩]
                · rw [if_neg (fun q => hcc q.1), if_neg (fun q => hcc q.1), if_neg (show ¬ (c' < c + 1 ∧ w = 3) by omega), if_neg (show ¬ (c' < c + 1 ∧ w = 4) by omega)]
              · rw [if_neg (fun q => hw3 q.2), if_neg (show ¬ (c' < c + 1 ∧ w = 3) from fun q => hw3 q.2)]
                by_cases hcc : c' < c ∧ w = 4
                · rw [if_pos hcc, if_pos (show c' < c + 1 ∧ w = 4 by omega)]
                · rw [if_neg hcc, if_neg (show ¬ (c' < c + 1 ∧ w = 4) by omega)])
  have loop1 : ∀ m i : Nat, m = n - i → i ≤ n → ∀ f1 : Fm, (∀ q, q ≠ 163 → f1 q = f q) → (∀ j, j < i → f1 163 (od j) = gsK K n od j) → PW l z (d + 3) mX1_goBy 0 0 (fun r g' f' => g = g' ∧ (∀ q, q ≠ b + 1 → q ≠ b + 2 → q ≠ 163 → f' q = f q) ∧ (∀ c, c < n → f' 163 c = gcK K n od c) ∧ ((fitP K n od ∧ r = some (.int (iI (alK K n od n))) ∧ BK g f' b (goK K n od)) ∨ (¬ fitP K n od ∧ r = some (.int (iI (-1))) ∧ f' (b + 1) = f (b + 1) ∧ f' (b + 2) = f (b + 2)))) 43 [(8, (.int (iI (((i : Nat) : Int))))), (7, (.int (iI (b01 (ftB K n od i = true))))), (6, (.int (iI (alK K n od i)))), (5, (.int (iI (((stO (ovK K) (waK K (K 42) (hdK K)) (bkK K) n 1 (sO od i) : Nat) : Int))))), (4, (.int (iI (((stO (ovK K) (waK K (K 42) (hdK K)) (bkK K) n 0 (sO od i) : Nat) : Int))))), (0, (.ref b)), (1, (.ref y)), (2, (.ref 3)), (3, (.ref 163))] [] g f1 0 0 := by
    intro m
    induction m using Nat.strongRecOn with
    | _ m ih =>
      intro i hm hi f1 hF1 hR1
      have hr0 : stO (ovK K) (waK K (K 42) (hdK K)) (bkK K) n 0 (sO od i) ≤ 1100320 := stO_r hO hM0 hn8 (by decide)
      have hr1 : stO (ovK K) (waK K (K 42) (hdK K)) (bkK K) n 1 (sO od i) ≤ 1100320 := stO_r hO hM0 hn8 (by decide)
      have hal := alK_r hO hn8 hok i hi
      refine r_iload (pc := 43) 0 dX1_goBy_43 rfl ?_
      refine r_aload_n (pc := 45) 5 dX1_goBy_45 rfl rfl ?_
      refine r_getIv (pc := 46) (x := ((n : Nat) : Int)) dX1_goBy_46 fl_X1_38 rfl hB.k ((congrFun (hF1 b (by omega)) _).trans (hK.n.trans hn)) ?_
      refine r_icmp_ge (pc := 49) (tgt := 202) dX1_goBy_49 (by decide) (by omega) (by omega) (fun c_49 => ?_) (fun c_49 => ?_)
      · have hin : i = n := by omega
        have hGc : ∀ c, c < n → f1 163 c = gcK K n od c := fun c hc => by
          obtain ⟨j, hj, rfl⟩ := okO_sur hok hc
          rw [gcK_at hok hj]; exact hR1 j (by omega)
        have hs0n : stO (ovK K) (waK K (K 42) (hdK K)) (bkK K) n 0 (sO od i) = bkK K 0 + swN (ovK K) (waK K (K 42) (hdK K)) 0 n := by rw [hin]; exact hst0
        have hs1n : stO (ovK K) (waK K (K 42) (hdK K)) (bkK K) n 1 (sO od i) = bkK K 1 + swN (ovK K) (waK K (K 42) (hdK K)) 1 n := by rw [hin]; exact hst1
        refine r_iload (pc := 202) 1 dX1_goBy_202 rfl ?_
        refine r_if_eq (pc := 204) (tgt := 227) dX1_goBy_204 (by decide) (b01_r) (fun c_204 => ?_) (fun c_204 => ?_)
        · replace c_204 := b01_z c_204
          refine r_iconst (pc := 227) dX1_goBy_227 ?_
          exact r_iret (pc := 228) dX1_goBy_228 rfl rfl ⟨rfl, fun q h1 h2 h3 => hF1 q h3, hGc, Or.inr ⟨fun h => c_204 (by rw [hin]; exact (ftB_iff hok).mpr ⟨h.1, h.2.1⟩), rfl, hF1 (b + 1) (by omega), hF1 (b + 2) (by omega)⟩⟩
        · replace c_204 := b01_nz c_204
          refine r_iload (pc := 207) 4 dX1_goBy_207 rfl ?_
          refine r_getsN (pc := 209) (j := 2) dX1_goBy_209 (by decide) sl_X1_61 ?_
          refine r_iconst (pc := 212) dX1_goBy_212 ?_
          refine r_ialdS (pc := 213) dX1_goBy_213 (by decide) (by decide) ?_
          refine r_eqI (y := 999999) (by decide) ?_
          refine r_icmp_gt (pc := 214) (tgt := 227) dX1_goBy_214 (by decide) (by omega) (by omega) (fun c_214 => ?_) (fun c_214 => ?_)
          · refine r_iconst (pc := 227) dX1_goBy_227 ?_
            exact r_iret (pc := 228) dX1_goBy_228 rfl rfl ⟨rfl, fun q h1 h2 h3 => hF1 q h3, hGc, Or.inr ⟨fun h => by have := h.2.2.1; omega, rfl, hF1 (b + 1) (by omega), hF1 (b + 2) (by omega)⟩⟩
          · refine r_iload (pc := 217) 3 dX1_goBy_217 rfl ?_
            refine r_getsN (pc := 219) (j := 2) dX1_goBy_219 (by decide) sl_X1_61 ?_
            refine r_iconst (pc := 222) dX1_goBy_222 ?_
            refine r_ialdS (pc := 223) dX1_goBy_223 (by decide) (by decide) ?_
            refine r_eqI (y := 999999) (by decide) ?_
            refine r_icmp_le (pc := 224) (tgt := 229) dX1_goBy_224 (by decide) (by omega) (by omega) (fun c_224 => ?_) (fun c_224 => ?_)
            · refine r_iconst (pc := 229) dX1_goBy_229 ?_
              refine r_istore (pc := 230) (L2 := [(8, (.int (iI (0)))), (7, (.int (iI (b01 (ftB K n od i = true))))), (6, (.int (iI (alK K n od i)))), (5, (.int (iI (((stO (ovK K) (waK K (K 42) (hdK K)) (bkK K) n 1 (sO od i) : Nat) : Int))))), (4, (.int (iI (((stO (ovK K) (waK K (K 42) (hdK K)) (bkK K) n 0 (sO od i) : Nat) : Int))))), (0, (.ref b)), (1, (.ref y)), (2, (.ref 3)), (3, (.ref 163))]) dX1_goBy_230 (by decide) rfl ?_
              have hfb : ftB K n od n = true := by have := c_204; rw [hin] at this; exact this
              have hfit : fitP K n od := ⟨((ftB_iff hok).mp hfb).1, ((ftB_iff hok).mp hfb).2, by omega, by omega⟩
              refine r_sub (L2 := [(8, (.int (iI (((0 : Nat) : Int))))), (6, (.int (iI (alK K n od n)))), (5, (.int (iI (((stO (ovK K) (waK K (K 42) (hdK K)) (bkK K) n 1 (sO od n) : Nat) : Int))))), (4, (.int (iI (((stO (ovK K) (waK K (K 42) (hdK K)) (bkK K) n 0 (sO od n) : Nat) : Int))))), (0, (.ref b)), (1, (.ref y)), (2, (.ref 3)), (3, (.ref 163))]) [0, 2, 3, 4, 5, 6, 7, 8] (by rw [hin]; rfl) ?_
              exact loop2 hfit f1 hF1 hGc n 0 (by omega) (by omega) f1 (fun _ _ => rfl) (fun w c' hw hc' => by rw [if_neg (by omega), if_neg (by omega), hF1 (b + 1) (by omega)]; exact hK.tr hw hc')
            · refine r_iconst (pc := 227) dX1_goBy_227 ?_
              exact r_iret (pc := 228) dX1_goBy_228 rfl rfl ⟨rfl, fun q h1 h2 h3 => hF1 q h3, hGc, Or.inr ⟨fun h => by have := h.2.2.2; omega, rfl, hF1 (b + 1) (by omega), hF1 (b + 2) (by omega)⟩⟩
      · have hod := hok i (by omega)
        have hov := ovK_r (c := od i) hO (by omega)
        have hw40 := waK_r (day := K 42) (hd := hdK K) hO (show od i < 8 by omega)
        have hgr := gsK_r (od := od) hO hn8 i hod.1
        have hcf := hO.f (c := od i) (by omega)
        refine r_aload_n (pc := 52) 7 dX1_goBy_52 rfl rfl ?_
        refine r_iload (pc := 53) 0 dX1_goBy_53 rfl ?_
        refine r_ialdS (pc := 55) dX1_goBy_55 (by decide) (by have h8 : ((sct 3).length : Int) = 8 := rfl; omega) ?_
        refine r_eqI (y := ((od i : Nat) : Int)) (by rw [show (((i : Nat) : Int)).toNat = i by omega]; exact ho i (by omega)) ?_
        refine r_istore (pc := 56) (L2 := [(9, (.int (iI (((od i : Nat) : Int))))), (8, (.int (iI (((i : Nat) : Int))))), (7, (.int (iI (b01 (ftB K n od i = true))))), (6, (.int (iI (alK K n od i)))), (5, (.int (iI (((stO (ovK K) (waK K (K 42) (hdK K)) (bkK K) n 1 (sO od i) : Nat) : Int))))), (4, (.int (iI (((stO (ovK K) (waK K (K 42) (hdK K)) (bkK K) n 0 (sO od i) : Nat) : Int))))), (0, (.ref b)), (1, (.ref y)), (2, (.ref 3)), (3, (.ref 163))]) dX1_goBy_56 (by decide) rfl ?_
        refine r_aload_n (pc := 58) 7 dX1_goBy_58 rfl rfl ?_
        refine r_getR (pc := 59) (b := (y + 4)) dX1_goBy_59 fl_X1_64 rfl hY.k hY.r1 ?_
        refine r_iload (pc := 62) 0 dX1_goBy_62 rfl ?_
        refine r_ialdv (pc := 64) (w := (((waK K (K 42) (hdK K)) (od i) : Nat) : Int)) dX1_goBy_64 hY.a1 (by omega) (by decide) ((congrFun (hF1 (y + 4) (by omega)) _).trans (hA4 _ (by omega)).1) ?_
        refine r_istore (pc := 65) (L2 := [(10, (.int (iI ((((waK K (K 42) (hdK K)) (od i) : Nat) : Int))))), (9, (.int (iI (((od i : Nat) : Int))))), (8, (.int (iI (((i : Nat) : Int))))), (7, (.int (iI (b01 (ftB K n od i = true))))), (6, (.int (iI (alK K n od i)))), (5, (.int (iI (((stO (ovK K) (waK K (K 42) (hdK K)) (bkK K) n 1 (sO od i) : Nat) : Int))))), (4, (.int (iI (((stO (ovK K) (waK K (K 42) (hdK K)) (bkK K) n 0 (sO od i) : Nat) : Int))))), (0, (.ref b)), (1, (.ref y)), (2, (.ref 3)), (3, (.ref 163))]) dX1_goBy_65 (by decide) rfl ?_
        refine r_aload_n (pc := 67) 7 dX1_goBy_67 rfl rfl ?_
        refine r_iload (pc := 68) 1 dX1_goBy_68 rfl ?_
        refine r_callV (pc := 70) (As := [(.int (iI (((od i : Nat) : Int))))]) (S := []) dX1_goBy_70 cv_X1_69 hB.k rfl (Nat.le_of_ble_eq_true rfl) (c_ovenOf (c := ((od i : Nat) : Int)) l z _ _ hB (by omega)) (Nat.zero_le _) (Nat.zero_le _) (fun r_70 g_70 f_70 q_70 => ?_)
        obtain ⟨rfl, rfl, rfl⟩ := q_70
        refine r_eqI (y := ((ovK K (od i) : Nat) : Int)) (by rw [show (2 * 8 + ((od i : Nat) : Int)).toNat = 8 * 2 + od i by omega, hF1 (b + 1) (by omega)]; exact (hK.tr (w := 2) (by decide) (by omega)).trans hov.1) ?_
        refine r_if_ne (pc := 73) (tgt := 80) dX1_goBy_73 (by decide) (by omega) (fun c_73 => ?_) (fun c_73 => ?_)
        · refine r_iconst (pc := 80) dX1_goBy_80 ?_
          refine r_istore (pc := 81) (L2 := [(11, (.int (iI (0)))), (10, (.int (iI ((((waK K (K 42) (hdK K)) (od i) : Nat) : Int))))), (9, (.int (iI (((od i : Nat) : Int))))), (8, (.int (iI (((i : Nat) : Int))))), (7, (.int (iI (b01 (ftB K n od i = true))))), (6, (.int (iI (alK K n od i)))), (5, (.int (iI (((stO (ovK K) (waK K (K 42) (hdK K)) (bkK K) n 1 (sO od i) : Nat) : Int))))), (4, (.int (iI (((stO (ovK K) (waK K (K 42) (hdK K)) (bkK K) n 0 (sO od i) : Nat) : Int))))), (0, (.ref b)), (1, (.ref y)), (2, (.ref 3)), (3, (.ref 163))]) dX1_goBy_81 (by decide) rfl ?_
          refine r_aload_n (pc := 83) 8 dX1_goBy_83 rfl rfl ?_
          refine r_iload (pc := 84) 0 dX1_goBy_84 rfl ?_
          refine r_if_eq (pc := 86) (tgt := 94) dX1_goBy_86 (by decide) (by omega) (fun c_86 => ?_) (fun c_86 => ?_)
          · refine r_iload (pc := 94) 6 dX1_goBy_94 rfl ?_
            refine r_iload (pc := 96) 1 dX1_goBy_96 rfl ?_
            refine r_callV (pc := 98) (As := [(.int (iI (((stO (ovK K) (waK K (K 42) (hdK K)) (bkK K) n 1 (sO od i) : Nat) : Int)))), (.int (iI ((((waK K (K 42) (hdK K)) (od i) : Nat) : Int))))]) (S := []) dX1_goBy_98 cv_X1_72 hB.k rfl (Nat.le_of_ble_eq_true rfl) (c_blessedBetween (dz := K 40) (lp := K 41) (n := ((stO (ovK K) (waK K (K 42) (hdK K)) (bkK K) n 1 (sO od i) : Nat) : Int)) (m := (((waK K (K 42) (hdK K)) (od i) : Nat) : Int)) l z _ hB (by rw [hF1 (b + 2) (by omega)]; exact hK.te (t := 0) (by decide)) (by rw [hF1 (b + 2) (by omega)]; exact hK.te (t := 1) (by decide)) hO.dz hO.lp (by omega) (by omega)) (Nat.zero_le _) (Nat.zero_le _) (fun r_98 g_98 f_98 q_98 => ?_)
            obtain ⟨rfl, rfl, rfl⟩ := q_98
            refine r_eqI (y := gsK K n od i) (by unfold gsK geV; rw [stV_O, show ovK K (od i) = 1 by omega]) ?_
            refine r_istore (pc := 101) (L2 := [(12, (.int (iI (gsK K n od i)))), (11, (.int (iI (0)))), (10, (.int (iI ((((waK K (K 42) (hdK K)) (od i) : Nat) : Int))))), (9, (.int (iI (((od i : Nat) : Int))))), (8, (.int (iI (((i : Nat) : Int))))), (7, (.int (iI (b01 (ftB K n od i = true))))), (6, (.int (iI (alK K n od i)))), (5, (.int (iI (((stO (ovK K) (waK K (K 42) (hdK K)) (bkK K) n 1 (sO od i) : Nat) : Int))))), (4, (.int (iI (((stO (ovK K) (waK K (K 42) (hdK K)) (bkK K) n 0 (sO od i) : Nat) : Int))))), (0, (.ref b)), (1, (.ref y)), (2, (.ref 3)), (3, (.ref 163))]) dX1_goBy_101 (by decide) rfl ?_
            refine r_iload (pc := 103) 8 dX1_goBy_103 rfl ?_
            refine r_iload (pc := 105) 1 dX1_goBy_105 rfl ?_
            refine r_if_eq (pc := 107) (tgt := 115) dX1_goBy_107 (by decide) (by omega) (fun c_107 => ?_) (fun c_107 => ?_)
            · refine r_iconst (pc := 115) dX1_goBy_115 ?_
              refine r_iadd (pc := 116) dX1_goBy_116 ?_
              refine r_eqI (y := ((stO (ovK K) (waK K (K 42) (hdK K)) (bkK K) n 0 (sO od (i + 1)) : Nat) : Int)) (by have e := stO_s (ov := ovK K) (wa := (waK K (K 42) (hdK K))) (bk := bkK K) (o := 0) hod.1 hod.2; rw [if_neg (by omega)] at e; rw [sO_s]; omega) ?_
              refine r_istore (pc := 117) (L2 := [(4, (.int (iI (((stO (ovK K) (waK K (K 42) (hdK K)) (bkK K) n 0 (sO od (i + 1)) : Nat) : Int))))), (12, (.int (iI (gsK K n od i)))), (11, (.int (iI (0)))), (10, (.int (iI ((((waK K (K 42) (hdK K)) (od i) : Nat) : Int))))), (9, (.int (iI (((od i : Nat) : Int))))), (8, (.int (iI (((i : Nat) : Int))))), (7, (.int (iI (b01 (ftB K n od i = true))))), (6, (.int (iI (alK K n od i)))), (5, (.int (iI (((stO (ovK K) (waK K (K 42) (hdK K)) (bkK K) n 1 (sO od i) : Nat) : Int))))), (0, (.ref b)), (1, (.ref y)), (2, (.ref 3)), (3, (.ref 163))]) dX1_goBy_117 (by decide) rfl ?_
              refine r_iload (pc := 119) 8 dX1_goBy_119 rfl ?_
              refine r_iload (pc := 121) 2 dX1_goBy_121 rfl ?_
              refine r_if_eq (pc := 123) (tgt := 130) dX1_goBy_123 (by decide) (by omega) (fun c_123 => ?_) (fun c_123 => ?_)
              · refine r_iload (pc := 130) 3 dX1_goBy_130 rfl ?_
                refine r_iadd (pc := 132) dX1_goBy_132 ?_
                refine r_eqI (y := ((stO (ovK K) (waK K (K 42) (hdK K)) (bkK K) n 1 (sO od (i + 1)) : Nat) : Int)) (by have e := stO_s (ov := ovK K) (wa := (waK K (K 42) (hdK K))) (bk := bkK K) (o := 1) hod.1 hod.2; rw [if_pos (by omega)] at e; rw [sO_s]; omega) ?_
                refine r_istore (pc := 133) (L2 := [(5, (.int (iI (((stO (ovK K) (waK K (K 42) (hdK K)) (bkK K) n 1 (sO od (i + 1)) : Nat) : Int))))), (4, (.int (iI (((stO (ovK K) (waK K (K 42) (hdK K)) (bkK K) n 0 (sO od (i + 1)) : Nat) : Int))))), (12, (.int (iI (gsK K n od i)))), (11, (.int (iI (0)))), (10, (.int (iI ((((waK K (K 42) (hdK K)) (od i) : Nat) : Int))))), (9, (.int (iI (((od i : Nat) : Int))))), (8, (.int (iI (((i : Nat) : Int))))), (7, (.int (iI (b01 (ftB K n od i = true))))), (6, (.int (iI (alK K n od i)))), (0, (.ref b)), (1, (.ref y)), (2, (.ref 3)), (3, (.ref 163))]) dX1_goBy_133 (by decide) rfl ?_
                refine r_aload_n (pc := 135) 12 dX1_goBy_135 rfl rfl ?_
                refine r_iload (pc := 136) 5 dX1_goBy_136 rfl ?_
                refine r_iload (pc := 138) 2 dX1_goBy_138 rfl ?_
                refine r_iastv (pc := 140) (i := od i) dX1_goBy_140 hG (by omega) (by decide) rfl ?_
                refine r_iload (pc := 141) 8 dX1_goBy_141 rfl ?_
                refine r_iload (pc := 143) 2 dX1_goBy_143 rfl ?_
                refine r_iadd (pc := 145) dX1_goBy_145 ?_
                refine r_eqI (y := alK K n od (i + 1)) (rfl) ?_
                refine r_istore (pc := 146) (L2 := [(6, (.int (iI (alK K n od (i + 1))))), (5, (.int (iI (((stO (ovK K) (waK K (K 42) (hdK K)) (bkK K) n 1 (sO od (i + 1)) : Nat) : Int))))), (4, (.int (iI (((stO (ovK K) (waK K (K 42) (hdK K)) (bkK K) n 0 (sO od (i + 1)) : Nat) : Int))))), (12, (.int (iI (gsK K n od i)))), (11, (.int (iI (0)))), (10, (.int (iI ((((waK K (K 42) (hdK K)) (od i) : Nat) : Int))))), (9, (.int (iI (((od i : Nat) : Int))))), (8, (.int (iI (((i : Nat) : Int))))), (7, (.int (iI (b01 (ftB K n od i = true))))), (0, (.ref b)), (1, (.ref y)), (2, (.ref 3)), (3, (.ref 163))]) dX1_goBy_146 (by decide) rfl ?_
                refine r_iload (pc := 148) 8 dX1_goBy_148 rfl ?_
                refine r_if_eq (pc := 150) (tgt := 193) dX1_goBy_150 (by decide) (b01_r) (fun c_150 => ?_) (fun c_150 => ?_)
                · replace c_150 := b01_z c_150
                  refine r_iconst (pc := 193) dX1_goBy_193 ?_
                  refine r_istore (pc := 194) (L2 := [(7, (.int (iI (0)))), (6, (.int (iI (alK K n od (i + 1))))), (5, (.int (iI (((stO (ovK K) (waK K (K 42) (hdK K)) (bkK K) n 1 (sO od (i + 1)) : Nat) : Int))))), (4, (.int (iI (((stO (ovK K) (waK K (K 42) (hdK K)) (bkK K) n 0 (sO od (i + 1)) : Nat) : Int))))), (12, (.int (iI (gsK K n od i)))), (11, (.int (iI (0)))), (10, (.int (iI ((((waK K (K 42) (hdK K)) (od i) : Nat) : Int))))), (9, (.int (iI (((od i : Nat) : Int))))), (8, (.int (iI (((i : Nat) : Int))))), (0, (.ref b)), (1, (.ref y)), (2, (.ref 3)), (3, (.ref 163))]) dX1_goBy_194 (by decide) rfl ?_
                  refine r_iincv (pc := 196) (y := ((i + 1 : Nat) : Int)) (L2 := [(8, (.int (iI (((i + 1 : Nat) : Int))))), (7, (.int (iI (0)))), (6, (.int (iI (alK K n od (i + 1))))), (5, (.int (iI (((stO (ovK K) (waK K (K 42) (hdK K)) (bkK K) n 1 (sO od (i + 1)) : Nat) : Int))))), (4, (.int (iI (((stO (ovK K) (waK K (K 42) (hdK K)) (bkK K) n 0 (sO od (i + 1)) : Nat) : Int))))), (12, (.int (iI (gsK K n od i)))), (11, (.int (iI (0)))), (10, (.int (iI ((((waK K (K 42) (hdK K)) (od i) : Nat) : Int))))), (9, (.int (iI (((od i : Nat) : Int))))), (0, (.ref b)), (1, (.ref y)), (2, (.ref 3)), (3, (.ref 163))]) 8 dX1_goBy_196 rfl (by omega) (by decide) rfl ?_
                  refine r_goto (pc := 199) (tgt := 43) dX1_goBy_199 (by decide) ?_
                  refine r_sub (L2 := [(8, (.int (iI (((i + 1 : Nat) : Int))))), (7, (.int (iI (b01 (ftB K n od (i + 1) = true))))), (6, (.int (iI (alK K n od (i + 1))))), (5, (.int (iI (((stO (ovK K) (waK K (K 42) (hdK K)) (bkK K) n 1 (sO od (i + 1)) : Nat) : Int))))), (4, (.int (iI (((stO (ovK K) (waK K (K 42) (hdK K)) (bkK K) n 0 (sO od (i + 1)) : Nat) : Int))))), (0, (.ref b)), (1, (.ref y)), (2, (.ref 3)), (3, (.ref 163))]) [0, 1, 2, 3, 4, 9, 10, 11, 12] (by rw [b01_f (ftB_n (fun h => c_150 h.1))]; rfl) ?_
                  exact ih (n - (i + 1)) (by omega) (i + 1) (by omega) (by omega) _ (fun q hq => by rw [stF_n _ _ _ hq]; exact hF1 q hq) (fun j hj => by
                    rcases Nat.lt_succ_iff_lt_or_eq.mp hj with h | h
                    · rw [stF_i _ _ _ (okO_ne hok (by omega) h)]; exact hR1 j h
                    · subst h; exact stF_s _ _ _ _)
                · replace c_150 := b01_nz c_150
                  refine r_aload_n (pc := 153) 9 dX1_goBy_153 rfl rfl ?_
                  refine r_iconst (pc := 154) dX1_goBy_154 ?_
                  refine r_iload (pc := 155) 6 dX1_goBy_155 rfl ?_
                  refine r_callV (pc := 157) (As := [(.int (iI (3))), (.int (iI (((od i : Nat) : Int))))]) (S := []) dX1_goBy_157 cv_X1_41 hB.k rfl (Nat.le_of_ble_eq_true rfl) (c_trait (w := 3) (c := ((od i : Nat) : Int)) l z _ _ hB (by omega) (by omega)) (Nat.zero_le _) (Nat.zero_le _) (fun r_157 g_157 f_157 q_157 => ?_)
                  obtain ⟨rfl, rfl, rfl⟩ := q_157
                  refine r_eqI (y := K (5 * od i + 3)) (by rw [stF_n _ _ _ (by omega), hF1 (b + 1) (by omega), show (3 * 8 + ((od i : Nat) : Int)).toNat = 8 * 3 + od i by omega]; exact hK.tr (by decide) (by omega)) ?_
                  refine r_iload (pc := 160) 3 dX1_goBy_160 rfl ?_
                  refine r_iadd (pc := 162) dX1_goBy_162 ?_
                  refine r_getsN (pc := 163) (j := 0) dX1_goBy_163 (by decide) sl_X1_75 ?_
                  refine r_iconst (pc := 166) dX1_goBy_166 ?_
                  refine r_ialdS (pc := 167) dX1_goBy_167 (by decide) (by decide) ?_
                  refine r_eqI (y := 9999) (by decide) ?_
                  refine r_icmp_gt (pc := 168) (tgt := 193) dX1_goBy_168 (by decide) (by omega) (by omega) (fun c_168 => ?_) (fun c_168 => ?_)
                  · refine r_iconst (pc := 193) dX1_goBy_193 ?_
                    refine r_istore (pc := 194) (L2 := [(7, (.int (iI (0)))), (6, (.int (iI (alK K n od (i + 1))))), (5, (.int (iI (((stO (ovK K) (waK K (K 42) (hdK K)) (bkK K) n 1 (sO od (i + 1)) : Nat) : Int))))), (4, (.int (iI (((stO (ovK K) (waK K (K 42) (hdK K)) (bkK K) n 0 (sO od (i + 1)) : Nat) : Int))))), (12, (.int (iI (gsK K n od i)))), (11, (.int (iI (0)))), (10, (.int (iI ((((waK K (K 42) (hdK K)) (od i) : Nat) : Int))))), (9, (.int (iI (((od i : Nat) : Int))))), (8, (.int (iI (((i : Nat) : Int))))), (0, (.ref b)), (1, (.ref y)), (2, (.ref 3)), (3, (.ref 163))]) dX1_goBy_194 (by decide) rfl ?_
                    refine r_iincv (pc := 196) (y := ((i + 1 : Nat) : Int)) (L2 := [(8, (.int (iI (((i + 1 : Nat) : Int))))), (7, (.int (iI (0)))), (6, (.int (iI (alK K n od (i + 1))))), (5, (.int (iI (((stO (ovK K) (waK K (K 42) (hdK K)) (bkK K) n 1 (sO od (i + 1)) : Nat) : Int))))), (4, (.int (iI (((stO (ovK K) (waK K (K 42) (hdK K)) (bkK K) n 0 (sO od (i + 1)) : Nat) : Int))))), (12, (.int (iI (gsK K n od i)))), (11, (.int (iI (0)))), (10, (.int (iI ((((waK K (K 42) (hdK K)) (od i) : Nat) : Int))))), (9, (.int (iI (((od i : Nat) : Int))))), (0, (.ref b)), (1, (.ref y)), (2, (.ref 3)), (3, (.ref 163))]) 8 dX1_goBy_196 rfl (by omega) (by decide) rfl ?_
                    refine r_goto (pc := 199) (tgt := 43) dX1_goBy_199 (by decide) ?_
                    refine r_sub (L2 := [(8, (.int (iI (((i + 1 : Nat) : Int))))), (7, (.int (iI (b01 (ftB K n od (i + 1) = true))))), (6, (.int (iI (alK K n od (i + 1))))), (5, (.int (iI (((stO (ovK K) (waK K (K 42) (hdK K)) (bkK K) n 1 (sO od (i + 1)) : Nat) : Int))))), (4, (.int (iI (((stO (ovK K) (waK K (K 42) (hdK K)) (bkK K) n 0 (sO od (i + 1)) : Nat) : Int))))), (0, (.ref b)), (1, (.ref y)), (2, (.ref 3)), (3, (.ref 163))]) [0, 1, 2, 3, 4, 9, 10, 11, 12] (by rw [b01_f (ftB_n (fun h => by obtain ⟨_, h1, h2⟩ := h; omega))]; rfl) ?_
                    exact ih (n - (i + 1)) (by omega) (i + 1) (by omega) (by omega) _ (fun q hq => by rw [stF_n _ _ _ hq]; exact hF1 q hq) (fun j hj => by
                      rcases Nat.lt_succ_iff_lt_or_eq.mp hj with h | h
                      · rw [stF_i _ _ _ (okO_ne hok (by omega) h)]; exact hR1 j h
                      · subst h; exact stF_s _ _ _ _)
                  · refine r_aload_n (pc := 171) 9 dX1_goBy_171 rfl rfl ?_
                    refine r_iconst (pc := 172) dX1_goBy_172 ?_
                    refine r_iload (pc := 173) 6 dX1_goBy_173 rfl ?_
                    refine r_callV (pc := 175) (As := [(.int (iI (4))), (.int (iI (((od i : Nat) : Int))))]) (S := []) dX1_goBy_175 cv_X1_41 hB.k rfl (Nat.le_of_ble_eq_true rfl) (c_trait (w := 4) (c := ((od i : Nat) : Int)) l z _ _ hB (by omega) (by omega)) (Nat.zero_le _) (Nat.zero_le _) (fun r_175 g_175 f_175 q_175 => ?_)
                    obtain ⟨rfl, rfl, rfl⟩ := q_175
                    refine r_eqI (y := K (5 * od i + 4)) (by rw [stF_n _ _ _ (by omega), hF1 (b + 1) (by omega), show (4 * 8 + ((od i : Nat) : Int)).toNat = 8 * 4 + od i by omega]; exact hK.tr (by decide) (by omega)) ?_
                    refine r_iload (pc := 178) 5 dX1_goBy_178 rfl ?_
                    refine r_iadd (pc := 180) dX1_goBy_180 ?_
                    refine r_getsN (pc := 181) (j := 0) dX1_goBy_181 (by decide) sl_X1_75 ?_
                    refine r_iconst (pc := 184) dX1_goBy_184 ?_
                    refine r_ialdS (pc := 185) dX1_goBy_185 (by decide) (by decide) ?_
                    refine r_eqI (y := 999999) (by decide) ?_
                    refine r_icmp_gt (pc := 186) (tgt := 193) dX1_goBy_186 (by decide) (by omega) (by omega) (fun c_186 => ?_) (fun c_186 => ?_)
                    · refine r_iconst (pc := 193) dX1_goBy_193 ?_
                      refine r_istore (pc := 194) (L2 := [(7, (.int (iI (0)))), (6, (.int (iI (alK K n od (i + 1))))), (5, (.int (iI (((stO (ovK K) (waK K (K 42) (hdK K)) (bkK K) n 1 (sO od (i + 1)) : Nat) : Int))))), (4, (.int (iI (((stO (ovK K) (waK K (K 42) (hdK K)) (bkK K) n 0 (sO od (i + 1)) : Nat) : Int))))), (12, (.int (iI (gsK K n od i)))), (11, (.int (iI (0)))), (10, (.int (iI ((((waK K (K 42) (hdK K)) (od i) : Nat) : Int))))), (9, (.int (iI (((od i : Nat) : Int))))), (8, (.int (iI (((i : Nat) : Int))))), (0, (.ref b)), (1, (.ref y)), (2, (.ref 3)), (3, (.ref 163))]) dX1_goBy_194 (by decide) rfl ?_
                      refine r_iincv (pc := 196) (y := ((i + 1 : Nat) : Int)) (L2 := [(8, (.int (iI (((i + 1 : Nat) : Int))))), (7, (.int (iI (0)))), (6, (.int (iI (alK K n od (i + 1))))), (5, (.int (iI (((stO (ovK K) (waK K (K 42) (hdK K)) (bkK K) n 1 (sO od (i + 1)) : Nat) : Int))))), (4, (.int (iI (((stO (ovK K) (waK K (K 42) (hdK K)) (bkK K) n 0 (sO od (i + 1)) : Nat) : Int))))), (12, (.int (iI (gsK K n od i)))), (11, (.int (iI (0)))), (10, (.int (iI ((((waK K (K 42) (hdK K)) (od i) : Nat) : Int))))), (9, (.int (iI (((od i : Nat) : Int))))), (0, (.ref b)), (1, (.ref y)), (2, (.ref 3)), (3, (.ref 163))]) 8 dX1_goBy_196 rfl (by omega) (by decide) rfl ?_
                      refine r_goto (pc := 199) (tgt := 43) dX1_goBy_199 (by decide) ?_
                      refine r_sub (L2 := [(8, (.int (iI (((i + 1 : Nat) : Int))))), (7, (.int (iI (b01 (ftB K n od (i + 1) = true))))), (6, (.int (iI (alK K n od (i + 1))))), (5, (.int (iI (((stO (ovK K) (waK K (K 42) (hdK K)) (bkK K) n 1 (sO od (i + 1)) : Nat) : Int))))), (4, (.int (iI (((stO (ovK K) (waK K (K 42) (hdK K)) (bkK K) n 0 (sO od (i + 1)) : Nat) : Int))))), (0, (.ref b)), (1, (.ref y)), (2, (.ref 3)), (3, (.ref 163))]) [0, 1, 2, 3, 4, 9, 10, 11, 12] (by rw [b01_f (ftB_n (fun h => by obtain ⟨_, h1, h2⟩ := h; omega))]; rfl) ?_
                      exact ih (n - (i + 1)) (by omega) (i + 1) (by omega) (by omega) _ (fun q hq => by rw [stF_n _ _ _ hq]; exact hF1 q hq) (fun j hj => by
                        rcases Nat.lt_succ_iff_lt_or_eq.mp hj with h | h
                        · rw [stF_i _ _ _ (okO_ne hok (by omega) h)]; exact hR1 j h
                        · subst h; exact stF_s _ _ _ _)
                    · refine r_iconst (pc := 189) dX1_goBy_189 ?_
                      refine r_goto (pc := 190) (tgt := 194) dX1_goBy_190 (by decide) ?_
                      refine r_istore (pc := 194) (L2 := [(7, (.int (iI (1)))), (6, (.int (iI (alK K n od (i + 1))))), (5, (.int (iI (((stO (ovK K) (waK K (K 42) (hdK K)) (bkK K) n 1 (sO od (i + 1)) : Nat) : Int))))), (4, (.int (iI (((stO (ovK K) (waK K (K 42) (hdK K)) (bkK K) n 0 (sO od (i + 1)) : Nat) : Int))))), (12, (.int (iI (gsK K n od i)))), (11, (.int (iI (0)))), (10, (.int (iI ((((waK K (K 42) (hdK K)) (od i) : Nat) : Int))))), (9, (.int (iI (((od i : Nat) : Int))))), (8, (.int (iI (((i : Nat) : Int))))), (0, (.ref b)), (1, (.ref y)), (2, (.ref 3)), (3, (.ref 163))]) dX1_goBy_194 (by decide) rfl ?_
                      refine r_iincv (pc := 196) (y := ((i + 1 : Nat) : Int)) (L2 := [(8, (.int (iI (((i + 1 : Nat) : Int))))), (7, (.int (iI (1)))), (6, (.int (iI (alK K n od (i + 1))))), (5, (.int (iI (((stO (ovK K) (waK K (K 42) (hdK K)) (bkK K) n 1 (sO od (i + 1)) : Nat) : Int))))), (4, (.int (iI (((stO (ovK K) (waK K (K 42) (hdK K)) (bkK K) n 0 (sO od (i + 1)) : Nat) : Int))))), (12, (.int (iI (gsK K n od i)))), (11, (.int (iI (0)))), (10, (.int (iI ((((waK K (K 42) (hdK K)) (od i) : Nat) : Int))))), (9, (.int (iI (((od i : Nat) : Int))))), (0, (.ref b)), (1, (.ref y)), (2, (.ref 3)), (3, (.ref 163))]) 8 dX1_goBy_196 rfl (by omega) (by decide) rfl ?_
                      refine r_goto (pc := 199) (tgt := 43) dX1_goBy_199 (by decide) ?_
                      refine r_sub (L2 := [(8, (.int (iI (((i + 1 : Nat) : Int))))), (7, (.int (iI (b01 (ftB K n od (i + 1) = true))))), (6, (.int (iI (alK K n od (i + 1))))), (5, (.int (iI (((stO (ovK K) (waK K (K 42) (hdK K)) (bkK K) n 1 (sO od (i + 1)) : Nat) : Int))))), (4, (.int (iI (((stO (ovK K) (waK K (K 42) (hdK K)) (bkK K) n 0 (sO od (i + 1)) : Nat) : Int))))), (0, (.ref b)), (1, (.ref y)), (2, (.ref 3)), (3, (.ref 163))]) [0, 1, 2, 3, 4, 9, 10, 11, 12] (by rw [b01_t (ftB_y c_150 (by omega) (by omega))]; rfl) ?_
                      exact ih (n - (i + 1)) (by omega) (i + 1) (by omega) (by omega) _ (fun q hq => by rw [stF_n _ _ _ hq]; exact hF1 q hq) (fun j hj => by
                        rcases Nat.lt_succ_iff_lt_or_eq.mp hj with h | h
                        · rw [stF_i _ _ _ (okO_ne hok (by omega) h)]; exact hR1 j h
                        · subst h; exact stF_s _ _ _ _)
              · exact absurd c_123 (by decide)
            · exact absurd c_107 (by decide)
          · exact absurd c_86 (by decide)
        · refine r_iconst (pc := 76) dX1_goBy_76 ?_
          refine r_goto (pc := 77) (tgt := 81) dX1_goBy_77 (by decide) ?_
          refine r_istore (pc := 81) (L2 := [(11, (.int (iI (1)))), (10, (.int (iI ((((waK K (K 42) (hdK K)) (od i) : Nat) : Int))))), (9, (.int (iI (((od i : Nat) : Int))))), (8, (.int (iI (((i : Nat) : Int))))), (7, (.int (iI (b01 (ftB K n od i = true))))), (6, (.int (iI (alK K n od i)))), (5, (.int (iI (((stO (ovK K) (waK K (K 42) (hdK K)) (bkK K) n 1 (sO od i) : Nat) : Int))))), (4, (.int (iI (((stO (ovK K) (waK K (K 42) (hdK K)) (bkK K) n 0 (sO od i) : Nat) : Int))))), (0, (.ref b)), (1, (.ref y)), (2, (.ref 3)), (3, (.ref 163))]) dX1_goBy_81 (by decide) rfl ?_
          refine r_aload_n (pc := 83) 8 dX1_goBy_83 rfl rfl ?_
          refine r_iload (pc := 84) 0 dX1_goBy_84 rfl ?_
          refine r_if_eq (pc := 86) (tgt := 94) dX1_goBy_86 (by decide) (by omega) (fun c_86 => ?_) (fun c_86 => ?_)
          · exact absurd c_86 (by decide)
          · refine r_iload (pc := 89) 7 dX1_goBy_89 rfl ?_
            refine r_goto (pc := 91) (tgt := 96) dX1_goBy_91 (by decide) ?_
            refine r_iload (pc := 96) 1 dX1_goBy_96 rfl ?_
            refine r_callV (pc := 98) (As := [(.int (iI (((stO (ovK K) (waK K (K 42) (hdK K)) (bkK K) n 0 (sO od i) : Nat) : Int)))), (.int (iI ((((waK K (K 42) (hdK K)) (od i) : Nat) : Int))))]) (S := []) dX1_goBy_98 cv_X1_72 hB.k rfl (Nat.le_of_ble_eq_true rfl) (c_blessedBetween (dz := K 40) (lp := K 41) (n := ((stO (ovK K) (waK K (K 42) (hdK K)) (bkK K) n 0 (sO od i) : Nat) : Int)) (m := (((waK K (K 42) (hdK K)) (od i) : Nat) : Int)) l z _ hB (by rw [hF1 (b + 2) (by omega)]; exact hK.te (t := 0) (by decide)) (by rw [hF1 (b + 2) (by omega)]; exact hK.te (t := 1) (by decide)) hO.dz hO.lp (by omega) (by omega)) (Nat.zero_le _) (Nat.zero_le _) (fun r_98 g_98 f_98 q_98 => ?_)
            obtain ⟨rfl, rfl, rfl⟩ := q_98
            refine r_eqI (y := gsK K n od i) (by unfold gsK geV; rw [stV_O, show ovK K (od i) = 0 by omega]) ?_
            refine r_istore (pc := 101) (L2 := [(12, (.int (iI (gsK K n od i)))), (11, (.int (iI (1)))), (10, (.int (iI ((((waK K (K 42) (hdK K)) (od i) : Nat) : Int))))), (9, (.int (iI (((od i : Nat) : Int))))), (8, (.int (iI (((i : Nat) : Int))))), (7, (.int (iI (b01 (ftB K n od i = true))))), (6, (.int (iI (alK K n od i)))), (5, (.int (iI (((stO (ovK K) (waK K (K 42) (hdK K)) (bkK K) n 1 (sO od i) : Nat) : Int))))), (4, (.int (iI (((stO (ovK K) (waK K (K 42) (hdK K)) (bkK K) n 0 (sO od i) : Nat) : Int))))), (0, (.ref b)), (1, (.ref y)), (2, (.ref 3)), (3, (.ref 163))]) dX1_goBy_101 (by decide) rfl ?_
            refine r_iload (pc := 103) 8 dX1_goBy_103 rfl ?_
            refine r_iload (pc := 105) 1 dX1_goBy_105 rfl ?_
            refine r_if_eq (pc := 107) (tgt := 115) dX1_goBy_107 (by decide) (by omega) (fun c_107 => ?_) (fun c_107 => ?_)
            · exact absurd c_107 (by decide)
            · refine r_iload (pc := 110) 2 dX1_goBy_110 rfl ?_
              refine r_goto (pc := 112) (tgt := 116) dX1_goBy_112 (by decide) ?_
              refine r_iadd (pc := 116) dX1_goBy_116 ?_
              refine r_eqI (y := ((stO (ovK K) (waK K (K 42) (hdK K)) (bkK K) n 0 (sO od (i + 1)) : Nat) : Int)) (by have e := stO_s (ov := ovK K) (wa := (waK K (K 42) (hdK K))) (bk := bkK K) (o := 0) hod.1 hod.2; rw [if_pos (by omega)] at e; rw [sO_s]; omega) ?_
              refine r_istore (pc := 117) (L2 := [(4, (.int (iI (((stO (ovK K) (waK K (K 42) (hdK K)) (bkK K) n 0 (sO od (i + 1)) : Nat) : Int))))), (12, (.int (iI (gsK K n od i)))), (11, (.int (iI (1)))), (10, (.int (iI ((((waK K (K 42) (hdK K)) (od i) : Nat) : Int))))), (9, (.int (iI (((od i : Nat) : Int))))), (8, (.int (iI (((i : Nat) : Int))))), (7, (.int (iI (b01 (ftB K n od i = true))))), (6, (.int (iI (alK K n od i)))), (5, (.int (iI (((stO (ovK K) (waK K (K 42) (hdK K)) (bkK K) n 1 (sO od i) : Nat) : Int))))), (0, (.ref b)), (1, (.ref y)), (2, (.ref 3)), (3, (.ref 163))]) dX1_goBy_117 (by decide) rfl ?_
              refine r_iload (pc := 119) 8 dX1_goBy_119 rfl ?_
              refine r_iload (pc := 121) 2 dX1_goBy_121 rfl ?_
              refine r_if_eq (pc := 123) (tgt := 130) dX1_goBy_123 (by decide) (by omega) (fun c_123 => ?_) (fun c_123 => ?_)
              · exact absurd c_123 (by decide)
              · refine r_iconst (pc := 126) dX1_goBy_126 ?_
                refine r_goto (pc := 127) (tgt := 132) dX1_goBy_127 (by decide) ?_
                refine r_iadd (pc := 132) dX1_goBy_132 ?_
                refine r_eqI (y := ((stO (ovK K) (waK K (K 42) (hdK K)) (bkK K) n 1 (sO od (i + 1)) : Nat) : Int)) (by have e := stO_s (ov := ovK K) (wa := (waK K (K 42) (hdK K))) (bk := bkK K) (o := 1) hod.1 hod.2; rw [if_neg (by omega)] at e; rw [sO_s]; omega) ?_
                refine r_istore (pc := 133) (L2 := [(5, (.int (iI (((stO (ovK K) (waK K (K 42) (hdK K)) (bkK K) n 1 (sO od (i + 1)) : Nat) : Int))))), (4, (.int (iI (((stO (ovK K) (waK K (K 42) (hdK K)) (bkK K) n 0 (sO od (i + 1)) : Nat) : Int))))), (12, (.int (iI (gsK K n od i)))), (11, (.int (iI (1)))), (10, (.int (iI ((((waK K (K 42) (hdK K)) (od i) : Nat) : Int))))), (9, (.int (iI (((od i : Nat) : Int))))), (8, (.int (iI (((i : Nat) : Int))))), (7, (.int (iI (b01 (ftB K n od i = true))))), (6, (.int (iI (alK K n od i)))), (0, (.ref b)), (1, (.ref y)), (2, (.ref 3)), (3, (.ref 163))]) dX1_goBy_133 (by decide) rfl ?_
                refine r_aload_n (pc := 135) 12 dX1_goBy_135 rfl rfl ?_
                refine r_iload (pc := 136) 5 dX1_goBy_136 rfl ?_
                refine r_iload (pc := 138) 2 dX1_goBy_138 rfl ?_
                refine r_iastv (pc := 140) (i := od i) dX1_goBy_140 hG (by omega) (by decide) rfl ?_
                refine r_iload (pc := 141) 8 dX1_goBy_141 rfl ?_
                refine r_iload (pc := 143) 2 dX1_goBy_143 rfl ?_
                refine r_iadd (pc := 145) dX1_goBy_145 ?_
                refine r_eqI (y := alK K n od (i + 1)) (rfl) ?_
                refine r_istore (pc := 146) (L2 := [(6, (.int (iI (alK K n od (i + 1))))), (5, (.int (iI (((stO (ovK K) (waK K (K 42) (hdK K)) (bkK K) n 1 (sO od (i + 1)) : Nat) : Int))))), (4, (.int (iI (((stO (ovK K) (waK K (K 42) (hdK K)) (bkK K) n 0 (sO od (i + 1)) : Nat) : Int))))), (12, (.int (iI (gsK K n od i)))), (11, (.int (iI (1)))), (10, (.int (iI ((((waK K (K 42) (hdK K)) (od i) : Nat) : Int))))), (9, (.int (iI (((od i : Nat) : Int))))), (8, (.int (iI (((i : Nat) : Int))))), (7, (.int (iI (b01 (ftB K n od i = true))))), (0, (.ref b)), (1, (.ref y)), (2, (.ref 3)), (3, (.ref 163))]) dX1_goBy_146 (by decide) rfl ?_
                refine r_iload (pc := 148) 8 dX1_goBy_148 rfl ?_
                refine r_if_eq (pc := 150) (tgt := 193) dX1_goBy_150 (by decide) (b01_r) (fun c_150 => ?_) (fun c_150 => ?_)
                · replace c_150 := b01_z c_150
                  refine r_iconst (pc := 193) dX1_goBy_193 ?_
                  refine r_istore (pc := 194) (L2 := [(7, (.int (iI (0)))), (6, (.int (iI (alK K n od (i + 1))))), (5, (.int (iI (((stO (ovK K) (waK K (K 42) (hdK K)) (bkK K) n 1 (sO od (i + 1)) : Nat) : Int))))), (4, (.int (iI (((stO (ovK K) (waK K (K 42) (hdK K)) (bkK K) n 0 (sO od (i + 1)) : Nat) : Int))))), (12, (.int (iI (gsK K n od i)))), (11, (.int (iI (1)))), (10, (.int (iI ((((waK K (K 42) (hdK K)) (od i) : Nat) : Int))))), (9, (.int (iI (((od i : Nat) : Int))))), (8, (.int (iI (((i : Nat) : Int))))), (0, (.ref b)), (1, (.ref y)), (2, (.ref 3)), (3, (.ref 163))]) dX1_goBy_194 (by decide) rfl ?_
                  refine r_iincv (pc := 196) (y := ((i + 1 : Nat) : Int)) (L2 := [(8, (.int (iI (((i + 1 : Nat) : Int))))), (7, (.int (iI (0)))), (6, (.int (iI (alK K n od (i + 1))))), (5, (.int (iI (((stO (ovK K) (waK K (K 42) (hdK K)) (bkK K) n 1 (sO od (i + 1)) : Nat) : Int))))), (4, (.int (iI (((stO (ovK K) (waK K (K 42) (hdK K)) (bkK K) n 0 (sO od (i + 1)) : Nat) : Int))))), (12, (.int (iI (gsK K n od i)))), (11, (.int (iI (1)))), (10, (.int (iI ((((waK K (K 42) (hdK K)) (od i) : Nat) : Int))))), (9, (.int (iI (((od i : Nat) : Int))))), (0, (.ref b)), (1, (.ref y)), (2, (.ref 3)), (3, (.ref 163))]) 8 dX1_goBy_196 rfl (by omega) (by decide) rfl ?_
                  refine r_goto (pc := 199) (tgt := 43) dX1_goBy_199 (by decide) ?_
                  refine r_sub (L2 := [(8, (.int (iI (((i + 1 : Nat) : Int))))), (7, (.int (iI (b01 (ftB K n od (i + 1) = true))))), (6, (.int (iI (alK K n od (i + 1))))), (5, (.int (iI (((stO (ovK K) (waK K (K 42) (hdK K)) (bkK K) n 1 (sO od (i + 1)) : Nat) : Int))))), (4, (.int (iI (((stO (ovK K) (waK K (K 42) (hdK K)) (bkK K) n 0 (sO od (i + 1)) : Nat) : Int))))), (0, (.ref b)), (1, (.ref y)), (2, (.ref 3)), (3, (.ref 163))]) [0, 1, 2, 3, 4, 9, 10, 11, 12] (by rw [b01_f (ftB_n (fun h => c_150 h.1))]; rfl) ?_
                  exact ih (n - (i + 1)) (by omega) (i + 1) (by omega) (by omega) _ (fun q hq => by rw [stF_n _ _ _ hq]; exact hF1 q hq) (fun j hj => by
                    rcases Nat.lt_succ_iff_lt_or_eq.mp hj with h | h
                    · rw [stF_i _ _ _ (okO_ne hok (by omega) h)]; exact hR1 j h
                    · subst h; exact stF_s _ _ _ _)
                · replace c_150 := b01_nz c_150
                  refine r_aload_n (pc := 153) 9 dX1_goBy_153 rfl rfl ?_
                  refine r_iconst (pc := 154) dX1_goBy_154 ?_
                  refine r_iload (pc := 155) 6 dX1_goBy_155 rfl ?_
                  refine r_callV (pc := 157) (As := [(.int (iI (3))), (.int (iI (((od i : Nat) : Int))))]) (S := []) dX1_goBy_157 cv_X1_41 hB.k rfl (Nat.le_of_ble_eq_true rfl) (c_trait (w := 3) (c := ((od i : Nat) : Int)) l z _ _ hB (by omega) (by omega)) (Nat.zero_le _) (Nat.zero_le _) (fun r_157 g_157 f_157 q_157 => ?_)
                  obtain ⟨rfl, rfl, rfl⟩ := q_157
                  refine r_eqI (y := K (5 * od i + 3)) (by rw [stF_n _ _ _ (by omega), hF1 (b + 1) (by omega), show (3 * 8 + ((od i : Nat) : Int)).toNat = 8 * 3 + od i by omega]; exact hK.tr (by decide) (by omega)) ?_
                  refine r_iload (pc := 160) 3 dX1_goBy_160 rfl ?_
                  refine r_iadd (pc := 162) dX1_goBy_162 ?_
                  refine r_getsN (pc := 163) (j := 0) dX1_goBy_163 (by decide) sl_X1_75 ?_
                  refine r_iconst (pc := 166) dX1_goBy_166 ?_
                  refine r_ialdS (pc := 167) dX1_goBy_167 (by decide) (by decide) ?_
                  refine r_eqI (y := 9999) (by decide) ?_
                  refine r_icmp_gt (pc := 168) (tgt := 193) dX1_goBy_168 (by decide) (by omega) (by omega) (fun c_168 => ?_) (fun c_168 => ?_)
                  · refine r_iconst (pc := 193) dX1_goBy_193 ?_
                    refine r_istore (pc := 194) (L2 := [(7, (.int (iI (0)))), (6, (.int (iI (alK K n od (i + 1))))), (5, (.int (iI (((stO (ovK K) (waK K (K 42) (hdK K)) (bkK K) n 1 (sO od (i + 1)) : Nat) : Int))))), (4, (.int (iI (((stO (ovK K) (waK K (K 42) (hdK K)) (bkK K) n 0 (sO od (i + 1)) : Nat) : Int))))), (12, (.int (iI (gsK K n od i)))), (11, (.int (iI (1)))), (10, (.int (iI ((((waK K (K 42) (hdK K)) (od i) : Nat) : Int))))), (9, (.int (iI (((od i : Nat) : Int))))), (8, (.int (iI (((i : Nat) : Int))))), (0, (.ref b)), (1, (.ref y)), (2, (.ref 3)), (3, (.ref 163))]) dX1_goBy_194 (by decide) rfl ?_
                    refine r_iincv (pc := 196) (y := ((i + 1 : Nat) : Int)) (L2 := [(8, (.int (iI (((i + 1 : Nat) : Int))))), (7, (.int (iI (0)))), (6, (.int (iI (alK K n od (i + 1))))), (5, (.int (iI (((stO (ovK K) (waK K (K 42) (hdK K)) (bkK K) n 1 (sO od (i + 1)) : Nat) : Int))))), (4, (.int (iI (((stO (ovK K) (waK K (K 42) (hdK K)) (bkK K) n 0 (sO od (i + 1)) : Nat) : Int))))), (12, (.int (iI (gsK K n od i)))), (11, (.int (iI (1)))), (10, (.int (iI ((((waK K (K 42) (hdK K)) (od i) : Nat) : Int))))), (9, (.int (iI (((od i : Nat) : Int))))), (0, (.ref b)), (1, (.ref y)), (2, (.ref 3)), (3, (.ref 163))]) 8 dX1_goBy_196 rfl (by omega) (by decide) rfl ?_
                    refine r_goto (pc := 199) (tgt := 43) dX1_goBy_199 (by decide) ?_
                    refine r_sub (L2 := [(8, (.int (iI (((i + 1 : Nat) : Int))))), (7, (.int (iI (b01 (ftB K n od (i + 1) = true))))), (6, (.int (iI (alK K n od (i + 1))))), (5, (.int (iI (((stO (ovK K) (waK K (K 42) (hdK K)) (bkK K) n 1 (sO od (i + 1)) : Nat) : Int))))), (4, (.int (iI (((stO (ovK K) (waK K (K 42) (hdK K)) (bkK K) n 0 (sO od (i + 1)) : Nat) : Int))))), (0, (.ref b)), (1, (.ref y)), (2, (.ref 3)), (3, (.ref 163))]) [0, 1, 2, 3, 4, 9, 10, 11, 12] (by rw [b01_f (ftB_n (fun h => by obtain ⟨_, h1, h2⟩ := h; omega))]; rfl) ?_
                    exact ih (n - (i + 1)) (by omega) (i + 1) (by omega) (by omega) _ (fun q hq => by rw [stF_n _ _ _ hq]; exact hF1 q hq) (fun j hj => by
                      rcases Nat.lt_succ_iff_lt_or_eq.mp hj with h | h
                      · rw [stF_i _ _ _ (okO_ne hok (by omega) h)]; exact hR1 j h
                      · subst h; exact stF_s _ _ _ _)
                  · refine r_aload_n (pc := 171) 9 dX1_goBy_171 rfl rfl ?_
                    refine r_iconst (pc := 172) dX1_goBy_172 ?_
                    refine r_iload (pc := 173) 6 dX1_goBy_173 rfl ?_
                    refine r_callV (pc := 175) (As := [(.int (iI (4))), (.int (iI (((od i : Nat) : Int))))]) (S := []) dX1_goBy_175 cv_X1_41 hB.k rfl (Nat.le_of_ble_eq_true rfl) (c_trait (w := 4) (c := ((od i : Nat) : Int)) l z _ _ hB (by omega) (by omega)) (Nat.zero_le _) (Nat.zero_le _) (fun r_175 g_175 f_175 q_175 => ?_)
                    obtain ⟨rfl, rfl, rfl⟩ := q_175
                    refine r_eqI (y := K (5 * od i + 4)) (by rw [stF_n _ _ _ (by omega), hF1 (b + 1) (by omega), show (4 * 8 + ((od i : Nat) : Int)).toNat = 8 * 4 + od i by omega]; exact hK.tr (by decide) (by omega)) ?_
                    refine r_iload (pc := 178) 5 dX1_goBy_178 rfl ?_
                    refine r_iadd (pc := 180) dX1_goBy_180 ?_
                    refine r_getsN (pc := 181) (j := 0) dX1_goBy_181 (by decide) sl_X1_75 ?_
                    refine r_iconst (pc := 184) dX1_goBy_184 ?_
                    refine r_ialdS (pc := 185) dX1_goBy_185 (by decide) (by decide) ?_
                    refine r_eqI (y := 999999) (by decide) ?_
                    refine r_icmp_gt (pc := 186) (tgt := 193) dX1_goBy_186 (by decide) (by omega) (by omega) (fun c_186 => ?_) (fun c_186 => ?_)
                    · refine r_iconst (pc := 193) dX1_goBy_193 ?_
                      refine r_istore (pc := 194) (L2 := [(7, (.int (iI (0)))), (6, (.int (iI (alK K n od (i + 1))))), (5, (.int (iI (((stO (ovK K) (waK K (K 42) (hdK K)) (bkK K) n 1 (sO od (i + 1)) : Nat) : Int))))), (4, (.int (iI (((stO (ovK K) (waK K (K 42) (hdK K)) (bkK K) n 0 (sO od (i + 1)) : Nat) : Int))))), (12, (.int (iI (gsK K n od i)))), (11, (.int (iI (1)))), (10, (.int (iI ((((waK K (K 42) (hdK K)) (od i) : Nat) : Int))))), (9, (.int (iI (((od i : Nat) : Int))))), (8, (.int (iI (((i : Nat) : Int))))), (0, (.ref b)), (1, (.ref y)), (2, (.ref 3)), (3, (.ref 163))]) dX1_goBy_194 (by decide) rfl ?_
                      refine r_iincv (pc := 196) (y := ((i + 1 : Nat) : Int)) (L2 := [(8, (.int (iI (((i + 1 : Nat) : Int))))), (7, (.int (iI (0)))), (6, (.int (iI (alK K n od (i + 1))))), (5, (.int (iI (((stO (ovK K) (waK K (K 42) (hdK K)) (bkK K) n 1 (sO od (i + 1)) : Nat) : Int))))), (4, (.int (iI (((stO (ovK K) (waK K (K 42) (hdK K)) (bkK K) n 0 (sO od (i + 1)) : Nat) : Int))))), (12, (.int (iI (gsK K n od i)))), (11, (.int (iI (1)))), (10, (.int (iI ((((waK K (K 42) (hdK K)) (od i) : Nat) : Int))))), (9, (.int (iI (((od i : Nat) : Int))))), (0, (.ref b)), (1, (.ref y)), (2, (.ref 3)), (3, (.ref 163))]) 8 dX1_goBy_196 rfl (by omega) (by decide) rfl ?_
                      refine r_goto (pc := 199) (tgt := 43) dX1_goBy_199 (by decide) ?_
                      refine r_sub (L2 := [(8, (.int (iI (((i + 1 : Nat) : Int))))), (7, (.int (iI (b01 (ftB K n od (i + 1) = true))))), (6, (.int (iI (alK K n od (i + 1))))), (5, (.int (iI (((stO (ovK K) (waK K (K 42) (hdK K)) (bkK K) n 1 (sO od (i + 1)) : Nat) : Int))))), (4, (.int (iI (((stO (ovK K) (waK K (K 42) (hdK K)) (bkK K) n 0 (sO od (i + 1)) : Nat) : Int))))), (0, (.ref b)), (1, (.ref y)), (2, (.ref 3)), (3, (.ref 163))]) [0, 1, 2, 3, 4, 9, 10, 11, 12] (by rw [b01_f (ftB_n (fun h => by obtain ⟨_, h1, h2⟩ := h; omega))]; rfl) ?_
                      exact ih (n - (i + 1)) (by omega) (i + 1) (by omega) (by omega) _ (fun q hq => by rw [stF_n _ _ _ hq]; exact hF1 q hq) (fun j hj => by
                        rcases Nat.lt_succ_iff_lt_or_eq.mp hj with h | h
                        · rw [stF_i _ _ _ (okO_ne hok (by omega) h)]; exact hR1 j h
                        · subst h; exact stF_s _ _ _ _)
                    · refine r_iconst (pc := 189) dX1_goBy_189 ?_
                      refine r_goto (pc := 190) (tgt := 194) dX1_goBy_190 (by decide) ?_
                      refine r_istore (pc := 194) (L2 := [(7, (.int (iI (1)))), (6, (.int (iI (alK K n od (i + 1))))), (5, (.int (iI (((stO (ovK K) (waK K (K 42) (hdK K)) (bkK K) n 1 (sO od (i + 1)) : Nat) : Int))))), (4, (.int (iI (((stO (ovK K) (waK K (K 42) (hdK K)) (bkK K) n 0 (sO od (i + 1)) : Nat) : Int))))), (12, (.int (iI (gsK K n od i)))), (11, (.int (iI (1)))), (10, (.int (iI ((((waK K (K 42) (hdK K)) (od i) : Nat) : Int))))), (9, (.int (iI (((od i : Nat) : Int))))), (8, (.int (iI (((i : Nat) : Int))))), (0, (.ref b)), (1, (.ref y)), (2, (.ref 3)), (3, (.ref 163))]) dX1_goBy_194 (by decide) rfl ?_
                      refine r_iincv (pc := 196) (y := ((i + 1 : Nat) : Int)) (L2 := [(8, (.int (iI (((i + 1 : Nat) : Int))))), (7, (.int (iI (1)))), (6, (.int (iI (alK K n od (i + 1))))), (5, (.int (iI (((stO (ovK K) (waK K (K 42) (hdK K)) (bkK K) n 1 (sO od (i + 1)) : Nat) : Int))))), (4, (.int (iI (((stO (ovK K) (waK K (K 42) (hdK K)) (bkK K) n 0 (sO od (i + 1)) : Nat) : Int))))), (12, (.int (iI (gsK K n od i)))), (11, (.int (iI (1)))), (10, (.int (iI ((((waK K (K 42) (hdK K)) (od i) : Nat) : Int))))), (9, (.int (iI (((od i : Nat) : Int))))), (0, (.ref b)), (1, (.ref y)), (2, (.ref 3)), (3, (.ref 163))]) 8 dX1_goBy_196 rfl (by omega) (by decide) rfl ?_
                      refine r_goto (pc := 199) (tgt := 43) dX1_goBy_199 (by decide) ?_
                      refine r_sub (L2 := [(8, (.int (iI (((i + 1 : Nat) : Int))))), (7, (.int (iI (b01 (ftB K n od (i + 1) = true))))), (6, (.int (iI (alK K n od (i + 1))))), (5, (.int (iI (((stO (ovK K) (waK K (K 42) (hdK K)) (bkK K) n 1 (sO od (i + 1)) : Nat) : Int))))), (4, (.int (iI (((stO (ovK K) (waK K (K 42) (hdK K)) (bkK K) n 0 (sO od (i + 1)) : Nat) : Int))))), (0, (.ref b)), (1, (.ref y)), (2, (.ref 3)), (3, (.ref 163))]) [0, 1, 2, 3, 4, 9, 10, 11, 12] (by rw [b01_t (ftB_y c_150 (by omega) (by omega))]; rfl) ?_
                      exact ih (n - (i + 1)) (by omega) (i + 1) (by omega) (by omega) _ (fun q hq => by rw [stF_n _ _ _ hq]; exact hF1 q hq) (fun j hj => by
                        rcases Nat.lt_succ_iff_lt_or_eq.mp hj with h | h
                        · rw [stF_i _ _ _ (okO_ne hok (by omega) h)]; exact hR1 j h
                        · subst h; exact stF_s _ _ _ _)
  refine r_aload_n (pc := 0) 0 dX1_goBy_0 rfl rfl ?_
  refine r_getR (pc := 1) (b := (b + 2)) dX1_goBy_1 fl_X1_15 rfl hB.k hB.r1 ?_
  refine r_iconst (pc := 4) dX1_goBy_4 ?_
  refine r_ialdv (pc := 5) (w := ((bkK K 0 : Nat) : Int)) dX1_goBy_5 hB.a1 (by decide) (by decide) ((hK.te (t := 3) (by decide)).trans (bkK_r (o := 0) hO hM0 (by decide)).1) ?_
  refine r_istore (pc := 6) (L2 := [(4, (.int (iI (((bkK K 0 : Nat) : Int))))), (0, (.ref b)), (1, (.ref y)), (2, (.ref 3)), (3, (.ref 163))]) dX1_goBy_6 (by decide) rfl ?_
  refine r_aload_n (pc := 8) 1 dX1_goBy_8 rfl rfl ?_
  refine r_getR (pc := 9) (b := (b + 2)) dX1_goBy_9 fl_X1_15 rfl hB.k hB.r1 ?_
  refine r_iconst (pc := 12) dX1_goBy_12 ?_
  refine r_ialdv (pc := 13) (w := ((bkK K 1 : Nat) : Int)) dX1_goBy_13 hB.a1 (by decide) (by decide) ((hK.te (t := 4) (by decide)).trans (bkK_r (o := 1) hO hM0 (by decide)).1) ?_
  refine r_istore (pc := 14) (L2 := [(5, (.int (iI (((bkK K 1 : Nat) : Int))))), (4, (.int (iI (((bkK K 0 : Nat) : Int))))), (0, (.ref b)), (1, (.ref y)), (2, (.ref 3)), (3, (.ref 163))]) dX1_goBy_14 (by decide) rfl ?_
  refine r_iconst (pc := 16) dX1_goBy_16 ?_
  refine r_istore (pc := 17) (L2 := [(6, (.int (iI (0)))), (5, (.int (iI (((bkK K 1 : Nat) : Int))))), (4, (.int (iI (((bkK K 0 : Nat) : Int))))), (0, (.ref b)), (1, (.ref y)), (2, (.ref 3)), (3, (.ref 163))]) dX1_goBy_17 (by decide) rfl ?_
  refine r_aload_n (pc := 19) 3 dX1_goBy_19 rfl rfl ?_
  refine r_getR (pc := 20) (b := (b + 2)) dX1_goBy_20 fl_X1_15 rfl hB.k hB.r1 ?_
  refine r_iconst (pc := 23) dX1_goBy_23 ?_
  refine r_ialdv (pc := 24) (w := K 42) dX1_goBy_24 hB.a1 (by decide) (by decide) ((hK.te (t := 2) (by decide))) ?_
  refine r_getsN (pc := 25) (j := 2) dX1_goBy_25 (by decide) sl_X1_61 ?_
  refine r_iconst (pc := 28) dX1_goBy_28 ?_
  refine r_ialdS (pc := 29) dX1_goBy_29 (by decide) (by decide) ?_
  refine r_eqI (y := 9999) (by decide) ?_
  refine r_icmp_ge (pc := 30) (tgt := 37) dX1_goBy_30 (by decide) (by omega) (by omega) (fun c_30 => ?_) (fun c_30 => ?_)
  · refine r_iconst (pc := 37) dX1_goBy_37 ?_
    refine r_istore (pc := 38) (L2 := [(7, (.int (iI (0)))), (6, (.int (iI (0)))), (5, (.int (iI (((bkK K 1 : Nat) : Int))))), (4, (.int (iI (((bkK K 0 : Nat) : Int))))), (0, (.ref b)), (1, (.ref y)), (2, (.ref 3)), (3, (.ref 163))]) dX1_goBy_38 (by decide) rfl ?_
    refine r_iconst (pc := 40) dX1_goBy_40 ?_
    refine r_istore (pc := 41) (L2 := [(8, (.int (iI (0)))), (7, (.int (iI (0)))), (6, (.int (iI (0)))), (5, (.int (iI (((bkK K 1 : Nat) : Int))))), (4, (.int (iI (((bkK K 0 : Nat) : Int))))), (0, (.ref b)), (1, (.ref y)), (2, (.ref 3)), (3, (.ref 163))]) dX1_goBy_41 (by decide) rfl ?_
    refine r_sub (L2 := [(8, (.int (iI (((0 : Nat) : Int))))), (7, (.int (iI (b01 (ftB K n od 0 = true))))), (6, (.int (iI (alK K n od 0)))), (5, (.int (iI (((stO (ovK K) (waK K (K 42) (hdK K)) (bkK K) n 1 (sO od 0) : Nat) : Int))))), (4, (.int (iI (((stO (ovK K) (waK K (K 42) (hdK K)) (bkK K) n 0 (sO od 0) : Nat) : Int))))), (0, (.ref b)), (1, (.ref y)), (2, (.ref 3)), (3, (.ref 163))]) [0, 1, 2, 3, 4, 5, 6, 7, 8] (by rw [b01_f (show ¬ ftB K n od 0 = true from fun q => by have := of_decide_eq_true q; omega), show sO od 0 = 0 from rfl, stO_0, stO_0]; rfl) ?_
    exact loop1 n 0 (by omega) (by omega) f (fun _ _ => rfl) (fun _ h => absurd h (by omega))
  · refine r_iconst (pc := 33) dX1_goBy_33 ?_
    refine r_goto (pc := 34) (tgt := 38) dX1_goBy_34 (by decide) ?_
    refine r_istore (pc := 38) (L2 := [(7, (.int (iI (1)))), (6, (.int (iI (0)))), (5, (.int (iI (((bkK K 1 : Nat) : Int))))), (4, (.int (iI (((bkK K 0 : Nat) : Int))))), (0, (.ref b)), (1, (.ref y)), (2, (.ref 3)), (3, (.ref 163))]) dX1_goBy_38 (by decide) rfl ?_
    refine r_iconst (pc := 40) dX1_goBy_40 ?_
    refine r_istore (pc := 41) (L2 := [(8, (.int (iI (0)))), (7, (.int (iI (1)))), (6, (.int (iI (0)))), (5, (.int (iI (((bkK K 1 : Nat) : Int))))), (4, (.int (iI (((bkK K 0 : Nat) : Int))))), (0, (.ref b)), (1, (.ref y)), (2, (.ref 3)), (3, (.ref 163))]) dX1_goBy_41 (by decide) rfl ?_
    refine r_sub (L2 := [(8, (.int (iI (((0 : Nat) : Int))))), (7, (.int (iI (b01 (ftB K n od 0 = true))))), (6, (.int (iI (alK K n od 0)))), (5, (.int (iI (((stO (ovK K) (waK K (K 42) (hdK K)) (bkK K) n 1 (sO od 0) : Nat) : Int))))), (4, (.int (iI (((stO (ovK K) (waK K (K 42) (hdK K)) (bkK K) n 0 (sO od 0) : Nat) : Int))))), (0, (.ref b)), (1, (.ref y)), (2, (.ref 3)), (3, (.ref 163))]) [0, 1, 2, 3, 4, 5, 6, 7, 8] (by rw [b01_t (show ftB K n od 0 = true from decide_eq_true (by omega)), show sO od 0 = 0 from rfl, stO_0, stO_0]; rfl) ?_
    exact loop1 n 0 (by omega) (by omega) f (fun _ _ => rfl) (fun _ h => absurd h (by omega))

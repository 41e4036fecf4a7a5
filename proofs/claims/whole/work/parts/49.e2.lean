theorem and15 {a w : Nat} (h : a < 16) : (a + 16 * w) &&& 15 = a := by
  rw [show (15 : Nat) = 2 ^ 4 - 1 from rfl, Nat.and_two_pow_sub_one_eq_mod]; omega
theorem shr4 {a w : Nat} (h : a < 16) : (a + 16 * w) / 2 ^ 4 = w := by omega
theorem and7 {w : Nat} (h : w < 8) : w &&& 7 = w := by
  rw [show (7 : Nat) = 2 ^ 3 - 1 from rfl, Nat.and_two_pow_sub_one_eq_mod]; omega
/-- the evaluator stands at the step at_, with top values on its stack -/
def WK (l : Launch) (z : Zv) (d : Nat) (g : Gm) (a s0 fr to_ : Nat) (post : Po) (at_ top : Nat) (f : Fm) : Prop := PW l z (d + 1) mX0_work 0 0 post 6 [(5, (.int (iI ((at_ : Nat) : Int)))), (4, (.int (iI ((top : Nat) : Int)))), (0, (.ref a)), (1, (.ref s0)), (2, (.int (iI ((fr : Nat) : Int)))), (3, (.int (iI ((to_ : Nat) : Int))))] [] g f 0 0

set_option maxRecDepth 100000 in
set_option maxHeartbeats 4000000 in
theorem w_step (l : Launch) (z : Zv) (d : Nat) {g : Gm} {f : Fm} {a s0 n1 fr to_ at_ top kk w : Nat} {e : Nat → Int} {post : Po} (hA : AL g a) (hS : isA g s0 11 n1) (hn1 : n1 ≤ 401) (hto : to_ ≤ n1) (hat : at_ < to_) (hst : f s0 at_ = ((kk + 16 * w : Nat) : Int)) (hk : kk < 16) (hk12 : kk < 12) (hw : w ≤ 1000) (hwd : ∀ k, k < 8 → f (a + 1) k = e k) (he : ∀ k, k < 8 → -1000000000 ≤ e k ∧ e k ≤ 1000000000)
    (hw7 : kk = 1 → w < 8) (ht0 : kk ≤ 1 → top < 64) (ht2 : 2 ≤ kk → kk < 9 → 2 ≤ top) (ht9 : 9 ≤ kk → 1 ≤ top) (ht6 : top ≤ 64) (hrg : ∀ i, i < top → -1000000000 ≤ f (a + 2) i ∧ f (a + 2) i ≤ 1000000000) (hjw : 10 ≤ kk → at_ < w)
    (h0 : ∀ _ : Unit, kk = 0 → WK l z d g a s0 fr to_ post (at_ + 1) (top + 1) (stF f (a + 2) top ((w : Nat) : Int))) (h1 : ∀ _ : Unit, kk = 1 → WK l z d g a s0 fr to_ post (at_ + 1) (top + 1) (stF f (a + 2) top (e w)))
    (h2 : ∀ _ : Unit, 2 ≤ kk → kk < 9 → -1000000000 ≤ (jnV kk (f (a + 2) (top - 2)) (f (a + 2) (top - 1))) → (jnV kk (f (a + 2) (top - 2)) (f (a + 2) (top - 1))) ≤ 1000000000 → WK l z d g a s0 fr to_ post (at_ + 1) (top - 1) (stF f (a + 2) (top - 2) (jnV kk (f (a + 2) (top - 2)) (f (a + 2) (top - 1)))))
    (h2b : ∀ _ : Unit, 2 ≤ kk → kk < 9 → ((jnV kk (f (a + 2) (top - 2)) (f (a + 2) (top - 1))) < -1000000000 ∨ 1000000000 < (jnV kk (f (a + 2) (top - 2)) (f (a + 2) (top - 1)))) → post (some (.long (lI 1000000001))) g f)
    (h9 : ∀ _ : Unit, kk = 9 → WK l z d g a s0 fr to_ post (at_ + 1) (top) (stF f (a + 2) (top - 1) (1 - f (a + 2) (top - 1))))
    (hjmp : ∀ _ : Unit, 10 ≤ kk → (kk = 10 ∧ f (a + 2) (top - 1) = 1 ∨ kk = 11 ∧ f (a + 2) (top - 1) = 0) → WK l z d g a s0 fr to_ post (w) (top) f) (hfall : ∀ _ : Unit, 10 ≤ kk → ¬ (kk = 10 ∧ f (a + 2) (top - 1) = 1 ∨ kk = 11 ∧ f (a + 2) (top - 1) = 0) → WK l z d g a s0 fr to_ post (at_ + 1) (top - 1) f) : WK l z d g a s0 fr to_ post (at_) (top) f := by
  unfold WK
  refine r_iload (pc := 6) 0 dX0_work_6 rfl ?_
  refine r_iload_n (pc := 8) 5 dX0_work_8 rfl rfl ?_
  refine r_icmp_ge (pc := 9) (tgt := 247) dX0_work_9 (by decide) (by omega) (by omega) (fun c_9 => ?_) (fun c_9 => ?_)
  · exfalso; omega
  · refine r_aload_n (pc := 12) 3 dX0_work_12 rfl rfl ?_
    refine r_iload (pc := 13) 0 dX0_work_13 rfl ?_
    refine r_ialdv (pc := 15) (w := ((kk + 16 * w : Nat) : Int)) dX0_work_15 hS (by omega) (by omega) (hst) ?_
    refine r_bipush (pc := 16) dX0_work_16 (by decide) ?_
    refine r_iand (pc := 18) (w := ((kk : Nat) : Int)) dX0_work_18  ((iI_and (kk + 16 * w) 15).trans (by rw [and15 hk])) ?_
    refine r_istore (pc := 19) (L2 := [(6, (.int (iI (((kk : Nat) : Int))))), (5, (.int (iI (((at_ : Nat) : Int))))), (4, (.int (iI (((top : Nat) : Int))))), (0, (.ref a)), (1, (.ref s0)), (2, (.int (iI (((fr : Nat) : Int))))), (3, (.int (iI (((to_ : Nat) : Int)))))]) dX0_work_19 (by decide) rfl ?_
    refine r_aload_n (pc := 21) 4 dX0_work_21 rfl rfl ?_
    refine r_iload (pc := 22) 1 dX0_work_22 rfl ?_
    refine r_ialdv (pc := 24) (w := ((kk + 16 * w : Nat) : Int)) dX0_work_24 hS (by omega) (by omega) (hst) ?_
    refine r_iconst (pc := 25) dX0_work_25 ?_
    refine r_ishr (pc := 26) (w := ((w : Nat) : Int)) dX0_work_26  ((iI_shr (x := kk + 16 * w) (k := 4) (by omega) (by decide)).trans (by rw [shr4 hk])) ?_
    refine r_istore (pc := 27) (L2 := [(7, (.int (iI (((w : Nat) : Int))))), (6, (.int (iI (((kk : Nat) : Int))))), (5, (.int (iI (((at_ : Nat) : Int))))), (4, (.int (iI (((top : Nat) : Int))))), (0, (.ref a)), (1, (.ref s0)), (2, (.int (iI (((fr : Nat) : Int))))), (3, (.int (iI (((to_ : Nat) : Int)))))]) dX0_work_27 (by decide) rfl ?_
    refine r_iload (pc := 29) 1 dX0_work_29 rfl ?_
    refine r_iconst (pc := 31) dX0_work_31 ?_
    refine r_icmp_gt (pc := 32) (tgt := 79) dX0_work_32 (by decide) (by omega) (by omega) (fun c_32 => ?_) (fun c_32 => ?_)
    · refine r_iload (pc := 79) 1 dX0_work_79 rfl ?_
      refine r_bipush (pc := 81) dX0_work_81 (by decide) ?_
      refine r_icmp_ge (pc := 83) (tgt := 163) dX0_work_83 (by decide) (by omega) (by omega) (fun c_83 => ?_) (fun c_83 => ?_)
      · refine r_iload (pc := 163) 3 dX0_work_163 rfl ?_
        refine r_iconst (pc := 165) dX0_work_165 ?_
        refine r_icmp_ge (pc := 166) (tgt := 173) dX0_work_166 (by decide) (by omega) (by omega) (fun c_166 => ?_) (fun c_166 => ?_)
        · have hx := hrg (top - 1) (by omega)
          refine r_aload_n (pc := 173) 4 dX0_work_173 rfl rfl ?_
          refine r_getR (pc := 174) (b := (a + 2)) dX0_work_174 fl_X0_17 rfl hA.k hA.r1 ?_
          refine r_iload (pc := 177) 3 dX0_work_177 rfl ?_
          refine r_iconst (pc := 179) dX0_work_179 ?_
          refine r_isub (pc := 180) dX0_work_180 ?_
          refine r_eqI (y := ((top - 1 : Nat) : Int)) (by omega) ?_
          refine r_ialdv (pc := 181) (w := f (a + 2) (top - 1)) dX0_work_181 hA.a1 (by omega) (by decide) (rfl) ?_
          refine r_istore (pc := 182) (L2 := [(8, (.int (iI (f (a + 2) (top - 1))))), (7, (.int (iI (((w : Nat) : Int))))), (6, (.int (iI (((kk : Nat) : Int))))), (5, (.int (iI (((at_ : Nat) : Int))))), (4, (.int (iI (((top : Nat) : Int))))), (0, (.ref a)), (1, (.ref s0)), (2, (.int (iI (((fr : Nat) : Int))))), (3, (.int (iI (((to_ : Nat) : Int)))))]) dX0_work_182 (by decide) rfl ?_
          refine r_iload (pc := 184) 2 dX0_work_184 rfl ?_
          refine r_bipush (pc := 186) dX0_work_186 (by decide) ?_
          refine r_icmp_ne (pc := 188) (tgt := 207) dX0_work_188 (by decide) (by omega) (by omega) (fun c_188 => ?_) (fun c_188 => ?_)
          · refine r_iload (pc := 207) 0 dX0_work_207 rfl ?_
            refine r_iload (pc := 209) 2 dX0_work_209 rfl ?_
            refine r_bipush (pc := 211) dX0_work_211 (by decide) ?_
            refine r_icmp_ne (pc := 213) (tgt := 220) dX0_work_213 (by decide) (by omega) (by omega) (fun c_213 => ?_) (fun c_213 => ?_)
            · refine r_iconst (pc := 220) dX0_work_220 ?_
              refine r_icmp_ne (pc := 221) (tgt := 238) dX0_work_221 (by decide) (by omega) (by omega) (fun c_221 => ?_) (fun c_221 => ?_)
              · refine r_iincv (pc := 238) (y := ((top - 1 : Nat) : Int)) (L2 := [(4, (.int (iI (((top - 1 : Nat) : Int))))), (8, (.int (iI (f (a + 2) (top - 1))))), (7, (.int (iI (((w : Nat) : Int))))), (6, (.int (iI (((kk : Nat) : Int))))), (5, (.int (iI (((at_ : Nat) : Int))))), (0, (.ref a)), (1, (.ref s0)), (2, (.int (iI (((fr : Nat) : Int))))), (3, (.int (iI (((to_ : Nat) : Int)))))]) 4 dX0_work_238 rfl (by omega) (by decide) rfl ?_
                refine r_iincv (pc := 241) (y := ((at_ + 1 : Nat) : Int)) (L2 := [(5, (.int (iI (((at_ + 1 : Nat) : Int))))), (4, (.int (iI (((top - 1 : Nat) : Int))))), (8, (.int (iI (f (a + 2) (top - 1))))), (7, (.int (iI (((w : Nat) : Int))))), (6, (.int (iI (((kk : Nat) : Int))))), (0, (.ref a)), (1, (.ref s0)), (2, (.int (iI (((fr : Nat) : Int))))), (3, (.int (iI (((to_ : Nat) : Int)))))]) 4 dX0_work_241 rfl (by omega) (by decide) rfl ?_
                refine r_goto (pc := 244) (tgt := 6) dX0_work_244 (by decide) ?_
                refine r_sub (L2 := [(5, (.int (iI (((at_ + 1 : Nat) : Int))))), (4, (.int (iI (((top - 1 : Nat) : Int))))), (0, (.ref a)), (1, (.ref s0)), (2, (.int (iI (((fr : Nat) : Int))))), (3, (.int (iI (((to_ : Nat) : Int)))))]) [0, 1, 5, 6, 7, 8] rfl ?_
                exact hfall () (by omega) (by omega)
              · refine r_iload (pc := 224) 3 dX0_work_224 rfl ?_
                refine r_iload (pc := 226) 1 dX0_work_226 rfl ?_
                refine r_iconst (pc := 228) dX0_work_228 ?_
                refine r_isub (pc := 229) dX0_work_229 ?_
                refine r_callS (pc := 230) (As := [(.int (iI (((at_ : Nat) : Int)))), (.int (iI ((((w : Nat) : Int)) - (1))))]) (S := []) dX0_work_230 cs_X0_78 rfl (Nat.le_of_ble_eq_true rfl) (c_max l z _ g f _ _ (by omega) (by omega)) (Nat.zero_le _) (Nat.zero_le _) (fun r_230 g_230 f_230 q_230 => ?_)
                obtain ⟨rfl, rfl, rfl⟩ := q_230
                refine r_eqI (y := ((w - 1 : Nat) : Int)) (by omega) ?_
                refine r_istore (pc := 233) (L2 := [(5, (.int (iI (((w - 1 : Nat) : Int))))), (8, (.int (iI (f (a + 2) (top - 1))))), (7, (.int (iI (((w : Nat) : Int))))), (6, (.int (iI (((kk : Nat) : Int))))), (4, (.int (iI (((top : Nat) : Int))))), (0, (.ref a)), (1, (.ref s0)), (2, (.int (iI (((fr : Nat) : Int))))), (3, (.int (iI (((to_ : Nat) : Int)))))]) dX0_work_233 (by decide) rfl ?_
                refine r_goto (pc := 235) (tgt := 241) dX0_work_235 (by decide) ?_
                refine r_iincv (pc := 241) (y := ((w - 1 + 1 : Nat) : Int)) (L2 := [(5, (.int (iI (((w - 1 + 1 : Nat) : Int))))), (8, (.int (iI (f (a + 2) (top - 1))))), (7, (.int (iI (((w : Nat) : Int))))), (6, (.int (iI (((kk : Nat) : Int))))), (4, (.int (iI (((top : Nat) : Int))))), (0, (.ref a)), (1, (.ref s0)), (2, (.int (iI (((fr : Nat) : Int))))), (3, (.int (iI (((to_ : Nat) : Int)))))]) 0 dX0_work_241 rfl (by omega) (by decide) rfl ?_
                refine r_goto (pc := 244) (tgt := 6) dX0_work_244 (by decide) ?_
                rw [show w - 1 + 1 = w by omega]
                refine r_sub (L2 := [(5, (.int (iI (((w : Nat) : Int))))), (4, (.int (iI (((top : Nat) : Int))))), (0, (.ref a)), (1, (.ref s0)), (2, (.int (iI (((fr : Nat) : Int))))), (3, (.int (iI (((to_ : Nat) : Int)))))]) [0, 4, 5, 6, 7, 8] rfl ?_
                exact hjmp () (by omega) (by omega)
            · refine r_iconst (pc := 216) dX0_work_216 ?_
              refine r_goto (pc := 217) (tgt := 221) dX0_work_217 (by decide) ?_
              refine r_icmp_ne (pc := 221) (tgt := 238) dX0_work_221 (by decide) (by omega) (by omega) (fun c_221 => ?_) (fun c_221 => ?_)
              · refine r_iincv (pc := 238) (y := ((top - 1 : Nat) : Int)) (L2 := [(4, (.int (iI (((top - 1 : Nat) : Int))))), (8, (.int (iI (f (a + 2) (top - 1))))), (7, (.int (iI (((w : Nat) : Int))))), (6, (.int (iI (((kk : Nat) : Int))))), (5, (.int (iI (((at_ : Nat) : Int))))), (0, (.ref a)), (1, (.ref s0)), (2, (.int (iI (((fr : Nat) : Int))))), (3, (.int (iI (((to_ : Nat) : Int)))))]) 4 dX0_work_238 rfl (by omega) (by decide) rfl ?_
                refine r_iincv (pc := 241) (y := ((at_ + 1 : Nat) : Int)) (L2 := [(5, (.int (iI (((at_ + 1 : Nat) : Int))))), (4, (.int (iI (((top - 1 : Nat) : Int))))), (8, (.int (iI (f (a + 2) (top - 1))))), (7, (.int (iI (((w : Nat) : Int))))), (6, (.int (iI (((kk : Nat) : Int))))), (0, (.ref a)), (1, (.ref s0)), (2, (.int (iI (((fr : Nat) : Int))))), (3, (.int (iI (((to_ : Nat) : Int)))))]) 4 dX0_work_241 rfl (by omega) (by decide) rfl ?_
                refine r_goto (pc := 244) (tgt := 6) dX0_work_244 (by decide) ?_
                refine r_sub (L2 := [(5, (.int (iI (((at_ + 1 : Nat) : Int))))), (4, (.int (iI (((top - 1 : Nat) : Int))))), (0, (.ref a)), (1, (.ref s0)), (2, (.int (iI (((fr : Nat) : Int))))), (3, (.int (iI (((to_ : Nat) : Int)))))]) [0, 1, 5, 6, 7, 8] rfl ?_
                exact hfall () (by omega) (by omega)
              · refine r_iload (pc := 224) 3 dX0_work_224 rfl ?_
                refine r_iload (pc := 226) 1 dX0_work_226 rfl ?_
                refine r_iconst (pc := 228) dX0_work_228 ?_
                refine r_isub (pc := 229) dX0_work_229 ?_
                refine r_callS (pc := 230) (As := [(.int (iI (((at_ : Nat) : Int)))), (.int (iI ((((w : Nat) : Int)) - (1))))]) (S := []) dX0_work_230 cs_X0_78 rfl (Nat.le_of_ble_eq_true rfl) (c_max l z _ g f _ _ (by omega) (by omega)) (Nat.zero_le _) (Nat.zero_le _) (fun r_230 g_230 f_230 q_230 => ?_)
                obtain ⟨rfl, rfl, rfl⟩ := q_230
                refine r_eqI (y := ((w - 1 : Nat) : Int)) (by omega) ?_
                refine r_istore (pc := 233) (L2 := [(5, (.int (iI (((w - 1 : Nat) : Int))))), (8, (.int (iI (f (a + 2) (top - 1))))), (7, (.int (iI (((w : Nat) : Int))))), (6, (.int (iI (((kk : Nat) : Int))))), (4, (.int (iI (((top : Nat) : Int))))), (0, (.ref a)), (1, (.ref s0)), (2, (.int (iI (((fr : Nat) : Int))))), (3, (.int (iI (((to_ : Nat) : Int)))))]) dX0_work_233 (by decide) rfl ?_
                refine r_goto (pc := 235) (tgt := 241) dX0_work_235 (by decide) ?_
                refine r_iincv (pc := 241) (y := ((w - 1 + 1 : Nat) : Int)) (L2 := [(5, (.int (iI (((w - 1 + 1 : Nat) : Int))))), (8, (.int (iI (f (a + 2) (top - 1))))), (7, (.int (iI (((w : Nat) : Int))))), (6, (.int (iI (((kk : Nat) : Int))))), (4, (.int (iI (((top : Nat) : Int))))), (0, (.ref a)), (1, (.ref s0)), (2, (.int (iI (((fr : Nat) : Int))))), (3, (.int (iI (((to_ : Nat) : Int)))))]) 0 dX0_work_241 rfl (by omega) (by decide) rfl ?_
                refine r_goto (pc := 244) (tgt := 6) dX0_work_244 (by decide) ?_
                rw [show w - 1 + 1 = w by omega]
                refine r_sub (L2 := [(5, (.int (iI (((w : Nat) : Int))))), (4, (.int (iI (((top : Nat) : Int))))), (0, (.ref a)), (1, (.ref s0)), (2, (.int (iI (((fr : Nat) : Int))))), (3, (.int (iI (((to_ : Nat) : Int)))))]) [0, 4, 5, 6, 7, 8] rfl ?_
                exact hjmp () (by omega) (by omega)
          · refine r_aload_n (pc := 191) 5 dX0_work_191 rfl rfl ?_
            refine r_getR (pc := 192) (b := (a + 2)) dX0_work_192 fl_X0_17 rfl hA.k hA.r1 ?_
            refine r_iload (pc := 195) 4 dX0_work_195 rfl ?_
            refine r_iconst (pc := 197) dX0_work_197 ?_
            refine r_isub (pc := 198) dX0_work_198 ?_
            refine r_iconst (pc := 199) dX0_work_199 ?_
            refine r_iload (pc := 200) 0 dX0_work_200 rfl ?_
            refine r_isub (pc := 202) dX0_work_202 ?_
            refine r_iastv (pc := 203) (i := top - 1) dX0_work_203 hA.a1 (by omega) (by decide) (by omega) ?_
            refine r_goto (pc := 204) (tgt := 241) dX0_work_204 (by decide) ?_
            refine r_iincv (pc := 241) (y := ((at_ + 1 : Nat) : Int)) (L2 := [(5, (.int (iI (((at_ + 1 : Nat) : Int))))), (8, (.int (iI (f (a + 2) (top - 1))))), (7, (.int (iI (((w : Nat) : Int))))), (6, (.int (iI (((kk : Nat) : Int))))), (4, (.int (iI (((top : Nat) : Int))))), (0, (.ref a)), (1, (.ref s0)), (2, (.int (iI (((fr : Nat) : Int))))), (3, (.int (iI (((to_ : Nat) : Int)))))]) 3 dX0_work_241 rfl (by omega) (by decide) rfl ?_
            refine r_goto (pc := 244) (tgt := 6) dX0_work_244 (by decide) ?_
            refine r_sub (L2 := [(5, (.int (iI (((at_ + 1 : Nat) : Int))))), (4, (.int (iI (((top : Nat) : Int))))), (0, (.ref a)), (1, (.ref s0)), (2, (.int (iI (((fr : Nat) : Int))))), (3, (.int (iI (((to_ : Nat) : Int)))))]) [0, 4, 5, 6, 7, 8] rfl ?_
            exact h9 () (by omega)
        · exfalso; omega
      · refine r_iload (pc := 86) 3 dX0_work_86 rfl ?_
        refine r_iconst (pc := 88) dX0_work_88 ?_
        refine r_icmp_ge (pc := 89) (tgt := 96) dX0_work_89 (by decide) (by omega) (by omega) (fun c_89 => ?_) (fun c_89 => ?_)
        · have hx := hrg (top - 2) (by omega)
          have hy := hrg (top - 1) (by omega)
          refine r_iload (pc := 96) 1 dX0_work_96 rfl ?_
          refine r_aload_n (pc := 98) 4 dX0_work_98 rfl rfl ?_
          refine r_getR (pc := 99) (b := (a + 2)) dX0_work_99 fl_X0_17 rfl hA.k hA.r1 ?_
          refine r_iload (pc := 102) 3 dX0_work_102 rfl ?_
          refine r_iconst (pc := 104) dX0_work_104 ?_
          refine r_isub (pc := 105) dX0_work_105 ?_
          refine r_eqI (y := ((top - 2 : Nat) : Int)) (by omega) ?_
          refine r_ialdv (pc := 106) (w := f (a + 2) (top - 2)) dX0_work_106 hA.a1 (by omega) (by decide) (rfl) ?_
          refine r_i2l (pc := 107) dX0_work_107 (iI_l (by omega)) ?_
          refine r_aload_n (pc := 108) 4 dX0_work_108 rfl rfl ?_
          refine r_getR (pc := 109) (b := (a + 2)) dX0_work_109 fl_X0_17 rfl hA.k hA.r1 ?_
          refine r_iload (pc := 112) 3 dX0_work_112 rfl ?_
          refine r_iconst (pc := 114) dX0_work_114 ?_
          refine r_isub (pc := 115) dX0_work_115 ?_
          refine r_eqI (y := ((top - 1 : Nat) : Int)) (by omega) ?_
          refine r_ialdv (pc := 116) (w := f (a + 2) (top - 1)) dX0_work_116 hA.a1 (by omega) (by decide) (rfl) ?_
          refine r_i2l (pc := 117) dX0_work_117 (iI_l (by omega)) ?_
          refine r_callS (pc := 118) (As := [(.int (iI (((kk : Nat) : Int)))), (.long (lI (f (a + 2) (top - 2)))), (.long (lI (f (a + 2) (top - 1))))]) (S := []) dX0_work_118 cs_X0_70 rfl (Nat.le_of_ble_eq_true rfl) (x_joined l z _ hk hx hy) (Nat.zero_le _) (Nat.zero_le _) (fun r_118 g_118 f_118 q_118 => ?_)
          obtain ⟨rfl, rfl, rfl⟩ := q_118
          have hjr := jnV_r (k := kk) hx hy
          refine r_lstore (pc := 121) (L2 := [(8, (.long (lI (jnV kk (f (a + 2) (top - 2)) (f (a + 2) (top - 1)))))), (7, (.int (iI (((w : Nat) : Int))))), (6, (.int (iI (((kk : Nat) : Int))))), (5, (.int (iI (((at_ : Nat) : Int))))), (4, (.int (iI (((top : Nat) : Int))))), (0, (.ref a)), (1, (.ref s0)), (2, (.int (iI (((fr : Nat) : Int))))), (3, (.int (iI (((to_ : Nat) : Int)))))]) dX0_work_121 (by decide) rfl ?_
          refine r_lload (pc := 123) 0 dX0_work_123 rfl ?_
          refine r_ldc2 (pc := 125) (x := 1000000000) dX0_work_125 kc_X0_74 (by decide) ?_
          refine r_lcmp (pc := 128) (w := cmpZ (jnV kk (f (a + 2) (top - 2)) (f (a + 2) (top - 1))) (1000000000)) dX0_work_128  (cmp_z (by omega) (by omega)) ?_
          refine r_if_gt (pc := 129) (tgt := 141) dX0_work_129 (by decide) (cmpZ_r) (fun c_129 => ?_) (fun c_129 => ?_)
          · replace c_129 := cmpZ_gt.mp c_129
            refine r_ldc2 (pc := 141) (x := 1000000001) dX0_work_141 kc_X0_47 (by decide) ?_
            exact r_lret (pc := 144) dX0_work_144 rfl (h2b () (by omega) (by omega) (by omega))
          · replace c_129 := cmpZ_le.mp c_129
            refine r_lload (pc := 132) 0 dX0_work_132 rfl ?_
            refine r_ldc2 (pc := 134) (x := -1000000000) dX0_work_134 kc_X0_76 (by decide) ?_
            refine r_lcmp (pc := 137) (w := cmpZ (jnV kk (f (a + 2) (top - 2)) (f (a + 2) (top - 1))) (-1000000000)) dX0_work_137  (cmp_z (by omega) (by omega)) ?_
            refine r_if_ge (pc := 138) (tgt := 145) dX0_work_138 (by decide) (cmpZ_r) (fun c_138 => ?_) (fun c_138 => ?_)
            · replace c_138 := cmpZ_ge.mp c_138
              refine r_iincv (pc := 145) (y := ((top - 1 : Nat) : Int)) (L2 := [(4, (.int (iI (((top - 1 : Nat) : Int))))), (8, (.long (lI (jnV kk (f (a + 2) (top - 2)) (f (a + 2) (top - 1)))))), (7, (.int (iI (((w : Nat) : Int))))), (6, (.int (iI (((kk : Nat) : Int))))), (5, (.int (iI (((at_ : Nat) : Int))))), (0, (.ref a)), (1, (.ref s0)), (2, (.int (iI (((fr : Nat) : Int))))), (3, (.int (iI (((to_ : Nat) : Int)))))]) 4 dX0_work_145 rfl (by omega) (by decide) rfl ?_
              refine r_aload_n (pc := 148) 5 dX0_work_148 rfl rfl ?_
              refine r_getR (pc := 149) (b := (a + 2)) dX0_work_149 fl_X0_17 rfl hA.k hA.r1 ?_
              refine r_iload (pc := 152) 0 dX0_work_152 rfl ?_
              refine r_iconst (pc := 154) dX0_work_154 ?_
              refine r_isub (pc := 155) dX0_work_155 ?_
              refine r_lload (pc := 156) 1 dX0_work_156 rfl ?_
              refine r_l2i (pc := 158) dX0_work_158 ?_
              refine r_iastv (pc := 159) (i := top - 2) dX0_work_159 hA.a1 (by omega) (by decide) (by omega) ?_
              refine r_goto (pc := 160) (tgt := 241) dX0_work_160 (by decide) ?_
              refine r_iincv (pc := 241) (y := ((at_ + 1 : Nat) : Int)) (L2 := [(5, (.int (iI (((at_ + 1 : Nat) : Int))))), (4, (.int (iI (((top - 1 : Nat) : Int))))), (8, (.long (lI (jnV kk (f (a + 2) (top - 2)) (f (a + 2) (top - 1)))))), (7, (.int (iI (((w : Nat) : Int))))), (6, (.int (iI (((kk : Nat) : Int))))), (0, (.ref a)), (1, (.ref s0)), (2, (.int (iI (((fr : Nat) : Int))))), (3, (.int (iI (((to_ : Nat) : Int)))))]) 4 dX0_work_241 rfl (by omega) (by decide) rfl ?_
              refine r_goto (pc := 244) (tgt := 6) dX0_work_244 (by decide) ?_
              refine r_sub (L2 := [(5, (.int (iI (((at_ + 1 : Nat) : Int))))), (4, (.int (iI (((top - 1 : Nat) : Int))))), (0, (.ref a)), (1, (.ref s0)), (2, (.int (iI (((fr : Nat) : Int))))), (3, (.int (iI (((to_ : Nat) : Int)))))]) [0, 1, 5, 6, 7, 8] rfl ?_
              exact h2 () (by omega) (by omega) (by omega) (by omega)
            · replace c_138 := cmpZ_lt.mp c_138
              refine r_ldc2 (pc := 141) (x := 1000000001) dX0_work_141 kc_X0_47 (by decide) ?_
              exact r_lret (pc := 144) dX0_work_144 rfl (h2b () (by omega) (by omega) (by omega))
        · exfalso; omega
    · refine r_iload (pc := 35) 3 dX0_work_35 rfl ?_
      refine r_bipush (pc := 37) dX0_work_37 (by decide) ?_
      refine r_icmp_lt (pc := 39) (tgt := 46) dX0_work_39 (by decide) (by omega) (by omega) (fun c_39 => ?_) (fun c_39 => ?_)
      · have hw8 := hw7
        refine r_aload_n (pc := 46) 4 dX0_work_46 rfl rfl ?_
        refine r_getR (pc := 47) (b := (a + 2)) dX0_work_47 fl_X0_17 rfl hA.k hA.r1 ?_
        refine r_iload (pc := 50) 3 dX0_work_50 rfl ?_
        refine r_iload (pc := 52) 1 dX0_work_52 rfl ?_
        refine r_if_ne (pc := 54) (tgt := 62) dX0_work_54 (by decide) (by omega) (fun c_54 => ?_) (fun c_54 => ?_)
        · refine r_aload_n (pc := 62) 4 dX0_work_62 rfl rfl ?_
          refine r_getR (pc := 63) (b := (a + 1)) dX0_work_63 fl_X0_13 rfl hA.k hA.r0 ?_
          refine r_iload (pc := 66) 0 dX0_work_66 rfl ?_
          refine r_bipush (pc := 68) dX0_work_68 (by decide) ?_
          refine r_iand (pc := 70) (w := ((w : Nat) : Int)) dX0_work_70  ((iI_and w 7).trans (by rw [and7 (by omega)])) ?_
          refine r_ialdv (pc := 71) (w := e w) dX0_work_71 hA.a0 (by omega) (by decide) (hwd w (by omega)) ?_
          refine r_iastv (pc := 72) (i := top) dX0_work_72 hA.a1 (by omega) (by decide) rfl ?_
          refine r_iincv (pc := 73) (y := ((top + 1 : Nat) : Int)) (L2 := [(4, (.int (iI (((top + 1 : Nat) : Int))))), (7, (.int (iI (((w : Nat) : Int))))), (6, (.int (iI (((kk : Nat) : Int))))), (5, (.int (iI (((at_ : Nat) : Int))))), (0, (.ref a)), (1, (.ref s0)), (2, (.int (iI (((fr : Nat) : Int))))), (3, (.int (iI (((to_ : Nat) : Int)))))]) 3 dX0_work_73 rfl (by omega) (by decide) rfl ?_
          refine r_goto (pc := 76) (tgt := 241) dX0_work_76 (by decide) ?_
          refine r_iincv (pc := 241) (y := ((at_ + 1 : Nat) : Int)) (L2 := [(5, (.int (iI (((at_ + 1 : Nat) : Int))))), (4, (.int (iI (((top + 1 : Nat) : Int))))), (7, (.int (iI (((w : Nat) : Int))))), (6, (.int (iI (((kk : Nat) : Int))))), (0, (.ref a)), (1, (.ref s0)), (2, (.int (iI (((fr : Nat) : Int))))), (3, (.int (iI (((to_ : Nat) : Int)))))]) 3 dX0_work_241 rfl (by omega) (by decide) rfl ?_
          refine r_goto (pc := 244) (tgt := 6) dX0_work_244 (by decide) ?_
          refine r_sub (L2 := [(5, (.int (iI (((at_ + 1 : Nat) : Int))))), (4, (.int (iI (((top + 1 : Nat) : Int))))), (0, (.ref a)), (1, (.ref s0)), (2, (.int (iI (((fr : Nat) : Int))))), (3, (.int (iI (((to_ : Nat) : Int)))))]) [0, 1, 4, 5, 6, 7] rfl ?_
          exact h1 () (by omega)
        · refine r_iload (pc := 57) 0 dX0_work_57 rfl ?_
          refine r_goto (pc := 59) (tgt := 72) dX0_work_59 (by decide) ?_
          refine r_iastv (pc := 72) (i := top) dX0_work_72 hA.a1 (by omega) (by decide) rfl ?_
          refine r_iincv (pc := 73) (y := ((top + 1 : Nat) : Int)) (L2 := [(4, (.int (iI (((top + 1 : Nat) : Int))))), (7, (.int (iI (((w : Nat) : Int))))), (6, (.int (iI (((kk : Nat) : Int))))), (5, (.int (iI (((at_ : Nat) : Int))))), (0, (.ref a)), (1, (.ref s0)), (2, (.int (iI (((fr : Nat) : Int))))), (3, (.int (iI (((to_ : Nat) : Int)))))]) 3 dX0_work_73 rfl (by omega) (by decide) rfl ?_
          refine r_goto (pc := 76) (tgt := 241) dX0_work_76 (by decide) ?_
          refine r_iincv (pc := 241) (y := ((at_ + 1 : Nat) : Int)) (L2 := [(5, (.int (iI (((at_ + 1 : Nat) : Int))))), (4, (.int (iI (((top + 1 : Nat) : Int))))), (7, (.int (iI (((w : Nat) : Int))))), (6, (.int (iI (((kk : Nat) : Int))))), (0, (.ref a)), (1, (.ref s0)), (2, (.int (iI (((fr : Nat) : Int))))), (3, (.int (iI (((to_ : Nat) : Int)))))]) 3 dX0_work_241 rfl (by omega) (by decide) rfl ?_
          refine r_goto (pc := 244) (tgt := 6) dX0_work_244 (by decide) ?_
          refine r_sub (L2 := [(5, (.int (iI (((at_ + 1 : Nat) : Int))))), (4, (.int (iI (((top + 1 : Nat) : Int))))), (0, (.ref a)), (1, (.ref s0)), (2, (.int (iI (((fr : Nat) : Int))))), (3, (.int (iI (((to_ : Nat) : Int)))))]) [0, 1, 4, 5, 6, 7] rfl ?_
          exact h0 () (by omega)
      · exfalso; omega

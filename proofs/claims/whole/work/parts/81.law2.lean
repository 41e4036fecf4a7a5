/-- a call of the class and the same of the model: alike answers, and the bond between them holds again -/
def OpOK (l : Launch) (z : Zv) (Inv : Gm → Fm → Prop) (kx km : PMd) (As : List Value) : Prop := ∀ g f, Inv g f → PM l z 300 kx (.ref 64 :: As) g f 3 600 (fun r g1 f1 => ∃ x : Int, (-2147483648 ≤ x ∧ x ≤ 2147483647) ∧ r = some (.int (iI x)) ∧ isK g1 164 10 ∧ PM l z 300 km (.ref 164 :: As) g1 f1 0 0 (fun r' g2 f2 => r' = r ∧ Inv g2 f2))
def OpOKL (l : Launch) (z : Zv) (Inv : Gm → Fm → Prop) (kx km : PMd) (As : List Value) : Prop := ∀ g f, Inv g f → PM l z 300 kx (.ref 64 :: As) g f 3 600 (fun r g1 f1 => ∃ x : Int, r = some (.long (lI x)) ∧ isK g1 164 10 ∧ PM l z 300 km (.ref 164 :: As) g1 f1 0 0 (fun r' g2 f2 => r' = r ∧ Inv g2 f2))
def inR (x : Int) : Prop := -2147483648 ≤ x ∧ x ≤ 2147483647
theorem and63 (x : Int) : ∃ w : Nat, w < 64 ∧ iI x &&& iI 63 = iI (w : Int) := by
  obtain ⟨j, hj, e⟩ := pk_andE (iI x) (m := iI 63) 6 (by decide)
  exact ⟨j, by omega, by rw [e, iI_nat]⟩
theorem lcmp_self (x : Int64) : lg_cmp x x = iI 0 := by unfold lg_cmp; simp; rfl

def Ops (l : Launch) (z : Zv) (Inv : Gm → Fm → Prop) : Prop :=
  (∀ g f, Inv g f → isK g 64 9) ∧
  (∀ a0 a1 a2 : Int, inR a0 → inR a1 → inR a2 → OpOK l z Inv mX10_customer mX11_customer [.int (iI a0), .int (iI a1), .int (iI a2)]) ∧
  (∀ a0 a1 a2 : Int, inR a0 → inR a1 → inR a2 → OpOK l z Inv mX10_put mX11_put [.int (iI a0), .int (iI a1), .int (iI a2)]) ∧
  (∀ a0 a1 : Int, inR a0 → inR a1 → OpOK l z Inv mX10_of mX11_of [.int (iI a0), .int (iI a1)]) ∧
  (∀ a0 : Int, inR a0 → OpOK l z Inv mX10_owed mX11_owed [.int (iI a0)]) ∧
  (∀ a0 a1 : Int, inR a0 → inR a1 → OpOK l z Inv mX10_terms mX11_terms [.int (iI a0), .int (iI a1)]) ∧
  (∀ a0 a1 a2 a3 a4 : Int, inR a0 → inR a1 → inR a2 → inR a3 → inR a4 → OpOK l z Inv mX10_feed mX11_feed [.int (iI a0), .int (iI a1), .int (iI a2), .int (iI a3), .int (iI a4)]) ∧
  (∀ a0 : Int, inR a0 → OpOK l z Inv mX10_end mX11_end [.int (iI a0)]) ∧
  (OpOK l z Inv mX10_row mX11_row []) ∧
  (OpOK l z Inv mX10_crumbs mX11_crumbs []) ∧
  (OpOK l z Inv mX10_law mX11_law []) ∧
  (OpOK l z Inv mX10_fault mX11_fault []) ∧
  (∀ a0 : Int, inR a0 → OpOK l z Inv mX10_force mX11_force [.int (iI a0)]) ∧
  (∀ a0 a1 : Int, inR a0 → inR a1 → OpOK l z Inv mX10_waits mX11_waits [.int (iI a0), .int (iI a1)]) ∧
  (∀ a0 a1 : Int, inR a0 → inR a1 → OpOK l z Inv mX10_blessed mX11_blessed [.int (iI a0), .int (iI a1)]) ∧
  (∀ a0 a1 : Int, inR a0 → inR a1 → OpOK l z Inv mX10_served mX11_served [.int (iI a0), .int (iI a1)]) ∧
  (OpOK l z Inv mX10_orders mX11_orders []) ∧
  (∀ a0 : Int, inR a0 → OpOK l z Inv mX10_best mX11_best [.int (iI a0)]) ∧
  (∀ a0 : Int, inR a0 → OpOK l z Inv mX10_fairest mX11_fairest [.int (iI a0)]) ∧
  (∀ a0 : Int, inR a0 → OpOK l z Inv mX10_year mX11_year [.int (iI a0)]) ∧
  (∀ a0 a1 : Int, inR a0 → inR a1 → OpOK l z Inv mX10_chances mX11_chances [.int (iI a0), .int (iI a1)]) ∧
  (∀ a0 a1 : Int, inR a0 → inR a1 → OpOKL l z Inv mX10_never mX11_never [.int (iI a0), .int (iI a1)]) ∧
  (∀ a0 a1 : Int, inR a0 → inR a1 → OpOK l z Inv mX10_sight mX11_sight [.int (iI a0), .int (iI a1)]) ∧
  (∀ a0 a1 : Int, inR a0 → inR a1 → OpOK l z Inv mX10_counts mX11_counts [.int (iI a0), .int (iI a1)]) ∧
  (∀ a0 a1 : Int, inR a0 → inR a1 → OpOK l z Inv mX10_claim mX11_claim [.int (iI a0), .int (iI a1)]) ∧
  (∀ a0 : Int, inR a0 → OpOK l z Inv mX10_wrong mX11_wrong [.int (iI a0)]) ∧
  (OpOK l z Inv mX10_forget mX11_forget []) ∧
  (∀ a0 : Int, inR a0 → OpOK l z Inv mX10_bake mX11_bake [.int (iI a0)]) ∧
  (∀ a0 a1 : Int, inR a0 → inR a1 → OpOK l z Inv mX10_queues mX11_queues [.int (iI a0), .int (iI a1)]) ∧
  (∀ a0 a1 : Int, inR a0 → inR a1 → OpOK l z Inv mX10_drawn mX11_drawn [.int (iI a0), .int (iI a1)]) ∧
  (∀ a0 : Int, inR a0 → OpOK l z Inv mX10_image mX11_image [.int (iI a0)]) ∧
  (∀ a0 : Int, inR a0 → OpOK l z Inv mX10_back mX11_back [.int (iI a0)]) ∧
  (∀ a0 : Int, inR a0 → OpOK l z Inv mX10_count mX11_count [.int (iI a0)]) ∧
  (OpOK l z Inv mX10_status mX11_status [])
set_option maxRecDepth 100000 in
set_option maxHeartbeats 4000000 in
theorem law_loop (l : Launch) (z : Zv) (b N : Nat) (X : Nat → Int) (hX : ∀ j, inR (X j)) (hN : N ≤ 3072) (Inv : Gm → Fm → Prop) (hO : Ops l z Inv) : ∀ m t : Nat, m = N + 1 - 6 * t → 6 * t ≤ N → ∀ g f, Inv g f → LW l z b N X 18 [(3, (.int (iI (((6 * t : Nat) : Int))))), (2, (.ref 164)), (1, (.ref 64)), (0, (.ref 62))] [] g f (3 * (513 - t)) (600 * (513 - t)) := by
  intro m
  induction m using Nat.strongRecOn with
  | _ m ih =>
    intro t hm ht g f hI
    refine w_iload_n (pc := 18) 0 dL_law_18 rfl rfl ?_
    refine w_aload_n (pc := 19) 3 dL_law_19 rfl rfl ?_
    refine w_slen (pc := 20) dL_law_20 ?_
    refine w_bipush (pc := 21) dL_law_21 (by decide) ?_
    refine w_isub (pc := 23) dL_law_23 ?_
    refine w_icmp_gt (pc := 24) (tgt := 1076) dL_law_24 (by decide) (by omega) (by omega) (fun c_24 => ?_) (fun c_24 => ?_)
    · refine w_iconst (pc := 1076) dL_law_1076 ?_
      exact w_ret1 (pc := 1077) dL_law_1077
    · refine w_aload_n (pc := 27) 3 dL_law_27 rfl rfl ?_
      refine w_iload_n (pc := 28) 0 dL_law_28 rfl rfl ?_
      refine w_sld (pc := 29) dL_law_29 (by omega) hN ?_
      refine w_bipush (pc := 30) dL_law_30 (by decide) ?_
      obtain ⟨w, hw, ew⟩ := and63 (X ((6 * t : Nat) : Int).toNat)
      refine w_iand (pc := 32) (w := ((w : Nat) : Int)) dL_law_32  (ew) ?_
      rcases (show ((w : Nat) : Int) < 0 ∨ 32 < ((w : Nat) : Int) ∨ ((w : Nat) : Int) = 0 ∨ ((w : Nat) : Int) = 1 ∨ ((w : Nat) : Int) = 2 ∨ ((w : Nat) : Int) = 3 ∨ ((w : Nat) : Int) = 4 ∨ ((w : Nat) : Int) = 5 ∨ ((w : Nat) : Int) = 6 ∨ ((w : Nat) : Int) = 7 ∨ ((w : Nat) : Int) = 8 ∨ ((w : Nat) : Int) = 9 ∨ ((w : Nat) : Int) = 10 ∨ ((w : Nat) : Int) = 11 ∨ ((w : Nat) : Int) = 12 ∨ ((w : Nat) : Int) = 13 ∨ ((w : Nat) : Int) = 14 ∨ ((w : Nat) : Int) = 15 ∨ ((w : Nat) : Int) = 16 ∨ ((w : Nat) : Int) = 17 ∨ ((w : Nat) : Int) = 18 ∨ ((w : Nat) : Int) = 19 ∨ ((w : Nat) : Int) = 20 ∨ ((w : Nat) : Int) = 21 ∨ ((w : Nat) : Int) = 22 ∨ ((w : Nat) : Int) = 23 ∨ ((w : Nat) : Int) = 24 ∨ ((w : Nat) : Int) = 25 ∨ ((w : Nat) : Int) = 26 ∨ ((w : Nat) : Int) = 27 ∨ ((w : Nat) : Int) = 28 ∨ ((w : Nat) : Int) = 29 ∨ ((w : Nat) : Int) = 30 ∨ ((w : Nat) : Int) = 31 ∨ ((w : Nat) : Int) = 32 by omega) with c_33 | c_33 | c_33 | c_33 | c_33 | c_33 | c_33 | c_33 | c_33 | c_33 | c_33 | c_33 | c_33 | c_33 | c_33 | c_33 | c_33 | c_33 | c_33 | c_33 | c_33 | c_33 | c_33 | c_33 | c_33 | c_33 | c_33 | c_33 | c_33 | c_33 | c_33 | c_33 | c_33 | c_33 | c_33
      · refine w_tswD (pc := 33) (tgt := 1070) dL_law_33 (by omega) (by omega) (by decide) ?_
        refine w_iincv (pc := 1070) (y := ((6 * (t + 1) : Nat) : Int)) (L2 := [(3, (.int (iI (((6 * (t + 1) : Nat) : Int))))), (2, (.ref 164)), (1, (.ref 64)), (0, (.ref 62))]) 0 dL_law_1070 rfl (by omega) (by decide) rfl ?_
        refine w_goto (pc := 1073) (tgt := 18) dL_law_1073 (by decide) ?_
        refine w_sub (L2 := [(3, (.int (iI (((6 * (t + 1) : Nat) : Int))))), (2, (.ref 164)), (1, (.ref 64)), (0, (.ref 62))]) [0, 1, 2, 3] rfl ?_
        exact w_room (by omega) (by omega) (ih (N + 1 - (6 * (t + 1))) (by omega) (t + 1) rfl (by omega) _ _ ‹_›)
      · refine w_tswD (pc := 33) (tgt := 1070) dL_law_33 (by omega) (by omega) (by decide) ?_
        refine w_iincv (pc := 1070) (y := ((6 * (t + 1) : Nat) : Int)) (L2 := [(3, (.int (iI (((6 * (t + 1) : Nat) : Int))))), (2, (.ref 164)), (1, (.ref 64)), (0, (.ref 62))]) 0 dL_law_1070 rfl (by omega) (by decide) rfl ?_
        refine w_goto (pc := 1073) (tgt := 18) dL_law_1073 (by decide) ?_
        refine w_sub (L2 := [(3, (.int (iI (((6 * (t + 1) : Nat) : Int))))), (2, (.ref 164)), (1, (.ref 64)), (0, (.ref 62))]) [0, 1, 2, 3] rfl ?_
        exact w_room (by omega) (by omega) (ih (N + 1 - (6 * (t + 1))) (by omega) (t + 1) rfl (by omega) _ _ ‹_›)
      · refine w_tsw (pc := 33) (off := 147) (tgt := 180) dL_law_33 (by omega) (by omega) (by omega) (by rw [c_33]; rfl) (by decide) ?_
        refine w_aload_n (pc := 180) 2 dL_law_180 rfl rfl ?_
        refine w_aload_n (pc := 181) 3 dL_law_181 rfl rfl ?_
        refine w_iload_n (pc := 182) 0 dL_law_182 rfl rfl ?_
        refine w_iconst (pc := 183) dL_law_183 ?_
        refine w_iadd (pc := 184) dL_law_184 ?_
        refine w_sld (pc := 185) dL_law_185 (by omega) hN ?_
        refine w_aload_n (pc := 186) 3 dL_law_186 rfl rfl ?_
        refine w_iload_n (pc := 187) 0 dL_law_187 rfl rfl ?_
        refine w_iconst (pc := 188) dL_law_188 ?_
        refine w_iadd (pc := 189) dL_law_189 ?_
        refine w_sld (pc := 190) dL_law_190 (by omega) hN ?_
        refine w_aload_n (pc := 191) 3 dL_law_191 rfl rfl ?_
        refine w_iload_n (pc := 192) 0 dL_law_192 rfl rfl ?_
        refine w_iconst (pc := 193) dL_law_193 ?_
        refine w_iadd (pc := 194) dL_law_194 ?_
        refine w_sld (pc := 195) dL_law_195 (by omega) hN ?_
        refine w_callV (pc := 196) (As := [(.int (iI (X ((((6 * t : Nat) : Int)) + (1)).toNat))), (.int (iI (X ((((6 * t : Nat) : Int)) + (2)).toNat))), (.int (iI (X ((((6 * t : Nat) : Int)) + (3)).toNat)))]) (S := []) dL_law_196 cv_L_13 (hO.1 _ _ hI) rfl (Nat.le_of_ble_eq_true rfl) (by decide) (hO.2.1 (X ((((6 * t : Nat) : Int)) + (1)).toNat) (X ((((6 * t : Nat) : Int)) + (2)).toNat) (X ((((6 * t : Nat) : Int)) + (3)).toNat) (hX _) (hX _) (hX _) _ _ hI) (by omega) (by omega) (fun r_196 g_196 f_196 q_196 => ?_)
        obtain ⟨x_r, hr_r, rfl, hk_r, hm_r⟩ := q_196
        refine w_aload_n (pc := 199) 1 dL_law_199 rfl rfl ?_
        refine w_aload_n (pc := 200) 3 dL_law_200 rfl rfl ?_
        refine w_iload_n (pc := 201) 0 dL_law_201 rfl rfl ?_
        refine w_iconst (pc := 202) dL_law_202 ?_
        refine w_iadd (pc := 203) dL_law_203 ?_
        refine w_sld (pc := 204) dL_law_204 (by omega) hN ?_
        refine w_aload_n (pc := 205) 3 dL_law_205 rfl rfl ?_
        refine w_iload_n (pc := 206) 0 dL_law_206 rfl rfl ?_
        refine w_iconst (pc := 207) dL_law_207 ?_
        refine w_iadd (pc := 208) dL_law_208 ?_
        refine w_sld (pc := 209) dL_law_209 (by omega) hN ?_
        refine w_aload_n (pc := 210) 3 dL_law_210 rfl rfl ?_
        refine w_iload_n (pc := 211) 0 dL_law_211 rfl rfl ?_
        refine w_iconst (pc := 212) dL_law_212 ?_
        refine w_iadd (pc := 213) dL_law_213 ?_
        refine w_sld (pc := 214) dL_law_214 (by omega) hN ?_
        refine w_callV (pc := 215) (As := [(.int (iI (X ((((6 * t : Nat) : Int)) + (1)).toNat))), (.int (iI (X ((((6 * t : Nat) : Int)) + (2)).toNat))), (.int (iI (X ((((6 * t : Nat) : Int)) + (3)).toNat)))]) (S := [(.int (iI (x_r)))]) dL_law_215 cv_L_17 hk_r rfl (Nat.le_of_ble_eq_true rfl) (by decide) (hm_r) (Nat.zero_le _) (Nat.zero_le _) (fun r_215 g_215 f_215 q_215 => ?_)
        obtain ⟨rfl, hI2⟩ := q_215
        refine w_icmp_eq (pc := 218) (tgt := 1070) dL_law_218 (by decide) (hr_r) (hr_r) (fun c_218 => ?_) (fun c_218 => ?_)
        · refine w_iincv (pc := 1070) (y := ((6 * (t + 1) : Nat) : Int)) (L2 := [(3, (.int (iI (((6 * (t + 1) : Nat) : Int))))), (2, (.ref 164)), (1, (.ref 64)), (0, (.ref 62))]) 0 dL_law_1070 rfl (by omega) (by decide) rfl ?_
          refine w_goto (pc := 1073) (tgt := 18) dL_law_1073 (by decide) ?_
          refine w_sub (L2 := [(3, (.int (iI (((6 * (t + 1) : Nat) : Int))))), (2, (.ref 164)), (1, (.ref 64)), (0, (.ref 62))]) [0, 1, 2, 3] rfl ?_
          exact w_room (by omega) (by omega) (ih (N + 1 - (6 * (t + 1))) (by omega) (t + 1) rfl (by omega) _ _ ‹_›)
        · exact absurd rfl c_218
      · refine w_tsw (pc := 33) (off := 190) (tgt := 223) dL_law_33 (by omega) (by omega) (by omega) (by rw [c_33]; rfl) (by decide) ?_
        refine w_aload_n (pc := 223) 2 dL_law_223 rfl rfl ?_
        refine w_aload_n (pc := 224) 3 dL_law_224 rfl rfl ?_
        refine w_iload_n (pc := 225) 0 dL_law_225 rfl rfl ?_
        refine w_iconst (pc := 226) dL_law_226 ?_
        refine w_iadd (pc := 227) dL_law_227 ?_
        refine w_sld (pc := 228) dL_law_228 (by omega) hN ?_
        refine w_aload_n (pc := 229) 3 dL_law_229 rfl rfl ?_
        refine w_iload_n (pc := 230) 0 dL_law_230 rfl rfl ?_
        refine w_iconst (pc := 231) dL_law_231 ?_
        refine w_iadd (pc := 232) dL_law_232 ?_
        refine w_sld (pc := 233) dL_law_233 (by omega) hN ?_
        refine w_aload_n (pc := 234) 3 dL_law_234 rfl rfl ?_
        refine w_iload_n (pc := 235) 0 dL_law_235 rfl rfl ?_
        refine w_iconst (pc := 236) dL_law_236 ?_
        refine w_iadd (pc := 237) dL_law_237 ?_
        refine w_sld (pc := 238) dL_law_238 (by omega) hN ?_
        refine w_callV (pc := 239) (As := [(.int (iI (X ((((6 * t : Nat) : Int)) + (1)).toNat))), (.int (iI (X ((((6 * t : Nat) : Int)) + (2)).toNat))), (.int (iI (X ((((6 * t : Nat) : Int)) + (3)).toNat)))]) (S := []) dL_law_239 cv_L_18 (hO.1 _ _ hI) rfl (Nat.le_of_ble_eq_true rfl) (by decide) (hO.2.2.1 (X ((((6 * t : Nat) : Int)) + (1)).toNat) (X ((((6 * t : Nat) : Int)) + (2)).toNat) (X ((((6 * t : Nat) : Int)) + (3)).toNat) (hX _) (hX _) (hX _) _ _ hI) (by omega) (by omega) (fun r_239 g_239 f_239 q_239 => ?_)
        obtain ⟨x_r, hr_r, rfl, hk_r, hm_r⟩ := q_239
        refine w_aload_n (pc := 242) 1 dL_law_242 rfl rfl ?_
        refine w_aload_n (pc := 243) 3 dL_law_243 rfl rfl ?_
        refine w_iload_n (pc := 244) 0 dL_law_244 rfl rfl ?_
        refine w_iconst (pc := 245) dL_law_245 ?_
        refine w_iadd (pc := 246) dL_law_246 ?_
        refine w_sld (pc := 247) dL_law_247 (by omega) hN ?_
        refine w_aload_n (pc := 248) 3 dL_law_248 rfl rfl ?_
        refine w_iload_n (pc := 249) 0 dL_law_249 rfl rfl ?_
        refine w_iconst (pc := 250) dL_law_250 ?_
        refine w_iadd (pc := 251) dL_law_251 ?_
        refine w_sld (pc := 252) dL_law_252 (by omega) hN ?_
        refine w_aload_n (pc := 253) 3 dL_law_253 rfl rfl ?_
        refine w_iload_n (pc := 254) 0 dL_law_254 rfl rfl ?_
        refine w_iconst (pc := 255) dL_law_255 ?_
        refine w_iadd (pc := 256) dL_law_256 ?_
        refine w_sld (pc := 257) dL_law_257 (by omega) hN ?_
        refine w_callV (pc := 258) (As := [(.int (iI (X ((((6 * t : Nat) : Int)) + (1)).toNat))), (.int (iI (X ((((6 * t : Nat) : Int)) + (2)).toNat))), (.int (iI (X ((((6 * t : Nat) : Int)) + (3)).toNat)))]) (S := [(.int (iI (x_r)))]) dL_law_258 cv_L_21 hk_r rfl (Nat.le_of_ble_eq_true rfl) (by decide) (hm_r) (Nat.zero_le _) (Nat.zero_le _) (fun r_258 g_258 f_258 q_258 => ?_)
        obtain ⟨rfl, hI2⟩ := q_258
        refine w_icmp_eq (pc := 261) (tgt := 1070) dL_law_261 (by decide) (hr_r) (hr_r) (fun c_261 => ?_) (fun c_261 => ?_)
        · refine w_iincv (pc := 1070) (y := ((6 * (t + 1) : Nat) : Int)) (L2 := [(3, (.int (iI (((6 * (t + 1) : Nat) : Int))))), (2, (.ref 164)), (1, (.ref 64)), (0, (.ref 62))]) 0 dL_law_1070 rfl (by omega) (by decide) rfl ?_
          refine w_goto (pc := 1073) (tgt := 18) dL_law_1073 (by decide) ?_
          refine w_sub (L2 := [(3, (.int (iI (((6 * (t + 1) : Nat) : Int))))), (2, (.ref 164)), (1, (.ref 64)), (0, (.ref 62))]) [0, 1, 2, 3] rfl ?_
          exact w_room (by omega) (by omega) (ih (N + 1 - (6 * (t + 1))) (by omega) (t + 1) rfl (by omega) _ _ ‹_›)
        · exact absurd rfl c_261
      · refine w_tsw (pc := 33) (off := 233) (tgt := 266) dL_law_33 (by omega) (by omega) (by omega) (by rw [c_33]; rfl) (by decide) ?_
        refine w_aload_n (pc := 266) 2 dL_law_266 rfl rfl ?_
        refine w_aload_n (pc := 267) 3 dL_law_267 rfl rfl ?_
        refine w_iload_n (pc := 268) 0 dL_law_268 rfl rfl ?_
        refine w_iconst (pc := 269) dL_law_269 ?_
        refine w_iadd (pc := 270) dL_law_270 ?_
        refine w_sld (pc := 271) dL_law_271 (by omega) hN ?_
        refine w_aload_n (pc := 272) 3 dL_law_272 rfl rfl ?_
        refine w_iload_n (pc := 273) 0 dL_law_273 rfl rfl ?_
        refine w_iconst (pc := 274) dL_law_274 ?_
        refine w_iadd (pc := 275) dL_law_275 ?_
        refine w_sld (pc := 276) dL_law_276 (by omega) hN ?_
        refine w_callV (pc := 277) (As := [(.int (iI (X ((((6 * t : Nat) : Int)) + (1)).toNat))), (.int (iI (X ((((6 * t : Nat) : Int)) + (2)).toNat)))]) (S := []) dL_law_277 cv_L_22 (hO.1 _ _ hI) rfl (Nat.le_of_ble_eq_true rfl) (by decide) (hO.2.2.2.1 (X ((((6 * t : Nat) : Int)) + (1)).toNat) (X ((((6 * t : Nat) : Int)) + (2)).toNat) (hX _) (hX _) _ _ hI) (by omega) (by omega) (fun r_277 g_277 f_277 q_277 => ?_)
        obtain ⟨x_r, hr_r, rfl, hk_r, hm_r⟩ := q_277
        refine w_aload_n (pc := 280) 1 dL_law_280 rfl rfl ?_
        refine w_aload_n (pc := 281) 3 dL_law_281 rfl rfl ?_
        refine w_iload_n (pc := 282) 0 dL_law_282 rfl rfl ?_
        refine w_iconst (pc := 283) dL_law_283 ?_
        refine w_iadd (pc := 284) dL_law_284 ?_
        refine w_sld (pc := 285) dL_law_285 (by omega) hN ?_
        refine w_aload_n (pc := 286) 3 dL_law_286 rfl rfl ?_
        refine w_iload_n (pc := 287) 0 dL_law_287 rfl rfl ?_
        refine w_iconst (pc := 288) dL_law_288 ?_
        refine w_iadd (pc := 289) dL_law_289 ?_
        refine w_sld (pc := 290) dL_law_290 (by omega) hN ?_
        refine w_callV (pc := 291) (As := [(.int (iI (X ((((6 * t : Nat) : Int)) + (1)).toNat))), (.int (iI (X ((((6 * t : Nat) : Int)) + (2)).toNat)))]) (S := [(.int (iI (x_r)))]) dL_law_291 cv_L_26 hk_r rfl (Nat.le_of_ble_eq_true rfl) (by decide) (hm_r) (Nat.zero_le _) (Nat.zero_le _) (fun r_291 g_291 f_291 q_291 => ?_)
        obtain ⟨rfl, hI2⟩ := q_291
        refine w_icmp_eq (pc := 294) (tgt := 1070) dL_law_294 (by decide) (hr_r) (hr_r) (fun c_294 => ?_) (fun c_294 => ?_)
        · refine w_iincv (pc := 1070) (y := ((6 * (t + 1) : Nat) : Int)) (L2 := [(3, (.int (iI (((6 * (t + 1) : Nat) : Int))))), (2, (.ref 164)), (1, (.ref 64)), (0, (.ref 62))]) 0 dL_law_1070 rfl (by omega) (by decide) rfl ?_
          refine w_goto (pc := 1073) (tgt := 18) dL_law_1073 (by decide) ?_
          refine w_sub (L2 := [(3, (.int (iI (((6 * (t + 1) : Nat) : Int))))), (2, (.ref 164)), (1, (.ref 64)), (0, (.ref 62))]) [0, 1, 2, 3] rfl ?_
          exact w_room (by omega) (by omega) (ih (N + 1 - (6 * (t + 1))) (by omega) (t + 1) rfl (by omega) _ _ ‹_›)
        · exact absurd rfl c_294
      · refine w_tsw (pc := 33) (off := 266) (tgt := 299) dL_law_33 (by omega) (by omega) (by omega) (by rw [c_33]; rfl) (by decide) ?_
        refine w_aload_n (pc := 299) 2 dL_law_299 rfl rfl ?_
        refine w_aload_n (pc := 300) 3 dL_law_300 rfl rfl ?_
        refine w_iload_n (pc := 301) 0 dL_law_301 rfl rfl ?_
        refine w_iconst (pc := 302) dL_law_302 ?_
        refine w_iadd (pc := 303) dL_law_303 ?_
        refine w_sld (pc := 304) dL_law_304 (by omega) hN ?_
        refine w_callV (pc := 305) (As := [(.int (iI (X ((((6 * t : Nat) : Int)) + (1)).toNat)))]) (S := []) dL_law_305 cv_L_27 (hO.1 _ _ hI) rfl (Nat.le_of_ble_eq_true rfl) (by decide) (hO.2.2.2.2.1 (X ((((6 * t : Nat) : Int)) + (1)).toNat) (hX _) _ _ hI) (by omega) (by omega) (fun r_305 g_305 f_305 q_305 => ?_)
        obtain ⟨x_r, hr_r, rfl, hk_r, hm_r⟩ := q_305
        refine w_aload_n (pc := 308) 1 dL_law_308 rfl rfl ?_
        refine w_aload_n (pc := 309) 3 dL_law_309 rfl rfl ?_
        refine w_iload_n (pc := 310) 0 dL_law_310 rfl rfl ?_
        refine w_iconst (pc := 311) dL_law_311 ?_
        refine w_iadd (pc := 312) dL_law_312 ?_
        refine w_sld (pc := 313) dL_law_313 (by omega) hN ?_
        refine w_callV (pc := 314) (As := [(.int (iI (X ((((6 * t : Nat) : Int)) + (1)).toNat)))]) (S := [(.int (iI (x_r)))]) dL_law_314 cv_L_31 hk_r rfl (Nat.le_of_ble_eq_true rfl) (by decide) (hm_r) (Nat.zero_le _) (Nat.zero_le _) (fun r_314 g_314 f_314 q_314 => ?_)
        obtain ⟨rfl, hI2⟩ := q_314
        refine w_icmp_eq (pc := 317) (tgt := 1070) dL_law_317 (by decide) (hr_r) (hr_r) (fun c_317 => ?_) (fun c_317 => ?_)
        · refine w_iincv (pc := 1070) (y := ((6 * (t + 1) : Nat) : Int)) (L2 := [(3, (.int (iI (((6 * (t + 1) : Nat) : Int))))), (2, (.ref 164)), (1, (.ref 64)), (0, (.ref 62))]) 0 dL_law_1070 rfl (by omega) (by decide) rfl ?_
          refine w_goto (pc := 1073) (tgt := 18) dL_law_1073 (by decide) ?_
          refine w_sub (L2 := [(3, (.int (iI (((6 * (t + 1) : Nat) : Int))))), (2, (.ref 164)), (1, (.ref 64)), (0, (.ref 62))]) [0, 1, 2, 3] rfl ?_
          exact w_room (by omega) (by omega) (ih (N + 1 - (6 * (t + 1))) (by omega) (t + 1) rfl (by omega) _ _ ‹_›)
        · exact absurd rfl c_317
      · refine w_tsw (pc := 33) (off := 289) (tgt := 322) dL_law_33 (by omega) (by omega) (by omega) (by rw [c_33]; rfl) (by decide) ?_
        refine w_aload_n (pc := 322) 2 dL_law_322 rfl rfl ?_
        refine w_aload_n (pc := 323) 3 dL_law_323 rfl rfl ?_
        refine w_iload_n (pc := 324) 0 dL_law_324 rfl rfl ?_
        refine w_iconst (pc := 325) dL_law_325 ?_
        refine w_iadd (pc := 326) dL_law_326 ?_
        refine w_sld (pc := 327) dL_law_327 (by omega) hN ?_
        refine w_aload_n (pc := 328) 3 dL_law_328 rfl rfl ?_
        refine w_iload_n (pc := 329) 0 dL_law_329 rfl rfl ?_
        refine w_iconst (pc := 330) dL_law_330 ?_
        refine w_iadd (pc := 331) dL_law_331 ?_
        refine w_sld (pc := 332) dL_law_332 (by omega) hN ?_
        refine w_callV (pc := 333) (As := [(.int (iI (X ((((6 * t : Nat) : Int)) + (1)).toNat))), (.int (iI (X ((((6 * t : Nat) : Int)) + (2)).toNat)))]) (S := []) dL_law_333 cv_L_32 (hO.1 _ _ hI) rfl (Nat.le_of_ble_eq_true rfl) (by decide) (hO.2.2.2.2.2.1 (X ((((6 * t : Nat) : Int)) + (1)).toNat) (X ((((6 * t : Nat) : Int)) + (2)).toNat) (hX _) (hX _) _ _ hI) (by omega) (by omega) (fun r_333 g_333 f_333 q_333 => ?_)
        obtain ⟨x_r, hr_r, rfl, hk_r, hm_r⟩ := q_333
        refine w_aload_n (pc := 336) 1 dL_law_336 rfl rfl ?_
        refine w_aload_n (pc := 337) 3 dL_law_337 rfl rfl ?_
        refine w_iload_n (pc := 338) 0 dL_law_338 rfl rfl ?_
        refine w_iconst (pc := 339) dL_law_339 ?_
        refine w_iadd (pc := 340) dL_law_340 ?_
        refine w_sld (pc := 341) dL_law_341 (by omega) hN ?_
        refine w_aload_n (pc := 342) 3 dL_law_342 rfl rfl ?_
        refine w_iload_n (pc := 343) 0 dL_law_343 rfl rfl ?_
        refine w_iconst (pc := 344) dL_law_344 ?_
        refine w_iadd (pc := 345) dL_law_345 ?_
        refine w_sld (pc := 346) dL_law_346 (by omega) hN ?_
        refine w_callV (pc := 347) (As := [(.int (iI (X ((((6 * t : Nat) : Int)) + (1)).toNat))), (.int (iI (X ((((6 * t : Nat) : Int)) + (2)).toNat)))]) (S := [(.int (iI (x_r)))]) dL_law_347 cv_L_35 hk_r rfl (Nat.le_of_ble_eq_true rfl) (by decide) (hm_r) (Nat.zero_le _) (Nat.zero_le _) (fun r_347 g_347 f_347 q_347 => ?_)
        obtain ⟨rfl, hI2⟩ := q_347
        refine w_icmp_eq (pc := 350) (tgt := 1070) dL_law_350 (by decide) (hr_r) (hr_r) (fun c_350 => ?_) (fun c_350 => ?_)
        · refine w_iincv (pc := 1070) (y := ((6 * (t + 1) : Nat) : Int)) (L2 := [(3, (.int (iI (((6 * (t + 1) : Nat) : Int))))), (2, (.ref 164)), (1, (.ref 64)), (0, (.ref 62))]) 0 dL_law_1070 rfl (by omega) (by decide) rfl ?_
          refine w_goto (pc := 1073) (tgt := 18) dL_law_1073 (by decide) ?_
          refine w_sub (L2 := [(3, (.int (iI (((6 * (t + 1) : Nat) : Int))))), (2, (.ref 164)), (1, (.ref 64)), (0, (.ref 62))]) [0, 1, 2, 3] rfl ?_
          exact w_room (by omega) (by omega) (ih (N + 1 - (6 * (t + 1))) (by omega) (t + 1) rfl (by omega) _ _ ‹_›)
        · exact absurd rfl c_350
      · refine w_tsw (pc := 33) (off := 322) (tgt := 355) dL_law_33 (by omega) (by omega) (by omega) (by rw [c_33]; rfl) (by decide) ?_
        refine w_aload_n (pc := 355) 2 dL_law_355 rfl rfl ?_
        refine w_aload_n (pc := 356) 3 dL_law_356 rfl rfl ?_
        refine w_iload_n (pc := 357) 0 dL_law_357 rfl rfl ?_
        refine w_iconst (pc := 358) dL_law_358 ?_
        refine w_iadd (pc := 359) dL_law_359 ?_
        refine w_sld (pc := 360) dL_law_360 (by omega) hN ?_
        refine w_aload_n (pc := 361) 3 dL_law_361 rfl rfl ?_
        refine w_iload_n (pc := 362) 0 dL_law_362 rfl rfl ?_
        refine w_iconst (pc := 363) dL_law_363 ?_
        refine w_iadd (pc := 364) dL_law_364 ?_
        refine w_sld (pc := 365) dL_law_365 (by omega) hN ?_
        refine w_aload_n (pc := 366) 3 dL_law_366 rfl rfl ?_
        refine w_iload_n (pc := 367) 0 dL_law_367 rfl rfl ?_
        refine w_iconst (pc := 368) dL_law_368 ?_
        refine w_iadd (pc := 369) dL_law_369 ?_
        refine w_sld (pc := 370) dL_law_370 (by omega) hN ?_
        refine w_aload_n (pc := 371) 3 dL_law_371 rfl rfl ?_
        refine w_iload_n (pc := 372) 0 dL_law_372 rfl rfl ?_
        refine w_iconst (pc := 373) dL_law_373 ?_
        refine w_iadd (pc := 374) dL_law_374 ?_
        refine w_sld (pc := 375) dL_law_375 (by omega) hN ?_
        refine w_aload_n (pc := 376) 3 dL_law_376 rfl rfl ?_
        refine w_iload_n (pc := 377) 0 dL_law_377 rfl rfl ?_
        refine w_iconst (pc := 378) dL_law_378 ?_
        refine w_iadd (pc := 379) dL_law_379 ?_
        refine w_sld (pc := 380) dL_law_380 (by omega) hN ?_
        refine w_callV (pc := 381) (As := [(.int (iI (X ((((6 * t : Nat) : Int)) + (1)).toNat))), (.int (iI (X ((((6 * t : Nat) : Int)) + (2)).toNat))), (.int (iI (X ((((6 * t : Nat) : Int)) + (3)).toNat))), (.int (iI (X ((((6 * t : Nat) : Int)) + (4)).toNat))), (.int (iI (X ((((6 * t : Nat) : Int)) + (5)).toNat)))]) (S := []) dL_law_381 cv_L_36 (hO.1 _ _ hI) rfl (Nat.le_of_ble_eq_true rfl) (by decide) (hO.2.2.2.2.2.2.1 (X ((((6 * t : Nat) : Int)) + (1)).toNat) (X ((((6 * t : Nat) : Int)) + (2)).toNat) (X ((((6 * t : Nat) : Int)) + (3)).toNat) (X ((((6 * t : Nat) : Int)) + (4)).toNat) (X ((((6 * t : Nat) : Int)) + (5)).toNat) (hX _) (hX _) (hX _) (hX _) (hX _) _ _ hI) (by omega) (by omega) (fun r_381 g_381 f_381 q_381 => ?_)
        obtain ⟨x_r, hr_r, rfl, hk_r, hm_r⟩ := q_381
        refine w_aload_n (pc := 384) 1 dL_law_384 rfl rfl ?_
        refine w_aload_n (pc := 385) 3 dL_law_385 rfl rfl ?_
        refine w_iload_n (pc := 386) 0 dL_law_386 rfl rfl ?_
        refine w_iconst (pc := 387) dL_law_387 ?_
        refine w_iadd (pc := 388) dL_law_388 ?_
        refine w_sld (pc := 389) dL_law_389 (by omega) hN ?_
        refine w_aload_n (pc := 390) 3 dL_law_390 rfl rfl ?_
        refine w_iload_n (pc := 391) 0 dL_law_391 rfl rfl ?_
        refine w_iconst (pc := 392) dL_law_392 ?_
        refine w_iadd (pc := 393) dL_law_393 ?_
        refine w_sld (pc := 394) dL_law_394 (by omega) hN ?_
        refine w_aload_n (pc := 395) 3 dL_law_395 rfl rfl ?_
        refine w_iload_n (pc := 396) 0 dL_law_396 rfl rfl ?_
        refine w_iconst (pc := 397) dL_law_397 ?_
        refine w_iadd (pc := 398) dL_law_398 ?_
        refine w_sld (pc := 399) dL_law_399 (by omega) hN ?_
        refine w_aload_n (pc := 400) 3 dL_law_400 rfl rfl ?_
        refine w_iload_n (pc := 401) 0 dL_law_401 rfl rfl ?_
        refine w_iconst (pc := 402) dL_law_402 ?_
        refine w_iadd (pc := 403) dL_law_403 ?_
        refine w_sld (pc := 404) dL_law_404 (by omega) hN ?_
        refine w_aload_n (pc := 405) 3 dL_law_405 rfl rfl ?_
        refine w_iload_n (pc := 406) 0 dL_law_406 rfl rfl ?_
        refine w_iconst (pc := 407) dL_law_407 ?_
        refine w_iadd (pc := 408) dL_law_408 ?_
        refine w_sld (pc := 409) dL_law_409 (by omega) hN ?_
        refine w_callV (pc := 410) (As := [(.int (iI (X ((((6 * t : Nat) : Int)) + (1)).toNat))), (.int (iI (X ((((6 * t : Nat) : Int)) + (2)).toNat))), (.int (iI (X ((((6 * t : Nat) : Int)) + (3)).toNat))), (.int (iI (X ((((6 * t : Nat) : Int)) + (4)).toNat))), (.int (iI (X ((((6 * t : Nat) : Int)) + (5)).toNat)))]) (S := [(.int (iI (x_r)))]) dL_law_410 cv_L_40 hk_r rfl (Nat.le_of_ble_eq_true rfl) (by decide) (hm_r) (Nat.zero_le _) (Nat.zero_le _) (fun r_410 g_410 f_410 q_410 => ?_)
        obtain ⟨rfl, hI2⟩ := q_410
        refine w_icmp_eq (pc := 413) (tgt := 1070) dL_law_413 (by decide) (hr_r) (hr_r) (fun c_413 => ?_) (fun c_413 => ?_)
        · refine w_iincv (pc := 1070) (y := ((6 * (t + 1) : Nat) : Int)) (L2 := [(3, (.int (iI (((6 * (t + 1) : Nat) : Int))))), (2, (.ref 164)), (1, (.ref 64)), (0, (.ref 62))]) 0 dL_law_1070 rfl (by omega) (by decide) rfl ?_
          refine w_goto (pc := 1073) (tgt := 18) dL_law_1073 (by decide) ?_
          refine w_sub (L2 := [(3, (.int (iI (((6 * (t + 1) : Nat) : Int))))), (2, (.ref 164)), (1, (.ref 64)), (0, (.ref 62))]) [0, 1, 2, 3] rfl ?_
          exact w_room (by omega) (by omega) (ih (N + 1 - (6 * (t + 1))) (by omega) (t + 1) rfl (by omega) _ _ ‹_›)
        · exact absurd rfl c_413
      · refine w_tsw (pc := 33) (off := 385) (tgt := 418) dL_law_33 (by omega) (by omega) (by omega) (by rw [c_33]; rfl) (by decide) ?_
        refine w_aload_n (pc := 418) 2 dL_law_418 rfl rfl ?_
        refine w_aload_n (pc := 419) 3 dL_law_419 rfl rfl ?_
        refine w_iload_n (pc := 420) 0 dL_law_420 rfl rfl ?_
        refine w_iconst (pc := 421) dL_law_421 ?_
        refine w_iadd (pc := 422) dL_law_422 ?_
        refine w_sld (pc := 423) dL_law_423 (by omega) hN ?_
        refine w_callV (pc := 424) (As := [(.int (iI (X ((((6 * t : Nat) : Int)) + (1)).toNat)))]) (S := []) dL_law_424 cv_L_41 (hO.1 _ _ hI) rfl (Nat.le_of_ble_eq_true rfl) (by decide) (hO.2.2.2.2.2.2.2.1 (X ((((6 * t : Nat) : Int)) + (1)).toNat) (hX _) _ _ hI) (by omega) (by omega) (fun r_424 g_424 f_424 q_424 => ?_)
        obtain ⟨x_r, hr_r, rfl, hk_r, hm_r⟩ := q_424
        refine w_aload_n (pc := 427) 1 dL_law_427 rfl rfl ?_
        refine w_aload_n (pc := 428) 3 dL_law_428 rfl rfl ?_
        refine w_iload_n (pc := 429) 0 dL_law_429 rfl rfl ?_
        refine w_iconst (pc := 430) dL_law_430 ?_
        refine w_iadd (pc := 431) dL_law_431 ?_
        refine w_sld (pc := 432) dL_law_432 (by omega) hN ?_
        refine w_callV (pc := 433) (As := [(.int (iI (X ((((6 * t : Nat) : Int)) + (1)).toNat)))]) (S := [(.int (iI (x_r)))]) dL_law_433 cv_L_44 hk_r rfl (Nat.le_of_ble_eq_true rfl) (by decide) (hm_r) (Nat.zero_le _) (Nat.zero_le _) (fun r_433 g_433 f_433 q_433 => ?_)
        obtain ⟨rfl, hI2⟩ := q_433
        refine w_icmp_eq (pc := 436) (tgt := 1070) dL_law_436 (by decide) (hr_r) (hr_r) (fun c_436 => ?_) (fun c_436 => ?_)
        · refine w_iincv (pc := 1070) (y := ((6 * (t + 1) : Nat) : Int)) (L2 := [(3, (.int (iI (((6 * (t + 1) : Nat) : Int))))), (2, (.ref 164)), (1, (.ref 64)), (0, (.ref 62))]) 0 dL_law_1070 rfl (by omega) (by decide) rfl ?_
          refine w_goto (pc := 1073) (tgt := 18) dL_law_1073 (by decide) ?_
          refine w_sub (L2 := [(3, (.int (iI (((6 * (t + 1) : Nat) : Int))))), (2, (.ref 164)), (1, (.ref 64)), (0, (.ref 62))]) [0, 1, 2, 3] rfl ?_
          exact w_room (by omega) (by omega) (ih (N + 1 - (6 * (t + 1))) (by omega) (t + 1) rfl (by omega) _ _ ‹_›)
        · exact absurd rfl c_436
      · refine w_tsw (pc := 33) (off := 408) (tgt := 441) dL_law_33 (by omega) (by omega) (by omega) (by rw [c_33]; rfl) (by decide) ?_
        refine w_aload_n (pc := 441) 2 dL_law_441 rfl rfl ?_
        refine w_callV (pc := 442) (As := []) (S := []) dL_law_442 cv_L_45 (hO.1 _ _ hI) rfl (Nat.le_of_ble_eq_true rfl) (by decide) (hO.2.2.2.2.2.2.2.2.1   _ _ hI) (by omega) (by omega) (fun r_442 g_442 f_442 q_442 => ?_)
        obtain ⟨x_r, hr_r, rfl, hk_r, hm_r⟩ := q_442
        refine w_aload_n (pc := 445) 1 dL_law_445 rfl rfl ?_
        refine w_callV (pc := 446) (As := []) (S := [(.int (iI (x_r)))]) dL_law_446 cv_L_49 hk_r rfl (Nat.le_of_ble_eq_true rfl) (by decide) (hm_r) (Nat.zero_le _) (Nat.zero_le _) (fun r_446 g_446 f_446 q_446 => ?_)
        obtain ⟨rfl, hI2⟩ := q_446
        refine w_icmp_eq (pc := 449) (tgt := 1070) dL_law_449 (by decide) (hr_r) (hr_r) (fun c_449 => ?_) (fun c_449 => ?_)
        · refine w_iincv (pc := 1070) (y := ((6 * (t + 1) : Nat) : Int)) (L2 := [(3, (.int (iI (((6 * (t + 1) : Nat) : Int))))), (2, (.ref 164)), (1, (.ref 64)), (0, (.ref 62))]) 0 dL_law_1070 rfl (by omega) (by decide) rfl ?_
          refine w_goto (pc := 1073) (tgt := 18) dL_law_1073 (by decide) ?_
          refine w_sub (L2 := [(3, (.int (iI (((6 * (t + 1) : Nat) : Int))))), (2, (.ref 164)), (1, (.ref 64)), (0, (.ref 62))]) [0, 1, 2, 3] rfl ?_
          exact w_room (by omega) (by omega) (ih (N + 1 - (6 * (t + 1))) (by omega) (t + 1) rfl (by omega) _ _ ‹_›)
        · exact absurd rfl c_449
      · refine w_tsw (pc := 33) (off := 421) (tgt := 454) dL_law_33 (by omega) (by omega) (by omega) (by rw [c_33]; rfl) (by decide) ?_
        refine w_aload_n (pc := 454) 2 dL_law_454 rfl rfl ?_
        refine w_callV (pc := 455) (As := []) (S := []) dL_law_455 cv_L_50 (hO.1 _ _ hI) rfl (Nat.le_of_ble_eq_true rfl) (by decide) (hO.2.2.2.2.2.2.2.2.2.1   _ _ hI) (by omega) (by omega) (fun r_455 g_455 f_455 q_455 => ?_)
        obtain ⟨x_r, hr_r, rfl, hk_r, hm_r⟩ := q_455
        refine w_aload_n (pc := 458) 1 dL_law_458 rfl rfl ?_
        refine w_callV (pc := 459) (As := []) (S := [(.int (iI (x_r)))]) dL_law_459 cv_L_53 hk_r rfl (Nat.le_of_ble_eq_true rfl) (by decide) (hm_r) (Nat.zero_le _) (Nat.zero_le _) (fun r_459 g_459 f_459 q_459 => ?_)
        obtain ⟨rfl, hI2⟩ := q_459
        refine w_icmp_eq (pc := 462) (tgt := 1070) dL_law_462 (by decide) (hr_r) (hr_r) (fun c_462 => ?_) (fun c_462 => ?_)
        · refine w_iincv (pc := 1070) (y := ((6 * (t + 1) : Nat) : Int)) (L2 := [(3, (.int (iI (((6 * (t + 1) : Nat) : Int))))), (2, (.ref 164)), (1, (.ref 64)), (0, (.ref 62))]) 0 dL_law_1070 rfl (by omega) (by decide) rfl ?_
          refine w_goto (pc := 1073) (tgt := 18) dL_law_1073 (by decide) ?_
          refine w_sub (L2 := [(3, (.int (iI (((6 * (t + 1) : Nat) : Int))))), (2, (.ref 164)), (1, (.ref 64)), (0, (.ref 62))]) [0, 1, 2, 3] rfl ?_
          exact w_room (by omega) (by omega) (ih (N + 1 - (6 * (t + 1))) (by omega) (t + 1) rfl (by omega) _ _ ‹_›)
        · exact absurd rfl c_462
      · refine w_tsw (pc := 33) (off := 434) (tgt := 467) dL_law_33 (by omega) (by omega) (by omega) (by rw [c_33]; rfl) (by decide) ?_
        refine w_aload_n (pc := 467) 2 dL_law_467 rfl rfl ?_
        refine w_callV (pc := 468) (As := []) (S := []) dL_law_468 cv_L_54 (hO.1 _ _ hI) rfl (Nat.le_of_ble_eq_true rfl) (by decide) (hO.2.2.2.2.2.2.2.2.2.2.1   _ _ hI) (by omega) (by omega) (fun r_468 g_468 f_468 q_468 => ?_)
        obtain ⟨x_r, hr_r, rfl, hk_r, hm_r⟩ := q_468
        refine w_aload_n (pc := 471) 1 dL_law_471 rfl rfl ?_
        refine w_callV (pc := 472) (As := []) (S := [(.int (iI (x_r)))]) dL_law_472 cv_L_57 hk_r rfl (Nat.le_of_ble_eq_true rfl) (by decide) (hm_r) (Nat.zero_le _) (Nat.zero_le _) (fun r_472 g_472 f_472 q_472 => ?_)
        obtain ⟨rfl, hI2⟩ := q_472
        refine w_icmp_eq (pc := 475) (tgt := 1070) dL_law_475 (by decide) (hr_r) (hr_r) (fun c_475 => ?_) (fun c_475 => ?_)
        · refine w_iincv (pc := 1070) (y := ((6 * (t + 1) : Nat) : Int)) (L2 := [(3, (.int (iI (((6 * (t + 1) : Nat) : Int))))), (2, (.ref 164)), (1, (.ref 64)), (0, (.ref 62))]) 0 dL_law_1070 rfl (by omega) (by decide) rfl ?_
          refine w_goto (pc := 1073) (tgt := 18) dL_law_1073 (by decide) ?_
          refine w_sub (L2 := [(3, (.int (iI (((6 * (t + 1) : Nat) : Int))))), (2, (.ref 164)), (1, (.ref 64)), (0, (.ref 62))]) [0, 1, 2, 3] rfl ?_
          exact w_room (by omega) (by omega) (ih (N + 1 - (6 * (t + 1))) (by omega) (t + 1) rfl (by omega) _ _ ‹_›)
        · exact absurd rfl c_475
      · refine w_tsw (pc := 33) (off := 447) (tgt := 480) dL_law_33 (by omega) (by omega) (by omega) (by rw [c_33]; rfl) (by decide) ?_
        refine w_aload_n (pc := 480) 2 dL_law_480 rfl rfl ?_
        refine w_callV (pc := 481) (As := []) (S := []) dL_law_481 cv_L_58 (hO.1 _ _ hI) rfl (Nat.le_of_ble_eq_true rfl) (by decide) (hO.2.2.2.2.2.2.2.2.2.2.2.1   _ _ hI) (by omega) (by omega) (fun r_481 g_481 f_481 q_481 => ?_)
        obtain ⟨x_r, hr_r, rfl, hk_r, hm_r⟩ := q_481
        refine w_aload_n (pc := 484) 1 dL_law_484 rfl rfl ?_
        refine w_callV (pc := 485) (As := []) (S := [(.int (iI (x_r)))]) dL_law_485 cv_L_61 hk_r rfl (Nat.le_of_ble_eq_true rfl) (by decide) (hm_r) (Nat.zero_le _) (Nat.zero_le _) (fun r_485 g_485 f_485 q_485 => ?_)
        obtain ⟨rfl, hI2⟩ := q_485
        refine w_icmp_eq (pc := 488) (tgt := 1070) dL_law_488 (by decide) (hr_r) (hr_r) (fun c_488 => ?_) (fun c_488 => ?_)
        · refine w_iincv (pc := 1070) (y := ((6 * (t + 1) : Nat) : Int)) (L2 := [(3, (.int (iI (((6 * (t + 1) : Nat) : Int))))), (2, (.ref 164)), (1, (.ref 64)), (0, (.ref 62))]) 0 dL_law_1070 rfl (by omega) (by decide) rfl ?_
          refine w_goto (pc := 1073) (tgt := 18) dL_law_1073 (by decide) ?_
          refine w_sub (L2 := [(3, (.int (iI (((6 * (t + 1) : Nat) : Int))))), (2, (.ref 164)), (1, (.ref 64)), (0, (.ref 62))]) [0, 1, 2, 3] rfl ?_
          exact w_room (by omega) (by omega) (ih (N + 1 - (6 * (t + 1))) (by omega) (t + 1) rfl (by omega) _ _ ‹_›)
        · exact absurd rfl c_488
      · refine w_tsw (pc := 33) (off := 460) (tgt := 493) dL_law_33 (by omega) (by omega) (by omega) (by rw [c_33]; rfl) (by decide) ?_
        refine w_aload_n (pc := 493) 2 dL_law_493 rfl rfl ?_
        refine w_aload_n (pc := 494) 3 dL_law_494 rfl rfl ?_
        refine w_iload_n (pc := 495) 0 dL_law_495 rfl rfl ?_
        refine w_iconst (pc := 496) dL_law_496 ?_
        refine w_iadd (pc := 497) dL_law_497 ?_
        refine w_sld (pc := 498) dL_law_498 (by omega) hN ?_
        refine w_callV (pc := 499) (As := [(.int (iI (X ((((6 * t : Nat) : Int)) + (1)).toNat)))]) (S := []) dL_law_499 cv_L_62 (hO.1 _ _ hI) rfl (Nat.le_of_ble_eq_true rfl) (by decide) (hO.2.2.2.2.2.2.2.2.2.2.2.2.1 (X ((((6 * t : Nat) : Int)) + (1)).toNat) (hX _) _ _ hI) (by omega) (by omega) (fun r_499 g_499 f_499 q_499 => ?_)
        obtain ⟨x_r, hr_r, rfl, hk_r, hm_r⟩ := q_499
        refine w_aload_n (pc := 502) 1 dL_law_502 rfl rfl ?_
        refine w_aload_n (pc := 503) 3 dL_law_503 rfl rfl ?_
        refine w_iload_n (pc := 504) 0 dL_law_504 rfl rfl ?_
        refine w_iconst (pc := 505) dL_law_505 ?_
        refine w_iadd (pc := 506) dL_law_506 ?_
        refine w_sld (pc := 507) dL_law_507 (by omega) hN ?_
        refine w_callV (pc := 508) (As := [(.int (iI (X ((((6 * t : Nat) : Int)) + (1)).toNat)))]) (S := [(.int (iI (x_r)))]) dL_law_508 cv_L_65 hk_r rfl (Nat.le_of_ble_eq_true rfl) (by decide) (hm_r) (Nat.zero_le _) (Nat.zero_le _) (fun r_508 g_508 f_508 q_508 => ?_)
        obtain ⟨rfl, hI2⟩ := q_508
        refine w_icmp_eq (pc := 511) (tgt := 1070) dL_law_511 (by decide) (hr_r) (hr_r) (fun c_511 => ?_) (fun c_511 => ?_)
        · refine w_iincv (pc := 1070) (y := ((6 * (t + 1) : Nat) : Int)) (L2 := [(3, (.int (iI (((6 * (t + 1) : Nat) : Int))))), (2, (.ref 164)), (1, (.ref 64)), (0, (.ref 62))]) 0 dL_law_1070 rfl (by omega) (by decide) rfl ?_
          refine w_goto (pc := 1073) (tgt := 18) dL_law_1073 (by decide) ?_
          refine w_sub (L2 := [(3, (.int (iI (((6 * (t + 1) : Nat) : Int))))), (2, (.ref 164)), (1, (.ref 64)), (0, (.ref 62))]) [0, 1, 2, 3] rfl ?_
          exact w_room (by omega) (by omega) (ih (N + 1 - (6 * (t + 1))) (by omega) (t + 1) rfl (by omega) _ _ ‹_›)
        · exact absurd rfl c_511
      · refine w_tsw (pc := 33) (off := 483) (tgt := 516) dL_law_33 (by omega) (by omega) (by omega) (by rw [c_33]; rfl) (by decide) ?_
        refine w_aload_n (pc := 516) 2 dL_law_516 rfl rfl ?_
        refine w_aload_n (pc := 517) 3 dL_law_517 rfl rfl ?_
        refine w_iload_n (pc := 518) 0 dL_law_518 rfl rfl ?_
        refine w_iconst (pc := 519) dL_law_519 ?_
        refine w_iadd (pc := 520) dL_law_520 ?_
        refine w_sld (pc := 521) dL_law_521 (by omega) hN ?_
        refine w_aload_n (pc := 522) 3 dL_law_522 rfl rfl ?_
        refine w_iload_n (pc := 523) 0 dL_law_523 rfl rfl ?_
        refine w_iconst (pc := 524) dL_law_524 ?_
        refine w_iadd (pc := 525) dL_law_525 ?_
        refine w_sld (pc := 526) dL_law_526 (by omega) hN ?_
        refine w_callV (pc := 527) (As := [(.int (iI (X ((((6 * t : Nat) : Int)) + (1)).toNat))), (.int (iI (X ((((6 * t : Nat) : Int)) + (2)).toNat)))]) (S := []) dL_law_527 cv_L_66 (hO.1 _ _ hI) rfl (Nat.le_of_ble_eq_true rfl) (by decide) (hO.2.2.2.2.2.2.2.2.2.2.2.2.2.1 (X ((((6 * t : Nat) : Int)) + (1)).toNat) (X ((((6 * t : Nat) : Int)) + (2)).toNat) (hX _) (hX _) _ _ hI) (by omega) (by omega) (fun r_527 g_527 f_527 q_527 => ?_)
        obtain ⟨x_r, hr_r, rfl, hk_r, hm_r⟩ := q_527
        refine w_aload_n (pc := 530) 1 dL_law_530 rfl rfl ?_
        refine w_aload_n (pc := 531) 3 dL_law_531 rfl rfl ?_
        refine w_iload_n (pc := 532) 0 dL_law_532 rfl rfl ?_
        refine w_iconst (pc := 533) dL_law_533 ?_
        refine w_iadd (pc := 534) dL_law_534 ?_
        refine w_sld (pc := 535) dL_law_535 (by omega) hN ?_
        refine w_aload_n (pc := 536) 3 dL_law_536 rfl rfl ?_
        refine w_iload_n (pc := 537) 0 dL_law_537 rfl rfl ?_
        refine w_iconst (pc := 538) dL_law_538 ?_
        refine w_iadd (pc := 539) dL_law_539 ?_
        refine w_sld (pc := 540) dL_law_540 (by omega) hN ?_
        refine w_callV (pc := 541) (As := [(.int (iI (X ((((6 * t : Nat) : Int)) + (1)).toNat))), (.int (iI (X ((((6 * t : Nat) : Int)) + (2)).toNat)))]) (S := [(.int (iI (x_r)))]) dL_law_541 cv_L_69 hk_r rfl (Nat.le_of_ble_eq_true rfl) (by decide) (hm_r) (Nat.zero_le _) (Nat.zero_le _) (fun r_541 g_541 f_541 q_541 => ?_)
        obtain ⟨rfl, hI2⟩ := q_541
        refine w_icmp_eq (pc := 544) (tgt := 1070) dL_law_544 (by decide) (hr_r) (hr_r) (fun c_544 => ?_) (fun c_544 => ?_)
        · refine w_iincv (pc := 1070) (y := ((6 * (t + 1) : Nat) : Int)) (L2 := [(3, (.int (iI (((6 * (t + 1) : Nat) : Int))))), (2, (.ref 164)), (1, (.ref 64)), (0, (.ref 62))]) 0 dL_law_1070 rfl (by omega) (by decide) rfl ?_
          refine w_goto (pc := 1073) (tgt := 18) dL_law_1073 (by decide) ?_
          refine w_sub (L2 := [(3, (.int (iI (((6 * (t + 1) : Nat) : Int))))), (2, (.ref 164)), (1, (.ref 64)), (0, (.ref 62))]) [0, 1, 2, 3] rfl ?_
          exact w_room (by omega) (by omega) (ih (N + 1 - (6 * (t + 1))) (by omega) (t + 1) rfl (by omega) _ _ ‹_›)
        · exact absurd rfl c_544
      · refine w_tsw (pc := 33) (off := 516) (tgt := 549) dL_law_33 (by omega) (by omega) (by omega) (by rw [c_33]; rfl) (by decide) ?_
        refine w_aload_n (pc := 549) 2 dL_law_549 rfl rfl ?_
        refine w_aload_n (pc := 550) 3 dL_law_550 rfl rfl ?_
        refine w_iload_n (pc := 551) 0 dL_law_551 rfl rfl ?_
        refine w_iconst (pc := 552) dL_law_552 ?_
        refine w_iadd (pc := 553) dL_law_553 ?_
        refine w_sld (pc := 554) dL_law_554 (by omega) hN ?_
        refine w_aload_n (pc := 555) 3 dL_law_555 rfl rfl ?_
        refine w_iload_n (pc := 556) 0 dL_law_556 rfl rfl ?_
        refine w_iconst (pc := 557) dL_law_557 ?_
        refine w_iadd (pc := 558) dL_law_558 ?_
        refine w_sld (pc := 559) dL_law_559 (by omega) hN ?_
        refine w_callV (pc := 560) (As := [(.int (iI (X ((((6 * t : Nat) : Int)) + (1)).toNat))), (.int (iI (X ((((6 * t : Nat) : Int)) + (2)).toNat)))]) (S := []) dL_law_560 cv_L_70 (hO.1 _ _ hI) rfl (Nat.le_of_ble_eq_true rfl) (by decide) (hO.2.2.2.2.2.2.2.2.2.2.2.2.2.2.1 (X ((((6 * t : Nat) : Int)) + (1)).toNat) (X ((((6 * t : Nat) : Int)) + (2)).toNat) (hX _) (hX _) _ _ hI) (by omega) (by omega) (fun r_560 g_560 f_560 q_560 => ?_)
        obtain ⟨x_r, hr_r, rfl, hk_r, hm_r⟩ := q_560
        refine w_aload_n (pc := 563) 1 dL_law_563 rfl rfl ?_
        refine w_aload_n (pc := 564) 3 dL_law_564 rfl rfl ?_
        refine w_iload_n (pc := 565) 0 dL_law_565 rfl rfl ?_
        refine w_iconst (pc := 566) dL_law_566 ?_
        refine w_iadd (pc := 567) dL_law_567 ?_
        refine w_sld (pc := 568) dL_law_568 (by omega) hN ?_
        refine w_aload_n (pc := 569) 3 dL_law_569 rfl rfl ?_
        refine w_iload_n (pc := 570) 0 dL_law_570 rfl rfl ?_
        refine w_iconst (pc := 571) dL_law_571 ?_
        refine w_iadd (pc := 572) dL_law_572 ?_
        refine w_sld (pc := 573) dL_law_573 (by omega) hN ?_
        refine w_callV (pc := 574) (As := [(.int (iI (X ((((6 * t : Nat) : Int)) + (1)).toNat))), (.int (iI (X ((((6 * t : Nat) : Int)) + (2)).toNat)))]) (S := [(.int (iI (x_r)))]) dL_law_574 cv_L_73 hk_r rfl (Nat.le_of_ble_eq_true rfl) (by decide) (hm_r) (Nat.zero_le _) (Nat.zero_le _) (fun r_574 g_574 f_574 q_574 => ?_)
        obtain ⟨rfl, hI2⟩ := q_574
        refine w_icmp_eq (pc := 577) (tgt := 1070) dL_law_577 (by decide) (hr_r) (hr_r) (fun c_577 => ?_) (fun c_577 => ?_)
        · refine w_iincv (pc := 1070) (y := ((6 * (t + 1) : Nat) : Int)) (L2 := [(3, (.int (iI (((6 * (t + 1) : Nat) : Int))))), (2, (.ref 164)), (1, (.ref 64)), (0, (.ref 62))]) 0 dL_law_1070 rfl (by omega) (by decide) rfl ?_
          refine w_goto (pc := 1073) (tgt := 18) dL_law_1073 (by decide) ?_
          refine w_sub (L2 := [(3, (.int (iI (((6 * (t + 1) : Nat) : Int))))), (2, (.ref 164)), (1, (.ref 64)), (0, (.ref 62))]) [0, 1, 2, 3] rfl ?_
          exact w_room (by omega) (by omega) (ih (N + 1 - (6 * (t + 1))) (by omega) (t + 1) rfl (by omega) _ _ ‹_›)
        · exact absurd rfl c_577
      · refine w_tsw (pc := 33) (off := 549) (tgt := 582) dL_law_33 (by omega) (by omega) (by omega) (by rw [c_33]; rfl) (by decide) ?_
        refine w_aload_n (pc := 582) 2 dL_law_582 rfl rfl ?_
        refine w_aload_n (pc := 583) 3 dL_law_583 rfl rfl ?_
        refine w_iload_n (pc := 584) 0 dL_law_584 rfl rfl ?_
        refine w_iconst (pc := 585) dL_law_585 ?_
        refine w_iadd (pc := 586) dL_law_586 ?_
        refine w_sld (pc := 587) dL_law_587 (by omega) hN ?_
        refine w_aload_n (pc := 588) 3 dL_law_588 rfl rfl ?_
        refine w_iload_n (pc := 589) 0 dL_law_589 rfl rfl ?_
        refine w_iconst (pc := 590) dL_law_590 ?_
        refine w_iadd (pc := 591) dL_law_591 ?_
        refine w_sld (pc := 592) dL_law_592 (by omega) hN ?_
        refine w_callV (pc := 593) (As := [(.int (iI (X ((((6 * t : Nat) : Int)) + (1)).toNat))), (.int (iI (X ((((6 * t : Nat) : Int)) + (2)).toNat)))]) (S := []) dL_law_593 cv_L_74 (hO.1 _ _ hI) rfl (Nat.le_of_ble_eq_true rfl) (by decide) (hO.2.2.2.2.2.2.2.2.2.2.2.2.2.2.2.1 (X ((((6 * t : Nat) : Int)) + (1)).toNat) (X ((((6 * t : Nat) : Int)) + (2)).toNat) (hX _) (hX _) _ _ hI) (by omega) (by omega) (fun r_593 g_593 f_593 q_593 => ?_)
        obtain ⟨x_r, hr_r, rfl, hk_r, hm_r⟩ := q_593
        refine w_aload_n (pc := 596) 1 dL_law_596 rfl rfl ?_
        refine w_aload_n (pc := 597) 3 dL_law_597 rfl rfl ?_
        refine w_iload_n (pc := 598) 0 dL_law_598 rfl rfl ?_
        refine w_iconst (pc := 599) dL_law_599 ?_
        refine w_iadd (pc := 600) dL_law_600 ?_
        refine w_sld (pc := 601) dL_law_601 (by omega) hN ?_
        refine w_aload_n (pc := 602) 3 dL_law_602 rfl rfl ?_
        refine w_iload_n (pc := 603) 0 dL_law_603 rfl rfl ?_
        refine w_iconst (pc := 604) dL_law_604 ?_
        refine w_iadd (pc := 605) dL_law_605 ?_
        refine w_sld (pc := 606) dL_law_606 (by omega) hN ?_
        refine w_callV (pc := 607) (As := [(.int (iI (X ((((6 * t : Nat) : Int)) + (1)).toNat))), (.int (iI (X ((((6 * t : Nat) : Int)) + (2)).toNat)))]) (S := [(.int (iI (x_r)))]) dL_law_607 cv_L_77 hk_r rfl (Nat.le_of_ble_eq_true rfl) (by decide) (hm_r) (Nat.zero_le _) (Nat.zero_le _) (fun r_607 g_607 f_607 q_607 => ?_)
        obtain ⟨rfl, hI2⟩ := q_607
        refine w_icmp_eq (pc := 610) (tgt := 1070) dL_law_610 (by decide) (hr_r) (hr_r) (fun c_610 => ?_) (fun c_610 => ?_)
        · refine w_iincv (pc := 1070) (y := ((6 * (t + 1) : Nat) : Int)) (L2 := [(3, (.int (iI (((6 * (t + 1) : Nat) : Int))))), (2, (.ref 164)), (1, (.ref 64)), (0, (.ref 62))]) 0 dL_law_1070 rfl (by omega) (by decide) rfl ?_
          refine w_goto (pc := 1073) (tgt := 18) dL_law_1073 (by decide) ?_
          refine w_sub (L2 := [(3, (.int (iI (((6 * (t + 1) : Nat) : Int))))), (2, (.ref 164)), (1, (.ref 64)), (0, (.ref 62))]) [0, 1, 2, 3] rfl ?_
          exact w_room (by omega) (by omega) (ih (N + 1 - (6 * (t + 1))) (by omega) (t + 1) rfl (by omega) _ _ ‹_›)
        · exact absurd rfl c_610
      · refine w_tsw (pc := 33) (off := 582) (tgt := 615) dL_law_33 (by omega) (by omega) (by omega) (by rw [c_33]; rfl) (by decide) ?_
        refine w_aload_n (pc := 615) 2 dL_law_615 rfl rfl ?_
        refine w_callV (pc := 616) (As := []) (S := []) dL_law_616 cv_L_78 (hO.1 _ _ hI) rfl (Nat.le_of_ble_eq_true rfl) (by decide) (hO.2.2.2.2.2.2.2.2.2.2.2.2.2.2.2.2.1   _ _ hI) (by omega) (by omega) (fun r_616 g_616 f_616 q_616 => ?_)
        obtain ⟨x_r, hr_r, rfl, hk_r, hm_r⟩ := q_616
        refine w_aload_n (pc := 619) 1 dL_law_619 rfl rfl ?_
        refine w_callV (pc := 620) (As := []) (S := [(.int (iI (x_r)))]) dL_law_620 cv_L_81 hk_r rfl (Nat.le_of_ble_eq_true rfl) (by decide) (hm_r) (Nat.zero_le _) (Nat.zero_le _) (fun r_620 g_620 f_620 q_620 => ?_)
        obtain ⟨rfl, hI2⟩ := q_620
        refine w_icmp_eq (pc := 623) (tgt := 1070) dL_law_623 (by decide) (hr_r) (hr_r) (fun c_623 => ?_) (fun c_623 => ?_)
        · refine w_iincv (pc := 1070) (y := ((6 * (t + 1) : Nat) : Int)) (L2 := [(3, (.int (iI (((6 * (t + 1) : Nat) : Int))))), (2, (.ref 164)), (1, (.ref 64)), (0, (.ref 62))]) 0 dL_law_1070 rfl (by omega) (by decide) rfl ?_
          refine w_goto (pc := 1073) (tgt := 18) dL_law_1073 (by decide) ?_
          refine w_sub (L2 := [(3, (.int (iI (((6 * (t + 1) : Nat) : Int))))), (2, (.ref 164)), (1, (.ref 64)), (0, (.ref 62))]) [0, 1, 2, 3] rfl ?_
          exact w_room (by omega) (by omega) (ih (N + 1 - (6 * (t + 1))) (by omega) (t + 1) rfl (by omega) _ _ ‹_›)
        · exact absurd rfl c_623
      · refine w_tsw (pc := 33) (off := 595) (tgt := 628) dL_law_33 (by omega) (by omega) (by omega) (by rw [c_33]; rfl) (by decide) ?_
        refine w_aload_n (pc := 628) 2 dL_law_628 rfl rfl ?_
        refine w_aload_n (pc := 629) 3 dL_law_629 rfl rfl ?_
        refine w_iload_n (pc := 630) 0 dL_law_630 rfl rfl ?_
        refine w_iconst (pc := 631) dL_law_631 ?_
        refine w_iadd (pc := 632) dL_law_632 ?_
        refine w_sld (pc := 633) dL_law_633 (by omega) hN ?_
        refine w_callV (pc := 634) (As := [(.int (iI (X ((((6 * t : Nat) : Int)) + (1)).toNat)))]) (S := []) dL_law_634 cv_L_82 (hO.1 _ _ hI) rfl (Nat.le_of_ble_eq_true rfl) (by decide) (hO.2.2.2.2.2.2.2.2.2.2.2.2.2.2.2.2.2.1 (X ((((6 * t : Nat) : Int)) + (1)).toNat) (hX _) _ _ hI) (by omega) (by omega) (fun r_634 g_634 f_634 q_634 => ?_)
        obtain ⟨x_r, hr_r, rfl, hk_r, hm_r⟩ := q_634
        refine w_aload_n (pc := 637) 1 dL_law_637 rfl rfl ?_
        refine w_aload_n (pc := 638) 3 dL_law_638 rfl rfl ?_
        refine w_iload_n (pc := 639) 0 dL_law_639 rfl rfl ?_
        refine w_iconst (pc := 640) dL_law_640 ?_
        refine w_iadd (pc := 641) dL_law_641 ?_
        refine w_sld (pc := 642) dL_law_642 (by omega) hN ?_
        refine w_callV (pc := 643) (As := [(.int (iI (X ((((6 * t : Nat) : Int)) + (1)).toNat)))]) (S := [(.int (iI (x_r)))]) dL_law_643 cv_L_85 hk_r rfl (Nat.le_of_ble_eq_true rfl) (by decide) (hm_r) (Nat.zero_le _) (Nat.zero_le _) (fun r_643 g_643 f_643 q_643 => ?_)
        obtain ⟨rfl, hI2⟩ := q_643
        refine w_icmp_eq (pc := 646) (tgt := 1070) dL_law_646 (by decide) (hr_r) (hr_r) (fun c_646 => ?_) (fun c_646 => ?_)
        · refine w_iincv (pc := 1070) (y := ((6 * (t + 1) : Nat) : Int)) (L2 := [(3, (.int (iI (((6 * (t + 1) : Nat) : Int))))), (2, (.ref 164)), (1, (.ref 64)), (0, (.ref 62))]) 0 dL_law_1070 rfl (by omega) (by decide) rfl ?_
          refine w_goto (pc := 1073) (tgt := 18) dL_law_1073 (by decide) ?_
          refine w_sub (L2 := [(3, (.int (iI (((6 * (t + 1) : Nat) : Int))))), (2, (.ref 164)), (1, (.ref 64)), (0, (.ref 62))]) [0, 1, 2, 3] rfl ?_
          exact w_room (by omega) (by omega) (ih (N + 1 - (6 * (t + 1))) (by omega) (t + 1) rfl (by omega) _ _ ‹_›)
        · exact absurd rfl c_646
      · refine w_tsw (pc := 33) (off := 618) (tgt := 651) dL_law_33 (by omega) (by omega) (by omega) (by rw [c_33]; rfl) (by decide) ?_
        refine w_aload_n (pc := 651) 2 dL_law_651 rfl rfl ?_
        refine w_aload_n (pc := 652) 3 dL_law_652 rfl rfl ?_
        refine w_iload_n (pc := 653) 0 dL_law_653 rfl rfl ?_
        refine w_iconst (pc := 654) dL_law_654 ?_
        refine w_iadd (pc := 655) dL_law_655 ?_
        refine w_sld (pc := 656) dL_law_656 (by omega) hN ?_
        refine w_callV (pc := 657) (As := [(.int (iI (X ((((6 * t : Nat) : Int)) + (1)).toNat)))]) (S := []) dL_law_657 cv_L_86 (hO.1 _ _ hI) rfl (Nat.le_of_ble_eq_true rfl) (by decide) (hO.2.2.2.2.2.2.2.2.2.2.2.2.2.2.2.2.2.2.1 (X ((((6 * t : Nat) : Int)) + (1)).toNat) (hX _) _ _ hI) (by omega) (by omega) (fun r_657 g_657 f_657 q_657 => ?_)
        obtain ⟨x_r, hr_r, rfl, hk_r, hm_r⟩ := q_657
        refine w_aload_n (pc := 660) 1 dL_law_660 rfl rfl ?_
        refine w_aload_n (pc := 661) 3 dL_law_661 rfl rfl ?_
        refine w_iload_n (pc := 662) 0 dL_law_662 rfl rfl ?_
        refine w_iconst (pc := 663) dL_law_663 ?_
        refine w_iadd (pc := 664) dL_law_664 ?_
        refine w_sld (pc := 665) dL_law_665 (by omega) hN ?_
        refine w_callV (pc := 666) (As := [(.int (iI (X ((((6 * t : Nat) : Int)) + (1)).toNat)))]) (S := [(.int (iI (x_r)))]) dL_law_666 cv_L_89 hk_r rfl (Nat.le_of_ble_eq_true rfl) (by decide) (hm_r) (Nat.zero_le _) (Nat.zero_le _) (fun r_666 g_666 f_666 q_666 => ?_)
        obtain ⟨rfl, hI2⟩ := q_666
        refine w_icmp_eq (pc := 669) (tgt := 1070) dL_law_669 (by decide) (hr_r) (hr_r) (fun c_669 => ?_) (fun c_669 => ?_)
        · refine w_iincv (pc := 1070) (y := ((6 * (t + 1) : Nat) : Int)) (L2 := [(3, (.int (iI (((6 * (t + 1) : Nat) : Int))))), (2, (.ref 164)), (1, (.ref 64)), (0, (.ref 62))]) 0 dL_law_1070 rfl (by omega) (by decide) rfl ?_
          refine w_goto (pc := 1073) (tgt := 18) dL_law_1073 (by decide) ?_
          refine w_sub (L2 := [(3, (.int (iI (((6 * (t + 1) : Nat) : Int))))), (2, (.ref 164)), (1, (.ref 64)), (0, (.ref 62))]) [0, 1, 2, 3] rfl ?_
          exact w_room (by omega) (by omega) (ih (N + 1 - (6 * (t + 1))) (by omega) (t + 1) rfl (by omega) _ _ ‹_›)
        · exact absurd rfl c_669
      · refine w_tsw (pc := 33) (off := 641) (tgt := 674) dL_law_33 (by omega) (by omega) (by omega) (by rw [c_33]; rfl) (by decide) ?_
        refine w_aload_n (pc := 674) 2 dL_law_674 rfl rfl ?_
        refine w_aload_n (pc := 675) 3 dL_law_675 rfl rfl ?_
        refine w_iload_n (pc := 676) 0 dL_law_676 rfl rfl ?_
        refine w_iconst (pc := 677) dL_law_677 ?_
        refine w_iadd (pc := 678) dL_law_678 ?_
        refine w_sld (pc := 679) dL_law_679 (by omega) hN ?_
        refine w_callV (pc := 680) (As := [(.int (iI (X ((((6 * t : Nat) : Int)) + (1)).toNat)))]) (S := []) dL_law_680 cv_L_90 (hO.1 _ _ hI) rfl (Nat.le_of_ble_eq_true rfl) (by decide) (hO.2.2.2.2.2.2.2.2.2.2.2.2.2.2.2.2.2.2.2.1 (X ((((6 * t : Nat) : Int)) + (1)).toNat) (hX _) _ _ hI) (by omega) (by omega) (fun r_680 g_680 f_680 q_680 => ?_)
        obtain ⟨x_r, hr_r, rfl, hk_r, hm_r⟩ := q_680
        refine w_aload_n (pc := 683) 1 dL_law_683 rfl rfl ?_
        refine w_aload_n (pc := 684) 3 dL_law_684 rfl rfl ?_
        refine w_iload_n (pc := 685) 0 dL_law_685 rfl rfl ?_
        refine w_iconst (pc := 686) dL_law_686 ?_
        refine w_iadd (pc := 687) dL_law_687 ?_
        refine w_sld (pc := 688) dL_law_688 (by omega) hN ?_
        refine w_callV (pc := 689) (As := [(.int (iI (X ((((6 * t : Nat) : Int)) + (1)).toNat)))]) (S := [(.int (iI (x_r)))]) dL_law_689 cv_L_93 hk_r rfl (Nat.le_of_ble_eq_true rfl) (by decide) (hm_r) (Nat.zero_le _) (Nat.zero_le _) (fun r_689 g_689 f_689 q_689 => ?_)
        obtain ⟨rfl, hI2⟩ := q_689
        refine w_icmp_eq (pc := 692) (tgt := 1070) dL_law_692 (by decide) (hr_r) (hr_r) (fun c_692 => ?_) (fun c_692 => ?_)
        · refine w_iincv (pc := 1070) (y := ((6 * (t + 1) : Nat) : Int)) (L2 := [(3, (.int (iI (((6 * (t + 1) : Nat) : Int))))), (2, (.ref 164)), (1, (.ref 64)), (0, (.ref 62))]) 0 dL_law_1070 rfl (by omega) (by decide) rfl ?_
          refine w_goto (pc := 1073) (tgt := 18) dL_law_1073 (by decide) ?_
          refine w_sub (L2 := [(3, (.int (iI (((6 * (t + 1) : Nat) : Int))))), (2, (.ref 164)), (1, (.ref 64)), (0, (.ref 62))]) [0, 1, 2, 3] rfl ?_
          exact w_room (by omega) (by omega) (ih (N + 1 - (6 * (t + 1))) (by omega) (t + 1) rfl (by omega) _ _ ‹_›)
        · exact absurd rfl c_692
      · refine w_tsw (pc := 33) (off := 664) (tgt := 697) dL_law_33 (by omega) (by omega) (by omega) (by rw [c_33]; rfl) (by decide) ?_
        refine w_aload_n (pc := 697) 2 dL_law_697 rfl rfl ?_
        refine w_aload_n (pc := 698) 3 dL_law_698 rfl rfl ?_
        refine w_iload_n (pc := 699) 0 dL_law_699 rfl rfl ?_
        refine w_iconst (pc := 700) dL_law_700 ?_
        refine w_iadd (pc := 701) dL_law_701 ?_
        refine w_sld (pc := 702) dL_law_702 (by omega) hN ?_
        refine w_aload_n (pc := 703) 3 dL_law_703 rfl rfl ?_
        refine w_iload_n (pc := 704) 0 dL_law_704 rfl rfl ?_
        refine w_iconst (pc := 705) dL_law_705 ?_
        refine w_iadd (pc := 706) dL_law_706 ?_
        refine w_sld (pc := 707) dL_law_707 (by omega) hN ?_
        refine w_callV (pc := 708) (As := [(.int (iI (X ((((6 * t : Nat) : Int)) + (1)).toNat))), (.int (iI (X ((((6 * t : Nat) : Int)) + (2)).toNat)))]) (S := []) dL_law_708 cv_L_94 (hO.1 _ _ hI) rfl (Nat.le_of_ble_eq_true rfl) (by decide) (hO.2.2.2.2.2.2.2.2.2.2.2.2.2.2.2.2.2.2.2.2.1 (X ((((6 * t : Nat) : Int)) + (1)).toNat) (X ((((6 * t : Nat) : Int)) + (2)).toNat) (hX _) (hX _) _ _ hI) (by omega) (by omega) (fun r_708 g_708 f_708 q_708 => ?_)
        obtain ⟨x_r, hr_r, rfl, hk_r, hm_r⟩ := q_708
        refine w_aload_n (pc := 711) 1 dL_law_711 rfl rfl ?_
        refine w_aload_n (pc := 712) 3 dL_law_712 rfl rfl ?_
        refine w_iload_n (pc := 713) 0 dL_law_713 rfl rfl ?_
        refine w_iconst (pc := 714) dL_law_714 ?_
        refine w_iadd (pc := 715) dL_law_715 ?_
        refine w_sld (pc := 716) dL_law_716 (by omega) hN ?_
        refine w_aload_n (pc := 717) 3 dL_law_717 rfl rfl ?_
        refine w_iload_n (pc := 718) 0 dL_law_718 rfl rfl ?_
        refine w_iconst (pc := 719) dL_law_719 ?_
        refine w_iadd (pc := 720) dL_law_720 ?_
        refine w_sld (pc := 721) dL_law_721 (by omega) hN ?_
        refine w_callV (pc := 722) (As := [(.int (iI (X ((((6 * t : Nat) : Int)) + (1)).toNat))), (.int (iI (X ((((6 * t : Nat) : Int)) + (2)).toNat)))]) (S := [(.int (iI (x_r)))]) dL_law_722 cv_L_97 hk_r rfl (Nat.le_of_ble_eq_true rfl) (by decide) (hm_r) (Nat.zero_le _) (Nat.zero_le _) (fun r_722 g_722 f_722 q_722 => ?_)
        obtain ⟨rfl, hI2⟩ := q_722
        refine w_icmp_eq (pc := 725) (tgt := 1070) dL_law_725 (by decide) (hr_r) (hr_r) (fun c_725 => ?_) (fun c_725 => ?_)
        · refine w_iincv (pc := 1070) (y := ((6 * (t + 1) : Nat) : Int)) (L2 := [(3, (.int (iI (((6 * (t + 1) : Nat) : Int))))), (2, (.ref 164)), (1, (.ref 64)), (0, (.ref 62))]) 0 dL_law_1070 rfl (by omega) (by decide) rfl ?_
          refine w_goto (pc := 1073) (tgt := 18) dL_law_1073 (by decide) ?_
          refine w_sub (L2 := [(3, (.int (iI (((6 * (t + 1) : Nat) : Int))))), (2, (.ref 164)), (1, (.ref 64)), (0, (.ref 62))]) [0, 1, 2, 3] rfl ?_
          exact w_room (by omega) (by omega) (ih (N + 1 - (6 * (t + 1))) (by omega) (t + 1) rfl (by omega) _ _ ‹_›)
        · exact absurd rfl c_725
      · refine w_tsw (pc := 33) (off := 697) (tgt := 730) dL_law_33 (by omega) (by omega) (by omega) (by rw [c_33]; rfl) (by decide) ?_
        refine w_aload_n (pc := 730) 2 dL_law_730 rfl rfl ?_
        refine w_aload_n (pc := 731) 3 dL_law_731 rfl rfl ?_
        refine w_iload_n (pc := 732) 0 dL_law_732 rfl rfl ?_
        refine w_iconst (pc := 733) dL_law_733 ?_
        refine w_iadd (pc := 734) dL_law_734 ?_
        refine w_sld (pc := 735) dL_law_735 (by omega) hN ?_
        refine w_aload_n (pc := 736) 3 dL_law_736 rfl rfl ?_
        refine w_iload_n (pc := 737) 0 dL_law_737 rfl rfl ?_
        refine w_iconst (pc := 738) dL_law_738 ?_
        refine w_iadd (pc := 739) dL_law_739 ?_
        refine w_sld (pc := 740) dL_law_740 (by omega) hN ?_
        refine w_callV (pc := 741) (As := [(.int (iI (X ((((6 * t : Nat) : Int)) + (1)).toNat))), (.int (iI (X ((((6 * t : Nat) : Int)) + (2)).toNat)))]) (S := []) dL_law_741 cv_L_98 (hO.1 _ _ hI) rfl (Nat.le_of_ble_eq_true rfl) (by decide) (hO.2.2.2.2.2.2.2.2.2.2.2.2.2.2.2.2.2.2.2.2.2.1 (X ((((6 * t : Nat) : Int)) + (1)).toNat) (X ((((6 * t : Nat) : Int)) + (2)).toNat) (hX _) (hX _) _ _ hI) (by omega) (by omega) (fun r_741 g_741 f_741 q_741 => ?_)
        obtain ⟨x_r, rfl, hk_r, hm_r⟩ := q_741
        refine w_aload_n (pc := 744) 1 dL_law_744 rfl rfl ?_
        refine w_aload_n (pc := 745) 3 dL_law_745 rfl rfl ?_
        refine w_iload_n (pc := 746) 0 dL_law_746 rfl rfl ?_
        refine w_iconst (pc := 747) dL_law_747 ?_
        refine w_iadd (pc := 748) dL_law_748 ?_
        refine w_sld (pc := 749) dL_law_749 (by omega) hN ?_
        refine w_aload_n (pc := 750) 3 dL_law_750 rfl rfl ?_
        refine w_iload_n (pc := 751) 0 dL_law_751 rfl rfl ?_
        refine w_iconst (pc := 752) dL_law_752 ?_
        refine w_iadd (pc := 753) dL_law_753 ?_
        refine w_sld (pc := 754) dL_law_754 (by omega) hN ?_
        refine w_callV (pc := 755) (As := [(.int (iI (X ((((6 * t : Nat) : Int)) + (1)).toNat))), (.int (iI (X ((((6 * t : Nat) : Int)) + (2)).toNat)))]) (S := [(.long (lI (x_r)))]) dL_law_755 cv_L_102 hk_r rfl (Nat.le_of_ble_eq_true rfl) (by decide) (hm_r) (Nat.zero_le _) (Nat.zero_le _) (fun r_755 g_755 f_755 q_755 => ?_)
        obtain ⟨rfl, hI2⟩ := q_755
        refine w_lcmp (pc := 758) (w := 0) dL_law_758  (lcmp_self _) ?_
        refine w_if_eq (pc := 759) (tgt := 1070) dL_law_759 (by decide) (by decide) (fun c_759 => ?_) (fun c_759 => ?_)
        · refine w_iincv (pc := 1070) (y := ((6 * (t + 1) : Nat) : Int)) (L2 := [(3, (.int (iI (((6 * (t + 1) : Nat) : Int))))), (2, (.ref 164)), (1, (.ref 64)), (0, (.ref 62))]) 0 dL_law_1070 rfl (by omega) (by decide) rfl ?_
          refine w_goto (pc := 1073) (tgt := 18) dL_law_1073 (by decide) ?_
          refine w_sub (L2 := [(3, (.int (iI (((6 * (t + 1) : Nat) : Int))))), (2, (.ref 164)), (1, (.ref 64)), (0, (.ref 62))]) [0, 1, 2, 3] rfl ?_
          exact w_room (by omega) (by omega) (ih (N + 1 - (6 * (t + 1))) (by omega) (t + 1) rfl (by omega) _ _ ‹_›)
        · exact absurd rfl c_759
      · refine w_tsw (pc := 33) (off := 731) (tgt := 764) dL_law_33 (by omega) (by omega) (by omega) (by rw [c_33]; rfl) (by decide) ?_
        refine w_aload_n (pc := 764) 2 dL_law_764 rfl rfl ?_
        refine w_aload_n (pc := 765) 3 dL_law_765 rfl rfl ?_
        refine w_iload_n (pc := 766) 0 dL_law_766 rfl rfl ?_
        refine w_iconst (pc := 767) dL_law_767 ?_
        refine w_iadd (pc := 768) dL_law_768 ?_
        refine w_sld (pc := 769) dL_law_769 (by omega) hN ?_
        refine w_aload_n (pc := 770) 3 dL_law_770 rfl rfl ?_
        refine w_iload_n (pc := 771) 0 dL_law_771 rfl rfl ?_
        refine w_iconst (pc := 772) dL_law_772 ?_
        refine w_iadd (pc := 773) dL_law_773 ?_
        refine w_sld (pc := 774) dL_law_774 (by omega) hN ?_
        refine w_callV (pc := 775) (As := [(.int (iI (X ((((6 * t : Nat) : Int)) + (1)).toNat))), (.int (iI (X ((((6 * t : Nat) : Int)) + (2)).toNat)))]) (S := []) dL_law_775 cv_L_103 (hO.1 _ _ hI) rfl (Nat.le_of_ble_eq_true rfl) (by decide) (hO.2.2.2.2.2.2.2.2.2.2.2.2.2.2.2.2.2.2.2.2.2.2.1 (X ((((6 * t : Nat) : Int)) + (1)).toNat) (X ((((6 * t : Nat) : Int)) + (2)).toNat) (hX _) (hX _) _ _ hI) (by omega) (by omega) (fun r_775 g_775 f_775 q_775 => ?_)
        obtain ⟨x_r, hr_r, rfl, hk_r, hm_r⟩ := q_775
        refine w_aload_n (pc := 778) 1 dL_law_778 rfl rfl ?_
        refine w_aload_n (pc := 779) 3 dL_law_779 rfl rfl ?_
        refine w_iload_n (pc := 780) 0 dL_law_780 rfl rfl ?_
        refine w_iconst (pc := 781) dL_law_781 ?_
        refine w_iadd (pc := 782) dL_law_782 ?_
        refine w_sld (pc := 783) dL_law_783 (by omega) hN ?_
        refine w_aload_n (pc := 784) 3 dL_law_784 rfl rfl ?_
        refine w_iload_n (pc := 785) 0 dL_law_785 rfl rfl ?_
        refine w_iconst (pc := 786) dL_law_786 ?_
        refine w_iadd (pc := 787) dL_law_787 ?_
        refine w_sld (pc := 788) dL_law_788 (by omega) hN ?_
        refine w_callV (pc := 789) (As := [(.int (iI (X ((((6 * t : Nat) : Int)) + (1)).toNat))), (.int (iI (X ((((6 * t : Nat) : Int)) + (2)).toNat)))]) (S := [(.int (iI (x_r)))]) dL_law_789 cv_L_106 hk_r rfl (Nat.le_of_ble_eq_true rfl) (by decide) (hm_r) (Nat.zero_le _) (Nat.zero_le _) (fun r_789 g_789 f_789 q_789 => ?_)
        obtain ⟨rfl, hI2⟩ := q_789
        refine w_icmp_eq (pc := 792) (tgt := 1070) dL_law_792 (by decide) (hr_r) (hr_r) (fun c_792 => ?_) (fun c_792 => ?_)
        · refine w_iincv (pc := 1070) (y := ((6 * (t + 1) : Nat) : Int)) (L2 := [(3, (.int (iI (((6 * (t + 1) : Nat) : Int))))), (2, (.ref 164)), (1, (.ref 64)), (0, (.ref 62))]) 0 dL_law_1070 rfl (by omega) (by decide) rfl ?_
          refine w_goto (pc := 1073) (tgt := 18) dL_law_1073 (by decide) ?_
          refine w_sub (L2 := [(3, (.int (iI (((6 * (t + 1) : Nat) : Int))))), (2, (.ref 164)), (1, (.ref 64)), (0, (.ref 62))]) [0, 1, 2, 3] rfl ?_
          exact w_room (by omega) (by omega) (ih (N + 1 - (6 * (t + 1))) (by omega) (t + 1) rfl (by omega) _ _ ‹_›)
        · exact absurd rfl c_792
      · refine w_tsw (pc := 33) (off := 764) (tgt := 797) dL_law_33 (by omega) (by omega) (by omega) (by rw [c_33]; rfl) (by decide) ?_
        refine w_aload_n (pc := 797) 2 dL_law_797 rfl rfl ?_
        refine w_aload_n (pc := 798) 3 dL_law_798 rfl rfl ?_
        refine w_iload_n (pc := 799) 0 dL_law_799 rfl rfl ?_
        refine w_iconst (pc := 800) dL_law_800 ?_
        refine w_iadd (pc := 801) dL_law_801 ?_
        refine w_sld (pc := 802) dL_law_802 (by omega) hN ?_
        refine w_aload_n (pc := 803) 3 dL_law_803 rfl rfl ?_
        refine w_iload_n (pc := 804) 0 dL_law_804 rfl rfl ?_
        refine w_iconst (pc := 805) dL_law_805 ?_
        refine w_iadd (pc := 806) dL_law_806 ?_
        refine w_sld (pc := 807) dL_law_807 (by omega) hN ?_
        refine w_callV (pc := 808) (As := [(.int (iI (X ((((6 * t : Nat) : Int)) + (1)).toNat))), (.int (iI (X ((((6 * t : Nat) : Int)) + (2)).toNat)))]) (S := []) dL_law_808 cv_L_107 (hO.1 _ _ hI) rfl (Nat.le_of_ble_eq_true rfl) (by decide) (hO.2.2.2.2.2.2.2.2.2.2.2.2.2.2.2.2.2.2.2.2.2.2.2.1 (X ((((6 * t : Nat) : Int)) + (1)).toNat) (X ((((6 * t : Nat) : Int)) + (2)).toNat) (hX _) (hX _) _ _ hI) (by omega) (by omega) (fun r_808 g_808 f_808 q_808 => ?_)
        obtain ⟨x_r, hr_r, rfl, hk_r, hm_r⟩ := q_808
        refine w_aload_n (pc := 811) 1 dL_law_811 rfl rfl ?_
        refine w_aload_n (pc := 812) 3 dL_law_812 rfl rfl ?_
        refine w_iload_n (pc := 813) 0 dL_law_813 rfl rfl ?_
        refine w_iconst (pc := 814) dL_law_814 ?_
        refine w_iadd (pc := 815) dL_law_815 ?_
        refine w_sld (pc := 816) dL_law_816 (by omega) hN ?_
        refine w_aload_n (pc := 817) 3 dL_law_817 rfl rfl ?_
        refine w_iload_n (pc := 818) 0 dL_law_818 rfl rfl ?_
        refine w_iconst (pc := 819) dL_law_819 ?_
        refine w_iadd (pc := 820) dL_law_820 ?_
        refine w_sld (pc := 821) dL_law_821 (by omega) hN ?_
        refine w_callV (pc := 822) (As := [(.int (iI (X ((((6 * t : Nat) : Int)) + (1)).toNat))), (.int (iI (X ((((6 * t : Nat) : Int)) + (2)).toNat)))]) (S := [(.int (iI (x_r)))]) dL_law_822 cv_L_110 hk_r rfl (Nat.le_of_ble_eq_true rfl) (by decide) (hm_r) (Nat.zero_le _) (Nat.zero_le _) (fun r_822 g_822 f_822 q_822 => ?_)
        obtain ⟨rfl, hI2⟩ := q_822
        refine w_icmp_eq (pc := 825) (tgt := 1070) dL_law_825 (by decide) (hr_r) (hr_r) (fun c_825 => ?_) (fun c_825 => ?_)
        · refine w_iincv (pc := 1070) (y := ((6 * (t + 1) : Nat) : Int)) (L2 := [(3, (.int (iI (((6 * (t + 1) : Nat) : Int))))), (2, (.ref 164)), (1, (.ref 64)), (0, (.ref 62))]) 0 dL_law_1070 rfl (by omega) (by decide) rfl ?_
          refine w_goto (pc := 1073) (tgt := 18) dL_law_1073 (by decide) ?_
          refine w_sub (L2 := [(3, (.int (iI (((6 * (t + 1) : Nat) : Int))))), (2, (.ref 164)), (1, (.ref 64)), (0, (.ref 62))]) [0, 1, 2, 3] rfl ?_
          exact w_room (by omega) (by omega) (ih (N + 1 - (6 * (t + 1))) (by omega) (t + 1) rfl (by omega) _ _ ‹_›)
        · exact absurd rfl c_825
      · refine w_tsw (pc := 33) (off := 797) (tgt := 830) dL_law_33 (by omega) (by omega) (by omega) (by rw [c_33]; rfl) (by decide) ?_
        refine w_aload_n (pc := 830) 2 dL_law_830 rfl rfl ?_
        refine w_aload_n (pc := 831) 3 dL_law_831 rfl rfl ?_
        refine w_iload_n (pc := 832) 0 dL_law_832 rfl rfl ?_
        refine w_iconst (pc := 833) dL_law_833 ?_
        refine w_iadd (pc := 834) dL_law_834 ?_
        refine w_sld (pc := 835) dL_law_835 (by omega) hN ?_
        refine w_aload_n (pc := 836) 3 dL_law_836 rfl rfl ?_
        refine w_iload_n (pc := 837) 0 dL_law_837 rfl rfl ?_
        refine w_iconst (pc := 838) dL_law_838 ?_
        refine w_iadd (pc := 839) dL_law_839 ?_
        refine w_sld (pc := 840) dL_law_840 (by omega) hN ?_
        refine w_callV (pc := 841) (As := [(.int (iI (X ((((6 * t : Nat) : Int)) + (1)).toNat))), (.int (iI (X ((((6 * t : Nat) : Int)) + (2)).toNat)))]) (S := []) dL_law_841 cv_L_111 (hO.1 _ _ hI) rfl (Nat.le_of_ble_eq_true rfl) (by decide) (hO.2.2.2.2.2.2.2.2.2.2.2.2.2.2.2.2.2.2.2.2.2.2.2.2.1 (X ((((6 * t : Nat) : Int)) + (1)).toNat) (X ((((6 * t : Nat) : Int)) + (2)).toNat) (hX _) (hX _) _ _ hI) (by omega) (by omega) (fun r_841 g_841 f_841 q_841 => ?_)
        obtain ⟨x_r, hr_r, rfl, hk_r, hm_r⟩ := q_841
        refine w_aload_n (pc := 844) 1 dL_law_844 rfl rfl ?_
        refine w_aload_n (pc := 845) 3 dL_law_845 rfl rfl ?_
        refine w_iload_n (pc := 846) 0 dL_law_846 rfl rfl ?_
        refine w_iconst (pc := 847) dL_law_847 ?_
        refine w_iadd (pc := 848) dL_law_848 ?_
        refine w_sld (pc := 849) dL_law_849 (by omega) hN ?_
        refine w_aload_n (pc := 850) 3 dL_law_850 rfl rfl ?_
        refine w_iload_n (pc := 851) 0 dL_law_851 rfl rfl ?_
        refine w_iconst (pc := 852) dL_law_852 ?_
        refine w_iadd (pc := 853) dL_law_853 ?_
        refine w_sld (pc := 854) dL_law_854 (by omega) hN ?_
        refine w_callV (pc := 855) (As := [(.int (iI (X ((((6 * t : Nat) : Int)) + (1)).toNat))), (.int (iI (X ((((6 * t : Nat) : Int)) + (2)).toNat)))]) (S := [(.int (iI (x_r)))]) dL_law_855 cv_L_114 hk_r rfl (Nat.le_of_ble_eq_true rfl) (by decide) (hm_r) (Nat.zero_le _) (Nat.zero_le _) (fun r_855 g_855 f_855 q_855 => ?_)
        obtain ⟨rfl, hI2⟩ := q_855
        refine w_icmp_eq (pc := 858) (tgt := 1070) dL_law_858 (by decide) (hr_r) (hr_r) (fun c_858 => ?_) (fun c_858 => ?_)
        · refine w_iincv (pc := 1070) (y := ((6 * (t + 1) : Nat) : Int)) (L2 := [(3, (.int (iI (((6 * (t + 1) : Nat) : Int))))), (2, (.ref 164)), (1, (.ref 64)), (0, (.ref 62))]) 0 dL_law_1070 rfl (by omega) (by decide) rfl ?_
          refine w_goto (pc := 1073) (tgt := 18) dL_law_1073 (by decide) ?_
          refine w_sub (L2 := [(3, (.int (iI (((6 * (t + 1) : Nat) : Int))))), (2, (.ref 164)), (1, (.ref 64)), (0, (.ref 62))]) [0, 1, 2, 3] rfl ?_
          exact w_room (by omega) (by omega) (ih (N + 1 - (6 * (t + 1))) (by omega) (t + 1) rfl (by omega) _ _ ‹_›)
        · exact absurd rfl c_858
      · refine w_tsw (pc := 33) (off := 830) (tgt := 863) dL_law_33 (by omega) (by omega) (by omega) (by rw [c_33]; rfl) (by decide) ?_
        refine w_aload_n (pc := 863) 2 dL_law_863 rfl rfl ?_
        refine w_aload_n (pc := 864) 3 dL_law_864 rfl rfl ?_
        refine w_iload_n (pc := 865) 0 dL_law_865 rfl rfl ?_
        refine w_iconst (pc := 866) dL_law_866 ?_
        refine w_iadd (pc := 867) dL_law_867 ?_
        refine w_sld (pc := 868) dL_law_868 (by omega) hN ?_
        refine w_callV (pc := 869) (As := [(.int (iI (X ((((6 * t : Nat) : Int)) + (1)).toNat)))]) (S := []) dL_law_869 cv_L_115 (hO.1 _ _ hI) rfl (Nat.le_of_ble_eq_true rfl) (by decide) (hO.2.2.2.2.2.2.2.2.2.2.2.2.2.2.2.2.2.2.2.2.2.2.2.2.2.1 (X ((((6 * t : Nat) : Int)) + (1)).toNat) (hX _) _ _ hI) (by omega) (by omega) (fun r_869 g_869 f_869 q_869 => ?_)
        obtain ⟨x_r, hr_r, rfl, hk_r, hm_r⟩ := q_869
        refine w_aload_n (pc := 872) 1 dL_law_872 rfl rfl ?_
        refine w_aload_n (pc := 873) 3 dL_law_873 rfl rfl ?_
        refine w_iload_n (pc := 874) 0 dL_law_874 rfl rfl ?_
        refine w_iconst (pc := 875) dL_law_875 ?_
        refine w_iadd (pc := 876) dL_law_876 ?_
        refine w_sld (pc := 877) dL_law_877 (by omega) hN ?_
        refine w_callV (pc := 878) (As := [(.int (iI (X ((((6 * t : Nat) : Int)) + (1)).toNat)))]) (S := [(.int (iI (x_r)))]) dL_law_878 cv_L_118 hk_r rfl (Nat.le_of_ble_eq_true rfl) (by decide) (hm_r) (Nat.zero_le _) (Nat.zero_le _) (fun r_878 g_878 f_878 q_878 => ?_)
        obtain ⟨rfl, hI2⟩ := q_878
        refine w_icmp_eq (pc := 881) (tgt := 1070) dL_law_881 (by decide) (hr_r) (hr_r) (fun c_881 => ?_) (fun c_881 => ?_)
        · refine w_iincv (pc := 1070) (y := ((6 * (t + 1) : Nat) : Int)) (L2 := [(3, (.int (iI (((6 * (t + 1) : Nat) : Int))))), (2, (.ref 164)), (1, (.ref 64)), (0, (.ref 62))]) 0 dL_law_1070 rfl (by omega) (by decide) rfl ?_
          refine w_goto (pc := 1073) (tgt := 18) dL_law_1073 (by decide) ?_
          refine w_sub (L2 := [(3, (.int (iI (((6 * (t + 1) : Nat) : Int))))), (2, (.ref 164)), (1, (.ref 64)), (0, (.ref 62))]) [0, 1, 2, 3] rfl ?_
          exact w_room (by omega) (by omega) (ih (N + 1 - (6 * (t + 1))) (by omega) (t + 1) rfl (by omega) _ _ ‹_›)
        · exact absurd rfl c_881
      · refine w_tsw (pc := 33) (off := 853) (tgt := 886) dL_law_33 (by omega) (by omega) (by omega) (by rw [c_33]; rfl) (by decide) ?_
        refine w_aload_n (pc := 886) 2 dL_law_886 rfl rfl ?_
        refine w_callV (pc := 887) (As := []) (S := []) dL_law_887 cv_L_119 (hO.1 _ _ hI) rfl (Nat.le_of_ble_eq_true rfl) (by decide) (hO.2.2.2.2.2.2.2.2.2.2.2.2.2.2.2.2.2.2.2.2.2.2.2.2.2.2.1   _ _ hI) (by omega) (by omega) (fun r_887 g_887 f_887 q_887 => ?_)
        obtain ⟨x_r, hr_r, rfl, hk_r, hm_r⟩ := q_887
        refine w_aload_n (pc := 890) 1 dL_law_890 rfl rfl ?_
        refine w_callV (pc := 891) (As := []) (S := [(.int (iI (x_r)))]) dL_law_891 cv_L_122 hk_r rfl (Nat.le_of_ble_eq_true rfl) (by decide) (hm_r) (Nat.zero_le _) (Nat.zero_le _) (fun r_891 g_891 f_891 q_891 => ?_)
        obtain ⟨rfl, hI2⟩ := q_891
        refine w_icmp_eq (pc := 894) (tgt := 1070) dL_law_894 (by decide) (hr_r) (hr_r) (fun c_894 => ?_) (fun c_894 => ?_)
        · refine w_iincv (pc := 1070) (y := ((6 * (t + 1) : Nat) : Int)) (L2 := [(3, (.int (iI (((6 * (t + 1) : Nat) : Int))))), (2, (.ref 164)), (1, (.ref 64)), (0, (.ref 62))]) 0 dL_law_1070 rfl (by omega) (by decide) rfl ?_
          refine w_goto (pc := 1073) (tgt := 18) dL_law_1073 (by decide) ?_
          refine w_sub (L2 := [(3, (.int (iI (((6 * (t + 1) : Nat) : Int))))), (2, (.ref 164)), (1, (.ref 64)), (0, (.ref 62))]) [0, 1, 2, 3] rfl ?_
          exact w_room (by omega) (by omega) (ih (N + 1 - (6 * (t + 1))) (by omega) (t + 1) rfl (by omega) _ _ ‹_›)
        · exact absurd rfl c_894
      · refine w_tsw (pc := 33) (off := 866) (tgt := 899) dL_law_33 (by omega) (by omega) (by omega) (by rw [c_33]; rfl) (by decide) ?_
        refine w_aload_n (pc := 899) 2 dL_law_899 rfl rfl ?_
        refine w_aload_n (pc := 900) 3 dL_law_900 rfl rfl ?_
        refine w_iload_n (pc := 901) 0 dL_law_901 rfl rfl ?_
        refine w_iconst (pc := 902) dL_law_902 ?_
        refine w_iadd (pc := 903) dL_law_903 ?_
        refine w_sld (pc := 904) dL_law_904 (by omega) hN ?_
        refine w_callV (pc := 905) (As := [(.int (iI (X ((((6 * t : Nat) : Int)) + (1)).toNat)))]) (S := []) dL_law_905 cv_L_123 (hO.1 _ _ hI) rfl (Nat.le_of_ble_eq_true rfl) (by decide) (hO.2.2.2.2.2.2.2.2.2.2.2.2.2.2.2.2.2.2.2.2.2.2.2.2.2.2.2.1 (X ((((6 * t : Nat) : Int)) + (1)).toNat) (hX _) _ _ hI) (by omega) (by omega) (fun r_905 g_905 f_905 q_905 => ?_)
        obtain ⟨x_r, hr_r, rfl, hk_r, hm_r⟩ := q_905
        refine w_aload_n (pc := 908) 1 dL_law_908 rfl rfl ?_
        refine w_aload_n (pc := 909) 3 dL_law_909 rfl rfl ?_
        refine w_iload_n (pc := 910) 0 dL_law_910 rfl rfl ?_
        refine w_iconst (pc := 911) dL_law_911 ?_
        refine w_iadd (pc := 912) dL_law_912 ?_
        refine w_sld (pc := 913) dL_law_913 (by omega) hN ?_
        refine w_callV (pc := 914) (As := [(.int (iI (X ((((6 * t : Nat) : Int)) + (1)).toNat)))]) (S := [(.int (iI (x_r)))]) dL_law_914 cv_L_126 hk_r rfl (Nat.le_of_ble_eq_true rfl) (by decide) (hm_r) (Nat.zero_le _) (Nat.zero_le _) (fun r_914 g_914 f_914 q_914 => ?_)
        obtain ⟨rfl, hI2⟩ := q_914
        refine w_icmp_eq (pc := 917) (tgt := 1070) dL_law_917 (by decide) (hr_r) (hr_r) (fun c_917 => ?_) (fun c_917 => ?_)
        · refine w_iincv (pc := 1070) (y := ((6 * (t + 1) : Nat) : Int)) (L2 := [(3, (.int (iI (((6 * (t + 1) : Nat) : Int))))), (2, (.ref 164)), (1, (.ref 64)), (0, (.ref 62))]) 0 dL_law_1070 rfl (by omega) (by decide) rfl ?_
          refine w_goto (pc := 1073) (tgt := 18) dL_law_1073 (by decide) ?_
          refine w_sub (L2 := [(3, (.int (iI (((6 * (t + 1) : Nat) : Int))))), (2, (.ref 164)), (1, (.ref 64)), (0, (.ref 62))]) [0, 1, 2, 3] rfl ?_
          exact w_room (by omega) (by omega) (ih (N + 1 - (6 * (t + 1))) (by omega) (t + 1) rfl (by omega) _ _ ‹_›)
        · exact absurd rfl c_917
      · refine w_tsw (pc := 33) (off := 889) (tgt := 922) dL_law_33 (by omega) (by omega) (by omega) (by rw [c_33]; rfl) (by decide) ?_
        refine w_aload_n (pc := 922) 2 dL_law_922 rfl rfl ?_
        refine w_aload_n (pc := 923) 3 dL_law_923 rfl rfl ?_
        refine w_iload_n (pc := 924) 0 dL_law_924 rfl rfl ?_
        refine w_iconst (pc := 925) dL_law_925 ?_
        refine w_iadd (pc := 926) dL_law_926 ?_
        refine w_sld (pc := 927) dL_law_927 (by omega) hN ?_
        refine w_aload_n (pc := 928) 3 dL_law_928 rfl rfl ?_
        refine w_iload_n (pc := 929) 0 dL_law_929 rfl rfl ?_
        refine w_iconst (pc := 930) dL_law_930 ?_
        refine w_iadd (pc := 931) dL_law_931 ?_
        refine w_sld (pc := 932) dL_law_932 (by omega) hN ?_
        refine w_callV (pc := 933) (As := [(.int (iI (X ((((6 * t : Nat) : Int)) + (1)).toNat))), (.int (iI (X ((((6 * t : Nat) : Int)) + (2)).toNat)))]) (S := []) dL_law_933 cv_L_127 (hO.1 _ _ hI) rfl (Nat.le_of_ble_eq_true rfl) (by decide) (hO.2.2.2.2.2.2.2.2.2.2.2.2.2.2.2.2.2.2.2.2.2.2.2.2.2.2.2.2.1 (X ((((6 * t : Nat) : Int)) + (1)).toNat) (X ((((6 * t : Nat) : Int)) + (2)).toNat) (hX _) (hX _) _ _ hI) (by omega) (by omega) (fun r_933 g_933 f_933 q_933 => ?_)
        obtain ⟨x_r, hr_r, rfl, hk_r, hm_r⟩ := q_933
        refine w_aload_n (pc := 936) 1 dL_law_936 rfl rfl ?_
        refine w_aload_n (pc := 937) 3 dL_law_937 rfl rfl ?_
        refine w_iload_n (pc := 938) 0 dL_law_938 rfl rfl ?_
        refine w_iconst (pc := 939) dL_law_939 ?_
        refine w_iadd (pc := 940) dL_law_940 ?_
        refine w_sld (pc := 941) dL_law_941 (by omega) hN ?_
        refine w_aload_n (pc := 942) 3 dL_law_942 rfl rfl ?_
        refine w_iload_n (pc := 943) 0 dL_law_943 rfl rfl ?_
        refine w_iconst (pc := 944) dL_law_944 ?_
        refine w_iadd (pc := 945) dL_law_945 ?_
        refine w_sld (pc := 946) dL_law_946 (by omega) hN ?_
        refine w_callV (pc := 947) (As := [(.int (iI (X ((((6 * t : Nat) : Int)) + (1)).toNat))), (.int (iI (X ((((6 * t : Nat) : Int)) + (2)).toNat)))]) (S := [(.int (iI (x_r)))]) dL_law_947 cv_L_130 hk_r rfl (Nat.le_of_ble_eq_true rfl) (by decide) (hm_r) (Nat.zero_le _) (Nat.zero_le _) (fun r_947 g_947 f_947 q_947 => ?_)
        obtain ⟨rfl, hI2⟩ := q_947
        refine w_icmp_eq (pc := 950) (tgt := 1070) dL_law_950 (by decide) (hr_r) (hr_r) (fun c_950 => ?_) (fun c_950 => ?_)
        · refine w_iincv (pc := 1070) (y := ((6 * (t + 1) : Nat) : Int)) (L2 := [(3, (.int (iI (((6 * (t + 1) : Nat) : Int))))), (2, (.ref 164)), (1, (.ref 64)), (0, (.ref 62))]) 0 dL_law_1070 rfl (by omega) (by decide) rfl ?_
          refine w_goto (pc := 1073) (tgt := 18) dL_law_1073 (by decide) ?_
          refine w_sub (L2 := [(3, (.int (iI (((6 * (t + 1) : Nat) : Int))))), (2, (.ref 164)), (1, (.ref 64)), (0, (.ref 62))]) [0, 1, 2, 3] rfl ?_
          exact w_room (by omega) (by omega) (ih (N + 1 - (6 * (t + 1))) (by omega) (t + 1) rfl (by omega) _ _ ‹_›)
        · exact absurd rfl c_950
      · refine w_tsw (pc := 33) (off := 922) (tgt := 955) dL_law_33 (by omega) (by omega) (by omega) (by rw [c_33]; rfl) (by decide) ?_
        refine w_aload_n (pc := 955) 2 dL_law_955 rfl rfl ?_
        refine w_aload_n (pc := 956) 3 dL_law_956 rfl rfl ?_
        refine w_iload_n (pc := 957) 0 dL_law_957 rfl rfl ?_
        refine w_iconst (pc := 958) dL_law_958 ?_
        refine w_iadd (pc := 959) dL_law_959 ?_
        refine w_sld (pc := 960) dL_law_960 (by omega) hN ?_
        refine w_aload_n (pc := 961) 3 dL_law_961 rfl rfl ?_
        refine w_iload_n (pc := 962) 0 dL_law_962 rfl rfl ?_
        refine w_iconst (pc := 963) dL_law_963 ?_
        refine w_iadd (pc := 964) dL_law_964 ?_
        refine w_sld (pc := 965) dL_law_965 (by omega) hN ?_
        refine w_callV (pc := 966) (As := [(.int (iI (X ((((6 * t : Nat) : Int)) + (1)).toNat))), (.int (iI (X ((((6 * t : Nat) : Int)) + (2)).toNat)))]) (S := []) dL_law_966 cv_L_131 (hO.1 _ _ hI) rfl (Nat.le_of_ble_eq_true rfl) (by decide) (hO.2.2.2.2.2.2.2.2.2.2.2.2.2.2.2.2.2.2.2.2.2.2.2.2.2.2.2.2.2.1 (X ((((6 * t : Nat) : Int)) + (1)).toNat) (X ((((6 * t : Nat) : Int)) + (2)).toNat) (hX _) (hX _) _ _ hI) (by omega) (by omega) (fun r_966 g_966 f_966 q_966 => ?_)
        obtain ⟨x_r, hr_r, rfl, hk_r, hm_r⟩ := q_966
        refine w_aload_n (pc := 969) 1 dL_law_969 rfl rfl ?_
        refine w_aload_n (pc := 970) 3 dL_law_970 rfl rfl ?_
        refine w_iload_n (pc := 971) 0 dL_law_971 rfl rfl ?_
        refine w_iconst (pc := 972) dL_law_972 ?_
        refine w_iadd (pc := 973) dL_law_973 ?_
        refine w_sld (pc := 974) dL_law_974 (by omega) hN ?_
        refine w_aload_n (pc := 975) 3 dL_law_975 rfl rfl ?_
        refine w_iload_n (pc := 976) 0 dL_law_976 rfl rfl ?_
        refine w_iconst (pc := 977) dL_law_977 ?_
        refine w_iadd (pc := 978) dL_law_978 ?_
        refine w_sld (pc := 979) dL_law_979 (by omega) hN ?_
        refine w_callV (pc := 980) (As := [(.int (iI (X ((((6 * t : Nat) : Int)) + (1)).toNat))), (.int (iI (X ((((6 * t : Nat) : Int)) + (2)).toNat)))]) (S := [(.int (iI (x_r)))]) dL_law_980 cv_L_134 hk_r rfl (Nat.le_of_ble_eq_true rfl) (by decide) (hm_r) (Nat.zero_le _) (Nat.zero_le _) (fun r_980 g_980 f_980 q_980 => ?_)
        obtain ⟨rfl, hI2⟩ := q_980
        refine w_icmp_eq (pc := 983) (tgt := 1070) dL_law_983 (by decide) (hr_r) (hr_r) (fun c_983 => ?_) (fun c_983 => ?_)
        · refine w_iincv (pc := 1070) (y := ((6 * (t + 1) : Nat) : Int)) (L2 := [(3, (.int (iI (((6 * (t + 1) : Nat) : Int))))), (2, (.ref 164)), (1, (.ref 64)), (0, (.ref 62))]) 0 dL_law_1070 rfl (by omega) (by decide) rfl ?_
          refine w_goto (pc := 1073) (tgt := 18) dL_law_1073 (by decide) ?_
          refine w_sub (L2 := [(3, (.int (iI (((6 * (t + 1) : Nat) : Int))))), (2, (.ref 164)), (1, (.ref 64)), (0, (.ref 62))]) [0, 1, 2, 3] rfl ?_
          exact w_room (by omega) (by omega) (ih (N + 1 - (6 * (t + 1))) (by omega) (t + 1) rfl (by omega) _ _ ‹_›)
        · exact absurd rfl c_983
      · refine w_tsw (pc := 33) (off := 955) (tgt := 988) dL_law_33 (by omega) (by omega) (by omega) (by rw [c_33]; rfl) (by decide) ?_
        refine w_aload_n (pc := 988) 2 dL_law_988 rfl rfl ?_
        refine w_aload_n (pc := 989) 3 dL_law_989 rfl rfl ?_
        refine w_iload_n (pc := 990) 0 dL_law_990 rfl rfl ?_
        refine w_iconst (pc := 991) dL_law_991 ?_
        refine w_iadd (pc := 992) dL_law_992 ?_
        refine w_sld (pc := 993) dL_law_993 (by omega) hN ?_
        refine w_callV (pc := 994) (As := [(.int (iI (X ((((6 * t : Nat) : Int)) + (1)).toNat)))]) (S := []) dL_law_994 cv_L_135 (hO.1 _ _ hI) rfl (Nat.le_of_ble_eq_true rfl) (by decide) (hO.2.2.2.2.2.2.2.2.2.2.2.2.2.2.2.2.2.2.2.2.2.2.2.2.2.2.2.2.2.2.1 (X ((((6 * t : Nat) : Int)) + (1)).toNat) (hX _) _ _ hI) (by omega) (by omega) (fun r_994 g_994 f_994 q_994 => ?_)
        obtain ⟨x_r, hr_r, rfl, hk_r, hm_r⟩ := q_994
        refine w_aload_n (pc := 997) 1 dL_law_997 rfl rfl ?_
        refine w_aload_n (pc := 998) 3 dL_law_998 rfl rfl ?_
        refine w_iload_n (pc := 999) 0 dL_law_999 rfl rfl ?_
        refine w_iconst (pc := 1000) dL_law_1000 ?_
        refine w_iadd (pc := 1001) dL_law_1001 ?_
        refine w_sld (pc := 1002) dL_law_1002 (by omega) hN ?_
        refine w_callV (pc := 1003) (As := [(.int (iI (X ((((6 * t : Nat) : Int)) + (1)).toNat)))]) (S := [(.int (iI (x_r)))]) dL_law_1003 cv_L_138 hk_r rfl (Nat.le_of_ble_eq_true rfl) (by decide) (hm_r) (Nat.zero_le _) (Nat.zero_le _) (fun r_1003 g_1003 f_1003 q_1003 => ?_)
        obtain ⟨rfl, hI2⟩ := q_1003
        refine w_icmp_eq (pc := 1006) (tgt := 1070) dL_law_1006 (by decide) (hr_r) (hr_r) (fun c_1006 => ?_) (fun c_1006 => ?_)
        · refine w_iincv (pc := 1070) (y := ((6 * (t + 1) : Nat) : Int)) (L2 := [(3, (.int (iI (((6 * (t + 1) : Nat) : Int))))), (2, (.ref 164)), (1, (.ref 64)), (0, (.ref 62))]) 0 dL_law_1070 rfl (by omega) (by decide) rfl ?_
          refine w_goto (pc := 1073) (tgt := 18) dL_law_1073 (by decide) ?_
          refine w_sub (L2 := [(3, (.int (iI (((6 * (t + 1) : Nat) : Int))))), (2, (.ref 164)), (1, (.ref 64)), (0, (.ref 62))]) [0, 1, 2, 3] rfl ?_
          exact w_room (by omega) (by omega) (ih (N + 1 - (6 * (t + 1))) (by omega) (t + 1) rfl (by omega) _ _ ‹_›)
        · exact absurd rfl c_1006
      · refine w_tsw (pc := 33) (off := 978) (tgt := 1011) dL_law_33 (by omega) (by omega) (by omega) (by rw [c_33]; rfl) (by decide) ?_
        refine w_aload_n (pc := 1011) 2 dL_law_1011 rfl rfl ?_
        refine w_aload_n (pc := 1012) 3 dL_law_1012 rfl rfl ?_
        refine w_iload_n (pc := 1013) 0 dL_law_1013 rfl rfl ?_
        refine w_iconst (pc := 1014) dL_law_1014 ?_
        refine w_iadd (pc := 1015) dL_law_1015 ?_
        refine w_sld (pc := 1016) dL_law_1016 (by omega) hN ?_
        refine w_callV (pc := 1017) (As := [(.int (iI (X ((((6 * t : Nat) : Int)) + (1)).toNat)))]) (S := []) dL_law_1017 cv_L_139 (hO.1 _ _ hI) rfl (Nat.le_of_ble_eq_true rfl) (by decide) (hO.2.2.2.2.2.2.2.2.2.2.2.2.2.2.2.2.2.2.2.2.2.2.2.2.2.2.2.2.2.2.2.1 (X ((((6 * t : Nat) : Int)) + (1)).toNat) (hX _) _ _ hI) (by omega) (by omega) (fun r_1017 g_1017 f_1017 q_1017 => ?_)
        obtain ⟨x_r, hr_r, rfl, hk_r, hm_r⟩ := q_1017
        refine w_aload_n (pc := 1020) 1 dL_law_1020 rfl rfl ?_
        refine w_aload_n (pc := 1021) 3 dL_law_1021 rfl rfl ?_
        refine w_iload_n (pc := 1022) 0 dL_law_1022 rfl rfl ?_
        refine w_iconst (pc := 1023) dL_law_1023 ?_
        refine w_iadd (pc := 1024) dL_law_1024 ?_
        refine w_sld (pc := 1025) dL_law_1025 (by omega) hN ?_
        refine w_callV (pc := 1026) (As := [(.int (iI (X ((((6 * t : Nat) : Int)) + (1)).toNat)))]) (S := [(.int (iI (x_r)))]) dL_law_1026 cv_L_142 hk_r rfl (Nat.le_of_ble_eq_true rfl) (by decide) (hm_r) (Nat.zero_le _) (Nat.zero_le _) (fun r_1026 g_1026 f_1026 q_1026 => ?_)
        obtain ⟨rfl, hI2⟩ := q_1026
        refine w_icmp_eq (pc := 1029) (tgt := 1070) dL_law_1029 (by decide) (hr_r) (hr_r) (fun c_1029 => ?_) (fun c_1029 => ?_)
        · refine w_iincv (pc := 1070) (y := ((6 * (t + 1) : Nat) : Int)) (L2 := [(3, (.int (iI (((6 * (t + 1) : Nat) : Int))))), (2, (.ref 164)), (1, (.ref 64)), (0, (.ref 62))]) 0 dL_law_1070 rfl (by omega) (by decide) rfl ?_
          refine w_goto (pc := 1073) (tgt := 18) dL_law_1073 (by decide) ?_
          refine w_sub (L2 := [(3, (.int (iI (((6 * (t + 1) : Nat) : Int))))), (2, (.ref 164)), (1, (.ref 64)), (0, (.ref 62))]) [0, 1, 2, 3] rfl ?_
          exact w_room (by omega) (by omega) (ih (N + 1 - (6 * (t + 1))) (by omega) (t + 1) rfl (by omega) _ _ ‹_›)
        · exact absurd rfl c_1029
      · refine w_tsw (pc := 33) (off := 1001) (tgt := 1034) dL_law_33 (by omega) (by omega) (by omega) (by rw [c_33]; rfl) (by decide) ?_
        refine w_aload_n (pc := 1034) 2 dL_law_1034 rfl rfl ?_
        refine w_aload_n (pc := 1035) 3 dL_law_1035 rfl rfl ?_
        refine w_iload_n (pc := 1036) 0 dL_law_1036 rfl rfl ?_
        refine w_iconst (pc := 1037) dL_law_1037 ?_
        refine w_iadd (pc := 1038) dL_law_1038 ?_
        refine w_sld (pc := 1039) dL_law_1039 (by omega) hN ?_
        refine w_callV (pc := 1040) (As := [(.int (iI (X ((((6 * t : Nat) : Int)) + (1)).toNat)))]) (S := []) dL_law_1040 cv_L_143 (hO.1 _ _ hI) rfl (Nat.le_of_ble_eq_true rfl) (by decide) (hO.2.2.2.2.2.2.2.2.2.2.2.2.2.2.2.2.2.2.2.2.2.2.2.2.2.2.2.2.2.2.2.2.1 (X ((((6 * t : Nat) : Int)) + (1)).toNat) (hX _) _ _ hI) (by omega) (by omega) (fun r_1040 g_1040 f_1040 q_1040 => ?_)
        obtain ⟨x_r, hr_r, rfl, hk_r, hm_r⟩ := q_1040
        refine w_aload_n (pc := 1043) 1 dL_law_1043 rfl rfl ?_
        refine w_aload_n (pc := 1044) 3 dL_law_1044 rfl rfl ?_
        refine w_iload_n (pc := 1045) 0 dL_law_1045 rfl rfl ?_
        refine w_iconst (pc := 1046) dL_law_1046 ?_
        refine w_iadd (pc := 1047) dL_law_1047 ?_
        refine w_sld (pc := 1048) dL_law_1048 (by omega) hN ?_
        refine w_callV (pc := 1049) (As := [(.int (iI (X ((((6 * t : Nat) : Int)) + (1)).toNat)))]) (S := [(.int (iI (x_r)))]) dL_law_1049 cv_L_146 hk_r rfl (Nat.le_of_ble_eq_true rfl) (by decide) (hm_r) (Nat.zero_le _) (Nat.zero_le _) (fun r_1049 g_1049 f_1049 q_1049 => ?_)
        obtain ⟨rfl, hI2⟩ := q_1049
        refine w_icmp_eq (pc := 1052) (tgt := 1070) dL_law_1052 (by decide) (hr_r) (hr_r) (fun c_1052 => ?_) (fun c_1052 => ?_)
        · refine w_iincv (pc := 1070) (y := ((6 * (t + 1) : Nat) : Int)) (L2 := [(3, (.int (iI (((6 * (t + 1) : Nat) : Int))))), (2, (.ref 164)), (1, (.ref 64)), (0, (.ref 62))]) 0 dL_law_1070 rfl (by omega) (by decide) rfl ?_
          refine w_goto (pc := 1073) (tgt := 18) dL_law_1073 (by decide) ?_
          refine w_sub (L2 := [(3, (.int (iI (((6 * (t + 1) : Nat) : Int))))), (2, (.ref 164)), (1, (.ref 64)), (0, (.ref 62))]) [0, 1, 2, 3] rfl ?_
          exact w_room (by omega) (by omega) (ih (N + 1 - (6 * (t + 1))) (by omega) (t + 1) rfl (by omega) _ _ ‹_›)
        · exact absurd rfl c_1052
      · refine w_tsw (pc := 33) (off := 1024) (tgt := 1057) dL_law_33 (by omega) (by omega) (by omega) (by rw [c_33]; rfl) (by decide) ?_
        refine w_aload_n (pc := 1057) 2 dL_law_1057 rfl rfl ?_
        refine w_callV (pc := 1058) (As := []) (S := []) dL_law_1058 cv_L_147 (hO.1 _ _ hI) rfl (Nat.le_of_ble_eq_true rfl) (by decide) (hO.2.2.2.2.2.2.2.2.2.2.2.2.2.2.2.2.2.2.2.2.2.2.2.2.2.2.2.2.2.2.2.2.2   _ _ hI) (by omega) (by omega) (fun r_1058 g_1058 f_1058 q_1058 => ?_)
        obtain ⟨x_r, hr_r, rfl, hk_r, hm_r⟩ := q_1058
        refine w_aload_n (pc := 1061) 1 dL_law_1061 rfl rfl ?_
        refine w_callV (pc := 1062) (As := []) (S := [(.int (iI (x_r)))]) dL_law_1062 cv_L_150 hk_r rfl (Nat.le_of_ble_eq_true rfl) (by decide) (hm_r) (Nat.zero_le _) (Nat.zero_le _) (fun r_1062 g_1062 f_1062 q_1062 => ?_)
        obtain ⟨rfl, hI2⟩ := q_1062
        refine w_icmp_eq (pc := 1065) (tgt := 1070) dL_law_1065 (by decide) (hr_r) (hr_r) (fun c_1065 => ?_) (fun c_1065 => ?_)
        · refine w_iincv (pc := 1070) (y := ((6 * (t + 1) : Nat) : Int)) (L2 := [(3, (.int (iI (((6 * (t + 1) : Nat) : Int))))), (2, (.ref 164)), (1, (.ref 64)), (0, (.ref 62))]) 0 dL_law_1070 rfl (by omega) (by decide) rfl ?_
          refine w_goto (pc := 1073) (tgt := 18) dL_law_1073 (by decide) ?_
          refine w_sub (L2 := [(3, (.int (iI (((6 * (t + 1) : Nat) : Int))))), (2, (.ref 164)), (1, (.ref 64)), (0, (.ref 62))]) [0, 1, 2, 3] rfl ?_
          exact w_room (by omega) (by omega) (ih (N + 1 - (6 * (t + 1))) (by omega) (t + 1) rfl (by omega) _ _ ‹_›)
        · exact absurd rfl c_1065

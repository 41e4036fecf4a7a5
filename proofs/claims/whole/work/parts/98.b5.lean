theorem MSc.up {f f1 f2 : Fm} (h : MSc f f1) (h2 : MSc f1 f2) : MSc f f2 := ⟨fun a ha => (h2.1 a ha).trans (h.1 a ha), fun q a1 a2 a3 a4 a5 => (h2.2.1 q a1 a2 a3 a4 a5).trans (h.2.1 q a1 a2 a3 a4 a5), h2.2.2⟩
theorem FnP.mf {f f' : Fm} {K : Nat → Int} {n b : Nat} (h : FnP f f' K n b) : MSc f f' := ⟨fun a ha => h.1 a (by omega) (by omega) (by omega) (by omega) (by omega) (by omega) (by omega) (by omega) (by omega), h.2.1, h.2.2.1⟩
/-- how a bake ends in the model -/
def BkM (f : Fm) (K : Nat → Int) (n : Nat) (how : Int) (r : Option Value) (f' : Fm) : Prop := ∃ f1, MSc f f1 ∧ ((¬ (0 ≤ how ∧ how ≤ 2) ∧ r = some (.int (iI (-1))) ∧ f' = rfs f1 (-1)) ∨ ((0 < how ∧ how ≤ 2) ∧ sWy K n (how.toNat - 1) = 0 ∧ r = some (.int (iI (-3))) ∧ f' = rfs f1 (-3)) ∨ ((0 ≤ how ∧ how ≤ 2) ∧ (0 < how → 0 < sWy K n (how.toNat - 1)) ∧ ¬ fitP K n (bkO K n how) ∧ r = some (.int (iI (-5))) ∧ f' = rfs f1 (-5)) ∨ ((0 ≤ how ∧ how ≤ 2) ∧ (0 < how → 0 < sWy K n (how.toNat - 1)) ∧ fitP K n (bkO K n how) ∧ r = some (.int (iI (alK K n (bkO K n how) n))) ∧ ∃ f2, (∀ q, q ≠ 166 → f2 q = f1 q) ∧ f2 166 = goK K n (bkO K n how) ∧ f' = gd f2))

set_option maxRecDepth 100000 in
set_option maxHeartbeats 4000000 in
theorem m_bake (l : Launch) (z : Zv) {g : Gm} {f : Fm} {K : Nat → Int} {n : Nat} (hM : ML g) (hK : f 166 = K) (hO : KO K 9999 999999) (hn : K 77 = ((n : Nat) : Int)) (hb20 : ∃ bk : Bool, f 164 20 = b01 (bk = true)) {how : Int} (h_how : -2147483648 ≤ how ∧ how ≤ 2147483647) {D : Nat} (hD : 274 ≤ D) : PM l z D mX11_bake [.ref 164, .int (iI how)] g f 0 0 (fun r g' f' => g = g' ∧ BkM f K n how r f') := by
  obtain ⟨d, rfl⟩ : ∃ d, D = d + 274 := ⟨D - 274, by omega⟩
  have hn8 : n ≤ 8 := by have := hO.n; omega
  have hdy := hO.dy
  refine PM.of (by decide +kernel) (Nat.le_of_ble_eq_true rfl) ?_
  refine r_iload_n (pc := 0) 1 dX11_bake_0 rfl rfl ?_
  refine r_iconst (pc := 1) dX11_bake_1 ?_
  refine r_iconst (pc := 2) dX11_bake_2 ?_
  refine r_callS (pc := 3) (As := [(.int (iI (how))), (.int (iI (0))), (.int (iI (2)))]) (S := []) dX11_bake_3 cs_X11_110 rfl (Nat.le_of_ble_eq_true rfl) (m_lies l z _ (by omega) (by omega) (by omega)) (Nat.zero_le _) (Nat.zero_le _) (fun r_3 g_3 f_3 q_3 => ?_)
  obtain ⟨rfl, rfl, rfl⟩ := q_3
  refine r_if_ne (pc := 6) (tgt := 15) dX11_bake_6 (by decide) (b01_r) (fun c_6 => ?_) (fun c_6 => ?_)
  · replace c_6 := b01_nz c_6
    refine r_iload_n (pc := 15) 1 dX11_bake_15 rfl rfl ?_
    refine r_if_le (pc := 16) (tgt := 36) dX11_bake_16 (by decide) (by omega) (fun c_16 => ?_) (fun c_16 => ?_)
    · have hKp := hK
      have hbp := hb20
      have hmp : MSc f f := MSc.rf hb20
      have hrow : ¬ how = 0 → ∀ i, i < n → f 184 i = ((bkO K n how i : Nat) : Int) := fun h => absurd (by omega) h
      have hwy : 0 < how → 0 < sWy K n (how.toNat - 1) := fun h => absurd h (by omega)
      refine r_aload_n (pc := 36) 0 dX11_bake_36 rfl rfl ?_
      refine r_aload_n (pc := 37) 0 dX11_bake_37 rfl rfl ?_
      refine r_getR (pc := 38) (b := 166) dX11_bake_38 fl_X11_17 rfl hM.k hM.r2 ?_
      refine r_bipush (pc := 41) dX11_bake_41 (by decide) ?_
      refine r_ialdv (pc := 43) (w := K 42) dX11_bake_43 hM.a2 (by decide) (by decide) (congrFun hK 42) ?_
      refine r_callV (pc := 44) (As := [(.int (iI (K 42)))]) (S := []) dX11_bake_44 cv_X11_142 hM.k rfl (Nat.le_of_ble_eq_true rfl) (m_lays (day := K 42) l z hM hKp hO hn hbp (by omega) (D := d + 273) (by omega)) (Nat.zero_le _) (Nat.zero_le _) (fun r_44 g_44 f_44 q_44 => ?_)
      obtain ⟨rfl, rfl, hly⟩ := q_44
      have hMD := hly.md hKp hO (by decide) hn
      have hK8 : f_44 166 = K := by rw [hly.1 166 (by decide) (by decide) (by decide) (by decide) (by decide) (by decide)]; exact hKp
      have hms : MSc f f_44 := hmp.up hly.mf
      refine r_iconst (pc := 47) dX11_bake_47 ?_
      refine r_istore_n (pc := 48) (L2 := [(2, (.int (iI (0)))), (0, (.ref 164)), (1, (.int (iI (how))))]) dX11_bake_48 rfl (by decide) rfl ?_
      have loop1 : ∀ m c : Nat, m = n - c → c ≤ n → ∀ f1 : Fm, (∀ q, q ≠ 184 → q ≠ 190 → q ≠ 191 → f1 q = f_44 q) → (∀ q, q < c → f1 190 q = K (5 * q + 3) ∧ f1 191 q = K (5 * q + 4) ∧ (how = 0 → f1 184 q = ((q : Nat) : Int))) → (¬ how = 0 → f1 184 = f_44 184) → PW l z (d + 274) mX11_bake 0 0 (fun r g' f' => g = g' ∧ BkM f K n how r f') 49 [(2, (.int (iI (((c : Nat) : Int))))), (0, (.ref 164)), (1, (.int (iI (how))))] [] g f1 0 0 := by
        intro m
        induction m using Nat.strongRecOn with
        | _ m ih =>
          intro c hm hc0 f1 hF1 hR1 hX1
          have hK1 : f1 166 = K := by rw [hF1 166 (by decide) (by decide) (by decide)]; exact hK8
          refine r_iload_n (pc := 49) 0 dX11_bake_49 rfl rfl ?_
          refine r_aload_n (pc := 50) 1 dX11_bake_50 rfl rfl ?_
          refine r_callV (pc := 51) (As := []) (S := [(.int (iI (((c : Nat) : Int))))]) dX11_bake_51 cv_X11_121 hM.k rfl (Nat.le_of_ble_eq_true rfl) (m_cust (v := ((n : Nat) : Int)) l z _ hM ((congrFun hK1 77).trans hn)) (Nat.zero_le _) (Nat.zero_le _) (fun r_51 g_51 f_51 q_51 => ?_)
          obtain ⟨rfl, rfl, rfl⟩ := q_51
          refine r_icmp_ge (pc := 54) (tgt := 98) dX11_bake_54 (by decide) (by omega) (by omega) (fun c_54 => ?_) (fun c_54 => ?_)
          · have hcn : c = n := by omega
            have hok : okO (bkO K n how) n := by
              by_cases h0 : how = 0
              · rw [bkO_0 h0]; exact okO_id n
              · rw [bkO_s h0]; exact okO_sRw (hwy (by omega))
            have h184 : ∀ i, i < n → f1 184 i = (((bkO K n how) i : Nat) : Int) := fun i hi => by
              by_cases h0 : how = 0
              · rw [bkO_0 h0]; exact (hR1 i (by omega)).2.2 h0
              · rw [hX1 h0, hly.1 184 (by decide) (by decide) (by decide) (by decide) (by decide) (by decide)]; exact hrow h0 i hi
            have hD1 : MD f1 n (ovK K) (waK K (K 42) (hdK K)) (wtK K (K 42) (hdK K) n) (bkK K) := hMD.mv (hF1 166 (by decide) (by decide) (by decide)) (hF1 176 (by decide) (by decide) (by decide)) (hF1 177 (by decide) (by decide) (by decide)) (hF1 178 (by decide) (by decide) (by decide))
            have hbk0 := (bkK_r (o := 0) hO (by decide) (by decide)).2
            have hbk1 := (bkK_r (o := 1) hO (by decide) (by decide)).2
            have hsw0 := swN_r (ov := ovK K) (wa := (waK K (K 42) (hdK K))) (o := 0) n (fun c hc => waK_r hO (by omega))
            have hsw1 := swN_r (ov := ovK K) (wa := (waK K (K 42) (hdK K))) (o := 1) n (fun c hc => waK_r hO (by omega))
            refine r_aload_n (pc := 98) 1 dX11_bake_98 rfl rfl ?_
            refine r_callV (pc := 99) (As := []) (S := []) dX11_bake_99 cv_X11_354 hM.k rfl (Nat.le_of_ble_eq_true rfl) (m_goesBy (K := K) (od := (bkO K n how)) (pH := fun c => K (5 * c + 3)) (pB := fun c => K (5 * c + 4)) l z (d + 270) hM hD1 hO (congrFun hK1 40) (congrFun hK1 41) hok h184 (fun q hq => (hR1 q (by omega)).1) (fun q hq => (hR1 q (by omega)).2.1)) (Nat.zero_le _) (Nat.zero_le _) (fun r_99 g_99 f_99 q_99 => ?_)
            obtain ⟨rfl, rfl, hg1, hg2, hg3⟩ := q_99
            have hKg : f_99 166 = K := by rw [hg1 166 (by decide) (by decide) (by decide) (by decide)]; exact hK1
            refine r_istore_n (pc := 102) (L2 := [(2, (.int (iI (alK K n (bkO K n how) n)))), (0, (.ref 164)), (1, (.int (iI (how))))]) dX11_bake_102 rfl (by decide) rfl ?_
            refine r_aload_n (pc := 103) 1 dX11_bake_103 rfl rfl ?_
            refine r_callV (pc := 104) (As := []) (S := []) dX11_bake_104 cv_X11_357 hM.k rfl (Nat.le_of_ble_eq_true rfl) (m_canBe (n := n) (b0 := bkK K 0 + swN (ovK K) (waK K (K 42) (hdK K)) 0 n) (b1 := bkK K 1 + swN (ovK K) (waK K (K 42) (hdK K)) 1 n) (pH := fun c => K (5 * c + 3) + gcK K n (bkO K n how) c) (pB := fun c => K (5 * c + 4) + (((waK K (K 42) (hdK K)) c : Nat) : Int)) l z (d + 272) hM ((congrFun hKg 77).trans hn) hn8 (fun q hq => ⟨(hg3 q hq).2.1, (hg3 q hq).2.2, by have h1 := hO.f (c := q) (by omega); have h2 := gcK_r hO hn8 hok hq; show -1000000000 ≤ K (5 * q + 3) + gcK K n (bkO K n how) q ∧ K (5 * q + 3) + gcK K n (bkO K n how) q ≤ 1000000000; omega, by have h1 := hO.f (c := q) (by omega); have h2 := waK_r (day := K 42) (hd := hdK K) hO (show q < 8 by omega); show -1000000000 ≤ K (5 * q + 4) + (((waK K (K 42) (hdK K)) q : Nat) : Int) ∧ K (5 * q + 4) + (((waK K (K 42) (hdK K)) q : Nat) : Int) ≤ 1000000000; omega⟩) ⟨hg2 0 (by decide), hg2 1 (by decide)⟩ ⟨by omega, by omega⟩) (Nat.zero_le _) (Nat.zero_le _) (fun r_104 g_104 f_104 q_104 => ?_)
            obtain ⟨⟨bb, rfl, hbb⟩, rfl, rfl⟩ := q_104
            have hfb : (bb = true ∧ K 42 < 9999) ↔ fitP K n (bkO K n how) := ⟨fun h => ⟨h.2, (hbb.mp h.1).1, (hbb.mp h.1).2.1, (hbb.mp h.1).2.2⟩, fun h => ⟨hbb.mpr ⟨h.2.1, h.2.2.1, h.2.2.2⟩, h.1⟩⟩
            refine r_if_eq (pc := 107) (tgt := 123) dX11_bake_107 (by decide) (b01_r) (fun c_107 => ?_) (fun c_107 => ?_)
            · replace c_107 := b01_z c_107
              refine r_aload_n (pc := 123) 1 dX11_bake_123 rfl rfl ?_
              refine r_bipush (pc := 124) dX11_bake_124 (by decide) ?_
              refine r_callV (pc := 126) (As := [(.int (iI (-5)))]) (S := []) dX11_bake_126 cv_X11_114 hM.k rfl (Nat.le_of_ble_eq_true rfl) (m_refuses l z _ hM (by omega)) (Nat.zero_le _) (Nat.zero_le _) (fun r_126 g_126 f_126 q_126 => ?_)
              obtain ⟨rfl, rfl, rfl⟩ := q_126
              exact r_iret (pc := 129) dX11_bake_129 rfl rfl ⟨rfl, f_99, hms.tr (fun q hq => (hg1 q (by omega) (by omega) (by omega) (by omega)).trans (hF1 q (by omega) (by omega) (by omega))), Or.inr (Or.inr (Or.inl ⟨by omega, hwy, fun h => c_107 (hfb.mpr h).1, rfl, rfl⟩))⟩
            · replace c_107 := b01_nz c_107
              refine r_aload_n (pc := 110) 1 dX11_bake_110 rfl rfl ?_
              refine r_getR (pc := 111) (b := 166) dX11_bake_111 fl_X11_17 rfl hM.k hM.r2 ?_
              refine r_bipush (pc := 114) dX11_bake_114 (by decide) ?_
              refine r_ialdv (pc := 116) (w := K 42) dX11_bake_116 hM.a2 (by decide) (by decide) (congrFun hKg 42) ?_
              refine r_sipush (pc := 117) dX11_bake_117 (by decide) ?_
              refine r_icmp_ne (pc := 120) (tgt := 130) dX11_bake_120 (by decide) (by omega) (by omega) (fun c_120 => ?_) (fun c_120 => ?_)
              · refine r_iconst (pc := 130) dX11_bake_130 ?_
                refine r_istore_n (pc := 131) (L2 := [(3, (.int (iI (0)))), (2, (.int (iI (alK K n (bkO K n how) n)))), (0, (.ref 164)), (1, (.int (iI (how))))]) dX11_bake_131 rfl (by decide) rfl ?_
                have hfit : fitP K n (bkO K n how) := hfb.mp ⟨c_107, by omega⟩
                have hmg : MSc f f_99 := hms.tr (fun q hq => (hg1 q (by omega) (by omega) (by omega) (by omega)).trans (hF1 q (by omega) (by omega) (by omega)))
                have loop2 : ∀ m c : Nat, m = n - c → c ≤ n → ∀ f2 : Fm, (∀ q, q ≠ 166 → f2 q = f_99 q) → (∀ j, f2 166 j = (if j < 5 * c ∧ j % 5 = 3 then K j + gcK K n (bkO K n how) (j / 5) else if j < 5 * c ∧ j % 5 = 4 then K j + (((waK K (K 42) (hdK K)) (j / 5) : Nat) : Int) else K j)) → PW l z (d + 274) mX11_bake 0 0 (fun r g' f' => g = g' ∧ BkM f K n how r f') 132 [(3, (.int (iI (((c : Nat) : Int))))), (2, (.int (iI (alK K n (bkO K n how) n)))), (0, (.ref 164)), (1, (.int (iI (how))))] [] g f2 0 0 := by
                  intro m
                  induction m using Nat.strongRecOn with
                  | _ m ih2 =>
                    intro c hm hc0 f2 hF2 hK2
                    have h42 : f2 166 42 = K 42 := by rw [hK2, if_neg (by omega), if_neg (by omega)]
                    have h77 : f2 166 77 = ((n : Nat) : Int) := by rw [hK2, if_neg (by omega), if_neg (by omega)]; exact hn
                    refine r_iload_n (pc := 132) 0 dX11_bake_132 rfl rfl ?_
                    refine r_aload_n (pc := 133) 2 dX11_bake_133 rfl rfl ?_
                    refine r_callV (pc := 134) (As := []) (S := [(.int (iI (((c : Nat) : Int))))]) dX11_bake_134 cv_X11_121 hM.k rfl (Nat.le_of_ble_eq_true rfl) (m_cust (v := ((n : Nat) : Int)) l z _ hM (h77)) (Nat.zero_le _) (Nat.zero_le _) (fun r_134 g_134 f_134 q_134 => ?_)
                    obtain ⟨rfl, rfl, rfl⟩ := q_134
                    refine r_icmp_ge (pc := 137) (tgt := 178) dX11_bake_137 (by decide) (by omega) (by omega) (fun c_137 => ?_) (fun c_137 => ?_)
                    · refine r_aload_n (pc := 178) 2 dX11_bake_178 rfl rfl ?_
                      refine r_getR (pc := 179) (b := 166) dX11_bake_179 fl_X11_17 rfl hM.k hM.r2 ?_
                      refine r_bipush (pc := 182) dX11_bake_182 (by decide) ?_
                      refine r_aload_n (pc := 184) 2 dX11_bake_184 rfl rfl ?_
                      refine r_getR (pc := 185) (b := 178) dX11_bake_185 fl_X11_58 rfl hM.k hM.r26 ?_
                      refine r_iconst (pc := 188) dX11_bake_188 ?_
                      refine r_ialdv (pc := 189) (w := ((bkK K 0 + swN (ovK K) (waK K (K 42) (hdK K)) 0 n : Nat) : Int)) dX11_bake_189 hM.a26 (by decide) (by decide) (by rw [hF2 178 (by decide)]; exact hg2 0 (by decide)) ?_
                      refine r_iastv (pc := 190) (i := 43) dX11_bake_190 hM.a2 (by decide) (by decide) rfl ?_
                      refine r_aload_n (pc := 191) 2 dX11_bake_191 rfl rfl ?_
                      refine r_getR (pc := 192) (b := 166) dX11_bake_192 fl_X11_17 rfl hM.k hM.r2 ?_
                      refine r_bipush (pc := 195) dX11_bake_195 (by decide) ?_
                      refine r_aload_n (pc := 197) 2 dX11_bake_197 rfl rfl ?_
                      refine r_getR (pc := 198) (b := 178) dX11_bake_198 fl_X11_58 rfl hM.k hM.r26 ?_
                      refine r_iconst (pc := 201) dX11_bake_201 ?_
                      refine r_ialdv (pc := 202) (w := ((bkK K 1 + swN (ovK K) (waK K (K 42) (hdK K)) 1 n : Nat) : Int)) dX11_bake_202 hM.a26 (by decide) (by decide) (rdn (by decide) (by rw [hF2 178 (by decide)]; exact hg2 1 (by decide))) ?_
                      refine r_iastv (pc := 203) (i := 44) dX11_bake_203 hM.a2 (by decide) (by decide) rfl ?_
                      refine r_aload_n (pc := 204) 2 dX11_bake_204 rfl rfl ?_
                      refine r_getR (pc := 205) (b := 166) dX11_bake_205 fl_X11_17 rfl hM.k hM.r2 ?_
                      refine r_bipush (pc := 208) dX11_bake_208 (by decide) ?_
                      refine r_dup2 (pc := 210) dX11_bake_210 rfl rfl ?_
                      refine r_ialdv (pc := 211) (w := K 42) dX11_bake_211 hM.a2 (by decide) (by decide) (rdi (by decide) (rdi (by decide) (h42))) ?_
                      refine r_iconst (pc := 212) dX11_bake_212 ?_
                      refine r_iadd (pc := 213) dX11_bake_213 ?_
                      refine r_iastv (pc := 214) (i := 42) dX11_bake_214 hM.a2 (by decide) (by decide) rfl ?_
                      refine r_aload_n (pc := 215) 2 dX11_bake_215 rfl rfl ?_
                      refine r_iload_n (pc := 216) 1 dX11_bake_216 rfl rfl ?_
                      refine r_callV (pc := 217) (As := [(.int (iI (alK K n (bkO K n how) n)))]) (S := []) dX11_bake_217 cv_X11_118 hM.k rfl (Nat.le_of_ble_eq_true rfl) (m_good l z _ _ hM) (Nat.zero_le _) (Nat.zero_le _) (fun r_217 g_217 f_217 q_217 => ?_)
                      obtain ⟨rfl, rfl, rfl⟩ := q_217
                      have hcn2 : c = n := by omega
                      rw [hcn2] at hK2
                      refine r_iret (pc := 220) dX11_bake_220 rfl rfl ⟨rfl, f_99, hmg, Or.inr (Or.inr (Or.inr ⟨by omega, hwy, hfit, rfl, _, fun q hq => by rw [stF_n _ _ _ hq, stF_n _ _ _ hq, stF_n _ _ _ hq]; exact hF2 q hq, ?_, rfl⟩))⟩
                      funext j
                      unfold goK
                      by_cases e42 : j = 42
                      · rw [if_pos e42, e42, stF_s]
                      · rw [if_neg e42, stF_i _ _ _ e42]
                        by_cases e44 : j = 44
                        · rw [e44, stF_s, if_neg (by decide), if_pos rfl]; have h44 : K 44 = ((bkK K 1 : Nat) : Int) := (bkK_r (o := 1) hO (by decide) (by decide)).1; omega
                        · rw [stF_i _ _ _ e44]
                          by_cases e43 : j = 43
                          · rw [e43, stF_s, if_pos rfl]; have h43 : K 43 = ((bkK K 0 : Nat) : Int) := (bkK_r (o := 0) hO (by decide) (by decide)).1; omega
                          · rw [stF_i _ _ _ e43, if_neg e43, if_neg e44]; exact hK2 j
                    · refine r_aload_n (pc := 140) 2 dX11_bake_140 rfl rfl ?_
                      refine r_getR (pc := 141) (b := 166) dX11_bake_141 fl_X11_17 rfl hM.k hM.r2 ?_
                      refine r_iconst (pc := 144) dX11_bake_144 ?_
                      refine r_iload_n (pc := 145) 0 dX11_bake_145 rfl rfl ?_
                      refine r_imul (pc := 146) dX11_bake_146 ?_
                      refine r_eqI (y := ((5 * c : Nat) : Int)) (Int.natCast_mul _ _ |>.symm) ?_
                      refine r_iconst (pc := 147) dX11_bake_147 ?_
                      refine r_iadd (pc := 148) dX11_bake_148 ?_
                      refine r_eqI (y := (((5 * c) + 3 : Nat) : Int)) (Int.natCast_add _ _ |>.symm) ?_
                      refine r_aload_n (pc := 149) 2 dX11_bake_149 rfl rfl ?_
                      refine r_getR (pc := 150) (b := 190) dX11_bake_150 fl_X11_95 rfl hM.k hM.r38 ?_
                      refine r_iload_n (pc := 153) 0 dX11_bake_153 rfl rfl ?_
                      refine r_ialdv (pc := 154) (w := K (5 * c + 3) + gcK K n (bkO K n how) c) dX11_bake_154 hM.a38 (by omega) (by decide) (by rw [hF2 190 (by decide)]; exact (hg3 c (by omega)).2.1) ?_
                      refine r_iastv (pc := 155) (i := (5 * c) + 3) dX11_bake_155 hM.a2 (by omega) (by decide) rfl ?_
                      refine r_aload_n (pc := 156) 2 dX11_bake_156 rfl rfl ?_
                      refine r_getR (pc := 157) (b := 166) dX11_bake_157 fl_X11_17 rfl hM.k hM.r2 ?_
                      refine r_iconst (pc := 160) dX11_bake_160 ?_
                      refine r_iload_n (pc := 161) 0 dX11_bake_161 rfl rfl ?_
                      refine r_imul (pc := 162) dX11_bake_162 ?_
                      refine r_eqI (y := ((5 * c : Nat) : Int)) (Int.natCast_mul _ _ |>.symm) ?_
                      refine r_iconst (pc := 163) dX11_bake_163 ?_
                      refine r_iadd (pc := 164) dX11_bake_164 ?_
                      refine r_eqI (y := (((5 * c) + 4 : Nat) : Int)) (Int.natCast_add _ _ |>.symm) ?_
                      refine r_aload_n (pc := 165) 2 dX11_bake_165 rfl rfl ?_
                      refine r_getR (pc := 166) (b := 191) dX11_bake_166 fl_X11_98 rfl hM.k hM.r39 ?_
                      refine r_iload_n (pc := 169) 0 dX11_bake_169 rfl rfl ?_
                      refine r_ialdv (pc := 170) (w := K (5 * c + 4) + (((waK K (K 42) (hdK K)) c : Nat) : Int)) dX11_bake_170 hM.a39 (by omega) (by decide) (rdn (by decide) (by rw [hF2 191 (by decide)]; exact (hg3 c (by omega)).2.2)) ?_
                      refine r_iastv (pc := 171) (i := (5 * c) + 4) dX11_bake_171 hM.a2 (by omega) (by decide) rfl ?_
                      refine r_iincv (pc := 172) (y := ((c + 1 : Nat) : Int)) (L2 := [(3, (.int (iI (((c + 1 : Nat) : Int))))), (2, (.int (iI (alK K n (bkO K n how) n)))), (0, (.ref 164)), (1, (.int (iI (how))))]) 0 dX11_bake_172 rfl (by omega) (by decide) rfl ?_
                      refine r_goto (pc := 175) (tgt := 132) dX11_bake_175 (by decide) ?_
                      refine r_sub (L2 := [(3, (.int (iI (((c + 1 : Nat) : Int))))), (2, (.int (iI (alK K n (bkO K n how) n)))), (0, (.ref 164)), (1, (.int (iI (how))))]) [0, 1, 2, 3] rfl ?_
                      exact ih2 (n - (c + 1)) (by omega) (c + 1) (by omega) (by omega) _ (fun q hq => by rw [stF_n _ _ _ hq, stF_n _ _ _ hq]; exact hF2 q hq) (fun j => by
                        by_cases h4 : j = 5 * c + 4
                        · rw [h4, stF_s, if_neg (by omega), if_pos (by omega), show (5 * c + 4) / 5 = c by omega]
                        · rw [stF_i _ _ _ h4]
                          by_cases h3 : j = 5 * c + 3
                          · rw [h3, stF_s, if_pos (by omega), show (5 * c + 3) / 5 = c by omega]
                          · rw [stF_i _ _ _ h3, hK2]
                            by_cases a3 : j < 5 * c ∧ j % 5 = 3
                            · rw [if_pos a3, if_pos (show j < 5 * (c + 1) ∧ j % 5 = 3 by omega)]
                            · rw [if_neg a3, if_neg (show ¬ (j < 5 * (c + 1) ∧ j % 5 = 3) by omega)]
                              by_cases a4 : j < 5 * c ∧ j % 5 = 4
                              · rw [if_pos a4, if_pos (show j < 5 * (c + 1) ∧ j % 5 = 4 by omega)]
                              · rw [if_neg a4, if_neg (show ¬ (j < 5 * (c + 1) ∧ j % 5 = 4) by omega)])
                refine r_sub (L2 := [(3, (.int (iI (((0 : Nat) : Int))))), (2, (.int (iI (alK K n (bkO K n how) n)))), (0, (.ref 164)), (1, (.int (iI (how))))]) [0, 1, 2, 3] rfl ?_
                exact loop2 n 0 (by omega) (by omega) f_99 (fun _ _ => rfl) (fun j => by rw [if_neg (by omega), if_neg (by omega)]; exact congrFun hKg j)
              · refine r_aload_n (pc := 123) 1 dX11_bake_123 rfl rfl ?_
                refine r_bipush (pc := 124) dX11_bake_124 (by decide) ?_
                refine r_callV (pc := 126) (As := [(.int (iI (-5)))]) (S := []) dX11_bake_126 cv_X11_114 hM.k rfl (Nat.le_of_ble_eq_true rfl) (m_refuses l z _ hM (by omega)) (Nat.zero_le _) (Nat.zero_le _) (fun r_126 g_126 f_126 q_126 => ?_)
                obtain ⟨rfl, rfl, rfl⟩ := q_126
                exact r_iret (pc := 129) dX11_bake_129 rfl rfl ⟨rfl, f_99, hms.tr (fun q hq => (hg1 q (by omega) (by omega) (by omega) (by omega)).trans (hF1 q (by omega) (by omega) (by omega))), Or.inr (Or.inr (Or.inl ⟨by omega, hwy, fun h => by have := (hfb.mpr h).2; omega, rfl, rfl⟩))⟩
          · refine r_aload_n (pc := 57) 1 dX11_bake_57 rfl rfl ?_
            refine r_getR (pc := 58) (b := 190) dX11_bake_58 fl_X11_95 rfl hM.k hM.r38 ?_
            refine r_iload_n (pc := 61) 0 dX11_bake_61 rfl rfl ?_
            refine r_aload_n (pc := 62) 1 dX11_bake_62 rfl rfl ?_
            refine r_iload_n (pc := 63) 0 dX11_bake_63 rfl rfl ?_
            refine r_iconst (pc := 64) dX11_bake_64 ?_
            refine r_callV (pc := 65) (As := [(.int (iI (((c : Nat) : Int)))), (.int (iI (3)))]) (S := [(.int (iI (((c : Nat) : Int)))), (.ref 190)]) dX11_bake_65 cv_X11_138 hM.k rfl (Nat.le_of_ble_eq_true rfl) (m_fact (c := c) (w := 3) (v := K (5 * c + 3)) l z _ hM (by omega) (by decide) (congrFun hK1 _)) (Nat.zero_le _) (Nat.zero_le _) (fun r_65 g_65 f_65 q_65 => ?_)
            obtain ⟨rfl, rfl, rfl⟩ := q_65
            refine r_iastv (pc := 68) (i := c) dX11_bake_68 hM.a38 (by omega) (by decide) rfl ?_
            refine r_aload_n (pc := 69) 1 dX11_bake_69 rfl rfl ?_
            refine r_getR (pc := 70) (b := 191) dX11_bake_70 fl_X11_98 rfl hM.k hM.r39 ?_
            refine r_iload_n (pc := 73) 0 dX11_bake_73 rfl rfl ?_
            refine r_aload_n (pc := 74) 1 dX11_bake_74 rfl rfl ?_
            refine r_iload_n (pc := 75) 0 dX11_bake_75 rfl rfl ?_
            refine r_iconst (pc := 76) dX11_bake_76 ?_
            refine r_callV (pc := 77) (As := [(.int (iI (((c : Nat) : Int)))), (.int (iI (4)))]) (S := [(.int (iI (((c : Nat) : Int)))), (.ref 191)]) dX11_bake_77 cv_X11_138 hM.k rfl (Nat.le_of_ble_eq_true rfl) (m_fact (c := c) (w := 4) (v := K (5 * c + 4)) l z _ hM (by omega) (by decide) (rdn (by decide) (congrFun hK1 _))) (Nat.zero_le _) (Nat.zero_le _) (fun r_77 g_77 f_77 q_77 => ?_)
            obtain ⟨rfl, rfl, rfl⟩ := q_77
            refine r_iastv (pc := 80) (i := c) dX11_bake_80 hM.a39 (by omega) (by decide) rfl ?_
            refine r_iload_n (pc := 81) 2 dX11_bake_81 rfl rfl ?_
            refine r_if_ne (pc := 82) (tgt := 92) dX11_bake_82 (by decide) (by omega) (fun c_82 => ?_) (fun c_82 => ?_)
            · refine r_iincv (pc := 92) (y := ((c + 1 : Nat) : Int)) (L2 := [(2, (.int (iI (((c + 1 : Nat) : Int))))), (0, (.ref 164)), (1, (.int (iI (how))))]) 0 dX11_bake_92 rfl (by omega) (by decide) rfl ?_
              refine r_goto (pc := 95) (tgt := 49) dX11_bake_95 (by decide) ?_
              refine r_sub (L2 := [(2, (.int (iI (((c + 1 : Nat) : Int))))), (0, (.ref 164)), (1, (.int (iI (how))))]) [0, 1, 2] rfl ?_
              exact ih (n - (c + 1)) (by omega) (c + 1) (by omega) (by omega) _ (fun q h1 h2 h3 => by rw [stF_n _ _ _ h3, stF_n _ _ _ h2]; exact hF1 q h1 h2 h3) (fun q hq => by
                rcases Nat.lt_succ_iff_lt_or_eq.mp hq with h | h
                · have := hR1 q h
                  exact ⟨rdn (by decide) (rdi (by omega) this.1), rdi (by omega) (rdn (by decide) this.2.1), fun e => absurd e (by omega)⟩
                · subst h; exact ⟨rdn (by decide) (stF_s _ _ _ _), stF_s _ _ _ _, fun e => absurd e (by omega)⟩) (fun h => by rw [stF_n _ _ _ (by decide), stF_n _ _ _ (by decide)]; exact hX1 h)
            · refine r_aload_n (pc := 85) 1 dX11_bake_85 rfl rfl ?_
              refine r_getR (pc := 86) (b := 184) dX11_bake_86 fl_X11_76 rfl hM.k hM.r32 ?_
              refine r_iload_n (pc := 89) 0 dX11_bake_89 rfl rfl ?_
              refine r_iload_n (pc := 90) 0 dX11_bake_90 rfl rfl ?_
              refine r_iastv (pc := 91) (i := c) dX11_bake_91 hM.a32 (by omega) (by decide) rfl ?_
              refine r_iincv (pc := 92) (y := ((c + 1 : Nat) : Int)) (L2 := [(2, (.int (iI (((c + 1 : Nat) : Int))))), (0, (.ref 164)), (1, (.int (iI (how))))]) 0 dX11_bake_92 rfl (by omega) (by decide) rfl ?_
              refine r_goto (pc := 95) (tgt := 49) dX11_bake_95 (by decide) ?_
              refine r_sub (L2 := [(2, (.int (iI (((c + 1 : Nat) : Int))))), (0, (.ref 164)), (1, (.int (iI (how))))]) [0, 1, 2] rfl ?_
              exact ih (n - (c + 1)) (by omega) (c + 1) (by omega) (by omega) _ (fun q h1 h2 h3 => by rw [stF_n _ _ _ h1, stF_n _ _ _ h3, stF_n _ _ _ h2]; exact hF1 q h1 h2 h3) (fun q hq => by
                rcases Nat.lt_succ_iff_lt_or_eq.mp hq with h | h
                · have := hR1 q h
                  exact ⟨rdn (by decide) (rdn (by decide) (rdi (by omega) this.1)), rdn (by decide) (rdi (by omega) (rdn (by decide) this.2.1)), fun e => rdi (by omega) (rdn (by decide) (rdn (by decide) (this.2.2 e)))⟩
                · subst h; exact ⟨rdn (by decide) (rdn (by decide) (stF_s _ _ _ _)), rdn (by decide) (stF_s _ _ _ _), fun _ => stF_s _ _ _ _⟩) (fun h => absurd (by omega) h)
      refine r_sub (L2 := [(2, (.int (iI (((0 : Nat) : Int))))), (0, (.ref 164)), (1, (.int (iI (how))))]) [0, 1, 2] rfl ?_
      exact loop1 n 0 (by omega) (by omega) f_44 (fun _ _ _ _ => rfl) (fun q hq => absurd hq (by omega)) (fun _ => rfl)
    · refine r_aload_n (pc := 19) 0 dX11_bake_19 rfl rfl ?_
      refine r_iload_n (pc := 20) 1 dX11_bake_20 rfl rfl ?_
      refine r_iconst (pc := 21) dX11_bake_21 ?_
      refine r_isub (pc := 22) dX11_bake_22 ?_
      refine r_eqI (y := ((how.toNat - 1 : Nat) : Int)) (by omega) ?_
      refine r_callV (pc := 23) (As := [(.int (iI (((how.toNat - 1 : Nat) : Int))))]) (S := []) dX11_bake_23 cv_X11_327 hM.k rfl (Nat.le_of_ble_eq_true rfl) (m_finds (b := how.toNat - 1) (K := K) l z hM hK hO (by decide) (by decide) hn hb20 (by omega) (D := d + 273) (by omega)) (Nat.zero_le _) (Nat.zero_le _) (fun r_23 g_23 f_23 q_23 => ?_)
      obtain ⟨rfl, rfl, hfn⟩ := q_23
      refine r_if_ne (pc := 26) (tgt := 36) dX11_bake_26 (by decide) (b01_r) (fun c_26 => ?_) (fun c_26 => ?_)
      · replace c_26 := b01_nz c_26
        have hKp : f_23 166 = K := by rw [hfn.1 166 (by decide) (by decide) (by decide) (by decide) (by decide) (by decide) (by decide) (by decide) (by decide)]; exact hK
        have hbp := hfn.2.2.1
        have hmp := hfn.mf
        have hwy : 0 < how → 0 < sWy K n (how.toNat - 1) := fun _ => c_26
        have hrow : ¬ how = 0 → ∀ i, i < n → f_23 184 i = ((bkO K n how i : Nat) : Int) := fun h i hi => by rw [bkO_s h]; exact hfn.2.2.2.2.2 c_26 i hi
        refine r_aload_n (pc := 36) 0 dX11_bake_36 rfl rfl ?_
        refine r_aload_n (pc := 37) 0 dX11_bake_37 rfl rfl ?_
        refine r_getR (pc := 38) (b := 166) dX11_bake_38 fl_X11_17 rfl hM.k hM.r2 ?_
        refine r_bipush (pc := 41) dX11_bake_41 (by decide) ?_
        refine r_ialdv (pc := 43) (w := K 42) dX11_bake_43 hM.a2 (by decide) (by decide) (congrFun hKp 42) ?_
        refine r_callV (pc := 44) (As := [(.int (iI (K 42)))]) (S := []) dX11_bake_44 cv_X11_142 hM.k rfl (Nat.le_of_ble_eq_true rfl) (m_lays (day := K 42) l z hM hKp hO hn hbp (by omega) (D := d + 273) (by omega)) (Nat.zero_le _) (Nat.zero_le _) (fun r_44 g_44 f_44 q_44 => ?_)
        obtain ⟨rfl, rfl, hly⟩ := q_44
        have hMD := hly.md hKp hO (by decide) hn
        have hK8 : f_44 166 = K := by rw [hly.1 166 (by decide) (by decide) (by decide) (by decide) (by decide) (by decide)]; exact hKp
        have hms : MSc f f_44 := hmp.up hly.mf
        refine r_iconst (pc := 47) dX11_bake_47 ?_
        refine r_istore_n (pc := 48) (L2 := [(2, (.int (iI (0)))), (0, (.ref 164)), (1, (.int (iI (how))))]) dX11_bake_48 rfl (by decide) rfl ?_
        have loop1 : ∀ m c : Nat, m = n - c → c ≤ n → ∀ f1 : Fm, (∀ q, q ≠ 184 → q ≠ 190 → q ≠ 191 → f1 q = f_44 q) → (∀ q, q < c → f1 190 q = K (5 * q + 3) ∧ f1 191 q = K (5 * q + 4) ∧ (how = 0 → f1 184 q = ((q : Nat) : Int))) → (¬ how = 0 → f1 184 = f_44 184) → PW l z (d + 274) mX11_bake 0 0 (fun r g' f' => g = g' ∧ BkM f K n how r f') 49 [(2, (.int (iI (((c : Nat) : Int))))), (0, (.ref 164)), (1, (.int (iI (how))))] [] g f1 0 0 := by
          intro m
          induction m using Nat.strongRecOn with
          | _ m ih =>
            intro c hm hc0 f1 hF1 hR1 hX1
            have hK1 : f1 166 = K := by rw [hF1 166 (by decide) (by decide) (by decide)]; exact hK8
            refine r_iload_n (pc := 49) 0 dX11_bake_49 rfl rfl ?_
            refine r_aload_n (pc := 50) 1 dX11_bake_50 rfl rfl ?_
            refine r_callV (pc := 51) (As := []) (S := [(.int (iI (((c : Nat) : Int))))]) dX11_bake_51 cv_X11_121 hM.k rfl (Nat.le_of_ble_eq_true rfl) (m_cust (v := ((n : Nat) : Int)) l z _ hM ((congrFun hK1 77).trans hn)) (Nat.zero_le _) (Nat.zero_le _) (fun r_51 g_51 f_51 q_51 => ?_)
            obtain ⟨rfl, rfl, rfl⟩ := q_51
            refine r_icmp_ge (pc := 54) (tgt := 98) dX11_bake_54 (by decide) (by omega) (by omega) (fun c_54 => ?_) (fun c_54 => ?_)
            · have hcn : c = n := by omega
              have hok : okO (bkO K n how) n := by
                by_cases h0 : how = 0
                · rw [bkO_0 h0]; exact okO_id n
                · rw [bkO_s h0]; exact okO_sRw (hwy (by omega))
              have h184 : ∀ i, i < n → f1 184 i = (((bkO K n how) i : Nat) : Int) := fun i hi => by
                by_cases h0 : how = 0
                · rw [bkO_0 h0]; exact (hR1 i (by omega)).2.2 h0
                · rw [hX1 h0, hly.1 184 (by decide) (by decide) (by decide) (by decide) (by decide) (by decide)]; exact hrow h0 i hi
              have hD1 : MD f1 n (ovK K) (waK K (K 42) (hdK K)) (wtK K (K 42) (hdK K) n) (bkK K) := hMD.mv (hF1 166 (by decide) (by decide) (by decide)) (hF1 176 (by decide) (by decide) (by decide)) (hF1 177 (by decide) (by decide) (by decide)) (hF1 178 (by decide) (by decide) (by decide))
              have hbk0 := (bkK_r (o := 0) hO (by decide) (by decide)).2
              have hbk1 := (bkK_r (o := 1) hO (by decide) (by decide)).2
              have hsw0 := swN_r (ov := ovK K) (wa := (waK K (K 42) (hdK K))) (o := 0) n (fun c hc => waK_r hO (by omega))
              have hsw1 := swN_r (ov := ovK K) (wa := (waK K (K 42) (hdK K))) (o := 1) n (fun c hc => waK_r hO (by omega))
              refine r_aload_n (pc := 98) 1 dX11_bake_98 rfl rfl ?_
              refine r_callV (pc := 99) (As := []) (S := []) dX11_bake_99 cv_X11_354 hM.k rfl (Nat.le_of_ble_eq_true rfl) (m_goesBy (K := K) (od := (bkO K n how)) (pH := fun c => K (5 * c + 3)) (pB := fun c => K (5 * c + 4)) l z (d + 270) hM hD1 hO (congrFun hK1 40) (congrFun hK1 41) hok h184 (fun q hq => (hR1 q (by omega)).1) (fun q hq => (hR1 q (by omega)).2.1)) (Nat.zero_le _) (Nat.zero_le _) (fun r_99 g_99 f_99 q_99 => ?_)
              obtain ⟨rfl, rfl, hg1, hg2, hg3⟩ := q_99
              have hKg : f_99 166 = K := by rw [hg1 166 (by decide) (by decide) (by decide) (by decide)]; exact hK1
              refine r_istore_n (pc := 102) (L2 := [(2, (.int (iI (alK K n (bkO K n how) n)))), (0, (.ref 164)), (1, (.int (iI (how))))]) dX11_bake_102 rfl (by decide) rfl ?_
              refine r_aload_n (pc := 103) 1 dX11_bake_103 rfl rfl ?_
              refine r_callV (pc := 104) (As := []) (S := []) dX11_bake_104 cv_X11_357 hM.k rfl (Nat.le_of_ble_eq_true rfl) (m_canBe (n := n) (b0 := bkK K 0 + swN (ovK K) (waK K (K 42) (hdK K)) 0 n) (b1 := bkK K 1 + swN (ovK K) (waK K (K 42) (hdK K)) 1 n) (pH := fun c => K (5 * c + 3) + gcK K n (bkO K n how) c) (pB := fun c => K (5 * c + 4) + (((waK K (K 42) (hdK K)) c : Nat) : Int)) l z (d + 272) hM ((congrFun hKg 77).trans hn) hn8 (fun q hq => ⟨(hg3 q hq).2.1, (hg3 q hq).2.2, by have h1 := hO.f (c := q) (by omega); have h2 := gcK_r hO hn8 hok hq; show -1000000000 ≤ K (5 * q + 3) + gcK K n (bkO K n how) q ∧ K (5 * q + 3) + gcK K n (bkO K n how) q ≤ 1000000000; omega, by have h1 := hO.f (c := q) (by omega); have h2 := waK_r (day := K 42) (hd := hdK K) hO (show q < 8 by omega); show -1000000000 ≤ K (5 * q + 4) + (((waK K (K 42) (hdK K)) q : Nat) : Int) ∧ K (5 * q + 4) + (((waK K (K 42) (hdK K)) q : Nat) : Int) ≤ 1000000000; omega⟩) ⟨hg2 0 (by decide), hg2 1 (by decide)⟩ ⟨by omega, by omega⟩) (Nat.zero_le _) (Nat.zero_le _) (fun r_104 g_104 f_104 q_104 => ?_)
              obtain ⟨⟨bb, rfl, hbb⟩, rfl, rfl⟩ := q_104
              have hfb : (bb = true ∧ K 42 < 9999) ↔ fitP K n (bkO K n how) := ⟨fun h => ⟨h.2, (hbb.mp h.1).1, (hbb.mp h.1).2.1, (hbb.mp h.1).2.2⟩, fun h => ⟨hbb.mpr ⟨h.2.1, h.2.2.1, h.2.2.2⟩, h.1⟩⟩
              refine r_if_eq (pc := 107) (tgt := 123) dX11_bake_107 (by decide) (b01_r) (fun c_107 => ?_) (fun c_107 => ?_)
              · replace c_107 := b01_z c_107
                refine r_aload_n (pc := 123) 1 dX11_bake_123 rfl rfl ?_
                refine r_bipush (pc := 124) dX11_bake_124 (by decide) ?_
                refine r_callV (pc := 126) (As := [(.int (iI (-5)))]) (S := []) dX11_bake_126 cv_X11_114 hM.k rfl (Nat.le_of_ble_eq_true rfl) (m_refuses l z _ hM (by omega)) (Nat.zero_le _) (Nat.zero_le _) (fun r_126 g_126 f_126 q_126 => ?_)
                obtain ⟨rfl, rfl, rfl⟩ := q_126
                exact r_iret (pc := 129) dX11_bake_129 rfl rfl ⟨rfl, f_99, hms.tr (fun q hq => (hg1 q (by omega) (by omega) (by omega) (by omega)).trans (hF1 q (by omega) (by omega) (by omega))), Or.inr (Or.inr (Or.inl ⟨by omega, hwy, fun h => c_107 (hfb.mpr h).1, rfl, rfl⟩))⟩
              · replace c_107 := b01_nz c_107
                refine r_aload_n (pc := 110) 1 dX11_bake_110 rfl rfl ?_
                refine r_getR (pc := 111) (b := 166) dX11_bake_111 fl_X11_17 rfl hM.k hM.r2 ?_
                refine r_bipush (pc := 114) dX11_bake_114 (by decide) ?_
                refine r_ialdv (pc := 116) (w := K 42) dX11_bake_116 hM.a2 (by decide) (by decide) (congrFun hKg 42) ?_
                refine r_sipush (pc := 117) dX11_bake_117 (by decide) ?_
                refine r_icmp_ne (pc := 120) (tgt := 130) dX11_bake_120 (by decide) (by omega) (by omega) (fun c_120 => ?_) (fun c_120 => ?_)
                · refine r_iconst (pc := 130) dX11_bake_130 ?_
                  refine r_istore_n (pc := 131) (L2 := [(3, (.int (iI (0)))), (2, (.int (iI (alK K n (bkO K n how) n)))), (0, (.ref 164)), (1, (.int (iI (how))))]) dX11_bake_131 rfl (by decide) rfl ?_
                  have hfit : fitP K n (bkO K n how) := hfb.mp ⟨c_107, by omega⟩
                  have hmg : MSc f f_99 := hms.tr (fun q hq => (hg1 q (by omega) (by omega) (by omega) (by omega)).trans (hF1 q (by omega) (by omega) (by omega)))
                  have loop2 : ∀ m c : Nat, m = n - c → c ≤ n → ∀ f2 : Fm, (∀ q, q ≠ 166 → f2 q = f_99 q) → (∀ j, f2 166 j = (if j < 5 * c ∧ j % 5 = 3 then K j + gcK K n (bkO K n how) (j / 5) else if j < 5 * c ∧ j % 5 = 4 then K j + (((waK K (K 42) (hdK K)) (j / 5) : Nat) : Int) else K j)) → PW l z (d + 274) mX11_bake 0 0 (fun r g' f' => g = g' ∧ BkM f K n how r f') 132 [(3, (.int (iI (((c : Nat) : Int))))), (2, (.int (iI (alK K n (bkO K n how) n)))), (0, (.ref 164)), (1, (.int (iI (how))))] [] g f2 0 0 := by
                    intro m
                    induction m using Nat.strongRecOn with
                    | _ m ih2 =>
                      intro c hm hc0 f2 hF2 hK2
                      have h42 : f2 166 42 = K 42 := by rw [hK2, if_neg (by omega), if_neg (by omega)]
                      have h77 : f2 166 77 = ((n : Nat) : Int) := by rw [hK2, if_neg (by omega), if_neg (by omega)]; exact hn
                      refine r_iload_n (pc := 132) 0 dX11_bake_132 rfl rfl ?_
                      refine r_aload_n (pc := 133) 2 dX11_bake_133 rfl rfl ?_
                      refine r_callV (pc := 134) (As := []) (S := [(.int (iI (((c : Nat) : Int))))]) dX11_bake_134 cv_X11_121 hM.k rfl (Nat.le_of_ble_eq_true rfl) (m_cust (v := ((n : Nat) : Int)) l z _ hM (h77)) (Nat.zero_le _) (Nat.zero_le _) (fun r_134 g_134 f_134 q_134 => ?_)
                      obtain ⟨rfl, rfl, rfl⟩ := q_134
                      refine r_icmp_ge (pc := 137) (tgt := 178) dX11_bake_137 (by decide) (by omega) (by omega) (fun c_137 => ?_) (fun c_137 => ?_)
                      · refine r_aload_n (pc := 178) 2 dX11_bake_178 rfl rfl ?_
                        refine r_getR (pc := 179) (b := 166) dX11_bake_179 fl_X11_17 rfl hM.k hM.r2 ?_
                        refine r_bipush (pc := 182) dX11_bake_182 (by decide) ?_
                        refine r_aload_n (pc := 184) 2 dX11_bake_184 rfl rfl ?_
                        refine r_getR (pc := 185) (b := 178) dX11_bake_185 fl_X11_58 rfl hM.k hM.r26 ?_
                        refine r_iconst (pc := 188) dX11_bake_188 ?_
                        refine r_ialdv (pc := 189) (w := ((bkK K 0 + swN (ovK K) (waK K (K 42) (hdK K)) 0 n : Nat) : Int)) dX11_bake_189 hM.a26 (by decide) (by decide) (by rw [hF2 178 (by decide)]; exact hg2 0 (by decide)) ?_
                        refine r_iastv (pc := 190) (i := 43) dX11_bake_190 hM.a2 (by decide) (by decide) rfl ?_
                        refine r_aload_n (pc := 191) 2 dX11_bake_191 rfl rfl ?_
                        refine r_getR (pc := 192) (b := 166) dX11_bake_192 fl_X11_17 rfl hM.k hM.r2 ?_
                        refine r_bipush (pc := 195) dX11_bake_195 (by decide) ?_
                        refine r_aload_n (pc := 197) 2 dX11_bake_197 rfl rfl ?_
                        refine r_getR (pc := 198) (b := 178) dX11_bake_198 fl_X11_58 rfl hM.k hM.r26 ?_
                        refine r_iconst (pc := 201) dX11_bake_201 ?_
                        refine r_ialdv (pc := 202) (w := ((bkK K 1 + swN (ovK K) (waK K (K 42) (hdK K)) 1 n : Nat) : Int)) dX11_bake_202 hM.a26 (by decide) (by decide) (rdn (by decide) (by rw [hF2 178 (by decide)]; exact hg2 1 (by decide))) ?_
                        refine r_iastv (pc := 203) (i := 44) dX11_bake_203 hM.a2 (by decide) (by decide) rfl ?_
                        refine r_aload_n (pc := 204) 2 dX11_bake_204 rfl rfl ?_
                        refine r_getR (pc := 205) (b := 166) dX11_bake_205 fl_X11_17 rfl hM.k hM.r2 ?_
                        refine r_bipush (pc := 208) dX11_bake_208 (by decide) ?_
                        refine r_dup2 (pc := 210) dX11_bake_210 rfl rfl ?_
                        refine r_ialdv (pc := 211) (w := K 42) dX11_bake_211 hM.a2 (by decide) (by decide) (rdi (by decide) (rdi (by decide) (h42))) ?_
                        refine r_iconst (pc := 212) dX11_bake_212 ?_
                        refine r_iadd (pc := 213) dX11_bake_213 ?_
                        refine r_iastv (pc := 214) (i := 42) dX11_bake_214 hM.a2 (by decide) (by decide) rfl ?_
                        refine r_aload_n (pc := 215) 2 dX11_bake_215 rfl rfl ?_
                        refine r_iload_n (pc := 216) 1 dX11_bake_216 rfl rfl ?_
                        refine r_callV (pc := 217) (As := [(.int (iI (alK K n (bkO K n how) n)))]) (S := []) dX11_bake_217 cv_X11_118 hM.k rfl (Nat.le_of_ble_eq_true rfl) (m_good l z _ _ hM) (Nat.zero_le _) (Nat.zero_le _) (fun r_217 g_217 f_217 q_217 => ?_)
                        obtain ⟨rfl, rfl, rfl⟩ := q_217
                        have hcn2 : c = n := by omega
                        rw [hcn2] at hK2
                        refine r_iret (pc := 220) dX11_bake_220 rfl rfl ⟨rfl, f_99, hmg, Or.inr (Or.inr (Or.inr ⟨by omega, hwy, hfit, rfl, _, fun q hq => by rw [stF_n _ _ _ hq, stF_n _ _ _ hq, stF_n _ _ _ hq]; exact hF2 q hq, ?_, rfl⟩))⟩
                        funext j
                        unfold goK
                        by_cases e42 : j = 42
                        · rw [if_pos e42, e42, stF_s]
                        · rw [if_neg e42, stF_i _ _ _ e42]
                          by_cases e44 : j = 44
                          · rw [e44, stF_s, if_neg (by decide), if_pos rfl]; have h44 : K 44 = ((bkK K 1 : Nat) : Int) := (bkK_r (o := 1) hO (by decide) (by decide)).1; omega
                          · rw [stF_i _ _ _ e44]
                            by_cases e43 : j = 43
                            · rw [e43, stF_s, if_pos rfl]; have h43 : K 43 = ((bkK K 0 : Nat) : Int) := (bkK_r (o := 0) hO (by decide) (by decide)).1; omega
                            · rw [stF_i _ _ _ e43, if_neg e43, if_neg e44]; exact hK2 j
                      · refine r_aload_n (pc := 140) 2 dX11_bake_140 rfl rfl ?_
                        refine r_getR (pc := 141) (b := 166) dX11_bake_141 fl_X11_17 rfl hM.k hM.r2 ?_
                        refine r_iconst (pc := 144) dX11_bake_144 ?_
                        refine r_iload_n (pc := 145) 0 dX11_bake_145 rfl rfl ?_
                        refine r_imul (pc := 146) dX11_bake_146 ?_
                        refine r_eqI (y := ((5 * c : Nat) : Int)) (Int.natCast_mul _ _ |>.symm) ?_
                        refine r_iconst (pc := 147) dX11_bake_147 ?_
                        refine r_iadd (pc := 148) dX11_bake_148 ?_
                        refine r_eqI (y := (((5 * c) + 3 : Nat) : Int)) (Int.natCast_add _ _ |>.symm) ?_
                        refine r_aload_n (pc := 149) 2 dX11_bake_149 rfl rfl ?_
                        refine r_getR (pc := 150) (b := 190) dX11_bake_150 fl_X11_95 rfl hM.k hM.r38 ?_
                        refine r_iload_n (pc := 153) 0 dX11_bake_153 rfl rfl ?_
                        refine r_ialdv (pc := 154) (w := K (5 * c + 3) + gcK K n (bkO K n how) c) dX11_bake_154 hM.a38 (by omega) (by decide) (by rw [hF2 190 (by decide)]; exact (hg3 c (by omega)).2.1) ?_
                        refine r_iastv (pc := 155) (i := (5 * c) + 3) dX11_bake_155 hM.a2 (by omega) (by decide) rfl ?_
                        refine r_aload_n (pc := 156) 2 dX11_bake_156 rfl rfl ?_
                        refine r_getR (pc := 157) (b := 166) dX11_bake_157 fl_X11_17 rfl hM.k hM.r2 ?_
                        refine r_iconst (pc := 160) dX11_bake_160 ?_
                        refine r_iload_n (pc := 161) 0 dX11_bake_161 rfl rfl ?_
                        refine r_imul (pc := 162) dX11_bake_162 ?_
                        refine r_eqI (y := ((5 * c : Nat) : Int)) (Int.natCast_mul _ _ |>.symm) ?_
                        refine r_iconst (pc := 163) dX11_bake_163 ?_
                        refine r_iadd (pc := 164) dX11_bake_164 ?_
                        refine r_eqI (y := (((5 * c) + 4 : Nat) : Int)) (Int.natCast_add _ _ |>.symm) ?_
                        refine r_aload_n (pc := 165) 2 dX11_bake_165 rfl rfl ?_
                        refine r_getR (pc := 166) (b := 191) dX11_bake_166 fl_X11_98 rfl hM.k hM.r39 ?_
                        refine r_iload_n (pc := 169) 0 dX11_bake_169 rfl rfl ?_
                        refine r_ialdv (pc := 170) (w := K (5 * c + 4) + (((waK K (K 42) (hdK K)) c : Nat) : Int)) dX11_bake_170 hM.a39 (by omega) (by decide) (rdn (by decide) (by rw [hF2 191 (by decide)]; exact (hg3 c (by omega)).2.2)) ?_
                        refine r_iastv (pc := 171) (i := (5 * c) + 4) dX11_bake_171 hM.a2 (by omega) (by decide) rfl ?_
                        refine r_iincv (pc := 172) (y := ((c + 1 : Nat) : Int)) (L2 := [(3, (.int (iI (((c + 1 : Nat) : Int))))), (2, (.int (iI (alK K n (bkO K n how) n)))), (0, (.ref 164)), (1, (.int (iI (how))))]) 0 dX11_bake_172 rfl (by omega) (by decide) rfl ?_
                        refine r_goto (pc := 175) (tgt := 132) dX11_bake_175 (by decide) ?_
                        refine r_sub (L2 := [(3, (.int (iI (((c + 1 : Nat) : Int))))), (2, (.int (iI (alK K n (bkO K n how) n)))), (0, (.ref 164)), (1, (.int (iI (how))))]) [0, 1, 2, 3] rfl ?_
                        exact ih2 (n - (c + 1)) (by omega) (c + 1) (by omega) (by omega) _ (fun q hq => by rw [stF_n _ _ _ hq, stF_n _ _ _ hq]; exact hF2 q hq) (fun j => by
                          by_cases h4 : j = 5 * c + 4
                          · rw [h4, stF_s, if_neg (by omega), if_pos (by omega), show (5 * c + 4) / 5 = c by omega]
                          · rw [stF_i _ _ _ h4]
                            by_cases h3 : j = 5 * c + 3
                            · rw [h3, stF_s, if_pos (by omega), show (5 * c + 3) / 5 = c by omega]
                            · rw [stF_i _ _ _ h3, hK2]
                              by_cases a3 : j < 5 * c ∧ j % 5 = 3
                              · rw [if_pos a3, if_pos (show j < 5 * (c + 1) ∧ j % 5 = 3 by omega)]
                              · rw [if_neg a3, if_neg (show ¬ (j < 5 * (c + 1) ∧ j % 5 = 3) by omega)]
                                by_cases a4 : j < 5 * c ∧ j % 5 = 4
                                · rw [if_pos a4, if_pos (show j < 5 * (c + 1) ∧ j % 5 = 4 by omega)]
                                · rw [if_neg a4, if_neg (show ¬ (j < 5 * (c + 1) ∧ j % 5 = 4) by omega)])
                  refine r_sub (L2 := [(3, (.int (iI (((0 : Nat) : Int))))), (2, (.int (iI (alK K n (bkO K n how) n)))), (0, (.ref 164)), (1, (.int (iI (how))))]) [0, 1, 2, 3] rfl ?_
                  exact loop2 n 0 (by omega) (by omega) f_99 (fun _ _ => rfl) (fun j => by rw [if_neg (by omega), if_neg (by omega)]; exact congrFun hKg j)
                · refine r_aload_n (pc := 123) 1 dX11_bake_123 rfl rfl ?_
                  refine r_bipush (pc := 124) dX11_bake_124 (by decide) ?_
                  refine r_callV (pc := 126) (As := [(.int (iI (-5)))]) (S := []) dX11_bake_126 cv_X11_114 hM.k rfl (Nat.le_of_ble_eq_true rfl) (m_refuses l z _ hM (by omega)) (Nat.zero_le _) (Nat.zero_le _) (fun r_126 g_126 f_126 q_126 => ?_)
                  obtain ⟨rfl, rfl, rfl⟩ := q_126
                  exact r_iret (pc := 129) dX11_bake_129 rfl rfl ⟨rfl, f_99, hms.tr (fun q hq => (hg1 q (by omega) (by omega) (by omega) (by omega)).trans (hF1 q (by omega) (by omega) (by omega))), Or.inr (Or.inr (Or.inl ⟨by omega, hwy, fun h => by have := (hfb.mpr h).2; omega, rfl, rfl⟩))⟩
            · refine r_aload_n (pc := 57) 1 dX11_bake_57 rfl rfl ?_
              refine r_getR (pc := 58) (b := 190) dX11_bake_58 fl_X11_95 rfl hM.k hM.r38 ?_
              refine r_iload_n (pc := 61) 0 dX11_bake_61 rfl rfl ?_
              refine r_aload_n (pc := 62) 1 dX11_bake_62 rfl rfl ?_
              refine r_iload_n (pc := 63) 0 dX11_bake_63 rfl rfl ?_
              refine r_iconst (pc := 64) dX11_bake_64 ?_
              refine r_callV (pc := 65) (As := [(.int (iI (((c : Nat) : Int)))), (.int (iI (3)))]) (S := [(.int (iI (((c : Nat) : Int)))), (.ref 190)]) dX11_bake_65 cv_X11_138 hM.k rfl (Nat.le_of_ble_eq_true rfl) (m_fact (c := c) (w := 3) (v := K (5 * c + 3)) l z _ hM (by omega) (by decide) (congrFun hK1 _)) (Nat.zero_le _) (Nat.zero_le _) (fun r_65 g_65 f_65 q_65 => ?_)
              obtain ⟨rfl, rfl, rfl⟩ := q_65
              refine r_iastv (pc := 68) (i := c) dX11_bake_68 hM.a38 (by omega) (by decide) rfl ?_
              refine r_aload_n (pc := 69) 1 dX11_bake_69 rfl rfl ?_
              refine r_getR (pc := 70) (b := 191) dX11_bake_70 fl_X11_98 rfl hM.k hM.r39 ?_
              refine r_iload_n (pc := 73) 0 dX11_bake_73 rfl rfl ?_
              refine r_aload_n (pc := 74) 1 dX11_bake_74 rfl rfl ?_
              refine r_iload_n (pc := 75) 0 dX11_bake_75 rfl rfl ?_
              refine r_iconst (pc := 76) dX11_bake_76 ?_
              refine r_callV (pc := 77) (As := [(.int (iI (((c : Nat) : Int)))), (.int (iI (4)))]) (S := [(.int (iI (((c : Nat) : Int)))), (.ref 191)]) dX11_bake_77 cv_X11_138 hM.k rfl (Nat.le_of_ble_eq_true rfl) (m_fact (c := c) (w := 4) (v := K (5 * c + 4)) l z _ hM (by omega) (by decide) (rdn (by decide) (congrFun hK1 _))) (Nat.zero_le _) (Nat.zero_le _) (fun r_77 g_77 f_77 q_77 => ?_)
              obtain ⟨rfl, rfl, rfl⟩ := q_77
              refine r_iastv (pc := 80) (i := c) dX11_bake_80 hM.a39 (by omega) (by decide) rfl ?_
              refine r_iload_n (pc := 81) 2 dX11_bake_81 rfl rfl ?_
              refine r_if_ne (pc := 82) (tgt := 92) dX11_bake_82 (by decide) (by omega) (fun c_82 => ?_) (fun c_82 => ?_)
              · refine r_iincv (pc := 92) (y := ((c + 1 : Nat) : Int)) (L2 := [(2, (.int (iI (((c + 1 : Nat) : Int))))), (0, (.ref 164)), (1, (.int (iI (how))))]) 0 dX11_bake_92 rfl (by omega) (by decide) rfl ?_
                refine r_goto (pc := 95) (tgt := 49) dX11_bake_95 (by decide) ?_
                refine r_sub (L2 := [(2, (.int (iI (((c + 1 : Nat) : Int))))), (0, (.ref 164)), (1, (.int (iI (how))))]) [0, 1, 2] rfl ?_
                exact ih (n - (c + 1)) (by omega) (c + 1) (by omega) (by omega) _ (fun q h1 h2 h3 => by rw [stF_n _ _ _ h3, stF_n _ _ _ h2]; exact hF1 q h1 h2 h3) (fun q hq => by
                  rcases Nat.lt_succ_iff_lt_or_eq.mp hq with h | h
                  · have := hR1 q h
                    exact ⟨rdn (by decide) (rdi (by omega) this.1), rdi (by omega) (rdn (by decide) this.2.1), fun e => absurd e (by omega)⟩
                  · subst h; exact ⟨rdn (by decide) (stF_s _ _ _ _), stF_s _ _ _ _, fun e => absurd e (by omega)⟩) (fun h => by rw [stF_n _ _ _ (by decide), stF_n _ _ _ (by decide)]; exact hX1 h)
              · refine r_aload_n (pc := 85) 1 dX11_bake_85 rfl rfl ?_
                refine r_getR (pc := 86) (b := 184) dX11_bake_86 fl_X11_76 rfl hM.k hM.r32 ?_
                refine r_iload_n (pc := 89) 0 dX11_bake_89 rfl rfl ?_
                refine r_iload_n (pc := 90) 0 dX11_bake_90 rfl rfl ?_
                refine r_iastv (pc := 91) (i := c) dX11_bake_91 hM.a32 (by omega) (by decide) rfl ?_
                refine r_iincv (pc := 92) (y := ((c + 1 : Nat) : Int)) (L2 := [(2, (.int (iI (((c + 1 : Nat) : Int))))), (0, (.ref 164)), (1, (.int (iI (how))))]) 0 dX11_bake_92 rfl (by omega) (by decide) rfl ?_
                refine r_goto (pc := 95) (tgt := 49) dX11_bake_95 (by decide) ?_
                refine r_sub (L2 := [(2, (.int (iI (((c + 1 : Nat) : Int))))), (0, (.ref 164)), (1, (.int (iI (how))))]) [0, 1, 2] rfl ?_
                exact ih (n - (c + 1)) (by omega) (c + 1) (by omega) (by omega) _ (fun q h1 h2 h3 => by rw [stF_n _ _ _ h1, stF_n _ _ _ h3, stF_n _ _ _ h2]; exact hF1 q h1 h2 h3) (fun q hq => by
                  rcases Nat.lt_succ_iff_lt_or_eq.mp hq with h | h
                  · have := hR1 q h
                    exact ⟨rdn (by decide) (rdn (by decide) (rdi (by omega) this.1)), rdn (by decide) (rdi (by omega) (rdn (by decide) this.2.1)), fun e => rdi (by omega) (rdn (by decide) (rdn (by decide) (this.2.2 e)))⟩
                  · subst h; exact ⟨rdn (by decide) (rdn (by decide) (stF_s _ _ _ _)), rdn (by decide) (stF_s _ _ _ _), fun _ => stF_s _ _ _ _⟩) (fun h => absurd (by omega) h)
        refine r_sub (L2 := [(2, (.int (iI (((0 : Nat) : Int))))), (0, (.ref 164)), (1, (.int (iI (how))))]) [0, 1, 2] rfl ?_
        exact loop1 n 0 (by omega) (by omega) f_44 (fun _ _ _ _ => rfl) (fun q hq => absurd hq (by omega)) (fun _ => rfl)
      · replace c_26 := b01_z c_26
        refine r_aload_n (pc := 29) 0 dX11_bake_29 rfl rfl ?_
        refine r_bipush (pc := 30) dX11_bake_30 (by decide) ?_
        refine r_callV (pc := 32) (As := [(.int (iI (-3)))]) (S := []) dX11_bake_32 cv_X11_114 hM.k rfl (Nat.le_of_ble_eq_true rfl) (m_refuses l z _ hM (by omega)) (Nat.zero_le _) (Nat.zero_le _) (fun r_32 g_32 f_32 q_32 => ?_)
        obtain ⟨rfl, rfl, rfl⟩ := q_32
        exact r_iret (pc := 35) dX11_bake_35 rfl rfl ⟨rfl, _, hfn.mf, Or.inr (Or.inl ⟨by omega, by omega, rfl, rfl⟩)⟩
  · replace c_6 := b01_z c_6
    refine r_aload_n (pc := 9) 0 dX11_bake_9 rfl rfl ?_
    refine r_iconst (pc := 10) dX11_bake_10 ?_
    refine r_callV (pc := 11) (As := [(.int (iI (-1)))]) (S := []) dX11_bake_11 cv_X11_114 hM.k rfl (Nat.le_of_ble_eq_true rfl) (m_refuses l z _ hM (by omega)) (Nat.zero_le _) (Nat.zero_le _) (fun r_11 g_11 f_11 q_11 => ?_)
    obtain ⟨rfl, rfl, rfl⟩ := q_11
    exact r_iret (pc := 14) dX11_bake_14 rfl rfl ⟨rfl, f, MSc.rf hb20, Or.inl ⟨by omega, rfl, rfl⟩⟩

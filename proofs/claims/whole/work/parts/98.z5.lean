def ldB (F : Nat → Bool) (h x : Nat) : Nat → Bool
  | 0 => false
  | g + 1 => ldB F h x g || (F g && decide (h ||| g = x))
theorem ldB_iff {F : Nat → Bool} {h x : Nat} : ∀ m, ldB F h x m = true ↔ ∃ g, g < m ∧ F g = true ∧ h ||| g = x
  | 0 => by
    constructor
    · intro q; simp [ldB] at q
    · rintro ⟨g, hg, _⟩; exact absurd hg (by omega)
  | m + 1 => by
    rw [ldB, Bool.or_eq_true, Bool.and_eq_true, decide_eq_true_iff, ldB_iff m]
    constructor
    · rintro (⟨g, hg, r⟩ | r)
      · exact ⟨g, by omega, r⟩
      · exact ⟨m, by omega, r⟩
    · rintro ⟨g, hg, r⟩
      rcases (show g < m ∨ g = m by omega) with q | q
      · exact Or.inl ⟨g, q, r⟩
      · subst q; exact Or.inr r
theorem anyN_s (k : Nat) (P : Nat → Bool) : anyN (k + 1) P = (anyN k P || P k) := rfl

set_option maxRecDepth 100000 in
set_option maxHeartbeats 4000000 in
theorem m_leads (l : Launch) (z : Zv) (d : Nat) {gg : Gm} {f : Fm} {F : Nat → Bool} {dy h x : Nat} (hM : ML gg) (hdy : dy < 30) (hh : h < 256) (hx : x < 256) (hF : ∀ g, g ≤ x → f 185 (256 * dy + g) = b01 (F g = true)) : PM l z d mX11_leads [.ref 164, .int (iI ((dy : Nat) : Int)), .int (iI ((h : Nat) : Int)), .int (iI ((x : Nat) : Int))] gg f 0 0 (rdQ (.int (iI (b01 (ldB F h x (x + 1) = true)))) gg f) := by
  refine PM.of (by decide +kernel) (Nat.le_of_ble_eq_true rfl) ?_
  have Lg : ∀ m g : Nat, m = x + 1 - g → g ≤ x + 1 → ¬ ldB F h x g = true → PW l z d mX11_leads 0 0 (rdQ (.int (iI (b01 (ldB F h x (x + 1) = true)))) gg f) 3 [(4, (.int (iI (((g : Nat) : Int))))), (0, (.ref 164)), (1, (.int (iI (((dy : Nat) : Int))))), (2, (.int (iI (((h : Nat) : Int))))), (3, (.int (iI (((x : Nat) : Int)))))] [] gg f 0 0 := by
    intro m
    induction m using Nat.strongRecOn with
    | _ m ih_Lg =>
      intro g hm hg0 hno
      refine r_iload (pc := 3) 0 dX11_leads_3 rfl ?_
      refine r_iload_n (pc := 5) 4 dX11_leads_5 rfl rfl ?_
      refine r_icmp_gt (pc := 6) (tgt := 41) dX11_leads_6 (by decide) (by omega) (by omega) (fun c_6 => ?_) (fun c_6 => ?_)
      · refine r_iconst (pc := 41) dX11_leads_41 ?_
        have hge : g = x + 1 := by omega
        rw [hge] at hno
        exact r_iret (pc := 42) dX11_leads_42 rfl rfl ⟨by rw [b01_f hno], rfl, rfl⟩
      · refine r_aload_n (pc := 9) 1 dX11_leads_9 rfl rfl ?_
        refine r_getR (pc := 10) (b := 185) dX11_leads_10 fl_X11_79 rfl hM.k hM.r33 ?_
        refine r_sipush (pc := 13) dX11_leads_13 (by decide) ?_
        refine r_iload_n (pc := 16) 2 dX11_leads_16 rfl rfl ?_
        refine r_imul (pc := 17) dX11_leads_17 ?_
        refine r_eqI (y := ((256 * dy : Nat) : Int)) (Int.natCast_mul _ _ |>.symm) ?_
        refine r_iload (pc := 18) 0 dX11_leads_18 rfl ?_
        refine r_iadd (pc := 20) dX11_leads_20 ?_
        refine r_eqI (y := ((256 * dy + g : Nat) : Int)) (by omega) ?_
        refine r_zaldv (pc := 21) (w := b01 (F g = true)) dX11_leads_21 hM.a33 (by omega) (by decide) (hF g (by omega)) ?_
        refine r_if_eq (pc := 22) (tgt := 35) dX11_leads_22 (by decide) (b01_r) (fun c_22 => ?_) (fun c_22 => ?_)
        · replace c_22 := b01_z c_22
          refine r_iincv (pc := 35) (y := ((g + 1 : Nat) : Int)) (L2 := [(4, (.int (iI (((g + 1 : Nat) : Int))))), (0, (.ref 164)), (1, (.int (iI (((dy : Nat) : Int))))), (2, (.int (iI (((h : Nat) : Int))))), (3, (.int (iI (((x : Nat) : Int)))))]) 0 dX11_leads_35 rfl (by omega) (by decide) rfl ?_
          refine r_goto (pc := 38) (tgt := 3) dX11_leads_38 (by decide) ?_
          refine r_sub (L2 := [(4, (.int (iI (((g + 1 : Nat) : Int))))), (0, (.ref 164)), (1, (.int (iI (((dy : Nat) : Int))))), (2, (.int (iI (((h : Nat) : Int))))), (3, (.int (iI (((x : Nat) : Int)))))]) [0, 1, 2, 3, 4] rfl ?_
          exact ih_Lg (x + 1 - (g + 1)) (by omega) (g + 1) (by omega) (by omega) (by rw [ldB, Bool.or_eq_true, Bool.and_eq_true, decide_eq_true_iff]; rintro (q | q); exact hno q; exact c_22 q.1)
        · replace c_22 := b01_nz c_22
          have hor := Nat.or_lt_two_pow (n := 8) (show h < 2 ^ 8 by omega) (show g < 2 ^ 8 by omega)
          refine r_iload_n (pc := 25) 3 dX11_leads_25 rfl rfl ?_
          refine r_iload (pc := 26) 0 dX11_leads_26 rfl ?_
          refine r_ior (pc := 28) (w := ((h ||| g : Nat) : Int)) dX11_leads_28  (iI_or _ _) ?_
          refine r_iload_n (pc := 29) 4 dX11_leads_29 rfl rfl ?_
          refine r_icmp_ne (pc := 30) (tgt := 35) dX11_leads_30 (by decide) (by omega) (by omega) (fun c_30 => ?_) (fun c_30 => ?_)
          · refine r_iincv (pc := 35) (y := ((g + 1 : Nat) : Int)) (L2 := [(4, (.int (iI (((g + 1 : Nat) : Int))))), (0, (.ref 164)), (1, (.int (iI (((dy : Nat) : Int))))), (2, (.int (iI (((h : Nat) : Int))))), (3, (.int (iI (((x : Nat) : Int)))))]) 0 dX11_leads_35 rfl (by omega) (by decide) rfl ?_
            refine r_goto (pc := 38) (tgt := 3) dX11_leads_38 (by decide) ?_
            refine r_sub (L2 := [(4, (.int (iI (((g + 1 : Nat) : Int))))), (0, (.ref 164)), (1, (.int (iI (((dy : Nat) : Int))))), (2, (.int (iI (((h : Nat) : Int))))), (3, (.int (iI (((x : Nat) : Int)))))]) [0, 1, 2, 3, 4] rfl ?_
            exact ih_Lg (x + 1 - (g + 1)) (by omega) (g + 1) (by omega) (by omega) (by rw [ldB, Bool.or_eq_true, Bool.and_eq_true, decide_eq_true_iff]; rintro (q | q); exact hno q; exact by have := q.2; omega)
          · refine r_iconst (pc := 33) dX11_leads_33 ?_
            have hy : ldB F h x (x + 1) = true := (ldB_iff _).mpr ⟨g, by omega, c_22, by omega⟩
            exact r_iret (pc := 34) dX11_leads_34 rfl rfl ⟨by rw [b01_t hy], rfl, rfl⟩
  refine r_iconst (pc := 0) dX11_leads_0 ?_
  refine r_istore (pc := 1) (L2 := [(4, (.int (iI (0)))), (0, (.ref 164)), (1, (.int (iI (((dy : Nat) : Int))))), (2, (.int (iI (((h : Nat) : Int))))), (3, (.int (iI (((x : Nat) : Int)))))]) dX11_leads_1 (by decide) rfl ?_
  refine r_sub (L2 := [(4, (.int (iI (((0 : Nat) : Int))))), (0, (.ref 164)), (1, (.int (iI (((dy : Nat) : Int))))), (2, (.int (iI (((h : Nat) : Int))))), (3, (.int (iI (((x : Nat) : Int)))))]) [0, 1, 2, 3, 4] rfl ?_
  exact Lg (x + 1) 0 (by omega) (by omega) (by intro q; simp [ldB] at q)

set_option maxRecDepth 100000 in
set_option maxHeartbeats 4000000 in
theorem m_year (l : Launch) (z : Zv) {g : Gm} {f : Fm} {K : Nat → Int} {D0 M0 : Int} {n : Nat} (hM : ML g) (hK : f 166 = K) (hO : KO K D0 M0) (hD0 : D0 ≤ 900000) (hM0 : M0 ≤ 1090000) (hn : K 77 = ((n : Nat) : Int)) (hb20 : ∃ bk : Bool, f 164 20 = b01 (bk = true)) {w : Int} (h_w : -2147483648 ≤ w ∧ w ≤ 2147483647) {D : Nat} (hD : 275 ≤ D) : PM l z D mX11_year [.ref 164, .int (iI w)] g f 0 0 (fun r g' f' => r = some (.int (iI (yrA K n w))) ∧ g = g' ∧ MSc f f') := by
  obtain ⟨d, rfl⟩ : ∃ d, D = d + 275 := ⟨D - 275, by omega⟩
  have hn8 : n ≤ 8 := by have := hO.n; omega
  have hp8 := pow8 hn8
  refine PM.of (by decide +kernel) (Nat.le_of_ble_eq_true rfl) ?_
  refine r_aload_n (pc := 0) 0 dX11_year_0 rfl rfl ?_
  refine r_callV (pc := 1) (As := []) (S := []) dX11_year_1 cv_X11_121 hM.k rfl (Nat.le_of_ble_eq_true rfl) (m_cust (v := ((n : Nat) : Int)) l z (d + 274) hM ((congrFun hK 77).trans hn)) (Nat.zero_le _) (Nat.zero_le _) (fun r_1 g_1 f_1 q_1 => ?_)
  obtain ⟨rfl, rfl, rfl⟩ := q_1
  refine r_if_ne (pc := 4) (tgt := 9) dX11_year_4 (by decide) (by omega) (fun c_4 => ?_) (fun c_4 => ?_)
  · refine r_aload_n (pc := 9) 0 dX11_year_9 rfl rfl ?_
    refine r_callV (pc := 10) (As := []) (S := []) dX11_year_10 cv_X11_339 hM.k rfl (Nat.le_of_ble_eq_true rfl) (m_yearOf (K := K) (n := n) l z hM hK hO hD0 hM0 hn hb20 (by omega) (D := d + 274) (by omega)) (Nat.zero_le _) (Nat.zero_le _) (fun r_10 g_10 f_10 q_10 => ?_)
    obtain ⟨rfl, rfl, hms, hcan⟩ := q_10
    have hDr := yD_r (famK K n) n
    have hyr : -1 ≤ (if 0 < (yDn (famK K n) n) then (((yDn (famK K n) n) : Nat) : Int) else -1) ∧ (if 0 < (yDn (famK K n) n) then (((yDn (famK K n) n) : Nat) : Int) else -1) ≤ 30 := by split <;> omega
    have hK1 : f_10 166 = K := (hms.1 166 (by omega)).trans hK
    refine r_istore_n (pc := 13) (L2 := [(2, (.int (iI ((if 0 < (yDn (famK K n) n) then (((yDn (famK K n) n) : Nat) : Int) else -1))))), (0, (.ref 164)), (1, (.int (iI (w))))]) dX11_year_13 rfl (by decide) rfl ?_
    refine r_iload_n (pc := 14) 2 dX11_year_14 rfl rfl ?_
    refine r_iconst (pc := 15) dX11_year_15 ?_
    refine r_icmp_eq (pc := 16) (tgt := 24) dX11_year_16 (by decide) (by omega) (by omega) (fun c_16 => ?_) (fun c_16 => ?_)
    · refine r_iload_n (pc := 24) 0 dX11_year_24 rfl rfl ?_
      exact r_iret (pc := 25) dX11_year_25 rfl rfl ⟨by unfold yrA; rw [if_pos (show w = -1 by omega)]; rfl, rfl, hms⟩
    · refine r_iload_n (pc := 19) 0 dX11_year_19 rfl rfl ?_
      refine r_iconst (pc := 20) dX11_year_20 ?_
      refine r_icmp_ne (pc := 21) (tgt := 26) dX11_year_21 (by decide) (by omega) (by omega) (fun c_21 => ?_) (fun c_21 => ?_)
      · refine r_iload_n (pc := 26) 2 dX11_year_26 rfl rfl ?_
        refine r_iconst (pc := 27) dX11_year_27 ?_
        refine r_iload_n (pc := 28) 0 dX11_year_28 rfl rfl ?_
        refine r_iconst (pc := 29) dX11_year_29 ?_
        refine r_isub (pc := 30) dX11_year_30 ?_
        refine r_callS (pc := 31) (As := [(.int (iI (w))), (.int (iI (0))), (.int (iI (((if 0 < (yDn (famK K n) n) then (((yDn (famK K n) n) : Nat) : Int) else -1)) - (1))))]) (S := []) dX11_year_31 cs_X11_110 rfl (Nat.le_of_ble_eq_true rfl) (m_lies l z _ (by omega) (by omega) (by omega)) (Nat.zero_le _) (Nat.zero_le _) (fun r_31 g_31 f_31 q_31 => ?_)
        obtain ⟨rfl, rfl, rfl⟩ := q_31
        refine r_if_ne (pc := 34) (tgt := 39) dX11_year_34 (by decide) (b01_r) (fun c_34 => ?_) (fun c_34 => ?_)
        · replace c_34 := b01_nz c_34
          have hDp : 0 < (yDn (famK K n) n) := by
            rcases Nat.eq_zero_or_pos (yDn (famK K n) n) with q | q
            · exfalso; rw [if_neg (by omega)] at c_21; omega
            · exact q
          have hYe : (if 0 < (yDn (famK K n) n) then (((yDn (famK K n) n) : Nat) : Int) else -1) = (((yDn (famK K n) n) : Nat) : Int) := if_pos hDp
          have hwD := c_34
          rw [hYe] at hwD
          refine r_sub (L2 := [(2, (.int (iI ((((yDn (famK K n) n) : Nat) : Int))))), (0, (.ref 164)), (1, (.int (iI (w))))]) [0, 1, 2] (by rw [hYe]; rfl) ?_
          refine r_aload_n (pc := 39) 1 dX11_year_39 rfl rfl ?_
          refine r_callV (pc := 40) (As := []) (S := []) dX11_year_40 cv_X11_302 hM.k rfl (Nat.le_of_ble_eq_true rfl) (m_everyone (n := n) l z (d + 273) hM ((congrFun hK1 77).trans hn) hn8) (Nat.zero_le _) (Nat.zero_le _) (fun r_40 g_40 f_40 q_40 => ?_)
          obtain ⟨rfl, rfl, rfl⟩ := q_40
          refine r_eqI (y := ((2 ^ n - 1 : Nat) : Int)) (by omega) ?_
          refine r_istore_n (pc := 43) (L2 := [(3, (.int (iI (((2 ^ n - 1 : Nat) : Int))))), (2, (.int (iI ((((yDn (famK K n) n) : Nat) : Int))))), (0, (.ref 164)), (1, (.int (iI (w))))]) dX11_year_43 rfl (by decide) rfl ?_
          refine r_iconst (pc := 44) dX11_year_44 ?_
          refine r_istore (pc := 45) (L2 := [(4, (.int (iI (0)))), (3, (.int (iI (((2 ^ n - 1 : Nat) : Int))))), (2, (.int (iI ((((yDn (famK K n) n) : Nat) : Int))))), (0, (.ref 164)), (1, (.int (iI (w))))]) dX11_year_45 (by decide) rfl ?_
          have La : ∀ m q : Nat, m = 2 ^ n - q → q ≤ 2 ^ n → ∀ f1 : Fm, (∀ a, a ≠ 188 → f1 a = f_10 a) → (∀ k, k < q → f1 188 (256 * (yDn (famK K n) n) + k) = b01 ((dnS n (famK K n) (yDn (famK K n) n) 0) k = true)) → PW l z (d + 275) mX11_year 0 0 (fun r g' f' => r = some (.int (iI (yrA K n w))) ∧ g = g' ∧ MSc f f') 47 [(4, (.int (iI (((q : Nat) : Int))))), (3, (.int (iI (((2 ^ n - 1 : Nat) : Int))))), (2, (.int (iI ((((yDn (famK K n) n) : Nat) : Int))))), (0, (.ref 164)), (1, (.int (iI (w))))] [] g f1 0 0 := by
            intro m
            induction m using Nat.strongRecOn with
            | _ m ih_La =>
              intro q hm_q h0_q f1 hF1 hR1
              refine r_iload (pc := 47) 0 dX11_year_47 rfl ?_
              refine r_iload_n (pc := 49) 1 dX11_year_49 rfl rfl ?_
              refine r_icmp_gt (pc := 50) (tgt := 83) dX11_year_50 (by decide) (by omega) (by omega) (fun c_50 => ?_) (fun c_50 => ?_)
              · refine r_iload_n (pc := 83) 2 dX11_year_83 rfl rfl ?_
                refine r_iconst (pc := 84) dX11_year_84 ?_
                refine r_isub (pc := 85) dX11_year_85 ?_
                refine r_istore (pc := 86) (L2 := [(4, (.int (iI (((((yDn (famK K n) n) : Nat) : Int)) - (1))))), (3, (.int (iI (((2 ^ n - 1 : Nat) : Int))))), (2, (.int (iI ((((yDn (famK K n) n) : Nat) : Int))))), (0, (.ref 164)), (1, (.int (iI (w))))]) dX11_year_86 (by decide) rfl ?_
                have Lb : ∀ m e : Nat, m = e → e ≤ (yDn (famK K n) n) → ∀ f2 : Fm, (∀ a, a ≠ 188 → f2 a = f_10 a) → (∀ dd, e ≤ dd → dd ≤ (yDn (famK K n) n) → ∀ k, k < 2 ^ n → f2 188 (256 * dd + k) = b01 ((dnS n (famK K n) (yDn (famK K n) n) ((yDn (famK K n) n) - dd)) k = true)) → PW l z (d + 275) mX11_year 0 0 (fun r g' f' => r = some (.int (iI (yrA K n w))) ∧ g = g' ∧ MSc f f') 88 [(4, (.int (iI (((e : Nat) : Int) - 1)))), (3, (.int (iI (((2 ^ n - 1 : Nat) : Int))))), (2, (.int (iI ((((yDn (famK K n) n) : Nat) : Int))))), (0, (.ref 164)), (1, (.int (iI (w))))] [] g f2 0 0 := by
                  intro m
                  induction m using Nat.strongRecOn with
                  | _ m ih_Lb =>
                    intro e hm_e h0_e f2 hF2 hR2
                    refine r_iload (pc := 88) 0 dX11_year_88 rfl ?_
                    refine r_if_lt (pc := 90) (tgt := 219) dX11_year_90 (by decide) (by omega) (fun c_90 => ?_) (fun c_90 => ?_)
                    · refine r_iconst (pc := 219) dX11_year_219 ?_
                      refine r_istore (pc := 220) (L2 := [(4, (.int (iI (0)))), (3, (.int (iI (((2 ^ n - 1 : Nat) : Int))))), (2, (.int (iI ((((yDn (famK K n) n) : Nat) : Int))))), (0, (.ref 164)), (1, (.int (iI (w))))]) dX11_year_220 (by decide) rfl ?_
                      refine r_iconst (pc := 222) dX11_year_222 ?_
                      refine r_istore (pc := 223) (L2 := [(5, (.int (iI (0)))), (4, (.int (iI (0)))), (3, (.int (iI (((2 ^ n - 1 : Nat) : Int))))), (2, (.int (iI ((((yDn (famK K n) n) : Nat) : Int))))), (0, (.ref 164)), (1, (.int (iI (w))))]) dX11_year_223 (by decide) rfl ?_
                      have he0 : e = 0 := by omega
                      have hw0 := yD_dn (F := (famK K n)) (n := n) hDp
                      have Lt : ∀ m t : Nat, m = (w.toNat + 1) - t → t ≤ (w.toNat + 1) → ∀ f5 : Fm, (∀ a, a ≠ 188 → f5 a = f_10 a) → (∀ dd, 0 ≤ dd → dd ≤ (yDn (famK K n) n) → ∀ k, k < 2 ^ n → f5 188 (256 * dd + k) = b01 ((dnS n (famK K n) (yDn (famK K n) n) ((yDn (famK K n) n) - dd)) k = true)) → PW l z (d + 275) mX11_year 0 0 (fun r g' f' => r = some (.int (iI (yrA K n w))) ∧ g = g' ∧ MSc f f') 225 [(5, (.int (iI (((t : Nat) : Int))))), (4, (.int (iI (((wyH n (famK K n) (yDn (famK K n) n) t : Nat) : Int))))), (3, (.int (iI (((2 ^ n - 1 : Nat) : Int))))), (2, (.int (iI ((((yDn (famK K n) n) : Nat) : Int))))), (0, (.ref 164)), (1, (.int (iI (w))))] [] g f5 0 0 := by
                        intro m
                        induction m using Nat.strongRecOn with
                        | _ m ih_Lt =>
                          intro t hm_t h0_t f5 hF5 hR5
                          have hwr := wyH_r (n := n) (D := (yDn (famK K n) n)) (A := (famK K n)) hn8 t
                          refine r_iload (pc := 225) 0 dX11_year_225 rfl ?_
                          refine r_iload_n (pc := 227) 5 dX11_year_227 rfl rfl ?_
                          refine r_icmp_gt (pc := 228) (tgt := 282) dX11_year_228 (by decide) (by omega) (by omega) (fun c_228 => ?_) (fun c_228 => ?_)
                          · refine r_iload (pc := 282) 1 dX11_year_282 rfl ?_
                            have hte : t = w.toNat + 1 := by omega
                            exact r_iret (pc := 284) dX11_year_284 rfl rfl ⟨by
                              unfold yrA
                              rw [if_neg (show ¬ w = -1 by omega), if_pos (show 0 ≤ w ∧ w < ((yDK K n : Nat) : Int) from ⟨by omega, by show w < (((yDn (famK K n) n) : Nat) : Int); omega⟩), hte]
                              rfl, rfl, hms.tr (fun a ha => hF5 a (by omega))⟩
                          · refine r_iconst (pc := 231) dX11_year_231 ?_
                            refine r_istore (pc := 232) (L2 := [(6, (.int (iI (0)))), (5, (.int (iI (((t : Nat) : Int))))), (4, (.int (iI (((wyH n (famK K n) (yDn (famK K n) n) t : Nat) : Int))))), (3, (.int (iI (((2 ^ n - 1 : Nat) : Int))))), (2, (.int (iI ((((yDn (famK K n) n) : Nat) : Int))))), (0, (.ref 164)), (1, (.int (iI (w))))]) dX11_year_232 (by decide) rfl ?_
                            have hnx := wy_next (F := (famK K n)) hn8 (show t < (yDn (famK K n) n) by omega) (wy_dn hn8 hw0 t (by omega))
                            have hxr := wyH_r (n := n) (D := (yDn (famK K n) n)) (A := (famK K n)) hn8 (t + 1)
                            have Lx : ∀ m x : Nat, m = wyH n (famK K n) (yDn (famK K n) n) (t + 1) - x → x ≤ wyH n (famK K n) (yDn (famK K n) n) (t + 1) → PW l z (d + 275) mX11_year 0 0 (fun r g' f' => r = some (.int (iI (yrA K n w))) ∧ g = g' ∧ MSc f f') 234 [(6, (.int (iI (((x : Nat) : Int))))), (5, (.int (iI (((t : Nat) : Int))))), (4, (.int (iI (((wyH n (famK K n) (yDn (famK K n) n) t : Nat) : Int))))), (3, (.int (iI (((2 ^ n - 1 : Nat) : Int))))), (2, (.int (iI ((((yDn (famK K n) n) : Nat) : Int))))), (0, (.ref 164)), (1, (.int (iI (w))))] [] g f5 0 0 := by
                              intro m
                              induction m using Nat.strongRecOn with
                              | _ m ih_Lx =>
                                intro x hm_x h0_x
                                refine r_aload_n (pc := 234) 5 dX11_year_234 rfl rfl ?_
                                refine r_getR (pc := 235) (b := 188) dX11_year_235 fl_X11_89 rfl hM.k hM.r36 ?_
                                refine r_sipush (pc := 238) dX11_year_238 (by decide) ?_
                                refine r_iload (pc := 241) 1 dX11_year_241 rfl ?_
                                refine r_iconst (pc := 243) dX11_year_243 ?_
                                refine r_iadd (pc := 244) dX11_year_244 ?_
                                refine r_eqI (y := ((t + 1 : Nat) : Int)) (Int.natCast_add _ _ |>.symm) ?_
                                refine r_imul (pc := 245) dX11_year_245 ?_
                                refine r_eqI (y := ((256 * (t + 1) : Nat) : Int)) (Int.natCast_mul _ _ |>.symm) ?_
                                refine r_iload (pc := 246) 0 dX11_year_246 rfl ?_
                                refine r_iadd (pc := 248) dX11_year_248 ?_
                                refine r_eqI (y := ((256 * (t + 1) + x : Nat) : Int)) (by omega) ?_
                                refine r_zaldv (pc := 249) (w := b01 ((dnS n (famK K n) (yDn (famK K n) n) ((yDn (famK K n) n) - (t + 1))) x = true)) dX11_year_249 hM.a36 (by omega) (by decide) (hR5 (t + 1) (by omega) (by omega) x (by omega)) ?_
                                refine r_if_eq (pc := 250) (tgt := 266) dX11_year_250 (by decide) (b01_r) (fun c_250 => ?_) (fun c_250 => ?_)
                                · replace c_250 := b01_z c_250
                                  refine r_iincv (pc := 266) (y := ((x + 1 : Nat) : Int)) (L2 := [(6, (.int (iI (((x + 1 : Nat) : Int))))), (5, (.int (iI (((t : Nat) : Int))))), (4, (.int (iI (((wyH n (famK K n) (yDn (famK K n) n) t : Nat) : Int))))), (3, (.int (iI (((2 ^ n - 1 : Nat) : Int))))), (2, (.int (iI ((((yDn (famK K n) n) : Nat) : Int))))), (0, (.ref 164)), (1, (.int (iI (w))))]) 0 dX11_year_266 rfl (by omega) (by decide) rfl ?_
                                  refine r_goto (pc := 269) (tgt := 234) dX11_year_269 (by decide) ?_
                                  have hne : ¬ nxY n (famK K n) (yDn (famK K n) n) t (wyH n (famK K n) (yDn (famK K n) n) t) x := fun v => c_250 v.1
                                  have hlt : x < wyH n (famK K n) (yDn (famK K n) n) (t + 1) := Nat.lt_of_le_of_ne h0_x (fun v => hne (by rw [v]; exact hnx.1))
                                  refine r_sub (L2 := [(6, (.int (iI (((x + 1 : Nat) : Int))))), (5, (.int (iI (((t : Nat) : Int))))), (4, (.int (iI (((wyH n (famK K n) (yDn (famK K n) n) t : Nat) : Int))))), (3, (.int (iI (((2 ^ n - 1 : Nat) : Int))))), (2, (.int (iI ((((yDn (famK K n) n) : Nat) : Int))))), (0, (.ref 164)), (1, (.int (iI (w))))]) [0, 1, 2, 3, 4, 5, 6] rfl ?_
                                  exact ih_Lx (wyH n (famK K n) (yDn (famK K n) n) (t + 1) - (x + 1)) (by omega) (x + 1) rfl (by omega)
                                · replace c_250 := b01_nz c_250
                                  refine r_aload_n (pc := 253) 5 dX11_year_253 rfl rfl ?_
                                  refine r_iload (pc := 254) 1 dX11_year_254 rfl ?_
                                  refine r_iload (pc := 256) 2 dX11_year_256 rfl ?_
                                  refine r_iload (pc := 258) 0 dX11_year_258 rfl ?_
                                  refine r_callV (pc := 260) (As := [(.int (iI (((t : Nat) : Int)))), (.int (iI (((wyH n (famK K n) (yDn (famK K n) n) t : Nat) : Int)))), (.int (iI (((x : Nat) : Int))))]) (S := []) dX11_year_260 cv_X11_342 hM.k rfl (Nat.le_of_ble_eq_true rfl) (m_leads (F := famK K n t) (dy := t) (h := wyH n (famK K n) (yDn (famK K n) n) t) (x := x) l z (d + 274) hM (by omega) (by omega) (by omega) (fun g hg => by rw [hF5 185 (by decide)]; exact hcan t (by omega) g (by omega))) (Nat.zero_le _) (Nat.zero_le _) (fun r_260 g_260 f_260 q_260 => ?_)
                                  obtain ⟨rfl, rfl, rfl⟩ := q_260
                                  refine r_if_ne (pc := 263) (tgt := 272) dX11_year_263 (by decide) (b01_r) (fun c_263 => ?_) (fun c_263 => ?_)
                                  · replace c_263 := b01_nz c_263
                                    have hyes : nxY n (famK K n) (yDn (famK K n) n) t (wyH n (famK K n) (yDn (famK K n) n) t) x := ⟨c_250, by obtain ⟨g, hg, r⟩ := (ldB_iff _).mp c_263; exact ⟨g, by omega, r⟩⟩
                                    have hxe : x = wyH n (famK K n) (yDn (famK K n) n) (t + 1) := by
                                      rcases Nat.lt_or_eq_of_le h0_x with v | v
                                      · exact absurd hyes (hnx.2 x v)
                                      · exact v
                                    refine r_sub (L2 := [(6, (.int (iI (((wyH n (famK K n) (yDn (famK K n) n) (t + 1) : Nat) : Int))))), (5, (.int (iI (((t : Nat) : Int))))), (4, (.int (iI (((wyH n (famK K n) (yDn (famK K n) n) t : Nat) : Int))))), (3, (.int (iI (((2 ^ n - 1 : Nat) : Int))))), (2, (.int (iI ((((yDn (famK K n) n) : Nat) : Int))))), (0, (.ref 164)), (1, (.int (iI (w))))]) [0, 1, 2, 3, 4, 5, 6] (by rw [← hxe]; rfl) ?_
                                    refine r_iload (pc := 272) 0 dX11_year_272 rfl ?_
                                    refine r_istore (pc := 274) (L2 := [(4, (.int (iI (((wyH n (famK K n) (yDn (famK K n) n) (t + 1) : Nat) : Int))))), (6, (.int (iI (((wyH n (famK K n) (yDn (famK K n) n) (t + 1) : Nat) : Int))))), (5, (.int (iI (((t : Nat) : Int))))), (3, (.int (iI (((2 ^ n - 1 : Nat) : Int))))), (2, (.int (iI ((((yDn (famK K n) n) : Nat) : Int))))), (0, (.ref 164)), (1, (.int (iI (w))))]) dX11_year_274 (by decide) rfl ?_
                                    refine r_iincv (pc := 276) (y := ((t + 1 : Nat) : Int)) (L2 := [(5, (.int (iI (((t + 1 : Nat) : Int))))), (4, (.int (iI (((wyH n (famK K n) (yDn (famK K n) n) (t + 1) : Nat) : Int))))), (6, (.int (iI (((wyH n (famK K n) (yDn (famK K n) n) (t + 1) : Nat) : Int))))), (3, (.int (iI (((2 ^ n - 1 : Nat) : Int))))), (2, (.int (iI ((((yDn (famK K n) n) : Nat) : Int))))), (0, (.ref 164)), (1, (.int (iI (w))))]) 2 dX11_year_276 rfl (by omega) (by decide) rfl ?_
                                    refine r_goto (pc := 279) (tgt := 225) dX11_year_279 (by decide) ?_
                                    refine r_sub (L2 := [(5, (.int (iI (((t + 1 : Nat) : Int))))), (4, (.int (iI (((wyH n (famK K n) (yDn (famK K n) n) (t + 1) : Nat) : Int))))), (3, (.int (iI (((2 ^ n - 1 : Nat) : Int))))), (2, (.int (iI ((((yDn (famK K n) n) : Nat) : Int))))), (0, (.ref 164)), (1, (.int (iI (w))))]) [0, 1, 3, 4, 5, 6] rfl ?_
                                    exact ih_Lt (w.toNat + 1 - (t + 1)) (by omega) (t + 1) (by omega) (by omega) f5 hF5 hR5
                                  · replace c_263 := b01_z c_263
                                    refine r_iincv (pc := 266) (y := ((x + 1 : Nat) : Int)) (L2 := [(6, (.int (iI (((x + 1 : Nat) : Int))))), (5, (.int (iI (((t : Nat) : Int))))), (4, (.int (iI (((wyH n (famK K n) (yDn (famK K n) n) t : Nat) : Int))))), (3, (.int (iI (((2 ^ n - 1 : Nat) : Int))))), (2, (.int (iI ((((yDn (famK K n) n) : Nat) : Int))))), (0, (.ref 164)), (1, (.int (iI (w))))]) 0 dX11_year_266 rfl (by omega) (by decide) rfl ?_
                                    refine r_goto (pc := 269) (tgt := 234) dX11_year_269 (by decide) ?_
                                    have hne : ¬ nxY n (famK K n) (yDn (famK K n) n) t (wyH n (famK K n) (yDn (famK K n) n) t) x := fun v => c_263 ((ldB_iff _).mpr (by obtain ⟨g, hg, r⟩ := v.2; exact ⟨g, by omega, r⟩))
                                    have hlt : x < wyH n (famK K n) (yDn (famK K n) n) (t + 1) := Nat.lt_of_le_of_ne h0_x (fun v => hne (by rw [v]; exact hnx.1))
                                    refine r_sub (L2 := [(6, (.int (iI (((x + 1 : Nat) : Int))))), (5, (.int (iI (((t : Nat) : Int))))), (4, (.int (iI (((wyH n (famK K n) (yDn (famK K n) n) t : Nat) : Int))))), (3, (.int (iI (((2 ^ n - 1 : Nat) : Int))))), (2, (.int (iI ((((yDn (famK K n) n) : Nat) : Int))))), (0, (.ref 164)), (1, (.int (iI (w))))]) [0, 1, 2, 3, 4, 5, 6] rfl ?_
                                    exact ih_Lx (wyH n (famK K n) (yDn (famK K n) n) (t + 1) - (x + 1)) (by omega) (x + 1) rfl (by omega)
                            refine r_sub (L2 := [(6, (.int (iI (((0 : Nat) : Int))))), (5, (.int (iI (((t : Nat) : Int))))), (4, (.int (iI (((wyH n (famK K n) (yDn (famK K n) n) t : Nat) : Int))))), (3, (.int (iI (((2 ^ n - 1 : Nat) : Int))))), (2, (.int (iI ((((yDn (famK K n) n) : Nat) : Int))))), (0, (.ref 164)), (1, (.int (iI (w))))]) [0, 1, 2, 3, 4, 5, 6] rfl ?_
                            exact Lx (wyH n (famK K n) (yDn (famK K n) n) (t + 1)) 0 (by omega) (by omega)
                      refine r_sub (L2 := [(5, (.int (iI (((0 : Nat) : Int))))), (4, (.int (iI (((wyH n (famK K n) (yDn (famK K n) n) 0 : Nat) : Int))))), (3, (.int (iI (((2 ^ n - 1 : Nat) : Int))))), (2, (.int (iI ((((yDn (famK K n) n) : Nat) : Int))))), (0, (.ref 164)), (1, (.int (iI (w))))]) [0, 1, 2, 3, 4, 5] rfl ?_
                      exact Lt (w.toNat + 1) 0 (by omega) (by omega) f2 hF2 (fun dd h1 h2 => hR2 dd (by omega) h2)
                    · obtain ⟨e, rfl⟩ : ∃ v, e = v + 1 := ⟨e - 1, by omega⟩
                      refine r_sub (L2 := [(4, (.int (iI (((e : Nat) : Int))))), (3, (.int (iI (((2 ^ n - 1 : Nat) : Int))))), (2, (.int (iI ((((yDn (famK K n) n) : Nat) : Int))))), (0, (.ref 164)), (1, (.int (iI (w))))]) [0, 1, 2, 3, 4] (by rw [show ((e : Nat) : Int) = ((e + 1 : Nat) : Int) - 1 by omega]; rfl) ?_
                      refine r_iconst (pc := 93) dX11_year_93 ?_
                      refine r_istore (pc := 94) (L2 := [(5, (.int (iI (0)))), (4, (.int (iI (((e : Nat) : Int))))), (3, (.int (iI (((2 ^ n - 1 : Nat) : Int))))), (2, (.int (iI ((((yDn (famK K n) n) : Nat) : Int))))), (0, (.ref 164)), (1, (.int (iI (w))))]) dX11_year_94 (by decide) rfl ?_
                      have Lc : ∀ m q : Nat, m = 2 ^ n - q → q ≤ 2 ^ n → ∀ f3 : Fm, (∀ a, a ≠ 188 → f3 a = f_10 a) → (∀ dd, e < dd → dd ≤ (yDn (famK K n) n) → ∀ k, k < 2 ^ n → f3 188 (256 * dd + k) = b01 ((dnS n (famK K n) (yDn (famK K n) n) ((yDn (famK K n) n) - dd)) k = true)) → (∀ k, k < q → f3 188 (256 * e + k) = b01 ((dnS n (famK K n) (yDn (famK K n) n) ((yDn (famK K n) n) - e)) k = true)) → PW l z (d + 275) mX11_year 0 0 (fun r g' f' => r = some (.int (iI (yrA K n w))) ∧ g = g' ∧ MSc f f') 96 [(5, (.int (iI (((q : Nat) : Int))))), (4, (.int (iI (((e : Nat) : Int))))), (3, (.int (iI (((2 ^ n - 1 : Nat) : Int))))), (2, (.int (iI ((((yDn (famK K n) n) : Nat) : Int))))), (0, (.ref 164)), (1, (.int (iI (w))))] [] g f3 0 0 := by
                        intro m
                        induction m using Nat.strongRecOn with
                        | _ m ih_Lc =>
                          intro q hm_q h0_q f3 hF3 hR3 hQ3
                          refine r_iload (pc := 96) 0 dX11_year_96 rfl ?_
                          refine r_iload_n (pc := 98) 2 dX11_year_98 rfl rfl ?_
                          refine r_icmp_gt (pc := 99) (tgt := 213) dX11_year_99 (by decide) (by omega) (by omega) (fun c_99 => ?_) (fun c_99 => ?_)
                          · refine r_iinc (pc := 213) (L2 := [(4, (.int (iI (((e : Nat) : Int) + (-1))))), (5, (.int (iI (((q : Nat) : Int))))), (3, (.int (iI (((2 ^ n - 1 : Nat) : Int))))), (2, (.int (iI ((((yDn (famK K n) n) : Nat) : Int))))), (0, (.ref 164)), (1, (.int (iI (w))))]) 1 dX11_year_213 rfl (by decide) rfl ?_
                            refine r_goto (pc := 216) (tgt := 88) dX11_year_216 (by decide) ?_
                            refine r_sub (L2 := [(4, (.int (iI (((e : Nat) : Int) - 1)))), (3, (.int (iI (((2 ^ n - 1 : Nat) : Int))))), (2, (.int (iI ((((yDn (famK K n) n) : Nat) : Int))))), (0, (.ref 164)), (1, (.int (iI (w))))]) [0, 2, 3, 4, 5] rfl ?_
                            exact ih_Lb e (by omega) e rfl (by omega) f3 hF3 (fun dd h1 h2 k hk => by
                              rcases Nat.eq_or_lt_of_le h1 with h | h
                              · subst h; exact hQ3 k (by omega)
                              · exact hR3 dd h h2 k hk)
                          · refine r_aload_n (pc := 102) 4 dX11_year_102 rfl rfl ?_
                            refine r_getR (pc := 103) (b := 188) dX11_year_103 fl_X11_89 rfl hM.k hM.r36 ?_
                            refine r_sipush (pc := 106) dX11_year_106 (by decide) ?_
                            refine r_iload (pc := 109) 1 dX11_year_109 rfl ?_
                            refine r_imul (pc := 111) dX11_year_111 ?_
                            refine r_eqI (y := ((256 * e : Nat) : Int)) (Int.natCast_mul _ _ |>.symm) ?_
                            refine r_iload (pc := 112) 0 dX11_year_112 rfl ?_
                            refine r_iadd (pc := 114) dX11_year_114 ?_
                            refine r_eqI (y := ((256 * e + q : Nat) : Int)) (by omega) ?_
                            refine r_iconst (pc := 115) dX11_year_115 ?_
                            refine r_zastv (pc := 116) (i := 256 * e + q) dX11_year_116 hM.a36 (by omega) (by decide) (by decide) rfl ?_
                            refine r_iconst (pc := 117) dX11_year_117 ?_
                            refine r_istore (pc := 118) (L2 := [(6, (.int (iI (0)))), (5, (.int (iI (((q : Nat) : Int))))), (4, (.int (iI (((e : Nat) : Int))))), (3, (.int (iI (((2 ^ n - 1 : Nat) : Int))))), (2, (.int (iI ((((yDn (famK K n) n) : Nat) : Int))))), (0, (.ref 164)), (1, (.int (iI (w))))]) dX11_year_118 (by decide) rfl ?_
                            have hq : q < 2 ^ n := by omega
                            have Ld : ∀ m c : Nat, m = 2 ^ n - c → c ≤ 2 ^ n → ∀ f3 : Fm, (∀ a, a ≠ 188 → f3 a = f_10 a) → (∀ dd, e < dd → dd ≤ (yDn (famK K n) n) → ∀ k, k < 2 ^ n → f3 188 (256 * dd + k) = b01 ((dnS n (famK K n) (yDn (famK K n) n) ((yDn (famK K n) n) - dd)) k = true)) → (∀ k, k < q → f3 188 (256 * e + k) = b01 ((dnS n (famK K n) (yDn (famK K n) n) ((yDn (famK K n) n) - e)) k = true)) → f3 188 (256 * e + q) = b01 (anyN c (fun g => famK K n e g && (dnS n (famK K n) (yDn (famK K n) n) ((yDn (famK K n) n) - (e + 1))) (q ||| g)) = true) → PW l z (d + 275) mX11_year 0 0 (fun r g' f' => r = some (.int (iI (yrA K n w))) ∧ g = g' ∧ MSc f f') 120 [(6, (.int (iI (((c : Nat) : Int))))), (5, (.int (iI (((q : Nat) : Int))))), (4, (.int (iI (((e : Nat) : Int))))), (3, (.int (iI (((2 ^ n - 1 : Nat) : Int))))), (2, (.int (iI ((((yDn (famK K n) n) : Nat) : Int))))), (0, (.ref 164)), (1, (.int (iI (w))))] [] g f3 0 0 := by
                              intro m
                              induction m using Nat.strongRecOn with
                              | _ m ih_Ld =>
                                intro c hm_c h0_c f3 hF3 hR3 hQ3 hcu3
                                refine r_iload (pc := 120) 0 dX11_year_120 rfl ?_
                                refine r_iload_n (pc := 122) 3 dX11_year_122 rfl rfl ?_
                                refine r_icmp_gt (pc := 123) (tgt := 207) dX11_year_123 (by decide) (by omega) (by omega) (fun c_123 => ?_) (fun c_123 => ?_)
                                · refine r_iincv (pc := 207) (y := ((q + 1 : Nat) : Int)) (L2 := [(5, (.int (iI (((q + 1 : Nat) : Int))))), (6, (.int (iI (((c : Nat) : Int))))), (4, (.int (iI (((e : Nat) : Int))))), (3, (.int (iI (((2 ^ n - 1 : Nat) : Int))))), (2, (.int (iI ((((yDn (famK K n) n) : Nat) : Int))))), (0, (.ref 164)), (1, (.int (iI (w))))]) 1 dX11_year_207 rfl (by omega) (by decide) rfl ?_
                                  refine r_goto (pc := 210) (tgt := 96) dX11_year_210 (by decide) ?_
                                  have hcn : c = 2 ^ n := by omega
                                  rw [hcn] at hcu3
                                  refine r_sub (L2 := [(5, (.int (iI (((q + 1 : Nat) : Int))))), (4, (.int (iI (((e : Nat) : Int))))), (3, (.int (iI (((2 ^ n - 1 : Nat) : Int))))), (2, (.int (iI ((((yDn (famK K n) n) : Nat) : Int))))), (0, (.ref 164)), (1, (.int (iI (w))))]) [0, 2, 3, 4, 5, 6] rfl ?_
                                  exact ih_Lc (2 ^ n - (q + 1)) (by omega) (q + 1) (by omega) (by omega) f3 hF3 hR3 (fun k hk => by
                                    rcases Nat.lt_succ_iff_lt_or_eq.mp hk with h | h
                                    · exact hQ3 k h
                                    · subst h; rw [hcu3]; refine b01_iff ?_; rw [show (yDn (famK K n) n) - e = ((yDn (famK K n) n) - (e + 1)) + 1 by omega]; show _ ↔ anyN (2 ^ n) (fun g => famK K n ((yDn (famK K n) n) - ((yDn (famK K n) n) - (e + 1) + 1)) g && (dnS n (famK K n) (yDn (famK K n) n) ((yDn (famK K n) n) - (e + 1))) (k ||| g)) = true; rw [show (yDn (famK K n) n) - ((yDn (famK K n) n) - (e + 1) + 1) = e by omega])
                                · have hqc := Nat.or_lt_two_pow (show q < 2 ^ n by omega) (show c < 2 ^ n by omega)
                                  refine r_aload_n (pc := 126) 5 dX11_year_126 rfl rfl ?_
                                  refine r_getR (pc := 127) (b := 188) dX11_year_127 fl_X11_89 rfl hM.k hM.r36 ?_
                                  refine r_sipush (pc := 130) dX11_year_130 (by decide) ?_
                                  refine r_iload (pc := 133) 2 dX11_year_133 rfl ?_
                                  refine r_imul (pc := 135) dX11_year_135 ?_
                                  refine r_eqI (y := ((256 * e : Nat) : Int)) (Int.natCast_mul _ _ |>.symm) ?_
                                  refine r_iload (pc := 136) 1 dX11_year_136 rfl ?_
                                  refine r_iadd (pc := 138) dX11_year_138 ?_
                                  refine r_eqI (y := ((256 * e + q : Nat) : Int)) (by omega) ?_
                                  refine r_aload_n (pc := 139) 5 dX11_year_139 rfl rfl ?_
                                  refine r_getR (pc := 140) (b := 188) dX11_year_140 fl_X11_89 rfl hM.k hM.r36 ?_
                                  refine r_sipush (pc := 143) dX11_year_143 (by decide) ?_
                                  refine r_iload (pc := 146) 2 dX11_year_146 rfl ?_
                                  refine r_imul (pc := 148) dX11_year_148 ?_
                                  refine r_eqI (y := ((256 * e : Nat) : Int)) (Int.natCast_mul _ _ |>.symm) ?_
                                  refine r_iload (pc := 149) 1 dX11_year_149 rfl ?_
                                  refine r_iadd (pc := 151) dX11_year_151 ?_
                                  refine r_eqI (y := ((256 * e + q : Nat) : Int)) (by omega) ?_
                                  refine r_zaldv (pc := 152) (w := b01 (anyN c (fun g => famK K n e g && (dnS n (famK K n) (yDn (famK K n) n) ((yDn (famK K n) n) - (e + 1))) (q ||| g)) = true)) dX11_year_152 hM.a36 (by omega) (by decide) (hcu3) ?_
                                  refine r_if_ne (pc := 153) (tgt := 195) dX11_year_153 (by decide) (b01_r) (fun c_153 => ?_) (fun c_153 => ?_)
                                  · replace c_153 := b01_nz c_153
                                    refine r_iconst (pc := 195) dX11_year_195 ?_
                                    refine r_goto (pc := 196) (tgt := 200) dX11_year_196 (by decide) ?_
                                    refine r_zastv (pc := 200) (i := 256 * e + q) dX11_year_200 hM.a36 (by omega) (by decide) (by decide) rfl ?_
                                    refine r_iincv (pc := 201) (y := ((c + 1 : Nat) : Int)) (L2 := [(6, (.int (iI (((c + 1 : Nat) : Int))))), (5, (.int (iI (((q : Nat) : Int))))), (4, (.int (iI (((e : Nat) : Int))))), (3, (.int (iI (((2 ^ n - 1 : Nat) : Int))))), (2, (.int (iI ((((yDn (famK K n) n) : Nat) : Int))))), (0, (.ref 164)), (1, (.int (iI (w))))]) 0 dX11_year_201 rfl (by omega) (by decide) rfl ?_
                                    refine r_goto (pc := 204) (tgt := 120) dX11_year_204 (by decide) ?_
                                    refine r_sub (L2 := [(6, (.int (iI (((c + 1 : Nat) : Int))))), (5, (.int (iI (((q : Nat) : Int))))), (4, (.int (iI (((e : Nat) : Int))))), (3, (.int (iI (((2 ^ n - 1 : Nat) : Int))))), (2, (.int (iI ((((yDn (famK K n) n) : Nat) : Int))))), (0, (.ref 164)), (1, (.int (iI (w))))]) [0, 1, 2, 3, 4, 5, 6] rfl ?_
                                    exact ih_Ld (2 ^ n - (c + 1)) (by omega) (c + 1) (by omega) (by omega) _ (fun a ha => by rw [stF_n _ _ _ ha]; exact hF3 a ha) (fun dd h1 h2 k hk => by rw [stF_i _ _ _ (by omega)]; exact hR3 dd h1 h2 k hk) (fun k hk => by rw [stF_i _ _ _ (by omega)]; exact hQ3 k hk) (by rw [stF_s, b01_t (show anyN (c + 1) (fun g => famK K n e g && (dnS n (famK K n) (yDn (famK K n) n) ((yDn (famK K n) n) - (e + 1))) (q ||| g)) = true by rw [anyN_s, c_153]; rfl)])
                                  · replace c_153 := b01_z c_153
                                    refine r_aload_n (pc := 156) 5 dX11_year_156 rfl rfl ?_
                                    refine r_getR (pc := 157) (b := 185) dX11_year_157 fl_X11_79 rfl hM.k hM.r33 ?_
                                    refine r_sipush (pc := 160) dX11_year_160 (by decide) ?_
                                    refine r_iload (pc := 163) 2 dX11_year_163 rfl ?_
                                    refine r_imul (pc := 165) dX11_year_165 ?_
                                    refine r_eqI (y := ((256 * e : Nat) : Int)) (Int.natCast_mul _ _ |>.symm) ?_
                                    refine r_iload (pc := 166) 0 dX11_year_166 rfl ?_
                                    refine r_iadd (pc := 168) dX11_year_168 ?_
                                    refine r_eqI (y := ((256 * e + c : Nat) : Int)) (by omega) ?_
                                    refine r_zaldv (pc := 169) (w := b01 (famK K n e c = true)) dX11_year_169 hM.a33 (by omega) (by decide) ((by rw [hF3 185 (by decide)]; exact hcan e (by omega) c (by omega))) ?_
                                    refine r_if_eq (pc := 170) (tgt := 199) dX11_year_170 (by decide) (b01_r) (fun c_170 => ?_) (fun c_170 => ?_)
                                    · replace c_170 := b01_z c_170
                                      refine r_iconst (pc := 199) dX11_year_199 ?_
                                      refine r_zastv (pc := 200) (i := 256 * e + q) dX11_year_200 hM.a36 (by omega) (by decide) (by decide) rfl ?_
                                      refine r_iincv (pc := 201) (y := ((c + 1 : Nat) : Int)) (L2 := [(6, (.int (iI (((c + 1 : Nat) : Int))))), (5, (.int (iI (((q : Nat) : Int))))), (4, (.int (iI (((e : Nat) : Int))))), (3, (.int (iI (((2 ^ n - 1 : Nat) : Int))))), (2, (.int (iI ((((yDn (famK K n) n) : Nat) : Int))))), (0, (.ref 164)), (1, (.int (iI (w))))]) 0 dX11_year_201 rfl (by omega) (by decide) rfl ?_
                                      refine r_goto (pc := 204) (tgt := 120) dX11_year_204 (by decide) ?_
                                      refine r_sub (L2 := [(6, (.int (iI (((c + 1 : Nat) : Int))))), (5, (.int (iI (((q : Nat) : Int))))), (4, (.int (iI (((e : Nat) : Int))))), (3, (.int (iI (((2 ^ n - 1 : Nat) : Int))))), (2, (.int (iI ((((yDn (famK K n) n) : Nat) : Int))))), (0, (.ref 164)), (1, (.int (iI (w))))]) [0, 1, 2, 3, 4, 5, 6] rfl ?_
                                      exact ih_Ld (2 ^ n - (c + 1)) (by omega) (c + 1) (by omega) (by omega) _ (fun a ha => by rw [stF_n _ _ _ ha]; exact hF3 a ha) (fun dd h1 h2 k hk => by rw [stF_i _ _ _ (by omega)]; exact hR3 dd h1 h2 k hk) (fun k hk => by rw [stF_i _ _ _ (by omega)]; exact hQ3 k hk) (by rw [stF_s, b01_f (show ¬ anyN (c + 1) (fun g => famK K n e g && (dnS n (famK K n) (yDn (famK K n) n) ((yDn (famK K n) n) - (e + 1))) (q ||| g)) = true by rw [anyN_s, Bool.eq_false_iff.mpr c_153, Bool.eq_false_iff.mpr c_170]; simp)])
                                    · replace c_170 := b01_nz c_170
                                      refine r_aload_n (pc := 173) 5 dX11_year_173 rfl rfl ?_
                                      refine r_getR (pc := 174) (b := 188) dX11_year_174 fl_X11_89 rfl hM.k hM.r36 ?_
                                      refine r_sipush (pc := 177) dX11_year_177 (by decide) ?_
                                      refine r_iload (pc := 180) 2 dX11_year_180 rfl ?_
                                      refine r_iconst (pc := 182) dX11_year_182 ?_
                                      refine r_iadd (pc := 183) dX11_year_183 ?_
                                      refine r_eqI (y := ((e + 1 : Nat) : Int)) (Int.natCast_add _ _ |>.symm) ?_
                                      refine r_imul (pc := 184) dX11_year_184 ?_
                                      refine r_eqI (y := ((256 * (e + 1) : Nat) : Int)) (Int.natCast_mul _ _ |>.symm) ?_
                                      refine r_iload (pc := 185) 1 dX11_year_185 rfl ?_
                                      refine r_iload (pc := 187) 0 dX11_year_187 rfl ?_
                                      refine r_ior (pc := 189) (w := ((q ||| c : Nat) : Int)) dX11_year_189  (iI_or _ _) ?_
                                      refine r_iadd (pc := 190) dX11_year_190 ?_
                                      refine r_eqI (y := ((256 * (e + 1) + (q ||| c) : Nat) : Int)) (by omega) ?_
                                      refine r_zaldv (pc := 191) (w := b01 ((dnS n (famK K n) (yDn (famK K n) n) ((yDn (famK K n) n) - (e + 1))) (q ||| c) = true)) dX11_year_191 hM.a36 (by omega) (by decide) ((hR3 (e + 1) (by omega) (by omega) (q ||| c) hqc)) ?_
                                      refine r_if_eq (pc := 192) (tgt := 199) dX11_year_192 (by decide) (b01_r) (fun c_192 => ?_) (fun c_192 => ?_)
                                      · replace c_192 := b01_z c_192
                                        refine r_iconst (pc := 199) dX11_year_199 ?_
                                        refine r_zastv (pc := 200) (i := 256 * e + q) dX11_year_200 hM.a36 (by omega) (by decide) (by decide) rfl ?_
                                        refine r_iincv (pc := 201) (y := ((c + 1 : Nat) : Int)) (L2 := [(6, (.int (iI (((c + 1 : Nat) : Int))))), (5, (.int (iI (((q : Nat) : Int))))), (4, (.int (iI (((e : Nat) : Int))))), (3, (.int (iI (((2 ^ n - 1 : Nat) : Int))))), (2, (.int (iI ((((yDn (famK K n) n) : Nat) : Int))))), (0, (.ref 164)), (1, (.int (iI (w))))]) 0 dX11_year_201 rfl (by omega) (by decide) rfl ?_
                                        refine r_goto (pc := 204) (tgt := 120) dX11_year_204 (by decide) ?_
                                        refine r_sub (L2 := [(6, (.int (iI (((c + 1 : Nat) : Int))))), (5, (.int (iI (((q : Nat) : Int))))), (4, (.int (iI (((e : Nat) : Int))))), (3, (.int (iI (((2 ^ n - 1 : Nat) : Int))))), (2, (.int (iI ((((yDn (famK K n) n) : Nat) : Int))))), (0, (.ref 164)), (1, (.int (iI (w))))]) [0, 1, 2, 3, 4, 5, 6] rfl ?_
                                        exact ih_Ld (2 ^ n - (c + 1)) (by omega) (c + 1) (by omega) (by omega) _ (fun a ha => by rw [stF_n _ _ _ ha]; exact hF3 a ha) (fun dd h1 h2 k hk => by rw [stF_i _ _ _ (by omega)]; exact hR3 dd h1 h2 k hk) (fun k hk => by rw [stF_i _ _ _ (by omega)]; exact hQ3 k hk) (by rw [stF_s, b01_f (show ¬ anyN (c + 1) (fun g => famK K n e g && (dnS n (famK K n) (yDn (famK K n) n) ((yDn (famK K n) n) - (e + 1))) (q ||| g)) = true by rw [anyN_s, Bool.eq_false_iff.mpr c_153, c_170, Bool.eq_false_iff.mpr c_192]; decide)])
                                      · replace c_192 := b01_nz c_192
                                        refine r_iconst (pc := 195) dX11_year_195 ?_
                                        refine r_goto (pc := 196) (tgt := 200) dX11_year_196 (by decide) ?_
                                        refine r_zastv (pc := 200) (i := 256 * e + q) dX11_year_200 hM.a36 (by omega) (by decide) (by decide) rfl ?_
                                        refine r_iincv (pc := 201) (y := ((c + 1 : Nat) : Int)) (L2 := [(6, (.int (iI (((c + 1 : Nat) : Int))))), (5, (.int (iI (((q : Nat) : Int))))), (4, (.int (iI (((e : Nat) : Int))))), (3, (.int (iI (((2 ^ n - 1 : Nat) : Int))))), (2, (.int (iI ((((yDn (famK K n) n) : Nat) : Int))))), (0, (.ref 164)), (1, (.int (iI (w))))]) 0 dX11_year_201 rfl (by omega) (by decide) rfl ?_
                                        refine r_goto (pc := 204) (tgt := 120) dX11_year_204 (by decide) ?_
                                        refine r_sub (L2 := [(6, (.int (iI (((c + 1 : Nat) : Int))))), (5, (.int (iI (((q : Nat) : Int))))), (4, (.int (iI (((e : Nat) : Int))))), (3, (.int (iI (((2 ^ n - 1 : Nat) : Int))))), (2, (.int (iI ((((yDn (famK K n) n) : Nat) : Int))))), (0, (.ref 164)), (1, (.int (iI (w))))]) [0, 1, 2, 3, 4, 5, 6] rfl ?_
                                        exact ih_Ld (2 ^ n - (c + 1)) (by omega) (c + 1) (by omega) (by omega) _ (fun a ha => by rw [stF_n _ _ _ ha]; exact hF3 a ha) (fun dd h1 h2 k hk => by rw [stF_i _ _ _ (by omega)]; exact hR3 dd h1 h2 k hk) (fun k hk => by rw [stF_i _ _ _ (by omega)]; exact hQ3 k hk) (by rw [stF_s, b01_t (show anyN (c + 1) (fun g => famK K n e g && (dnS n (famK K n) (yDn (famK K n) n) ((yDn (famK K n) n) - (e + 1))) (q ||| g)) = true by rw [anyN_s, c_170, c_192]; simp)])
                            refine r_sub (L2 := [(6, (.int (iI (((0 : Nat) : Int))))), (5, (.int (iI (((q : Nat) : Int))))), (4, (.int (iI (((e : Nat) : Int))))), (3, (.int (iI (((2 ^ n - 1 : Nat) : Int))))), (2, (.int (iI ((((yDn (famK K n) n) : Nat) : Int))))), (0, (.ref 164)), (1, (.int (iI (w))))]) [0, 1, 2, 3, 4, 5, 6] rfl ?_
                            exact Ld (2 ^ n) 0 (by omega) (by omega) _ (fun a ha => by rw [stF_n _ _ _ ha]; exact hF3 a ha) (fun dd h1 h2 k hk => by rw [stF_i _ _ _ (by omega)]; exact hR3 dd h1 h2 k hk) (fun k hk => by rw [stF_i _ _ _ (by omega)]; exact hQ3 k hk) (by rw [stF_s, b01_f (by intro v; simp [anyN] at v)])
                      refine r_sub (L2 := [(5, (.int (iI (((0 : Nat) : Int))))), (4, (.int (iI (((e : Nat) : Int))))), (3, (.int (iI (((2 ^ n - 1 : Nat) : Int))))), (2, (.int (iI ((((yDn (famK K n) n) : Nat) : Int))))), (0, (.ref 164)), (1, (.int (iI (w))))]) [0, 1, 2, 3, 4, 5] rfl ?_
                      exact Lc (2 ^ n) 0 (by omega) (by omega) f2 hF2 (fun dd h1 h2 => hR2 dd (by omega) h2) (fun k hk => absurd hk (by omega))
                refine r_sub (L2 := [(4, (.int (iI ((((yDn (famK K n) n) : Nat) : Int) - 1)))), (3, (.int (iI (((2 ^ n - 1 : Nat) : Int))))), (2, (.int (iI ((((yDn (famK K n) n) : Nat) : Int))))), (0, (.ref 164)), (1, (.int (iI (w))))]) [0, 1, 2, 3, 4] rfl ?_
                exact Lb (yDn (famK K n) n) (yDn (famK K n) n) rfl (Nat.le_refl _) f1 hF1 (fun dd h1 h2 k hk => by rw [show dd = (yDn (famK K n) n) by omega, Nat.sub_self]; exact hR1 k (by omega))
              · refine r_aload_n (pc := 53) 3 dX11_year_53 rfl rfl ?_
                refine r_getR (pc := 54) (b := 188) dX11_year_54 fl_X11_89 rfl hM.k hM.r36 ?_
                refine r_sipush (pc := 57) dX11_year_57 (by decide) ?_
                refine r_iload_n (pc := 60) 2 dX11_year_60 rfl rfl ?_
                refine r_imul (pc := 61) dX11_year_61 ?_
                refine r_eqI (y := ((256 * ((yDn (famK K n) n)) : Nat) : Int)) (Int.natCast_mul _ _ |>.symm) ?_
                refine r_iload (pc := 62) 0 dX11_year_62 rfl ?_
                refine r_iadd (pc := 64) dX11_year_64 ?_
                refine r_eqI (y := ((256 * (yDn (famK K n) n) + q : Nat) : Int)) (by omega) ?_
                refine r_iload (pc := 65) 0 dX11_year_65 rfl ?_
                refine r_iload_n (pc := 67) 1 dX11_year_67 rfl rfl ?_
                refine r_icmp_ne (pc := 68) (tgt := 75) dX11_year_68 (by decide) (by omega) (by omega) (fun c_68 => ?_) (fun c_68 => ?_)
                · refine r_iconst (pc := 75) dX11_year_75 ?_
                  refine r_zastv (pc := 76) (i := 256 * (yDn (famK K n) n) + q) dX11_year_76 hM.a36 (by omega) (by decide) (by decide) rfl ?_
                  refine r_iincv (pc := 77) (y := ((q + 1 : Nat) : Int)) (L2 := [(4, (.int (iI (((q + 1 : Nat) : Int))))), (3, (.int (iI (((2 ^ n - 1 : Nat) : Int))))), (2, (.int (iI ((((yDn (famK K n) n) : Nat) : Int))))), (0, (.ref 164)), (1, (.int (iI (w))))]) 0 dX11_year_77 rfl (by omega) (by decide) rfl ?_
                  refine r_goto (pc := 80) (tgt := 47) dX11_year_80 (by decide) ?_
                  refine r_sub (L2 := [(4, (.int (iI (((q + 1 : Nat) : Int))))), (3, (.int (iI (((2 ^ n - 1 : Nat) : Int))))), (2, (.int (iI ((((yDn (famK K n) n) : Nat) : Int))))), (0, (.ref 164)), (1, (.int (iI (w))))]) [0, 1, 2, 3, 4] rfl ?_
                  exact ih_La (2 ^ n - (q + 1)) (by omega) (q + 1) (by omega) (by omega) _ (fun a ha => by rw [stF_n _ _ _ ha]; exact hF1 a ha) (fun k hk => by
                    rcases Nat.lt_succ_iff_lt_or_eq.mp hk with h | h
                    · exact rdi (by omega) (hR1 k h)
                    · subst h; rw [stF_s, b01_f (show ¬ (dnS n (famK K n) (yDn (famK K n) n) 0) k = true from fun v => by have := of_decide_eq_true v; omega)])
                · refine r_iconst (pc := 71) dX11_year_71 ?_
                  refine r_goto (pc := 72) (tgt := 76) dX11_year_72 (by decide) ?_
                  refine r_zastv (pc := 76) (i := 256 * (yDn (famK K n) n) + q) dX11_year_76 hM.a36 (by omega) (by decide) (by decide) rfl ?_
                  refine r_iincv (pc := 77) (y := ((q + 1 : Nat) : Int)) (L2 := [(4, (.int (iI (((q + 1 : Nat) : Int))))), (3, (.int (iI (((2 ^ n - 1 : Nat) : Int))))), (2, (.int (iI ((((yDn (famK K n) n) : Nat) : Int))))), (0, (.ref 164)), (1, (.int (iI (w))))]) 0 dX11_year_77 rfl (by omega) (by decide) rfl ?_
                  refine r_goto (pc := 80) (tgt := 47) dX11_year_80 (by decide) ?_
                  refine r_sub (L2 := [(4, (.int (iI (((q + 1 : Nat) : Int))))), (3, (.int (iI (((2 ^ n - 1 : Nat) : Int))))), (2, (.int (iI ((((yDn (famK K n) n) : Nat) : Int))))), (0, (.ref 164)), (1, (.int (iI (w))))]) [0, 1, 2, 3, 4] rfl ?_
                  exact ih_La (2 ^ n - (q + 1)) (by omega) (q + 1) (by omega) (by omega) _ (fun a ha => by rw [stF_n _ _ _ ha]; exact hF1 a ha) (fun k hk => by
                    rcases Nat.lt_succ_iff_lt_or_eq.mp hk with h | h
                    · exact rdi (by omega) (hR1 k h)
                    · subst h; rw [stF_s, b01_t (show (dnS n (famK K n) (yDn (famK K n) n) 0) k = true from decide_eq_true (by omega))])
          refine r_sub (L2 := [(4, (.int (iI (((0 : Nat) : Int))))), (3, (.int (iI (((2 ^ n - 1 : Nat) : Int))))), (2, (.int (iI ((((yDn (famK K n) n) : Nat) : Int))))), (0, (.ref 164)), (1, (.int (iI (w))))]) [0, 1, 2, 3, 4] rfl ?_
          exact La (2 ^ n) 0 (by omega) (by omega) f_10 (fun _ _ => rfl) (fun k hk => absurd hk (by omega))
        · replace c_34 := b01_z c_34
          refine r_iconst (pc := 37) dX11_year_37 ?_
          exact r_iret (pc := 38) dX11_year_38 rfl rfl ⟨by
            unfold yrA yDK
            rw [if_neg (show ¬ w = -1 by omega)]
            rw [if_neg (fun q => c_34 (by have : (if 0 < (yDn (famK K n) n) then (((yDn (famK K n) n) : Nat) : Int) else -1) = (((yDn (famK K n) n) : Nat) : Int) := if_pos (by omega); rw [this]; omega))], rfl, hms⟩
      · refine r_iload_n (pc := 24) 0 dX11_year_24 rfl rfl ?_
        have hD0 : (yDn (famK K n) n) = 0 := by
          rcases Nat.eq_zero_or_pos (yDn (famK K n) n) with q | q
          · exact q
          · exfalso; rw [if_pos q] at c_21; omega
        exact r_iret (pc := 25) dX11_year_25 rfl rfl ⟨by unfold yrA yDK; rw [hD0, if_neg (show ¬ w = -1 by omega), if_neg (by omega), if_neg (by omega)], rfl, hms⟩
  · refine r_iconst (pc := 7) dX11_year_7 ?_
    exact r_iret (pc := 8) dX11_year_8 rfl rfl ⟨by unfold yrA yDK yDn; rw [if_pos (show n = 0 by omega)]; split; rfl; split; omega; rfl, rfl, MSc.rf hb20⟩

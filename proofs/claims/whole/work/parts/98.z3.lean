theorem rF_c {may may' lk lk' : Nat → Nat → Bool} {n : Nat} (h : ∀ s i, i < n → may s i = may' s i ∧ lk s i = lk' s i) : ∀ k t g, rF may lk n k t g = rF may' lk' n k t g
  | 0, _, _ => rfl
  | k + 1, t, g => by
    show anyN n (stp may lk (rF may lk n k) t g) = anyN n (stp may' lk' (rF may' lk' n k) t g)
    rw [Bool.eq_iff_iff, anyN_iff, anyN_iff]
    have e : ∀ i, i < n → stp may lk (rF may lk n k) t g i = stp may' lk' (rF may' lk' n k) t g i := by
      intro i hi
      unfold stp
      rw [(h _ i hi).1, (h _ i hi).2, rF_c h k, rF_c h k]
    constructor
    · rintro ⟨i, hi, q⟩; exact ⟨i, hi, by rw [← e i hi]; exact q⟩
    · rintro ⟨i, hi, q⟩; exact ⟨i, hi, by rw [e i hi]; exact q⟩
theorem rW_c {may may' lk lk' : Nat → Nat → Bool} {n : Nat} (h : ∀ s i, i < n → may s i = may' s i ∧ lk s i = lk' s i) (t g : Nat) : rW may lk n t g = rW may' lk' n t g := rF_c h _ t g
theorem fam_e {K : Nat → Int} {D M : Int} {n : Nat} (hO : KO K D M) (hn : n ≤ 8) (t x : Nat) : rW (fun s i => (nxM (wtK K (K 42 + ((t : Nat) : Int)) (hdK K) n) n s).testBit i) (fun s i => decide (0 < gnV (K 40) (K 41) (bkK (KD K n t) 0) (bkK (KD K n t) 1) (waK K (K 42 + ((t : Nat) : Int)) (hdK K)) n (wmk (fun c => decide (ovK K c ≠ 0)) n) s i)) n (2 ^ n - 1) x = famK K n t x := by
  unfold famK
  apply rW_c
  intro s i hi
  have e1 : ∀ c, c < n → wtK K (K 42 + ((t : Nat) : Int)) (hdK K) n c = wtK (KD K n t) (KD K n t 42) (hdK (KD K n t)) n c := fun c hc => (KD_wt hO hn t (by omega)).symm
  have e2 : ∀ c, c < n → waK K (K 42 + ((t : Nat) : Int)) (hdK K) c = waK (KD K n t) (KD K n t 42) (hdK (KD K n t)) c := fun c hc => (KD_wa hO n t (by omega)).symm
  have e3 : wmk (fun c => decide (ovK K c ≠ 0)) n = wmk (fun c => decide (ovK (KD K n t) c ≠ 0)) n := wmk_c n (fun q hq => by rw [KD_ov K n t (by omega)])
  refine ⟨by rw [nxM_c e1], ?_⟩
  unfold gnV
  rw [lvM_c e2, lvM_c e2, lvM_c e2, lvM_c e2, e3, KD_o K n t (show 40 < 42 ∨ 44 < 40 by omega), KD_o K n t (show 41 < 42 ∨ 44 < 41 by omega)]
/-- what is united when the pairs below (k, e) are gone through -/
def upP (n : Nat) (U V : Nat → Bool) (k e s : Nat) : Prop := ∃ a, a < 2 ^ n ∧ ∃ b, b < 2 ^ n ∧ (a < k ∨ (a = k ∧ b < e)) ∧ U a = true ∧ V b = true ∧ a ||| b = s
theorem upP_0 {n : Nat} {U V : Nat → Bool} {s : Nat} : ¬ upP n U V 0 0 s := by
  rintro ⟨a, _, b, _, h, _⟩; omega
theorem upP_end {n : Nat} {U V : Nat → Bool} {k s : Nat} (hk : 2 ^ n ≤ k) : upP n U V k 0 s ↔ unB n U V s = true := by
  rw [unB_iff]
  constructor
  · rintro ⟨a, ha, b, hb, _, h⟩; exact ⟨a, ha, b, hb, h⟩
  · rintro ⟨a, ha, b, hb, h⟩; exact ⟨a, ha, b, hb, by omega, h⟩
theorem upP_row {n : Nat} {U V : Nat → Bool} {k s : Nat} (e : Nat) (he : 2 ^ n ≤ e ∨ ¬ U k = true) : upP n U V k e s ↔ upP n U V (k + 1) 0 s := by
  constructor
  · rintro ⟨a, ha, b, hb, h, r⟩; exact ⟨a, ha, b, hb, by omega, r⟩
  · rintro ⟨a, ha, b, hb, h, r⟩
    refine ⟨a, ha, b, hb, ?_, r⟩
    rcases (show a < k ∨ a = k by omega) with q | q
    · exact Or.inl q
    · rcases he with w | w
      · exact Or.inr ⟨q, by omega⟩
      · subst q; exact absurd r.1 w
theorem upP_n {n : Nat} {U V : Nat → Bool} {k e s : Nat} (h : ¬ V e = true) : upP n U V k (e + 1) s ↔ upP n U V k e s := by
  constructor
  · rintro ⟨a, ha, b, hb, h1, r⟩
    refine ⟨a, ha, b, hb, ?_, r⟩
    rcases (show (a < k ∨ (a = k ∧ b < e)) ∨ (a = k ∧ b = e) by omega) with q | q
    · exact q
    · rw [q.2] at r; exact absurd r.2.1 h
  · rintro ⟨a, ha, b, hb, h1, r⟩; exact ⟨a, ha, b, hb, by omega, r⟩
theorem upP_y {n : Nat} {U V : Nat → Bool} {k e s : Nat} (hk : k < 2 ^ n) (he : e < 2 ^ n) (hu : U k = true) (hv : V e = true) : upP n U V k (e + 1) s ↔ (upP n U V k e s ∨ k ||| e = s) := by
  constructor
  · rintro ⟨a, ha, b, hb, h1, r⟩
    rcases (show (a < k ∨ (a = k ∧ b < e)) ∨ (a = k ∧ b = e) by omega) with q | q
    · exact Or.inl ⟨a, ha, b, hb, q, r⟩
    · exact Or.inr (by rw [← q.1, ← q.2]; exact r.2.2)
  · rintro (⟨a, ha, b, hb, h1, r⟩ | q)
    · exact ⟨a, ha, b, hb, by omega, r⟩
    · exact ⟨k, hk, e, he, by omega, hu, hv, q⟩

set_option maxRecDepth 100000 in
set_option maxHeartbeats 4000000 in
theorem m_yearOf (l : Launch) (z : Zv) {g : Gm} {f : Fm} {K : Nat → Int} {D0 M0 : Int} {n : Nat} (hM : ML g) (hK : f 166 = K) (hO : KO K D0 M0) (hD0 : D0 ≤ 900000) (hM0 : M0 ≤ 1090000) (hn : K 77 = ((n : Nat) : Int)) (hb20 : ∃ bk : Bool, f 164 20 = b01 (bk = true)) (hn0 : 0 < n) {D : Nat} (hD : 274 ≤ D) : PM l z D mX11_yearOf [.ref 164] g f 0 0 (fun r g' f' => r = some (.int (iI (if 0 < yDn (famK K n) n then ((yDn (famK K n) n : Nat) : Int) else -1))) ∧ g = g' ∧ MSc f f' ∧ ∀ d, d < yDn (famK K n) n → ∀ x, x < 2 ^ n → f' 185 (256 * d + x) = b01 (famK K n d x = true)) := by
  obtain ⟨d, rfl⟩ : ∃ d, D = d + 274 := ⟨D - 274, by omega⟩
  have hn8 : n ≤ 8 := by have := hO.n; omega
  have hp8 := pow8 hn8
  have hdy := hO.dy
  refine PM.of (by decide +kernel) (Nat.le_of_ble_eq_true rfl) ?_
  refine r_aload_n (pc := 0) 0 dX11_yearOf_0 rfl rfl ?_
  refine r_callV (pc := 1) (As := []) (S := []) dX11_yearOf_1 cv_X11_302 hM.k rfl (Nat.le_of_ble_eq_true rfl) (m_everyone (n := n) l z (d + 272) hM ((congrFun hK 77).trans hn) hn8) (Nat.zero_le _) (Nat.zero_le _) (fun r_1 g_1 f_1 q_1 => ?_)
  obtain ⟨rfl, rfl, rfl⟩ := q_1
  refine r_eqI (y := ((2 ^ n - 1 : Nat) : Int)) (by omega) ?_
  refine r_istore_n (pc := 4) (L2 := [(1, (.int (iI (((2 ^ n - 1 : Nat) : Int))))), (0, (.ref 164))]) dX11_yearOf_4 rfl (by decide) rfl ?_
  refine r_iconst (pc := 5) dX11_yearOf_5 ?_
  refine r_istore_n (pc := 6) (L2 := [(2, (.int (iI (0)))), (1, (.int (iI (((2 ^ n - 1 : Nat) : Int))))), (0, (.ref 164))]) dX11_yearOf_6 rfl (by decide) rfl ?_
  have La : ∀ m s : Nat, m = 2 ^ n - s → s ≤ 2 ^ n → ∀ f0 : Fm, (∀ q, q ≠ 187 → f0 q = f q) → (∀ q, q < s → f0 187 q = b01 (q = 0)) → PW l z (d + 274) mX11_yearOf 0 0 (fun r g' f' => r = some (.int (iI (if 0 < yDn (famK K n) n then ((yDn (famK K n) n : Nat) : Int) else -1))) ∧ g = g' ∧ MSc f f' ∧ ∀ d, d < yDn (famK K n) n → ∀ x, x < 2 ^ n → f' 185 (256 * d + x) = b01 (famK K n d x = true)) 7 [(2, (.int (iI (((s : Nat) : Int))))), (1, (.int (iI (((2 ^ n - 1 : Nat) : Int))))), (0, (.ref 164))] [] g f0 0 0 := by
    intro m
    induction m using Nat.strongRecOn with
    | _ m ih_La =>
      intro s hm_s h0_s f0 hF0 hR0
      refine r_iload_n (pc := 7) 0 dX11_yearOf_7 rfl rfl ?_
      refine r_iload_n (pc := 8) 1 dX11_yearOf_8 rfl rfl ?_
      refine r_icmp_gt (pc := 9) (tgt := 33) dX11_yearOf_9 (by decide) (by omega) (by omega) (fun c_9 => ?_) (fun c_9 => ?_)
      · refine r_aload_n (pc := 33) 2 dX11_yearOf_33 rfl rfl ?_
        refine r_aload_n (pc := 34) 2 dX11_yearOf_34 rfl rfl ?_
        refine r_getR (pc := 35) (b := 166) dX11_yearOf_35 fl_X11_17 rfl hM.k hM.r2 ?_
        refine r_bipush (pc := 38) dX11_yearOf_38 (by decide) ?_
        refine r_ialdv (pc := 40) (w := K 42) dX11_yearOf_40 hM.a2 (by decide) (by decide) (by rw [hF0 166 (by decide)]; exact congrFun hK 42) ?_
        refine r_callV (pc := 41) (As := [(.int (iI (K 42)))]) (S := []) dX11_yearOf_41 cv_X11_142 hM.k rfl (Nat.le_of_ble_eq_true rfl) (m_lays (day := K 42) l z hM (by rw [hF0 166 (by decide)]; exact hK) hO hn (by rw [hF0 164 (by decide)]; exact hb20) (by omega) (D := d + 273) (by omega)) (Nat.zero_le _) (Nat.zero_le _) (fun r_41 g_41 f_41 q_41 => ?_)
        obtain ⟨rfl, rfl, hly⟩ := q_41
        have hMD := hly.md (by rw [hF0 166 (by decide)]; exact hK) hO (by omega) hn
        have hK8 : f_41 166 = K := by rw [hly.1 166 (by decide) (by decide) (by decide) (by decide) (by decide) (by decide), hF0 166 (by decide)]; exact hK
        refine r_iconst (pc := 44) dX11_yearOf_44 ?_
        refine r_istore_n (pc := 45) (L2 := [(2, (.int (iI (0)))), (1, (.int (iI (((2 ^ n - 1 : Nat) : Int))))), (0, (.ref 164))]) dX11_yearOf_45 rfl (by decide) rfl ?_
        have Lm : ∀ m t : Nat, m = 30 - t → t ≤ 30 → ∀ f1 : Fm, f1 166 = K → (∃ bk : Bool, f1 164 20 = b01 (bk = true)) → (∀ c, c < n → f1 179 c = hdK K c) → (∀ o, o ≤ 1 → f1 178 o = ((bkK (KD K n t) o : Nat) : Int)) → MSc f f1 → (∀ d, d < t → ∀ x, x < 2 ^ n → f1 185 (256 * d + x) = b01 (famK K n d x = true)) → (∀ s, s < 2 ^ n → f1 187 (256 * t + s) = b01 (hdF (famK K n) n t s = true)) → (∀ q, 0 < q → q ≤ t → ¬ hdF (famK K n) n q (2 ^ n - 1) = true) → PW l z (d + 274) mX11_yearOf 0 0 (fun r g' f' => r = some (.int (iI (if 0 < yDn (famK K n) n then ((yDn (famK K n) n : Nat) : Int) else -1))) ∧ g = g' ∧ MSc f f' ∧ ∀ d, d < yDn (famK K n) n → ∀ x, x < 2 ^ n → f' 185 (256 * d + x) = b01 (famK K n d x = true)) 46 [(2, (.int (iI (((t : Nat) : Int))))), (1, (.int (iI (((2 ^ n - 1 : Nat) : Int))))), (0, (.ref 164))] [] g f1 0 0 := by
          intro m
          induction m using Nat.strongRecOn with
          | _ m ih_Lm =>
            intro t hm_t h0_t f1 hK1 hb1 h179 h178 hms h185 h187 hno
            refine r_iload_n (pc := 46) 0 dX11_yearOf_46 rfl rfl ?_
            refine r_bipush (pc := 47) dX11_yearOf_47 (by decide) ?_
            refine r_icmp_ge (pc := 49) (tgt := 206) dX11_yearOf_49 (by decide) (by omega) (by omega) (fun c_49 => ?_) (fun c_49 => ?_)
            · refine r_iconst (pc := 206) dX11_yearOf_206 ?_
              have hye : yDn (famK K n) n = 0 := yD_no (fun q h1 h2 => hno q h1 (by omega))
              exact r_iret (pc := 207) dX11_yearOf_207 rfl rfl ⟨by rw [hye, if_neg (by omega)], rfl, hms, fun d hd => absurd hd (by omega)⟩
            · refine r_aload_n (pc := 52) 2 dX11_yearOf_52 rfl rfl ?_
              refine r_aload_n (pc := 53) 2 dX11_yearOf_53 rfl rfl ?_
              refine r_getR (pc := 54) (b := 166) dX11_yearOf_54 fl_X11_17 rfl hM.k hM.r2 ?_
              refine r_bipush (pc := 57) dX11_yearOf_57 (by decide) ?_
              refine r_ialdv (pc := 59) (w := K 42) dX11_yearOf_59 hM.a2 (by decide) (by decide) (congrFun hK1 42) ?_
              refine r_iload_n (pc := 60) 0 dX11_yearOf_60 rfl rfl ?_
              refine r_iadd (pc := 61) dX11_yearOf_61 ?_
              refine r_callV (pc := 62) (As := [(.int (iI ((K 42) + (((t : Nat) : Int)))))]) (S := []) dX11_yearOf_62 cv_X11_284 hM.k rfl (Nat.le_of_ble_eq_true rfl) (m_asksAll (K := K) (day := (K 42 + ((t : Nat) : Int))) (hd := hdK K) (n := n) l z hM hK1 hO hn hb1 (by omega) (fun c hc => ⟨h179 c hc, by have := (hO.f (c := c) (by omega)).2.2.2.1; unfold hdK; omega, by have := (hO.f (c := c) (by omega)).2.2.2.1; unfold hdK; omega⟩) (D := d + 273) (by omega)) (Nat.zero_le _) (Nat.zero_le _) (fun r_62 g_62 f_62 q_62 => ?_)
              obtain ⟨rfl, rfl, hA1, hA2, hA3, hA4⟩ := q_62
              have hK2 : f_62 166 = K := by rw [hA1 166 (by decide) (by decide) (by decide) (by decide)]; exact hK1
              have hMD : MD f_62 n (ovK K) (waK K (K 42 + ((t : Nat) : Int)) (hdK K)) (wtK K (K 42 + ((t : Nat) : Int)) (hdK K) n) (bkK (KD K n t)) := ⟨by rw [hK2]; exact hn, hn8, fun c hc => by rw [hK2]; exact ovK_r hO (by omega), fun c hc => ⟨by have h2 := wantK_r (day := (K 42 + ((t : Nat) : Int))) (had := hdK K c) hO (c := c) (by omega); rw [(hA4 c hc).1]; unfold waK; omega, waK_r hO (by omega)⟩, fun c hc => ⟨(hA4 c hc).2, wmk_8 _ hn8⟩, fun o ho => ⟨by rw [hA1 178 (by decide) (by decide) (by decide) (by decide)]; exact h178 o ho, (bkK_r (KD_ok hO hn8 t) (by omega) ho).2⟩⟩
              refine r_aload_n (pc := 65) 2 dX11_yearOf_65 rfl rfl ?_
              refine r_iload_n (pc := 66) 0 dX11_yearOf_66 rfl rfl ?_
              refine r_callV (pc := 67) (As := [(.int (iI (((t : Nat) : Int))))]) (S := []) dX11_yearOf_67 cv_X11_333 hM.k rfl (Nat.le_of_ble_eq_true rfl) (m_families (dy := t) (dz := K 40) (lp := K 41) (a2 := (wmk (fun c => decide (ovK K c ≠ 0)) n)) l z (d + 270) hM hMD (fun k hk => ov_bit K hk) (congrFun hK2 40) (congrFun hK2 41) hO.dz hO.lp (by omega)) (Nat.zero_le _) (Nat.zero_le _) (fun r_67 g_67 f_67 q_67 => ?_)
              obtain ⟨rfl, rfl, hf1, hf2, hf3⟩ := q_67
              refine r_aload_n (pc := 70) 2 dX11_yearOf_70 rfl rfl ?_
              refine r_callV (pc := 71) (As := []) (S := []) dX11_yearOf_71 cv_X11_336 hM.k rfl (Nat.le_of_ble_eq_true rfl) (m_bakesAll l z (d + 272) hM (hMD.mv (hf1 166 (by decide) (by decide)) (hf1 176 (by decide) (by decide)) (hf1 177 (by decide) (by decide)) (hf1 178 (by decide) (by decide)))) (Nat.zero_le _) (Nat.zero_le _) (fun r_71 g_71 f_71 q_71 => ?_)
              obtain ⟨rfl, rfl, hbk1, hbk2⟩ := q_71
              have hcan : ∀ d, d < t + 1 → ∀ x, x < 2 ^ n → f_71 185 (256 * d + x) = b01 (famK K n d x = true) := fun d hd x hx => by
                rw [hbk1 185 (by decide)]
                rcases Nat.lt_succ_iff_lt_or_eq.mp hd with h | h
                · rw [hf2 _ (by omega), hA1 185 (by decide) (by decide) (by decide) (by decide)]; exact h185 d h x hx
                · subst h; rw [hf3 x hx, fam_e hO hn8]
              have h71 : ∀ q, q ≠ 178 → q ≠ 185 → q ≠ 186 → f_71 q = f_62 q := fun q a b c => (hbk1 q a).trans (hf1 q b c)
              have h187a : f_71 187 = f1 187 := by rw [h71 187 (by decide) (by decide) (by decide), hA1 187 (by decide) (by decide) (by decide) (by decide)]
              refine r_iconst (pc := 74) dX11_yearOf_74 ?_
              refine r_istore_n (pc := 75) (L2 := [(3, (.int (iI (0)))), (2, (.int (iI (((t : Nat) : Int))))), (1, (.int (iI (((2 ^ n - 1 : Nat) : Int))))), (0, (.ref 164))]) dX11_yearOf_75 rfl (by decide) rfl ?_
              have Lz : ∀ m s : Nat, m = 2 ^ n - s → s ≤ 2 ^ n → ∀ f2 : Fm, (∀ q, q ≠ 187 → f2 q = f_71 q) → (∀ k, k < 256 * (t + 1) → f2 187 k = f_71 187 k) → (∀ q, q < s → f2 187 (256 * (t + 1) + q) = 0) → PW l z (d + 274) mX11_yearOf 0 0 (fun r g' f' => r = some (.int (iI (if 0 < yDn (famK K n) n then ((yDn (famK K n) n : Nat) : Int) else -1))) ∧ g = g' ∧ MSc f f' ∧ ∀ d, d < yDn (famK K n) n → ∀ x, x < 2 ^ n → f' 185 (256 * d + x) = b01 (famK K n d x = true)) 76 [(3, (.int (iI (((s : Nat) : Int))))), (2, (.int (iI (((t : Nat) : Int))))), (1, (.int (iI (((2 ^ n - 1 : Nat) : Int))))), (0, (.ref 164))] [] g f2 0 0 := by
                intro m
                induction m using Nat.strongRecOn with
                | _ m ih_Lz =>
                  intro s hm_s h0_s f2 hF2 hO2 hR2
                  refine r_iload_n (pc := 76) 0 dX11_yearOf_76 rfl rfl ?_
                  refine r_iload_n (pc := 77) 2 dX11_yearOf_77 rfl rfl ?_
                  refine r_icmp_gt (pc := 78) (tgt := 102) dX11_yearOf_78 (by decide) (by omega) (by omega) (fun c_78 => ?_) (fun c_78 => ?_)
                  · refine r_iconst (pc := 102) dX11_yearOf_102 ?_
                    refine r_istore_n (pc := 103) (L2 := [(3, (.int (iI (0)))), (2, (.int (iI (((t : Nat) : Int))))), (1, (.int (iI (((2 ^ n - 1 : Nat) : Int))))), (0, (.ref 164))]) dX11_yearOf_103 rfl (by decide) rfl ?_
                    have Lu : ∀ m k : Nat, m = 2 ^ n - k → k ≤ 2 ^ n → ∀ f3 : Fm, (∀ q, q ≠ 187 → f3 q = f_71 q) → (∀ s, s < 2 ^ n → f3 187 (256 * t + s) = b01 ((hdF (famK K n) n t) s = true)) → (∀ s, s < 2 ^ n → f3 187 (256 * (t + 1) + s) = 0 ∨ f3 187 (256 * (t + 1) + s) = 1) → (∀ s, s < 2 ^ n → (f3 187 (256 * (t + 1) + s) = 1 ↔ upP n (hdF (famK K n) n t) (famK K n t) k 0 s)) → PW l z (d + 274) mX11_yearOf 0 0 (fun r g' f' => r = some (.int (iI (if 0 < yDn (famK K n) n then ((yDn (famK K n) n : Nat) : Int) else -1))) ∧ g = g' ∧ MSc f f' ∧ ∀ d, d < yDn (famK K n) n → ∀ x, x < 2 ^ n → f' 185 (256 * d + x) = b01 (famK K n d x = true)) 104 [(3, (.int (iI (((k : Nat) : Int))))), (2, (.int (iI (((t : Nat) : Int))))), (1, (.int (iI (((2 ^ n - 1 : Nat) : Int))))), (0, (.ref 164))] [] g f3 0 0 := by
                      intro m
                      induction m using Nat.strongRecOn with
                      | _ m ih_Lu =>
                        intro k hm_k h0_k f3 hF3 hL3 hZ3 hB3
                        have hms3 : MSc f f3 := ⟨fun a ha => by rw [hF3 a (by omega), h71 a (by omega) (by omega) (by omega), hA1 a (by omega) (by omega) (by omega) (by omega)]; exact hms.1 a ha, fun q a1 a2 a3 a4 a5 => by rw [hF3 164 (by decide), h71 164 (by decide) (by decide) (by decide), hA2 q a1 a2 a3 a4 a5]; exact hms.2.1 q a1 a2 a3 a4 a5, by rw [hF3 164 (by decide), h71 164 (by decide) (by decide) (by decide)]; exact hA3⟩
                        refine r_iload_n (pc := 104) 0 dX11_yearOf_104 rfl rfl ?_
                        refine r_iload_n (pc := 105) 2 dX11_yearOf_105 rfl rfl ?_
                        refine r_icmp_gt (pc := 106) (tgt := 179) dX11_yearOf_106 (by decide) (by omega) (by omega) (fun c_106 => ?_) (fun c_106 => ?_)
                        · refine r_aload_n (pc := 179) 3 dX11_yearOf_179 rfl rfl ?_
                          refine r_getR (pc := 180) (b := 187) dX11_yearOf_180 fl_X11_86 rfl hM.k hM.r35 ?_
                          refine r_sipush (pc := 183) dX11_yearOf_183 (by decide) ?_
                          refine r_iload_n (pc := 186) 1 dX11_yearOf_186 rfl rfl ?_
                          refine r_iconst (pc := 187) dX11_yearOf_187 ?_
                          refine r_iadd (pc := 188) dX11_yearOf_188 ?_
                          refine r_eqI (y := ((t + 1 : Nat) : Int)) (Int.natCast_add _ _ |>.symm) ?_
                          refine r_imul (pc := 189) dX11_yearOf_189 ?_
                          refine r_eqI (y := ((256 * (t + 1) : Nat) : Int)) (Int.natCast_mul _ _ |>.symm) ?_
                          refine r_iload_n (pc := 190) 2 dX11_yearOf_190 rfl rfl ?_
                          refine r_iadd (pc := 191) dX11_yearOf_191 ?_
                          refine r_eqI (y := ((256 * (t + 1) + (2 ^ n - 1) : Nat) : Int)) (by omega) ?_
                          refine r_zaldv (pc := 192) (w := b01 (hdF (famK K n) n (t + 1) (2 ^ n - 1) = true)) dX11_yearOf_192 hM.a35 (by omega) (by decide) (gv01 (hZ3 _ (by omega)) ((hB3 _ (by omega)).trans (upP_end (by omega)))) ?_
                          refine r_if_eq (pc := 193) (tgt := 200) dX11_yearOf_193 (by decide) (b01_r) (fun c_193 => ?_) (fun c_193 => ?_)
                          · replace c_193 := b01_z c_193
                            refine r_iincv (pc := 200) (y := ((t + 1 : Nat) : Int)) (L2 := [(2, (.int (iI (((t + 1 : Nat) : Int))))), (3, (.int (iI (((k : Nat) : Int))))), (1, (.int (iI (((2 ^ n - 1 : Nat) : Int))))), (0, (.ref 164))]) 1 dX11_yearOf_200 rfl (by omega) (by decide) rfl ?_
                            refine r_goto (pc := 203) (tgt := 46) dX11_yearOf_203 (by decide) ?_
                            refine r_sub (L2 := [(2, (.int (iI (((t + 1 : Nat) : Int))))), (1, (.int (iI (((2 ^ n - 1 : Nat) : Int))))), (0, (.ref 164))]) [0, 2, 3] rfl ?_
                            exact ih_Lm (30 - (t + 1)) (by omega) (t + 1) (by omega) (by omega) f3 (by rw [hF3 166 (by decide), h71 166 (by decide) (by decide) (by decide)]; exact hK2) (by rw [hF3 164 (by decide), h71 164 (by decide) (by decide) (by decide)]; exact hA3) (fun c hc => by rw [hF3 179 (by decide), h71 179 (by decide) (by decide) (by decide), hA1 179 (by decide) (by decide) (by decide) (by decide)]; exact h179 c hc) (fun o ho => by rw [hF3 178 (by decide), hbk2 o ho, bk_KD hO hn8 ho t]) hms3 (fun d hd x hx => by rw [hF3 185 (by decide)]; exact hcan d hd x hx) (fun s hs => gv01 (hZ3 s hs) ((hB3 s hs).trans (upP_end (by omega)))) (fun q h1 h2 => by
                              rcases (show q ≤ t ∨ q = t + 1 by omega) with w | w
                              · exact hno q h1 w
                              · rw [w]; exact c_193)
                          · replace c_193 := b01_nz c_193
                            refine r_iload_n (pc := 196) 1 dX11_yearOf_196 rfl rfl ?_
                            refine r_iconst (pc := 197) dX11_yearOf_197 ?_
                            refine r_iadd (pc := 198) dX11_yearOf_198 ?_
                            refine r_eqI (y := ((t + 1 : Nat) : Int)) (Int.natCast_add _ _ |>.symm) ?_
                            have hye := yD_at (F := (famK K n)) hn0 ⟨show 0 < t + 1 by omega, by omega⟩ c_193 (fun q h1 h2 => hno q h1 (by omega))
                            exact r_iret (pc := 199) dX11_yearOf_199 rfl rfl ⟨by rw [hye, if_pos (by omega)], rfl, hms3, fun d hd x hx => by rw [hF3 185 (by decide)]; exact hcan d (by omega) x hx⟩
                        · refine r_iconst (pc := 109) dX11_yearOf_109 ?_
                          refine r_istore (pc := 110) (L2 := [(4, (.int (iI (0)))), (3, (.int (iI (((k : Nat) : Int))))), (2, (.int (iI (((t : Nat) : Int))))), (1, (.int (iI (((2 ^ n - 1 : Nat) : Int))))), (0, (.ref 164))]) dX11_yearOf_110 (by decide) rfl ?_
                          have Lv : ∀ m e : Nat, m = 2 ^ n - e → e ≤ 2 ^ n → ∀ f3 : Fm, (∀ q, q ≠ 187 → f3 q = f_71 q) → (∀ s, s < 2 ^ n → f3 187 (256 * t + s) = b01 ((hdF (famK K n) n t) s = true)) → (∀ s, s < 2 ^ n → f3 187 (256 * (t + 1) + s) = 0 ∨ f3 187 (256 * (t + 1) + s) = 1) → (∀ s, s < 2 ^ n → (f3 187 (256 * (t + 1) + s) = 1 ↔ upP n (hdF (famK K n) n t) (famK K n t) k e s)) → PW l z (d + 274) mX11_yearOf 0 0 (fun r g' f' => r = some (.int (iI (if 0 < yDn (famK K n) n then ((yDn (famK K n) n : Nat) : Int) else -1))) ∧ g = g' ∧ MSc f f' ∧ ∀ d, d < yDn (famK K n) n → ∀ x, x < 2 ^ n → f' 185 (256 * d + x) = b01 (famK K n d x = true)) 112 [(4, (.int (iI (((e : Nat) : Int))))), (3, (.int (iI (((k : Nat) : Int))))), (2, (.int (iI (((t : Nat) : Int))))), (1, (.int (iI (((2 ^ n - 1 : Nat) : Int))))), (0, (.ref 164))] [] g f3 0 0 := by
                            intro m
                            induction m using Nat.strongRecOn with
                            | _ m ih_Lv =>
                              intro e hm_e h0_e f3 hF3 hL3 hZ3 hB3
                              refine r_iload (pc := 112) 0 dX11_yearOf_112 rfl ?_
                              refine r_iload_n (pc := 114) 3 dX11_yearOf_114 rfl rfl ?_
                              refine r_icmp_gt (pc := 115) (tgt := 173) dX11_yearOf_115 (by decide) (by omega) (by omega) (fun c_115 => ?_) (fun c_115 => ?_)
                              · refine r_iincv (pc := 173) (y := ((k + 1 : Nat) : Int)) (L2 := [(3, (.int (iI (((k + 1 : Nat) : Int))))), (4, (.int (iI (((e : Nat) : Int))))), (2, (.int (iI (((t : Nat) : Int))))), (1, (.int (iI (((2 ^ n - 1 : Nat) : Int))))), (0, (.ref 164))]) 1 dX11_yearOf_173 rfl (by omega) (by decide) rfl ?_
                                refine r_goto (pc := 176) (tgt := 104) dX11_yearOf_176 (by decide) ?_
                                refine r_sub (L2 := [(3, (.int (iI (((k + 1 : Nat) : Int))))), (2, (.int (iI (((t : Nat) : Int))))), (1, (.int (iI (((2 ^ n - 1 : Nat) : Int))))), (0, (.ref 164))]) [0, 2, 3, 4] rfl ?_
                                exact ih_Lu (2 ^ n - (k + 1)) (by omega) (k + 1) (by omega) (by omega) f3 hF3 hL3 hZ3 (fun s hs => (hB3 s hs).trans (upP_row e (Or.inl (by omega))))
                              · refine r_aload_n (pc := 118) 4 dX11_yearOf_118 rfl rfl ?_
                                refine r_getR (pc := 119) (b := 187) dX11_yearOf_119 fl_X11_86 rfl hM.k hM.r35 ?_
                                refine r_sipush (pc := 122) dX11_yearOf_122 (by decide) ?_
                                refine r_iload_n (pc := 125) 2 dX11_yearOf_125 rfl rfl ?_
                                refine r_imul (pc := 126) dX11_yearOf_126 ?_
                                refine r_eqI (y := ((256 * t : Nat) : Int)) (Int.natCast_mul _ _ |>.symm) ?_
                                refine r_iload_n (pc := 127) 1 dX11_yearOf_127 rfl rfl ?_
                                refine r_iadd (pc := 128) dX11_yearOf_128 ?_
                                refine r_eqI (y := ((256 * t + k : Nat) : Int)) (by omega) ?_
                                refine r_zaldv (pc := 129) (w := b01 ((hdF (famK K n) n t) k = true)) dX11_yearOf_129 hM.a35 (by omega) (by decide) ((hL3 k (by omega))) ?_
                                refine r_if_eq (pc := 130) (tgt := 173) dX11_yearOf_130 (by decide) (b01_r) (fun c_130 => ?_) (fun c_130 => ?_)
                                · replace c_130 := b01_z c_130
                                  refine r_iincv (pc := 173) (y := ((k + 1 : Nat) : Int)) (L2 := [(3, (.int (iI (((k + 1 : Nat) : Int))))), (4, (.int (iI (((e : Nat) : Int))))), (2, (.int (iI (((t : Nat) : Int))))), (1, (.int (iI (((2 ^ n - 1 : Nat) : Int))))), (0, (.ref 164))]) 1 dX11_yearOf_173 rfl (by omega) (by decide) rfl ?_
                                  refine r_goto (pc := 176) (tgt := 104) dX11_yearOf_176 (by decide) ?_
                                  refine r_sub (L2 := [(3, (.int (iI (((k + 1 : Nat) : Int))))), (2, (.int (iI (((t : Nat) : Int))))), (1, (.int (iI (((2 ^ n - 1 : Nat) : Int))))), (0, (.ref 164))]) [0, 2, 3, 4] rfl ?_
                                  exact ih_Lu (2 ^ n - (k + 1)) (by omega) (k + 1) (by omega) (by omega) f3 hF3 hL3 hZ3 (fun s hs => (hB3 s hs).trans (upP_row e (Or.inr c_130)))
                                · replace c_130 := b01_nz c_130
                                  refine r_aload_n (pc := 133) 4 dX11_yearOf_133 rfl rfl ?_
                                  refine r_getR (pc := 134) (b := 185) dX11_yearOf_134 fl_X11_79 rfl hM.k hM.r33 ?_
                                  refine r_sipush (pc := 137) dX11_yearOf_137 (by decide) ?_
                                  refine r_iload_n (pc := 140) 2 dX11_yearOf_140 rfl rfl ?_
                                  refine r_imul (pc := 141) dX11_yearOf_141 ?_
                                  refine r_eqI (y := ((256 * t : Nat) : Int)) (Int.natCast_mul _ _ |>.symm) ?_
                                  refine r_iload (pc := 142) 0 dX11_yearOf_142 rfl ?_
                                  refine r_iadd (pc := 144) dX11_yearOf_144 ?_
                                  refine r_eqI (y := ((256 * t + e : Nat) : Int)) (by omega) ?_
                                  refine r_zaldv (pc := 145) (w := b01 ((famK K n t) e = true)) dX11_yearOf_145 hM.a33 (by omega) (by decide) ((by rw [hF3 185 (by decide)]; exact hcan t (by omega) e (by omega))) ?_
                                  refine r_if_eq (pc := 146) (tgt := 167) dX11_yearOf_146 (by decide) (b01_r) (fun c_146 => ?_) (fun c_146 => ?_)
                                  · replace c_146 := b01_z c_146
                                    refine r_iincv (pc := 167) (y := ((e + 1 : Nat) : Int)) (L2 := [(4, (.int (iI (((e + 1 : Nat) : Int))))), (3, (.int (iI (((k : Nat) : Int))))), (2, (.int (iI (((t : Nat) : Int))))), (1, (.int (iI (((2 ^ n - 1 : Nat) : Int))))), (0, (.ref 164))]) 0 dX11_yearOf_167 rfl (by omega) (by decide) rfl ?_
                                    refine r_goto (pc := 170) (tgt := 112) dX11_yearOf_170 (by decide) ?_
                                    refine r_sub (L2 := [(4, (.int (iI (((e + 1 : Nat) : Int))))), (3, (.int (iI (((k : Nat) : Int))))), (2, (.int (iI (((t : Nat) : Int))))), (1, (.int (iI (((2 ^ n - 1 : Nat) : Int))))), (0, (.ref 164))]) [0, 1, 2, 3, 4] rfl ?_
                                    exact ih_Lv (2 ^ n - (e + 1)) (by omega) (e + 1) (by omega) (by omega) f3 hF3 hL3 hZ3 (fun s hs => (hB3 s hs).trans (upP_n c_146).symm)
                                  · replace c_146 := b01_nz c_146
                                    refine r_aload_n (pc := 149) 4 dX11_yearOf_149 rfl rfl ?_
                                    refine r_getR (pc := 150) (b := 187) dX11_yearOf_150 fl_X11_86 rfl hM.k hM.r35 ?_
                                    refine r_sipush (pc := 153) dX11_yearOf_153 (by decide) ?_
                                    refine r_iload_n (pc := 156) 2 dX11_yearOf_156 rfl rfl ?_
                                    refine r_iconst (pc := 157) dX11_yearOf_157 ?_
                                    refine r_iadd (pc := 158) dX11_yearOf_158 ?_
                                    refine r_eqI (y := ((t + 1 : Nat) : Int)) (Int.natCast_add _ _ |>.symm) ?_
                                    refine r_imul (pc := 159) dX11_yearOf_159 ?_
                                    refine r_eqI (y := ((256 * (t + 1) : Nat) : Int)) (Int.natCast_mul _ _ |>.symm) ?_
                                    refine r_iload_n (pc := 160) 1 dX11_yearOf_160 rfl rfl ?_
                                    refine r_iload (pc := 161) 0 dX11_yearOf_161 rfl ?_
                                    refine r_ior (pc := 163) (w := ((k ||| e : Nat) : Int)) dX11_yearOf_163  (iI_or _ _) ?_
                                    refine r_iadd (pc := 164) dX11_yearOf_164 ?_
                                    refine r_eqI (y := ((256 * (t + 1) + (k ||| e) : Nat) : Int)) (by omega) ?_
                                    refine r_iconst (pc := 165) dX11_yearOf_165 ?_
                                    refine r_zastv (pc := 166) (i := 256 * (t + 1) + (k ||| e)) dX11_yearOf_166 hM.a35 (by have := Nat.or_lt_two_pow (show k < 2 ^ n by omega) (show e < 2 ^ n by omega); omega) (by decide) (by decide) rfl ?_
                                    refine r_iincv (pc := 167) (y := ((e + 1 : Nat) : Int)) (L2 := [(4, (.int (iI (((e + 1 : Nat) : Int))))), (3, (.int (iI (((k : Nat) : Int))))), (2, (.int (iI (((t : Nat) : Int))))), (1, (.int (iI (((2 ^ n - 1 : Nat) : Int))))), (0, (.ref 164))]) 0 dX11_yearOf_167 rfl (by omega) (by decide) rfl ?_
                                    refine r_goto (pc := 170) (tgt := 112) dX11_yearOf_170 (by decide) ?_
                                    have hke := Nat.or_lt_two_pow (show k < 2 ^ n by omega) (show e < 2 ^ n by omega)
                                    refine r_sub (L2 := [(4, (.int (iI (((e + 1 : Nat) : Int))))), (3, (.int (iI (((k : Nat) : Int))))), (2, (.int (iI (((t : Nat) : Int))))), (1, (.int (iI (((2 ^ n - 1 : Nat) : Int))))), (0, (.ref 164))]) [0, 1, 2, 3, 4] rfl ?_
                                    exact ih_Lv (2 ^ n - (e + 1)) (by omega) (e + 1) (by omega) (by omega) _ (fun q hq => by rw [stF_n _ _ _ hq]; exact hF3 q hq) (fun s hs => by rw [stF_i _ _ _ (by omega)]; exact hL3 s hs) (fun s hs => by
                                      by_cases w : s = k ||| e
                                      · rw [w, stF_s]; exact Or.inr rfl
                                      · rw [stF_i _ _ _ (by omega)]; exact hZ3 s hs) (fun s hs => by
                                      rw [upP_y (by omega) (by omega) c_130 c_146]
                                      by_cases w : s = k ||| e
                                      · rw [w, stF_s]; exact ⟨fun _ => Or.inr rfl, fun _ => rfl⟩
                                      · rw [stF_i _ _ _ (by omega), hB3 s hs]
                                        exact ⟨fun q => Or.inl q, fun q => q.elim id (fun v => absurd v.symm w)⟩)
                          refine r_sub (L2 := [(4, (.int (iI (((0 : Nat) : Int))))), (3, (.int (iI (((k : Nat) : Int))))), (2, (.int (iI (((t : Nat) : Int))))), (1, (.int (iI (((2 ^ n - 1 : Nat) : Int))))), (0, (.ref 164))]) [0, 1, 2, 3, 4] rfl ?_
                          exact Lv (2 ^ n) 0 (by omega) (by omega) f3 hF3 hL3 hZ3 hB3
                    refine r_sub (L2 := [(3, (.int (iI (((0 : Nat) : Int))))), (2, (.int (iI (((t : Nat) : Int))))), (1, (.int (iI (((2 ^ n - 1 : Nat) : Int))))), (0, (.ref 164))]) [0, 1, 2, 3] rfl ?_
                    exact Lu (2 ^ n) 0 (by omega) (by omega) f2 hF2 (fun s hs => by rw [hO2 _ (by omega), h187a]; exact h187 s hs) (fun s hs => Or.inl (hR2 s (by omega))) (fun s hs => by rw [hR2 s (by omega)]; exact ⟨fun q => absurd q (by decide), fun q => absurd q upP_0⟩)
                  · refine r_aload_n (pc := 81) 3 dX11_yearOf_81 rfl rfl ?_
                    refine r_getR (pc := 82) (b := 187) dX11_yearOf_82 fl_X11_86 rfl hM.k hM.r35 ?_
                    refine r_sipush (pc := 85) dX11_yearOf_85 (by decide) ?_
                    refine r_iload_n (pc := 88) 1 dX11_yearOf_88 rfl rfl ?_
                    refine r_iconst (pc := 89) dX11_yearOf_89 ?_
                    refine r_iadd (pc := 90) dX11_yearOf_90 ?_
                    refine r_eqI (y := ((t + 1 : Nat) : Int)) (Int.natCast_add _ _ |>.symm) ?_
                    refine r_imul (pc := 91) dX11_yearOf_91 ?_
                    refine r_eqI (y := ((256 * (t + 1) : Nat) : Int)) (Int.natCast_mul _ _ |>.symm) ?_
                    refine r_iload_n (pc := 92) 0 dX11_yearOf_92 rfl rfl ?_
                    refine r_iadd (pc := 93) dX11_yearOf_93 ?_
                    refine r_eqI (y := ((256 * (t + 1) + s : Nat) : Int)) (by omega) ?_
                    refine r_iconst (pc := 94) dX11_yearOf_94 ?_
                    refine r_zastv (pc := 95) (i := 256 * (t + 1) + s) dX11_yearOf_95 hM.a35 (by omega) (by decide) (by decide) rfl ?_
                    refine r_iincv (pc := 96) (y := ((s + 1 : Nat) : Int)) (L2 := [(3, (.int (iI (((s + 1 : Nat) : Int))))), (2, (.int (iI (((t : Nat) : Int))))), (1, (.int (iI (((2 ^ n - 1 : Nat) : Int))))), (0, (.ref 164))]) 0 dX11_yearOf_96 rfl (by omega) (by decide) rfl ?_
                    refine r_goto (pc := 99) (tgt := 76) dX11_yearOf_99 (by decide) ?_
                    refine r_sub (L2 := [(3, (.int (iI (((s + 1 : Nat) : Int))))), (2, (.int (iI (((t : Nat) : Int))))), (1, (.int (iI (((2 ^ n - 1 : Nat) : Int))))), (0, (.ref 164))]) [0, 1, 2, 3] rfl ?_
                    exact ih_Lz (2 ^ n - (s + 1)) (by omega) (s + 1) (by omega) (by omega) _ (fun q hq => by rw [stF_n _ _ _ hq]; exact hF2 q hq) (fun k hk => by rw [stF_i _ _ _ (by omega)]; exact hO2 k hk) (fun q hq => by
                      rcases Nat.lt_succ_iff_lt_or_eq.mp hq with h | h
                      · exact rdi (by omega) (hR2 q h)
                      · subst h; exact stF_s _ _ _ _)
              refine r_sub (L2 := [(3, (.int (iI (((0 : Nat) : Int))))), (2, (.int (iI (((t : Nat) : Int))))), (1, (.int (iI (((2 ^ n - 1 : Nat) : Int))))), (0, (.ref 164))]) [0, 1, 2, 3] rfl ?_
              exact Lz (2 ^ n) 0 (by omega) (by omega) f_71 (fun _ _ => rfl) (fun _ _ => rfl) (fun q hq => absurd hq (by omega))
        refine r_sub (L2 := [(2, (.int (iI (((0 : Nat) : Int))))), (1, (.int (iI (((2 ^ n - 1 : Nat) : Int))))), (0, (.ref 164))]) [0, 1, 2] rfl ?_
        exact Lm 30 0 (by omega) (by omega) f_41 hK8 hly.2.2.1 (fun c hc => (hly.2.2.2.1 c hc).2.2) (fun o ho => (hMD.2.2.2.2.2 o ho).1) ⟨fun a ha => by rw [hly.1 a (by omega) (by omega) (by omega) (by omega) (by omega) (by omega)]; exact hF0 a (by omega), fun q a1 a2 a3 a4 a5 => by rw [hly.2.1 q a1 a2 a3 a4 a5, hF0 164 (by decide)], hly.2.2.1⟩ (fun d hd => absurd hd (by omega)) (fun s hs => by rw [hly.1 187 (by decide) (by decide) (by decide) (by decide) (by decide) (by decide), Nat.mul_zero, Nat.zero_add, hR0 s (by omega)]; exact b01_iff (by show _ ↔ decide (s = 0) = true; rw [decide_eq_true_iff])) (fun q h1 h2 => absurd h1 (by omega))
      · refine r_aload_n (pc := 12) 2 dX11_yearOf_12 rfl rfl ?_
        refine r_getR (pc := 13) (b := 187) dX11_yearOf_13 fl_X11_86 rfl hM.k hM.r35 ?_
        refine r_iload_n (pc := 16) 0 dX11_yearOf_16 rfl rfl ?_
        refine r_iload_n (pc := 17) 0 dX11_yearOf_17 rfl rfl ?_
        refine r_if_ne (pc := 18) (tgt := 25) dX11_yearOf_18 (by decide) (by omega) (fun c_18 => ?_) (fun c_18 => ?_)
        · refine r_iconst (pc := 25) dX11_yearOf_25 ?_
          refine r_zastv (pc := 26) (i := s) dX11_yearOf_26 hM.a35 (by omega) (by decide) (by decide) rfl ?_
          refine r_iincv (pc := 27) (y := ((s + 1 : Nat) : Int)) (L2 := [(2, (.int (iI (((s + 1 : Nat) : Int))))), (1, (.int (iI (((2 ^ n - 1 : Nat) : Int))))), (0, (.ref 164))]) 0 dX11_yearOf_27 rfl (by omega) (by decide) rfl ?_
          refine r_goto (pc := 30) (tgt := 7) dX11_yearOf_30 (by decide) ?_
          refine r_sub (L2 := [(2, (.int (iI (((s + 1 : Nat) : Int))))), (1, (.int (iI (((2 ^ n - 1 : Nat) : Int))))), (0, (.ref 164))]) [0, 1, 2] rfl ?_
          exact ih_La (2 ^ n - (s + 1)) (by omega) (s + 1) (by omega) (by omega) _ (fun q hq => by rw [stF_n _ _ _ hq]; exact hF0 q hq) (fun q hq => by
            rcases Nat.lt_succ_iff_lt_or_eq.mp hq with h | h
            · exact rdi (by omega) (hR0 q h)
            · subst h; rw [stF_s, b01_f (show ¬ q = 0 by omega)])
        · refine r_iconst (pc := 21) dX11_yearOf_21 ?_
          refine r_goto (pc := 22) (tgt := 26) dX11_yearOf_22 (by decide) ?_
          refine r_zastv (pc := 26) (i := s) dX11_yearOf_26 hM.a35 (by omega) (by decide) (by decide) rfl ?_
          refine r_iincv (pc := 27) (y := ((s + 1 : Nat) : Int)) (L2 := [(2, (.int (iI (((s + 1 : Nat) : Int))))), (1, (.int (iI (((2 ^ n - 1 : Nat) : Int))))), (0, (.ref 164))]) 0 dX11_yearOf_27 rfl (by omega) (by decide) rfl ?_
          refine r_goto (pc := 30) (tgt := 7) dX11_yearOf_30 (by decide) ?_
          refine r_sub (L2 := [(2, (.int (iI (((s + 1 : Nat) : Int))))), (1, (.int (iI (((2 ^ n - 1 : Nat) : Int))))), (0, (.ref 164))]) [0, 1, 2] rfl ?_
          exact ih_La (2 ^ n - (s + 1)) (by omega) (s + 1) (by omega) (by omega) _ (fun q hq => by rw [stF_n _ _ _ hq]; exact hF0 q hq) (fun q hq => by
            rcases Nat.lt_succ_iff_lt_or_eq.mp hq with h | h
            · exact rdi (by omega) (hR0 q h)
            · subst h; rw [stF_s, b01_t (show q = 0 by omega)])
  refine r_sub (L2 := [(2, (.int (iI (((0 : Nat) : Int))))), (1, (.int (iI (((2 ^ n - 1 : Nat) : Int))))), (0, (.ref 164))]) [0, 1, 2] rfl ?_
  exact La (2 ^ n) 0 (by omega) (by omega) f (fun _ _ => rfl) (fun q hq => absurd hq (by omega))

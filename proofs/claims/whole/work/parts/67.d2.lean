def hdK (K : Nat → Int) (c : Nat) : Int := K (5 * c + 3)
def ovK (K : Nat → Int) (c : Nat) : Nat := (K (5 * c + 2)).toNat
def waK (K : Nat → Int) (day : Int) (hd : Nat → Int) (c : Nat) : Nat := (wantK K day (hd c) c).toNat
def bkK (K : Nat → Int) (o : Nat) : Nat := (K (43 + o)).toNat
/-- what lays leaves -/
def LyP (f f' : Fm) (K : Nat → Int) (day : Int) (n : Nat) : Prop := (∀ a, a ≠ 164 → a ≠ 175 → a ≠ 176 → a ≠ 177 → a ≠ 178 → a ≠ 179 → f' a = f a) ∧ (∀ q, q ≠ 18 → q ≠ 19 → q ≠ 20 → q ≠ 22 → q ≠ 23 → f' 164 q = f 164 q) ∧ (∃ bk : Bool, f' 164 20 = b01 (bk = true)) ∧ (∀ c, c < n → f' 176 c = wantK K day (hdK K c) c ∧ f' 177 c = ((wtK K day (hdK K) n c : Nat) : Int) ∧ f' 179 c = hdK K c) ∧ f' 178 0 = K 43 ∧ f' 178 1 = K 44
theorem LyP.md {f f' : Fm} {K : Nat → Int} {day D0 M0 : Int} {n : Nat} (h : LyP f f' K day n) (hK : f 166 = K) (hO : KO K D0 M0) (hM0 : M0 ≤ 1100000) (hn : K 77 = ((n : Nat) : Int)) : MD f' n (ovK K) (waK K day (hdK K)) (wtK K day (hdK K) n) (bkK K) := by
  have hn8 : n ≤ 8 := by have := hO.n; omega
  have h166 : f' 166 = K := by rw [h.1 166 (by decide) (by decide) (by decide) (by decide) (by decide) (by decide)]; exact hK
  refine ⟨by rw [h166]; exact hn, hn8, fun c hc => ?_, fun c hc => ?_, fun c hc => ⟨(h.2.2.2.1 c hc).2.1, wmk_8 _ hn8⟩, fun o ho => ?_⟩
  · have := (hO.f (c := c) (by omega)).2.2.1
    rw [h166]
    unfold ovK
    omega
  · have h1 := (h.2.2.2.1 c hc).1
    have h2 := wantK_r (day := day) (had := hdK K c) hO (c := c) (by omega)
    rw [h1]
    unfold waK
    omega
  · have h1 := hO.b0
    have h2 := hO.b1
    unfold bkK
    rcases (show o = 0 ∨ o = 1 by omega) with rfl | rfl
    · rw [h.2.2.2.2.1]; show K 43 = ((K 43).toNat : Int) ∧ (K 43).toNat ≤ 1100000; omega
    · rw [h.2.2.2.2.2]; show K 44 = ((K 44).toNat : Int) ∧ (K 44).toNat ≤ 1100000; omega
def swN (ov wa : Nat → Nat) (o : Nat) : Nat → Nat
  | 0 => 0
  | k + 1 => swN ov wa o k + if ov k = o then wa k else 0
theorem swN_s (ov wa : Nat → Nat) (o k : Nat) : swN ov wa o (k + 1) = swN ov wa o k + if ov k = o then wa k else 0 := rfl
theorem swN_r {ov wa : Nat → Nat} {o : Nat} : ∀ k, (∀ c, c < k → wa c ≤ 40) → swN ov wa o k ≤ 40 * k
  | 0, _ => Nat.le_refl _
  | k + 1, h => by
    have h1 := swN_r (ov := ov) (o := o) k (fun c hc => h c (by omega))
    have h2 := h k (by omega)
    unfold swN
    split <;> omega

set_option maxRecDepth 100000 in
set_option maxHeartbeats 4000000 in
theorem m_lays (l : Launch) (z : Zv) {g : Gm} {f : Fm} {K : Nat → Int} {D0 M0 day : Int} {n : Nat} (hM : ML g) (hK : f 166 = K) (hO : KO K D0 M0) (hn : K 77 = ((n : Nat) : Int)) (hb20 : ∃ bk : Bool, f 164 20 = b01 (bk = true)) (hday : -1000000000 ≤ day ∧ day ≤ 1000000000) {D : Nat} (hD : 272 ≤ D) : PM l z D mX11_lays [.ref 164, .int (iI day)] g f 0 0 (fun r g' f' => r = none ∧ g = g' ∧ LyP f f' K day n) := by
  obtain ⟨d, rfl⟩ : ∃ d, D = d + 8 := ⟨D - 8, by omega⟩
  have hn8 : n ≤ 8 := by have := hO.n; omega
  refine PM.of (by decide +kernel) (Nat.le_of_ble_eq_true rfl) ?_
  have loop : ∀ m i : Nat, m = n - i → i ≤ n → ∀ f1 : Fm, (∀ a, a ≠ 179 → f1 a = f a) → (∀ c, c < i → f1 179 c = hdK K c) → PW l z (d + 8) mX11_lays 0 0 (fun r g' f' => r = none ∧ g = g' ∧ LyP f f' K day n) 2 [(2, (.int (iI (((i : Nat) : Int))))), (0, (.ref 164)), (1, (.int (iI (day))))] [] g f1 0 0 := by
    intro m
    induction m using Nat.strongRecOn with
    | _ m ih =>
      intro i hm hi f1 hL1 hL2
      refine r_iload_n (pc := 2) 0 dX11_lays_2 rfl rfl ?_
      refine r_aload_n (pc := 3) 1 dX11_lays_3 rfl rfl ?_
      refine r_callV (pc := 4) (As := []) (S := [(.int (iI (((i : Nat) : Int))))]) dX11_lays_4 cv_X11_121 hM.k rfl (Nat.le_of_ble_eq_true rfl) (m_cust (v := ((n : Nat) : Int)) l z _ hM ((congrFun (hL1 166 (by decide)) 77).trans ((congrFun hK 77).trans hn))) (Nat.zero_le _) (Nat.zero_le _) (fun r_4 g_4 f_4 q_4 => ?_)
      obtain ⟨rfl, rfl, rfl⟩ := q_4
      refine r_icmp_ge (pc := 7) (tgt := 28) dX11_lays_7 (by decide) (by omega) (by omega) (fun c_7 => ?_) (fun c_7 => ?_)
      · refine r_aload_n (pc := 28) 1 dX11_lays_28 rfl rfl ?_
        refine r_getR (pc := 29) (b := 178) dX11_lays_29 fl_X11_58 rfl hM.k hM.r26 ?_
        refine r_iconst (pc := 32) dX11_lays_32 ?_
        refine r_aload_n (pc := 33) 1 dX11_lays_33 rfl rfl ?_
        refine r_getR (pc := 34) (b := 166) dX11_lays_34 fl_X11_17 rfl hM.k hM.r2 ?_
        refine r_bipush (pc := 37) dX11_lays_37 (by decide) ?_
        refine r_ialdv (pc := 39) (w := K 43) dX11_lays_39 hM.a2 (by decide) (by decide) ((congrFun (hL1 166 (by decide)) _).trans (congrFun hK _)) ?_
        refine r_iastv (pc := 40) (i := 0) dX11_lays_40 hM.a26 (by decide) (by decide) rfl ?_
        refine r_aload_n (pc := 41) 1 dX11_lays_41 rfl rfl ?_
        refine r_getR (pc := 42) (b := 178) dX11_lays_42 fl_X11_58 rfl hM.k hM.r26 ?_
        refine r_iconst (pc := 45) dX11_lays_45 ?_
        refine r_aload_n (pc := 46) 1 dX11_lays_46 rfl rfl ?_
        refine r_getR (pc := 47) (b := 166) dX11_lays_47 fl_X11_17 rfl hM.k hM.r2 ?_
        refine r_bipush (pc := 50) dX11_lays_50 (by decide) ?_
        refine r_ialdv (pc := 52) (w := K 44) dX11_lays_52 hM.a2 (by decide) (by decide) (rdn (by decide) ((congrFun (hL1 166 (by decide)) _).trans (congrFun hK _))) ?_
        refine r_iastv (pc := 53) (i := 1) dX11_lays_53 hM.a26 (by decide) (by decide) rfl ?_
        refine r_aload_n (pc := 54) 1 dX11_lays_54 rfl rfl ?_
        refine r_iload_n (pc := 55) 2 dX11_lays_55 rfl rfl ?_
        refine r_callV (pc := 56) (As := [(.int (iI (day)))]) (S := []) dX11_lays_56 cv_X11_284 hM.k rfl (Nat.le_of_ble_eq_true rfl) (m_asksAll (K := K) (day := day) (hd := hdK K) (n := n) l z hM (by rw [stF_n _ _ _ (by decide), stF_n _ _ _ (by decide), hL1 166 (by decide)]; exact hK) hO hn (by obtain ⟨bk, hbk⟩ := hb20; exact ⟨bk, rdn (by decide) (rdn (by decide) ((congrFun (hL1 164 (by decide)) _).trans hbk))⟩) hday (fun c hc => ⟨rdn (by decide) (rdn (by decide) (hL2 c (by omega))), by have := (hO.f (c := c) (by omega)).2.2.2.1; unfold hdK; omega⟩) (by omega)) (Nat.zero_le _) (Nat.zero_le _) (fun r_56 g_56 f_56 q_56 => ?_)
        obtain ⟨rfl, rfl, hP⟩ := q_56
        exact r_vret (pc := 59) dX11_lays_59 rfl ⟨rfl, rfl, fun a h1 h2 h3 h4 h5 h6 => by rw [hP.1 a h1 h2 h3 h4, stF_n _ _ _ h5, stF_n _ _ _ h5]; exact hL1 a h6, fun q h1 h2 h3 h4 h5 => by rw [hP.2.1 q h1 h2 h3 h4 h5, stF_n _ _ _ (by decide), stF_n _ _ _ (by decide), hL1 164 (by decide)], hP.2.2.1, fun c hc => ⟨(hP.2.2.2 c hc).1, (hP.2.2.2 c hc).2, by rw [hP.1 179 (by decide) (by decide) (by decide) (by decide)]; exact rdn (by decide) (rdn (by decide) (hL2 c (by omega)))⟩, by rw [hP.1 178 (by decide) (by decide) (by decide) (by decide)]; exact rdi (by decide) (stF_s _ _ _ _), by rw [hP.1 178 (by decide) (by decide) (by decide) (by decide)]; exact stF_s _ _ _ _⟩
      · refine r_aload_n (pc := 10) 1 dX11_lays_10 rfl rfl ?_
        refine r_getR (pc := 11) (b := 179) dX11_lays_11 fl_X11_61 rfl hM.k hM.r27 ?_
        refine r_iload_n (pc := 14) 0 dX11_lays_14 rfl rfl ?_
        refine r_aload_n (pc := 15) 1 dX11_lays_15 rfl rfl ?_
        refine r_iload_n (pc := 16) 0 dX11_lays_16 rfl rfl ?_
        refine r_iconst (pc := 17) dX11_lays_17 ?_
        refine r_callV (pc := 18) (As := [(.int (iI (((i : Nat) : Int)))), (.int (iI (3)))]) (S := [(.int (iI (((i : Nat) : Int)))), (.ref 179)]) dX11_lays_18 cv_X11_138 hM.k rfl (Nat.le_of_ble_eq_true rfl) (m_fact (c := i) (w := 3) (v := hdK K i) l z _ hM (by omega) (by decide) ((congrFun (hL1 166 (by decide)) _).trans (congrFun hK _))) (Nat.zero_le _) (Nat.zero_le _) (fun r_18 g_18 f_18 q_18 => ?_)
        obtain ⟨rfl, rfl, rfl⟩ := q_18
        refine r_iastv (pc := 21) (i := i) dX11_lays_21 hM.a27 (by omega) (by decide) rfl ?_
        refine r_iincv (pc := 22) (y := ((i + 1 : Nat) : Int)) (L2 := [(2, (.int (iI (((i + 1 : Nat) : Int))))), (0, (.ref 164)), (1, (.int (iI (day))))]) 0 dX11_lays_22 rfl (by omega) (by decide) rfl ?_
        refine r_goto (pc := 25) (tgt := 2) dX11_lays_25 (by decide) ?_
        refine r_sub (L2 := [(2, (.int (iI (((i + 1 : Nat) : Int))))), (0, (.ref 164)), (1, (.int (iI (day))))]) [0, 1, 2] rfl ?_
        exact ih (n - (i + 1)) (by omega) (i + 1) (by omega) (by omega) _ (fun a ha => by rw [stF_n _ _ _ ha]; exact hL1 a ha) (fun c hc => by rcases (show c < i ∨ c = i by omega) with q | rfl; exact rdi (by omega) (hL2 c q); exact stF_s _ _ _ _)
  refine r_iconst (pc := 0) dX11_lays_0 ?_
  refine r_istore_n (pc := 1) (L2 := [(2, (.int (iI (0)))), (0, (.ref 164)), (1, (.int (iI (day))))]) dX11_lays_1 rfl (by decide) rfl ?_
  refine r_sub (L2 := [(2, (.int (iI (((0 : Nat) : Int))))), (0, (.ref 164)), (1, (.int (iI (day))))]) [0, 1, 2] rfl ?_
  exact loop n 0 (by omega) (by omega) f (fun _ _ => rfl) (fun c hc => absurd hc (by omega))

set_option maxRecDepth 100000 in
set_option maxHeartbeats 4000000 in
theorem m_bakesAll (l : Launch) (z : Zv) (d : Nat) {g : Gm} {f : Fm} {n : Nat} {ov wa wt bk : Nat → Nat} (hM : ML g) (hD : MD f n ov wa wt bk) : PM l z (d + 1) mX11_bakesAll [.ref 164] g f 0 0 (fun r g' f' => r = none ∧ g = g' ∧ (∀ a, a ≠ 178 → f' a = f a) ∧ ∀ q, q ≤ 1 → f' 178 q = ((bk q + swN ov wa q n : Nat) : Int)) := by
  have hn8 := hD.n8
  refine PM.of (by decide +kernel) (Nat.le_of_ble_eq_true rfl) ?_
  have loop : ∀ m i : Nat, m = n - i → i ≤ n → ∀ f1 : Fm, (∀ a, a ≠ 178 → f1 a = f a) → (∀ q, q ≤ 1 → f1 178 q = ((bk q + swN ov wa q i : Nat) : Int)) → PW l z (d + 1) mX11_bakesAll 0 0 (fun r g' f' => r = none ∧ g = g' ∧ (∀ a, a ≠ 178 → f' a = f a) ∧ ∀ q, q ≤ 1 → f' 178 q = ((bk q + swN ov wa q n : Nat) : Int)) 2 [(1, (.int (iI (((i : Nat) : Int))))), (0, (.ref 164))] [] g f1 0 0 := by
    intro m
    induction m using Nat.strongRecOn with
    | _ m ih =>
      intro i hm hi f1 hL1 hL2
      refine r_iload_n (pc := 2) 0 dX11_bakesAll_2 rfl rfl ?_
      refine r_aload_n (pc := 3) 1 dX11_bakesAll_3 rfl rfl ?_
      refine r_callV (pc := 4) (As := []) (S := [(.int (iI (((i : Nat) : Int))))]) dX11_bakesAll_4 cv_X11_121 hM.k rfl (Nat.le_of_ble_eq_true rfl) (m_cust (v := ((n : Nat) : Int)) l z _ hM ((congrFun (hL1 166 (by decide)) 77).trans hD.n)) (Nat.zero_le _) (Nat.zero_le _) (fun r_4 g_4 f_4 q_4 => ?_)
      obtain ⟨rfl, rfl, rfl⟩ := q_4
      refine r_icmp_ge (pc := 7) (tgt := 36) dX11_bakesAll_7 (by decide) (by omega) (by omega) (fun c_7 => ?_) (fun c_7 => ?_)
      · have hin : i = n := by omega
        subst hin
        exact r_vret (pc := 36) dX11_bakesAll_36 rfl ⟨rfl, rfl, hL1, hL2⟩
      · refine r_aload_n (pc := 10) 1 dX11_bakesAll_10 rfl rfl ?_
        refine r_getR (pc := 11) (b := 178) dX11_bakesAll_11 fl_X11_58 rfl hM.k hM.r26 ?_
        refine r_aload_n (pc := 14) 1 dX11_bakesAll_14 rfl rfl ?_
        refine r_iload_n (pc := 15) 0 dX11_bakesAll_15 rfl rfl ?_
        refine r_iconst (pc := 16) dX11_bakesAll_16 ?_
        refine r_callV (pc := 17) (As := [(.int (iI (((i : Nat) : Int)))), (.int (iI (2)))]) (S := [(.ref 178)]) dX11_bakesAll_17 cv_X11_138 hM.k rfl (Nat.le_of_ble_eq_true rfl) (m_fact (c := i) (w := 2) (v := ((ov i : Nat) : Int)) l z _ hM (by omega) (by decide) ((congrFun (hL1 166 (by decide)) _).trans (hD.2.2.1 i (by omega)).1)) (Nat.zero_le _) (Nat.zero_le _) (fun r_17 g_17 f_17 q_17 => ?_)
        obtain ⟨rfl, rfl, rfl⟩ := q_17
        have hov := hD.o1 (c := i) (by omega)
        refine r_dup2 (pc := 20) dX11_bakesAll_20 rfl rfl ?_
        refine r_ialdv (pc := 21) (w := ((bk (ov i) + swN ov wa (ov i) i : Nat) : Int)) dX11_bakesAll_21 hM.a26 (by omega) (by decide) (hL2 (ov i) (by omega)) ?_
        refine r_aload_n (pc := 22) 1 dX11_bakesAll_22 rfl rfl ?_
        refine r_getR (pc := 23) (b := 176) dX11_bakesAll_23 fl_X11_52 rfl hM.k hM.r24 ?_
        refine r_iload_n (pc := 26) 0 dX11_bakesAll_26 rfl rfl ?_
        refine r_ialdv (pc := 27) (w := ((wa i : Nat) : Int)) dX11_bakesAll_27 hM.a24 (by omega) (by decide) ((congrFun (hL1 176 (by decide)) _).trans (hD.2.2.2.1 i (by omega)).1) ?_
        refine r_iadd (pc := 28) dX11_bakesAll_28 ?_
        refine r_eqI (y := ((bk (ov i) + swN ov wa (ov i) i + wa i : Nat) : Int)) (Int.natCast_add _ _ |>.symm) ?_
        refine r_iastv (pc := 29) (i := ov i) dX11_bakesAll_29 hM.a26 (by omega) (by decide) rfl ?_
        refine r_iincv (pc := 30) (y := ((i + 1 : Nat) : Int)) (L2 := [(1, (.int (iI (((i + 1 : Nat) : Int))))), (0, (.ref 164))]) 0 dX11_bakesAll_30 rfl (by omega) (by decide) rfl ?_
        refine r_goto (pc := 33) (tgt := 2) dX11_bakesAll_33 (by decide) ?_
        refine r_sub (L2 := [(1, (.int (iI (((i + 1 : Nat) : Int))))), (0, (.ref 164))]) [0, 1] rfl ?_
        refine ih (n - (i + 1)) (by omega) (i + 1) (by omega) (by omega) _ (fun a ha => by rw [stF_n _ _ _ ha]; exact hL1 a ha) (fun q hq => ?_)
        rw [swN_s]
        by_cases hqo : q = ov i
        · subst hqo; rw [stF_s, if_pos rfl]; congr 1; omega
        · rw [stF_i _ _ _ hqo, if_neg (Ne.symm hqo)]; exact hL2 q hq
  refine r_iconst (pc := 0) dX11_bakesAll_0 ?_
  refine r_istore_n (pc := 1) (L2 := [(1, (.int (iI (0)))), (0, (.ref 164))]) dX11_bakesAll_1 rfl (by decide) rfl ?_
  refine r_sub (L2 := [(1, (.int (iI (((0 : Nat) : Int))))), (0, (.ref 164))]) [0, 1] rfl ?_
  exact loop n 0 (by omega) (by omega) f (fun _ _ => rfl) (fun q hq => (hD.2.2.2.2.2 q hq).1)

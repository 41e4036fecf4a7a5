theorem MD.mv {f f1 : Fm} {n : Nat} {ov wa wt bk : Nat → Nat} (h : MD f n ov wa wt bk) (h1 : f1 166 = f 166) (h2 : f1 176 = f 176) (h3 : f1 177 = f 177) (h4 : f1 178 = f 178) : MD f1 n ov wa wt bk := by
  unfold MD at h ⊢
  rw [h1, h2, h3, h4]
  exact h
theorem div_2 {x D : Int} (hD : 2 ≤ D) : (x + 2) / D ≤ x / D + 1 := by
  have h1 : (x + 2) / D ≤ (x + 1 * D) / D := Int.ediv_le_ediv (by omega) (by omega)
  rw [Int.add_mul_ediv_right _ _ (by omega)] at h1
  exact h1
theorem div_1 {x D : Int} (hD : 2 ≤ D) : x / D ≤ (x + 1) / D := Int.ediv_le_ediv (by omega) (by omega)
theorem dm_u {n R q r : Int} (h : n = r + q * R) (h0 : 0 ≤ r) (h1 : r < R) : n / R = q ∧ n % R = r := by
  subst h
  rw [Int.add_mul_ediv_right _ _ (by omega), Int.ediv_eq_zero_of_lt h0 h1, Int.add_mul_emod_self_right, Int.emod_eq_of_lt h0 h1]
  exact ⟨Int.zero_add q, rfl⟩
theorem blA_k {dz lp n : Int} (h0 : 2 ≤ dz) (h1 : 0 ≤ lp ∧ lp ≤ 9) (hn : 0 ≤ n) : blA dz lp n ≤ blA dz lp (n + 1) ∧ blA dz lp (n + 2) ≤ blA dz lp n + 1 := by
  rcases (show lp = 0 ∨ 1 ≤ lp by omega) with hl | hl
  · rw [blA_0 h0 hn hl, blA_0 h0 (by omega) hl, blA_0 h0 (by omega) hl]
    exact ⟨div_1 h0, div_2 h0⟩
  · rw [blA_1 h0 hn hl, blA_1 h0 (by omega) hl, blA_1 h0 (by omega) hl]
    have hRD : 2 ≤ lp * dz := by
      have : 1 * dz ≤ lp * dz := Int.mul_le_mul_of_nonneg_right hl (by omega)
      omega
    obtain ⟨R, hR⟩ : ∃ R, R = lp * dz + 1 := ⟨_, rfl⟩
    rw [← hR]
    have e := Int.emod_add_mul_ediv n R
    have hr0 := Int.emod_nonneg n (show R ≠ 0 by omega)
    have hr1 := Int.emod_lt_of_pos n (show 0 < R by omega)
    obtain ⟨q, hq⟩ : ∃ q, q = n / R := ⟨_, rfl⟩
    obtain ⟨r, hr⟩ : ∃ r, r = n % R := ⟨_, rfl⟩
    rw [← hq, ← hr, Int.mul_comm] at e
    rw [← hr] at hr0 hr1
    rw [← hq, ← hr]
    have hlast : ∀ x, lp * dz - 1 ≤ x → lp - 1 ≤ x / dz := by
      intro x hx
      have h2 : (lp * dz - 1) / dz ≤ x / dz := Int.ediv_le_ediv (by omega) hx
      have h3 : (lp * dz - 1) / dz = lp - 1 := (dm_u (r := dz - 1) (by rw [Int.sub_mul]; omega) (by omega) (by omega)).1
      omega
    have hs1 : (q + 1) * R = q * R + R := by rw [Int.add_mul]; omega
    have hs2 : (q + 1) * lp = q * lp + lp := by rw [Int.add_mul]; omega
    constructor
    · rcases (show r + 1 < R ∨ R ≤ r + 1 by omega) with c | c
      · obtain ⟨g1, g2⟩ := dm_u (n := n + 1) (R := R) (q := q) (r := r + 1) (by omega) (by omega) c
        rw [g1, g2]
        have := div_1 (x := r) h0
        omega
      · obtain ⟨g1, g2⟩ := dm_u (n := n + 1) (R := R) (q := q + 1) (r := r + 1 - R) (by omega) (by omega) (by omega)
        rw [g1, g2, hs2]
        have h4 : (r + 1 - R) / dz = 0 := Int.ediv_eq_zero_of_lt (by omega) (by omega)
        rw [h4]
        have := hlast r (by omega)
        omega
    · rcases (show r + 2 < R ∨ R ≤ r + 2 by omega) with c | c
      · obtain ⟨g1, g2⟩ := dm_u (n := n + 2) (R := R) (q := q) (r := r + 2) (by omega) (by omega) c
        rw [g1, g2]
        have := div_2 (x := r) h0
        omega
      · obtain ⟨g1, g2⟩ := dm_u (n := n + 2) (R := R) (q := q + 1) (r := r + 2 - R) (by omega) (by omega) (by omega)
        rw [g1, g2, hs2]
        have h4 : (r + 2 - R) / dz = 0 := Int.ediv_eq_zero_of_lt (by omega) (by omega)
        rw [h4]
        have := hlast r (by omega)
        omega
theorem blA_m {dz lp n : Int} (h0 : 2 ≤ dz) (h1 : 0 ≤ lp ∧ lp ≤ 9) (hn : 0 ≤ n) : ∀ w : Nat, blA dz lp n ≤ blA dz lp (n + w)
  | 0 => by rw [show n + ((0 : Nat) : Int) = n by omega]; exact Int.le_refl _
  | w + 1 => by
    have h2 := blA_m h0 h1 hn w
    have h3 := (blA_k (n := n + (w : Int)) h0 h1 (by omega)).1
    rw [show n + ((w + 1 : Nat) : Int) = n + (w : Int) + 1 by omega]
    omega
theorem blA_e {dz lp n : Int} (h0 : 2 ≤ dz) (h1 : 0 ≤ lp ∧ lp ≤ 9) (hn : 0 ≤ n) : ∀ w : Nat, blA dz lp (n + 2 * (w : Int)) ≤ blA dz lp n + w
  | 0 => by rw [show n + 2 * ((0 : Nat) : Int) = n by omega]; omega
  | w + 1 => by
    have h2 := blA_e h0 h1 hn w
    have h3 := (blA_k (n := n + 2 * (w : Int)) h0 h1 (by omega)).2
    rw [show n + 2 * ((w + 1 : Nat) : Int) = n + 2 * (w : Int) + 2 by omega]
    omega
theorem blA_20 {dz lp n : Int} (h0 : 2 ≤ dz) (h1 : 0 ≤ lp ∧ lp ≤ 9) (hn : 0 ≤ n) {w : Nat} (hw : w ≤ 40) : 0 ≤ blA dz lp (n + w) - blA dz lp n ∧ blA dz lp (n + w) - blA dz lp n ≤ 20 := by
  have h2 := blA_m h0 h1 hn w
  have h3 := blA_m (n := n + (w : Int)) h0 h1 (by omega) (40 - w)
  have h4 := blA_e h0 h1 hn 20
  rw [show n + (w : Int) + ((40 - w : Nat) : Int) = n + 2 * ((20 : Nat) : Int) by omega] at h3
  omega
theorem geV_r {f : Fm} {n : Nat} {ov wa wt bk : Nat → Nat} {dz lp : Int} (h : MD f n ov wa wt bk) (h0 : 2 ≤ dz) (h1 : 0 ≤ lp ∧ lp ≤ 9) {s c : Nat} (hc : c < n) : 0 ≤ geV dz lp n ov wa bk s c ∧ geV dz lp n ov wa bk s c ≤ 20 := by
  unfold geV
  exact blA_20 h0 h1 (stV_r h hc).1 (h.w4 hc)
/-- how many of the first k claims are false if c gets gv -/
def clN (K : Nat → Int) (c : Nat) (gv : Int) : Nat → Nat
  | 0 => 0
  | k + 1 => clN K c gv k + if K (61 + 2 * k) = (c : Int) ∧ K (62 + 2 * k) ≠ gv then 1 else 0
theorem clN_s (K : Nat → Int) (c : Nat) (gv : Int) (k : Nat) : clN K c gv (k + 1) = clN K c gv k + if K (61 + 2 * k) = (c : Int) ∧ K (62 + 2 * k) ≠ gv then 1 else 0 := rfl
theorem clN_r (K : Nat → Int) (c : Nat) (gv : Int) : ∀ k, clN K c gv k ≤ k
  | 0 => Nat.le_refl _
  | k + 1 => by have := clN_r K c gv k; rw [clN_s]; split <;> omega
def abI (x : Int) : Int := if x < 0 then -x else x
/-- the measure of c getting gv -/
def msV (K : Nat → Int) (wa : Nat → Nat) (b c : Nat) (gv : Int) : Int := if b = 0 then (if 0 < gv then -1 else 0) else if b = 1 then abI (K (5 * c + 4) + (wa c : Int) - K 40 * (K (5 * c + 3) + gv)) else ((clN K c gv (K 79).toNat : Nat) : Int)
theorem mul20_r {x y : Int} (hx : 0 ≤ x ∧ x ≤ 20) (hy : -1000000 ≤ y ∧ y ≤ 1000000) : -20000000 ≤ x * y ∧ x * y ≤ 20000000 := by
  constructor
  · have h1 : x * (-1000000) ≤ x * y := Int.mul_le_mul_of_nonneg_left hy.1 hx.1
    omega
  · have h1 : x * y ≤ x * 1000000 := Int.mul_le_mul_of_nonneg_left hy.2 hx.1
    omega
theorem msV_r {K : Nat → Int} {D0 M0 : Int} {wa : Nat → Nat} {b c : Nat} {gv : Int} (hO : KO K D0 M0) (hc : c < 8) (hw : wa c ≤ 40) (hg : 0 ≤ gv ∧ gv ≤ 20) : -50000000 ≤ msV K wa b c gv ∧ msV K wa b c gv ≤ 50000000 := by
  have h1 := hO.f hc
  have h2 := hO.dz
  have h3 := mul20_r (x := K 40) (y := K (5 * c + 3) + gv) (by omega) (by omega)
  have h4 := hO.cm
  have h5 := clN_r K c gv (K 79).toNat
  unfold msV abI
  split
  · split <;> decide
  · split
    · split <;> omega
    · omega
/-- what it costs when i comes next after s -/
def coV (K : Nat → Int) (wa : Nat → Nat) (b : Nat) (dz lp : Int) (b0 b1 n a2 s i : Nat) : Int := msV K wa b i (max 0 (min (gnV dz lp b0 b1 wa n a2 s i) 20))
theorem co_ge {f : Fm} {K : Nat → Int} {n a2 b s c : Nat} {ov wa wt bk : Nat → Nat} {D0 M0 : Int} (hD : MD f n ov wa wt bk) (hO : KO K D0 M0) (ha : ∀ k, k < n → a2.testBit k = decide (ov k ≠ 0)) (hc : c < n) (hs : ¬ s.testBit c = true) : msV K wa b c (geV (K 40) (K 41) n ov wa bk s c) = coV K wa b (K 40) (K 41) (bk 0) (bk 1) n a2 s c := by
  unfold coV
  rw [gn_ge (ov := ov) (fun k hk => hD.o1 hk) ha hc hs]
  have := geV_r (s := s) hD hO.dz.1 hO.lp hc
  congr 1
  omega
theorem co_r {f : Fm} {K : Nat → Int} {n a2 b : Nat} {ov wa wt bk : Nat → Nat} {D0 M0 : Int} (hD : MD f n ov wa wt bk) (hO : KO K D0 M0) (s c : Nat) (hc : c < n) : -50000000 ≤ coV K wa b (K 40) (K 41) (bk 0) (bk 1) n a2 s c ∧ coV K wa b (K 40) (K 41) (bk 0) (bk 1) n a2 s c ≤ 50000000 := by
  unfold coV
  have := hD.n8
  exact msV_r hO (by omega) (hD.w4 hc) (by omega)
/-- the state of measures at the set s, when i customers are looked at -/
def msS (may : Nat → Nat → Bool) (co : Nat → Nat → Int) (bg : Bool) (n s i : Nat) : Int × Nat := if s = 2 ^ n - 1 then (0, 1) else lkF may co bg (tbL may co bg n) (tbW may co bg n) s i
theorem lkF_z {may : Nat → Nat → Bool} {co : Nat → Nat → Int} {bg : Bool} {Lt : Nat → Int} {Wt : Nat → Nat} {s : Nat} : ∀ k, (lkF may co bg Lt Wt s k).2 = 0 → (lkF may co bg Lt Wt s k).1 = 1000000000
  | 0, _ => by rw [lkF]
  | k + 1, h => by
    by_cases hq : may s k = true ∧ 0 < Wt (s ||| 2 ^ k)
    · rw [lkF_y hq] at h ⊢
      unfold lkS at h ⊢
      by_cases h1 : jnB bg (co s k) (Lt (s ||| 2 ^ k)) < (lkF may co bg Lt Wt s k).1
      · rw [if_pos h1] at h; have h2 : Wt (s ||| 2 ^ k) = 0 := h; omega
      · rw [if_neg h1] at h ⊢
        by_cases h2 : jnB bg (co s k) (Lt (s ||| 2 ^ k)) = (lkF may co bg Lt Wt s k).1
        · rw [if_pos h2] at h; have h3 : (lkF may co bg Lt Wt s k).2 + Wt (s ||| 2 ^ k) = 0 := h; omega
        · rw [if_neg h2] at h ⊢; exact lkF_z k h
    · rw [lkF_n hq] at h ⊢; exact lkF_z k h
theorem msS_n {may : Nat → Nat → Bool} {co : Nat → Nat → Int} {bg : Bool} {n s i : Nat} (h : ¬ (may s i = true ∧ 0 < tbW may co bg n (s ||| 2 ^ i))) : msS may co bg n s (i + 1) = msS may co bg n s i := by
  unfold msS
  split
  · rfl
  · exact lkF_n h
theorem msS_y {may : Nat → Nat → Bool} {co : Nat → Nat → Int} {bg : Bool} {n s i : Nat} (hs : ¬ s = 2 ^ n - 1) (h : may s i = true ∧ 0 < tbW may co bg n (s ||| 2 ^ i)) : msS may co bg n s (i + 1) = lkS (jnB bg (co s i) (tbL may co bg n (s ||| 2 ^ i))) (tbW may co bg n (s ||| 2 ^ i)) (msS may co bg n s i) := by
  unfold msS
  rw [if_neg hs, if_neg hs]
  exact lkF_y h
theorem msS_e {may : Nat → Nat → Bool} {co : Nat → Nat → Int} {bg : Bool} {n s : Nat} (hm : ∀ i, i < n → may s i = true → ¬ s.testBit i = true) (hs : s ≤ 2 ^ n - 1) : msS may co bg n s n = (tbL may co bg n s, tbW may co bg n s) := by
  unfold msS
  split
  · rename_i h; rw [h, tb_all.1, tb_all.2]
  · exact tb_rec hm (by omega)
theorem msS_r {may : Nat → Nat → Bool} {co : Nat → Nat → Int} {bg : Bool} {n s i : Nat} (hn : n ≤ 8) (hc : ∀ s i, i < n → -50000000 ≤ co s i ∧ co s i ≤ 50000000) (hi : i ≤ n) : (-1000000000 ≤ (msS may co bg n s i).1 ∧ (msS may co bg n s i).1 ≤ 1000000000) ∧ (msS may co bg n s i).2 ≤ 134217728 ∧ ((msS may co bg n s i).2 = 0 → (msS may co bg n s i).1 = 1000000000) := by
  unfold msS
  split
  · exact ⟨by decide, by decide, fun h => absurd h (by decide)⟩
  · refine ⟨lkF_r i (fun q hq => by have := hc s q (by omega); omega) (fun q hq hw => by have := tbL_r hn hc hw; omega), ?_, lkF_z i⟩
    have := lkF_w (may := may) (co := co) (bg := bg) (Lt := tbL may co bg n) (Wt := tbW may co bg n) (s := s) (B := 16777216) (fun i => tbW_r hn _) i
    have h2 : i * 16777216 ≤ 8 * 16777216 := Nat.mul_le_mul_right _ (by omega)
    omega
theorem all_bit {n i : Nat} (hi : i < n) : (2 ^ n - 1).testBit i = true := by rw [Nat.testBit_two_pow_sub_one, decide_eq_true hi]

set_option maxRecDepth 100000 in
set_option maxHeartbeats 4000000 in
theorem m_measure (l : Launch) (z : Zv) (d : Nat) {g : Gm} {f : Fm} {s c : Nat} {n a2 b : Nat} {ov wa wt bk : Nat → Nat} {K : Nat → Int} {D0 M0 : Int} (hM : ML g) (hD : MD f n ov wa wt bk) (hK : f 166 = K) (hO : KO K D0 M0) (hb2 : b ≤ 2) (hs : s < 2147483648) (hc : c < n) : PM l z (d + 3) mX11_measure [.ref 164, .int (iI ((b : Nat) : Int)), .int (iI ((s : Nat) : Int)), .int (iI ((c : Nat) : Int))] g f 0 0 (rdQ (.int (iI (msV K wa b c (geV (K 40) (K 41) n ov wa bk s c)))) g f) := by
  have hn8 := hD.n8
  have hgr := geV_r (s := s) hD hO.dz.1 hO.lp hc
  have hcm := hO.cm
  refine PM.of (by decide +kernel) (Nat.le_of_ble_eq_true rfl) ?_
  have loop : ∀ m k : Nat, m = (K 79).toNat - k → k ≤ (K 79).toNat → 2 ≤ b → PW l z (d + 3) mX11_measure 0 0 (rdQ (.int (iI (msV K wa b c (geV (K 40) (K 41) n ov wa bk s c)))) g f) 81 [(6, (.int (iI (((k : Nat) : Int))))), (5, (.int (iI (((clN K c (geV (K 40) (K 41) n ov wa bk s c) k : Nat) : Int))))), (4, (.int (iI (geV (K 40) (K 41) n ov wa bk s c)))), (0, (.ref 164)), (1, (.int (iI (((b : Nat) : Int))))), (2, (.int (iI (((s : Nat) : Int))))), (3, (.int (iI (((c : Nat) : Int)))))] [] g f 0 0 := by
    intro m
    induction m using Nat.strongRecOn with
    | _ m ih =>
      intro k hm hk hbb
      refine r_iload (pc := 81) 0 dX11_measure_81 rfl ?_
      refine r_aload_n (pc := 83) 3 dX11_measure_83 rfl rfl ?_
      refine r_getR (pc := 84) (b := 166) dX11_measure_84 fl_X11_17 rfl hM.k hM.r2 ?_
      refine r_bipush (pc := 87) dX11_measure_87 (by decide) ?_
      refine r_ialdv (pc := 89) (w := K 79) dX11_measure_89 hM.a2 (by decide) (by decide) (congrFun hK _) ?_
      refine r_icmp_ge (pc := 90) (tgt := 144) dX11_measure_90 (by decide) (by omega) (by omega) (fun c_90 => ?_) (fun c_90 => ?_)
      · refine r_iload (pc := 144) 1 dX11_measure_144 rfl ?_
        have hke : k = (K 79).toNat := by omega
        exact r_iret (pc := 146) dX11_measure_146 rfl rfl ⟨by unfold msV; rw [if_neg (by omega), if_neg (by omega), hke], rfl, rfl⟩
      · have h77 := hO.n
        have hck := hO.ci k (by omega)
        have hcr := clN_r K c (geV (K 40) (K 41) n ov wa bk s c) k
        refine r_iload (pc := 93) 1 dX11_measure_93 rfl ?_
        refine r_aload_n (pc := 95) 3 dX11_measure_95 rfl rfl ?_
        refine r_getR (pc := 96) (b := 166) dX11_measure_96 fl_X11_17 rfl hM.k hM.r2 ?_
        refine r_bipush (pc := 99) dX11_measure_99 (by decide) ?_
        refine r_iconst (pc := 101) dX11_measure_101 ?_
        refine r_iload (pc := 102) 0 dX11_measure_102 rfl ?_
        refine r_imul (pc := 104) dX11_measure_104 ?_
        refine r_eqI (y := ((2 * k : Nat) : Int)) (Int.natCast_mul _ _ |>.symm) ?_
        refine r_iadd (pc := 105) dX11_measure_105 ?_
        refine r_eqI (y := ((61 + 2 * k : Nat) : Int)) (by omega) ?_
        refine r_ialdv (pc := 106) (w := K (61 + 2 * k)) dX11_measure_106 hM.a2 (by omega) (by decide) (congrFun hK _) ?_
        refine r_iload_n (pc := 107) 6 dX11_measure_107 rfl rfl ?_
        refine r_icmp_ne (pc := 108) (tgt := 134) dX11_measure_108 (by decide) (by omega) (by omega) (fun c_108 => ?_) (fun c_108 => ?_)
        · refine r_iconst (pc := 134) dX11_measure_134 ?_
          refine r_iadd (pc := 135) dX11_measure_135 ?_
          refine r_eqI (y := ((clN K c (geV (K 40) (K 41) n ov wa bk s c) k + 0 : Nat) : Int)) (Int.natCast_add _ _ |>.symm) ?_
          refine r_istore (pc := 136) (L2 := [(5, (.int (iI (((clN K c (geV (K 40) (K 41) n ov wa bk s c) k + 0 : Nat) : Int))))), (6, (.int (iI (((k : Nat) : Int))))), (4, (.int (iI (geV (K 40) (K 41) n ov wa bk s c)))), (0, (.ref 164)), (1, (.int (iI (((b : Nat) : Int))))), (2, (.int (iI (((s : Nat) : Int))))), (3, (.int (iI (((c : Nat) : Int)))))]) dX11_measure_136 (by decide) rfl ?_
          refine r_iincv (pc := 138) (y := ((k + 1 : Nat) : Int)) (L2 := [(6, (.int (iI (((k + 1 : Nat) : Int))))), (5, (.int (iI (((clN K c (geV (K 40) (K 41) n ov wa bk s c) k + 0 : Nat) : Int))))), (4, (.int (iI (geV (K 40) (K 41) n ov wa bk s c)))), (0, (.ref 164)), (1, (.int (iI (((b : Nat) : Int))))), (2, (.int (iI (((s : Nat) : Int))))), (3, (.int (iI (((c : Nat) : Int)))))]) 1 dX11_measure_138 rfl (by omega) (by decide) rfl ?_
          refine r_goto (pc := 141) (tgt := 81) dX11_measure_141 (by decide) ?_
          refine r_sub (L2 := [(6, (.int (iI (((k + 1 : Nat) : Int))))), (5, (.int (iI (((clN K c (geV (K 40) (K 41) n ov wa bk s c) (k + 1) : Nat) : Int))))), (4, (.int (iI (geV (K 40) (K 41) n ov wa bk s c)))), (0, (.ref 164)), (1, (.int (iI (((b : Nat) : Int))))), (2, (.int (iI (((s : Nat) : Int))))), (3, (.int (iI (((c : Nat) : Int)))))]) [0, 1, 2, 3, 4, 5, 6] (by rw [clN_s, if_neg (fun h => by obtain ⟨h1, h2⟩ := h; omega)]; rfl) ?_
          exact ih ((K 79).toNat - (k + 1)) (by omega) (k + 1) (by omega) (by omega) (by omega)
        · refine r_aload_n (pc := 111) 3 dX11_measure_111 rfl rfl ?_
          refine r_getR (pc := 112) (b := 166) dX11_measure_112 fl_X11_17 rfl hM.k hM.r2 ?_
          refine r_bipush (pc := 115) dX11_measure_115 (by decide) ?_
          refine r_iconst (pc := 117) dX11_measure_117 ?_
          refine r_iload (pc := 118) 0 dX11_measure_118 rfl ?_
          refine r_imul (pc := 120) dX11_measure_120 ?_
          refine r_eqI (y := ((2 * k : Nat) : Int)) (Int.natCast_mul _ _ |>.symm) ?_
          refine r_iadd (pc := 121) dX11_measure_121 ?_
          refine r_eqI (y := ((61 + (2 * k) : Nat) : Int)) (Int.natCast_add _ _ |>.symm) ?_
          refine r_iconst (pc := 122) dX11_measure_122 ?_
          refine r_iadd (pc := 123) dX11_measure_123 ?_
          refine r_eqI (y := ((62 + 2 * k : Nat) : Int)) (by omega) ?_
          refine r_ialdv (pc := 124) (w := K (62 + 2 * k)) dX11_measure_124 hM.a2 (by omega) (by decide) (congrFun hK _) ?_
          refine r_iload (pc := 125) 2 dX11_measure_125 rfl ?_
          refine r_icmp_eq (pc := 127) (tgt := 134) dX11_measure_127 (by decide) (by omega) (by omega) (fun c_127 => ?_) (fun c_127 => ?_)
          · refine r_iconst (pc := 134) dX11_measure_134 ?_
            refine r_iadd (pc := 135) dX11_measure_135 ?_
            refine r_eqI (y := ((clN K c (geV (K 40) (K 41) n ov wa bk s c) k + 0 : Nat) : Int)) (Int.natCast_add _ _ |>.symm) ?_
            refine r_istore (pc := 136) (L2 := [(5, (.int (iI (((clN K c (geV (K 40) (K 41) n ov wa bk s c) k + 0 : Nat) : Int))))), (6, (.int (iI (((k : Nat) : Int))))), (4, (.int (iI (geV (K 40) (K 41) n ov wa bk s c)))), (0, (.ref 164)), (1, (.int (iI (((b : Nat) : Int))))), (2, (.int (iI (((s : Nat) : Int))))), (3, (.int (iI (((c : Nat) : Int)))))]) dX11_measure_136 (by decide) rfl ?_
            refine r_iincv (pc := 138) (y := ((k + 1 : Nat) : Int)) (L2 := [(6, (.int (iI (((k + 1 : Nat) : Int))))), (5, (.int (iI (((clN K c (geV (K 40) (K 41) n ov wa bk s c) k + 0 : Nat) : Int))))), (4, (.int (iI (geV (K 40) (K 41) n ov wa bk s c)))), (0, (.ref 164)), (1, (.int (iI (((b : Nat) : Int))))), (2, (.int (iI (((s : Nat) : Int))))), (3, (.int (iI (((c : Nat) : Int)))))]) 1 dX11_measure_138 rfl (by omega) (by decide) rfl ?_
            refine r_goto (pc := 141) (tgt := 81) dX11_measure_141 (by decide) ?_
            refine r_sub (L2 := [(6, (.int (iI (((k + 1 : Nat) : Int))))), (5, (.int (iI (((clN K c (geV (K 40) (K 41) n ov wa bk s c) (k + 1) : Nat) : Int))))), (4, (.int (iI (geV (K 40) (K 41) n ov wa bk s c)))), (0, (.ref 164)), (1, (.int (iI (((b : Nat) : Int))))), (2, (.int (iI (((s : Nat) : Int))))), (3, (.int (iI (((c : Nat) : Int)))))]) [0, 1, 2, 3, 4, 5, 6] (by rw [clN_s, if_neg (fun h => by obtain ⟨h1, h2⟩ := h; omega)]; rfl) ?_
            exact ih ((K 79).toNat - (k + 1)) (by omega) (k + 1) (by omega) (by omega) (by omega)
          · refine r_iconst (pc := 130) dX11_measure_130 ?_
            refine r_goto (pc := 131) (tgt := 135) dX11_measure_131 (by decide) ?_
            refine r_iadd (pc := 135) dX11_measure_135 ?_
            refine r_eqI (y := ((clN K c (geV (K 40) (K 41) n ov wa bk s c) k + 1 : Nat) : Int)) (Int.natCast_add _ _ |>.symm) ?_
            refine r_istore (pc := 136) (L2 := [(5, (.int (iI (((clN K c (geV (K 40) (K 41) n ov wa bk s c) k + 1 : Nat) : Int))))), (6, (.int (iI (((k : Nat) : Int))))), (4, (.int (iI (geV (K 40) (K 41) n ov wa bk s c)))), (0, (.ref 164)), (1, (.int (iI (((b : Nat) : Int))))), (2, (.int (iI (((s : Nat) : Int))))), (3, (.int (iI (((c : Nat) : Int)))))]) dX11_measure_136 (by decide) rfl ?_
            refine r_iincv (pc := 138) (y := ((k + 1 : Nat) : Int)) (L2 := [(6, (.int (iI (((k + 1 : Nat) : Int))))), (5, (.int (iI (((clN K c (geV (K 40) (K 41) n ov wa bk s c) k + 1 : Nat) : Int))))), (4, (.int (iI (geV (K 40) (K 41) n ov wa bk s c)))), (0, (.ref 164)), (1, (.int (iI (((b : Nat) : Int))))), (2, (.int (iI (((s : Nat) : Int))))), (3, (.int (iI (((c : Nat) : Int)))))]) 1 dX11_measure_138 rfl (by omega) (by decide) rfl ?_
            refine r_goto (pc := 141) (tgt := 81) dX11_measure_141 (by decide) ?_
            refine r_sub (L2 := [(6, (.int (iI (((k + 1 : Nat) : Int))))), (5, (.int (iI (((clN K c (geV (K 40) (K 41) n ov wa bk s c) (k + 1) : Nat) : Int))))), (4, (.int (iI (geV (K 40) (K 41) n ov wa bk s c)))), (0, (.ref 164)), (1, (.int (iI (((b : Nat) : Int))))), (2, (.int (iI (((s : Nat) : Int))))), (3, (.int (iI (((c : Nat) : Int)))))]) [0, 1, 2, 3, 4, 5, 6] (by rw [clN_s, if_pos ⟨by omega, by omega⟩]; rfl) ?_
            exact ih ((K 79).toNat - (k + 1)) (by omega) (k + 1) (by omega) (by omega) (by omega)
  refine r_aload_n (pc := 0) 0 dX11_measure_0 rfl rfl ?_
  refine r_iload_n (pc := 1) 2 dX11_measure_1 rfl rfl ?_
  refine r_iload_n (pc := 2) 3 dX11_measure_2 rfl rfl ?_
  refine r_callV (pc := 3) (As := [(.int (iI (((s : Nat) : Int)))), (.int (iI (((c : Nat) : Int))))]) (S := []) dX11_measure_3 cv_X11_299 hM.k rfl (Nat.le_of_ble_eq_true rfl) (m_getsOf l z _ hM hD (congrFun hK 40) (congrFun hK 41) hO.dz hO.lp hs hc) (Nat.zero_le _) (Nat.zero_le _) (fun r_3 g_3 f_3 q_3 => ?_)
  obtain ⟨rfl, rfl, rfl⟩ := q_3
  refine r_istore (pc := 6) (L2 := [(4, (.int (iI (geV (K 40) (K 41) n ov wa bk s c)))), (0, (.ref 164)), (1, (.int (iI (((b : Nat) : Int))))), (2, (.int (iI (((s : Nat) : Int))))), (3, (.int (iI (((c : Nat) : Int)))))]) dX11_measure_6 (by decide) rfl ?_
  refine r_iload_n (pc := 8) 2 dX11_measure_8 rfl rfl ?_
  refine r_if_ne (pc := 9) (tgt := 23) dX11_measure_9 (by decide) (by omega) (fun c_9 => ?_) (fun c_9 => ?_)
  · refine r_iload_n (pc := 23) 2 dX11_measure_23 rfl rfl ?_
    refine r_iconst (pc := 24) dX11_measure_24 ?_
    refine r_icmp_ne (pc := 25) (tgt := 75) dX11_measure_25 (by decide) (by omega) (by omega) (fun c_25 => ?_) (fun c_25 => ?_)
    · refine r_iconst (pc := 75) dX11_measure_75 ?_
      refine r_istore (pc := 76) (L2 := [(5, (.int (iI (0)))), (4, (.int (iI (geV (K 40) (K 41) n ov wa bk s c)))), (0, (.ref 164)), (1, (.int (iI (((b : Nat) : Int))))), (2, (.int (iI (((s : Nat) : Int))))), (3, (.int (iI (((c : Nat) : Int)))))]) dX11_measure_76 (by decide) rfl ?_
      refine r_iconst (pc := 78) dX11_measure_78 ?_
      refine r_istore (pc := 79) (L2 := [(6, (.int (iI (0)))), (5, (.int (iI (0)))), (4, (.int (iI (geV (K 40) (K 41) n ov wa bk s c)))), (0, (.ref 164)), (1, (.int (iI (((b : Nat) : Int))))), (2, (.int (iI (((s : Nat) : Int))))), (3, (.int (iI (((c : Nat) : Int)))))]) dX11_measure_79 (by decide) rfl ?_
      refine r_sub (L2 := [(6, (.int (iI (((0 : Nat) : Int))))), (5, (.int (iI (((clN K c (geV (K 40) (K 41) n ov wa bk s c) 0 : Nat) : Int))))), (4, (.int (iI (geV (K 40) (K 41) n ov wa bk s c)))), (0, (.ref 164)), (1, (.int (iI (((b : Nat) : Int))))), (2, (.int (iI (((s : Nat) : Int))))), (3, (.int (iI (((c : Nat) : Int)))))]) [0, 1, 2, 3, 4, 5, 6] rfl ?_
      exact loop (K 79).toNat 0 (by omega) (by omega) (by omega)
    · refine r_aload_n (pc := 28) 1 dX11_measure_28 rfl rfl ?_
      refine r_iload_n (pc := 29) 4 dX11_measure_29 rfl rfl ?_
      refine r_iconst (pc := 30) dX11_measure_30 ?_
      refine r_callV (pc := 31) (As := [(.int (iI (((c : Nat) : Int)))), (.int (iI (4)))]) (S := []) dX11_measure_31 cv_X11_138 hM.k rfl (Nat.le_of_ble_eq_true rfl) (m_fact (c := c) (w := 4) (v := K (5 * c + 4)) l z _ hM (by omega) (by decide) (congrFun hK _)) (Nat.zero_le _) (Nat.zero_le _) (fun r_31 g_31 f_31 q_31 => ?_)
      obtain ⟨rfl, rfl, rfl⟩ := q_31
      refine r_aload_n (pc := 34) 1 dX11_measure_34 rfl rfl ?_
      refine r_getR (pc := 35) (b := 176) dX11_measure_35 fl_X11_52 rfl hM.k hM.r24 ?_
      refine r_iload_n (pc := 38) 4 dX11_measure_38 rfl rfl ?_
      refine r_ialdv (pc := 39) (w := ((wa c : Nat) : Int)) dX11_measure_39 hM.a24 (by omega) (by decide) ((hD.2.2.2.1 c hc).1) ?_
      refine r_iadd (pc := 40) dX11_measure_40 ?_
      refine r_aload_n (pc := 41) 1 dX11_measure_41 rfl rfl ?_
      refine r_getR (pc := 42) (b := 166) dX11_measure_42 fl_X11_17 rfl hM.k hM.r2 ?_
      refine r_bipush (pc := 45) dX11_measure_45 (by decide) ?_
      refine r_ialdv (pc := 47) (w := K 40) dX11_measure_47 hM.a2 (by decide) (by decide) (congrFun hK _) ?_
      refine r_aload_n (pc := 48) 1 dX11_measure_48 rfl rfl ?_
      refine r_iload_n (pc := 49) 4 dX11_measure_49 rfl rfl ?_
      refine r_iconst (pc := 50) dX11_measure_50 ?_
      refine r_callV (pc := 51) (As := [(.int (iI (((c : Nat) : Int)))), (.int (iI (3)))]) (S := [(.int (iI (K 40))), (.int (iI ((K (5 * c + 4)) + (((wa c : Nat) : Int)))))]) dX11_measure_51 cv_X11_138 hM.k rfl (Nat.le_of_ble_eq_true rfl) (m_fact (c := c) (w := 3) (v := K (5 * c + 3)) l z _ hM (by omega) (by decide) (congrFun hK _)) (Nat.zero_le _) (Nat.zero_le _) (fun r_51 g_51 f_51 q_51 => ?_)
      obtain ⟨rfl, rfl, rfl⟩ := q_51
      refine r_iload (pc := 54) 0 dX11_measure_54 rfl ?_
      refine r_iadd (pc := 56) dX11_measure_56 ?_
      refine r_imul (pc := 57) dX11_measure_57 ?_
      refine r_isub (pc := 58) dX11_measure_58 ?_
      refine r_istore (pc := 59) (L2 := [(5, (.int (iI (((K (5 * c + 4)) + (((wa c : Nat) : Int))) - ((K 40) * ((K (5 * c + 3)) + (geV (K 40) (K 41) n ov wa bk s c))))))), (4, (.int (iI (geV (K 40) (K 41) n ov wa bk s c)))), (0, (.ref 164)), (1, (.int (iI (((b : Nat) : Int))))), (2, (.int (iI (((s : Nat) : Int))))), (3, (.int (iI (((c : Nat) : Int)))))]) dX11_measure_59 (by decide) rfl ?_
      have hcf := hO.f (c := c) (by omega)
      have hdz := hO.dz
      have hmr := mul20_r (x := K 40) (y := K (5 * c + 3) + geV (K 40) (K 41) n ov wa bk s c) (by omega) (by omega)
      have hw4 := hD.w4 hc
      refine r_iload (pc := 61) 0 dX11_measure_61 rfl ?_
      refine r_if_ge (pc := 63) (tgt := 72) dX11_measure_63 (by decide) (by omega) (fun c_63 => ?_) (fun c_63 => ?_)
      · refine r_iload (pc := 72) 0 dX11_measure_72 rfl ?_
        exact r_iret (pc := 74) dX11_measure_74 rfl rfl ⟨by unfold msV abI; rw [if_neg (by omega), if_pos (by omega), if_neg (by omega)], rfl, rfl⟩
      · refine r_iload (pc := 66) 0 dX11_measure_66 rfl ?_
        refine r_ineg (pc := 68) dX11_measure_68 ?_
        refine r_goto (pc := 69) (tgt := 74) dX11_measure_69 (by decide) ?_
        exact r_iret (pc := 74) dX11_measure_74 rfl rfl ⟨by unfold msV abI; rw [if_neg (by omega), if_pos (by omega), if_pos (by omega)], rfl, rfl⟩
  · refine r_iload (pc := 12) 0 dX11_measure_12 rfl ?_
    refine r_if_le (pc := 14) (tgt := 21) dX11_measure_14 (by decide) (by omega) (fun c_14 => ?_) (fun c_14 => ?_)
    · refine r_iconst (pc := 21) dX11_measure_21 ?_
      exact r_iret (pc := 22) dX11_measure_22 rfl rfl ⟨by unfold msV; rw [if_pos (by omega), if_neg (by omega)], rfl, rfl⟩
    · refine r_iconst (pc := 17) dX11_measure_17 ?_
      refine r_goto (pc := 18) (tgt := 22) dX11_measure_18 (by decide) ?_
      exact r_iret (pc := 22) dX11_measure_22 rfl rfl ⟨by unfold msV; rw [if_pos (by omega), if_pos (by omega)], rfl, rfl⟩

set_option maxRecDepth 100000 in
set_option maxHeartbeats 4000000 in
theorem m_joined (l : Launch) (z : Zv) (d : Nat) {g : Gm} {f : Fm} {b : Nat} {x y : Int} (hb : b ≤ 2) (hx : -1000000000 ≤ x ∧ x ≤ 1000000000) (hy : -1000000000 ≤ y ∧ y ≤ 1000000000) : PM l z (d + 1) mX11_joined [(.int (iI (((b : Nat) : Int)))), (.int (iI (x))), (.int (iI (y)))] g f 0 0 (rdQ (.int (iI (jnB (decide (b = 1)) x y))) g f) := by
  refine PM.of (by decide +kernel) (Nat.le_of_ble_eq_true rfl) ?_
  refine r_iload_n (pc := 0) 0 dX11_joined_0 rfl rfl ?_
  refine r_iconst (pc := 1) dX11_joined_1 ?_
  refine r_icmp_ne (pc := 2) (tgt := 13) dX11_joined_2 (by decide) (by omega) (by omega) (fun c_2 => ?_) (fun c_2 => ?_)
  · refine r_iload_n (pc := 13) 1 dX11_joined_13 rfl rfl ?_
    refine r_iload_n (pc := 14) 2 dX11_joined_14 rfl rfl ?_
    refine r_iadd (pc := 15) dX11_joined_15 ?_
    exact r_iret (pc := 16) dX11_joined_16 rfl rfl ⟨by unfold jnB; rw [if_neg (by simp only [decide_eq_true_eq]; omega)], rfl, rfl⟩
  · refine r_iload_n (pc := 5) 1 dX11_joined_5 rfl rfl ?_
    refine r_iload_n (pc := 6) 2 dX11_joined_6 rfl rfl ?_
    refine r_callS (pc := 7) (As := [(.int (iI (x))), (.int (iI (y)))]) (S := []) dX11_joined_7 cs_X11_311 rfl (Nat.le_of_ble_eq_true rfl) (m_greater l z _ (by omega) (by omega)) (Nat.zero_le _) (Nat.zero_le _) (fun r_7 g_7 f_7 q_7 => ?_)
    obtain ⟨rfl, rfl, rfl⟩ := q_7
    refine r_goto (pc := 10) (tgt := 16) dX11_joined_10 (by decide) ?_
    exact r_iret (pc := 16) dX11_joined_16 rfl rfl ⟨by unfold jnB; rw [if_pos (decide_eq_true (by omega))], rfl, rfl⟩

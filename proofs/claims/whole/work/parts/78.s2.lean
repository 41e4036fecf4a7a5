theorem nx_out {wt : Nat → Nat} {n s i : Nat} (hi : i < n) (h : (nxM wt n s).testBit i = true) : ¬ s.testBit i = true := ((nx_may hi).mp h).1
def jnB (bg : Bool) (x y : Int) : Int := if bg = true then max x y else x + y
/-- the least cost from a set on, and in how many ways: over the customers i < k that may come next -/
def lkS (v : Int) (w : Nat) (a : Int × Nat) : Int × Nat := if v < a.1 then (v, w) else if v = a.1 then (a.1, a.2 + w) else a
def lkF (may : Nat → Nat → Bool) (co : Nat → Nat → Int) (bg : Bool) (Lt : Nat → Int) (Wt : Nat → Nat) (s : Nat) : Nat → Int × Nat
  | 0 => (1000000000, 0)
  | k + 1 => if may s k = true ∧ 0 < Wt (s ||| 2 ^ k) then lkS (jnB bg (co s k) (Lt (s ||| 2 ^ k))) (Wt (s ||| 2 ^ k)) (lkF may co bg Lt Wt s k) else lkF may co bg Lt Wt s k
theorem lkF_n {may : Nat → Nat → Bool} {co : Nat → Nat → Int} {bg : Bool} {Lt : Nat → Int} {Wt : Nat → Nat} {s k : Nat} (h : ¬ (may s k = true ∧ 0 < Wt (s ||| 2 ^ k))) : lkF may co bg Lt Wt s (k + 1) = lkF may co bg Lt Wt s k := by rw [lkF, if_neg h]
theorem lkF_y {may : Nat → Nat → Bool} {co : Nat → Nat → Int} {bg : Bool} {Lt : Nat → Int} {Wt : Nat → Nat} {s k : Nat} (h : may s k = true ∧ 0 < Wt (s ||| 2 ^ k)) : lkF may co bg Lt Wt s (k + 1) = lkS (jnB bg (co s k) (Lt (s ||| 2 ^ k))) (Wt (s ||| 2 ^ k)) (lkF may co bg Lt Wt s k) := by rw [lkF, if_pos h]
theorem jnB_r {bg : Bool} {x y : Int} (hx : -500000000 ≤ x ∧ x ≤ 500000000) (hy : -500000000 ≤ y ∧ y ≤ 500000000) : -1000000000 ≤ jnB bg x y ∧ jnB bg x y ≤ 1000000000 := by
  unfold jnB
  split <;> omega
theorem lkF_r {may : Nat → Nat → Bool} {co : Nat → Nat → Int} {bg : Bool} {Lt : Nat → Int} {Wt : Nat → Nat} {s : Nat} : ∀ k, (∀ i, i < k → -500000000 ≤ co s i ∧ co s i ≤ 500000000) → (∀ i, i < k → 0 < Wt (s ||| 2 ^ i) → -500000000 ≤ Lt (s ||| 2 ^ i) ∧ Lt (s ||| 2 ^ i) ≤ 500000000) → -1000000000 ≤ (lkF may co bg Lt Wt s k).1 ∧ (lkF may co bg Lt Wt s k).1 ≤ 1000000000
  | 0, _, _ => by rw [lkF]; decide
  | k + 1, h1, h2 => by
    have ih := lkF_r (may := may) (bg := bg) k (fun i hi => h1 i (by omega)) (fun i hi => h2 i (by omega))
    rw [lkF]
    split
    · rename_i hq
      have := jnB_r (bg := bg) (h1 k (by omega)) (h2 k (by omega) hq.2)
      unfold lkS
      split
      · exact this
      · split <;> exact ih
    · exact ih

set_option maxRecDepth 100000 in
set_option maxHeartbeats 4000000 in
theorem x_lookFrom (l : Launch) (z : Zv) (d : Nat) {g : Gm} {f : Fm} {e y n a2 b0 b1 s : Nat} {wa wt : Nat → Nat} {dz lp : Int} {co : Nat → Nat → Int} {bg : Bool} {Lt : Nat → Int} {Wt : Nat → Nat} (hE : EL g e) (hY : DL g y) (hL : DYo f y n a2 wa wt dz lp b0 b1) (h0 : 2 ≤ dz ∧ dz ≤ 20) (h1 : 0 ≤ lp ∧ lp ≤ 9) (hb : b0 ≤ 1100000 ∧ b1 ≤ 1100000) (hs : s < 2 ^ n) (hco : ∀ i, i < n → f (e + 1) (21 * i + (max (0) (min (gnV dz lp b0 b1 wa n a2 s i) (20))).toNat) = co s i ∧ -500000000 ≤ co s i ∧ co s i ≤ 500000000) (hLt : ∀ u, s < u → u < 2 ^ n → f (e + 2) u = Lt u) (hWt : ∀ u, s < u → u < 2 ^ n → f (e + 3) u = ((Wt u : Nat) : Int)) (hLr : ∀ i, i < n → 0 < Wt (s ||| 2 ^ i) → -500000000 ≤ Lt (s ||| 2 ^ i) ∧ Lt (s ||| 2 ^ i) ≤ 500000000) (hWr : ∀ i, i < n → Wt (s ||| 2 ^ i) ≤ 16777216) : PM l z (d + 2) mX6_lookFrom [.ref e, .ref y, .int (iI ((s : Nat) : Int)), .int (iI (b01 (bg = true)))] g f 0 0 (fun r g' f' => r = none ∧ g = g' ∧ stF (stF f (e + 2) s (lkF (fun s i => (nxM wt n s).testBit i) co bg Lt Wt s n).1) (e + 3) s ((lkF (fun s i => (nxM wt n s).testBit i) co bg Lt Wt s n).2 : Int) = f') := by
  have hn8 := hL.1.1
  have hp8 := pow8 hn8
  refine PM.of (by decide +kernel) (Nat.le_of_ble_eq_true rfl) ?_
  have loop : ∀ m i : Nat, m = n - i → i ≤ n → PW l z (d + 2) mX6_lookFrom 0 0 (fun r g' f' => r = none ∧ g = g' ∧ stF (stF f (e + 2) s (lkF (fun s i => (nxM wt n s).testBit i) co bg Lt Wt s n).1) (e + 3) s ((lkF (fun s i => (nxM wt n s).testBit i) co bg Lt Wt s n).2 : Int) = f') 18 [(7, (.int (iI (((i : Nat) : Int))))), (5, (.int (iI ((((lkF (fun s i => (nxM wt n s).testBit i) co bg Lt Wt s i).2 : Nat) : Int))))), (4, (.int (iI ((lkF (fun s i => (nxM wt n s).testBit i) co bg Lt Wt s i).1)))), (6, (.int (iI (((nxM wt n s : Nat) : Int))))), (0, (.ref e)), (1, (.ref y)), (2, (.int (iI (((s : Nat) : Int))))), (3, (.int (iI (b01 (bg = true)))))] [] g f 0 0 := by
    intro m
    induction m using Nat.strongRecOn with
    | _ m ih =>
      intro i hm hi
      refine r_iload (pc := 18) 0 dX6_lookFrom_18 rfl ?_
      refine r_aload_n (pc := 20) 5 dX6_lookFrom_20 rfl rfl ?_
      refine r_getIv (pc := 21) (x := ((n : Nat) : Int)) dX6_lookFrom_21 fl_X6_53 rfl hY.k (hL.1.2.1) ?_
      refine r_icmp_ge (pc := 24) (tgt := 124) dX6_lookFrom_24 (by decide) (by omega) (by omega) (fun c_24 => ?_) (fun c_24 => ?_)
      · refine r_aload_n (pc := 124) 4 dX6_lookFrom_124 rfl rfl ?_
        refine r_getR (pc := 125) (b := (e + 2)) dX6_lookFrom_125 fl_X6_15 rfl hE.k hE.r1 ?_
        refine r_iload_n (pc := 128) 6 dX6_lookFrom_128 rfl rfl ?_
        refine r_iload (pc := 129) 2 dX6_lookFrom_129 rfl ?_
        refine r_iastv (pc := 131) (i := s) dX6_lookFrom_131 hE.a1 (by omega) (by decide) rfl ?_
        refine r_aload_n (pc := 132) 4 dX6_lookFrom_132 rfl rfl ?_
        refine r_getR (pc := 133) (b := (e + 3)) dX6_lookFrom_133 fl_X6_18 rfl hE.k hE.r2 ?_
        refine r_iload_n (pc := 136) 6 dX6_lookFrom_136 rfl rfl ?_
        refine r_iload (pc := 137) 1 dX6_lookFrom_137 rfl ?_
        refine r_iastv (pc := 139) (i := s) dX6_lookFrom_139 hE.a2 (by omega) (by decide) rfl ?_
        have hin : i = n := by omega
        subst hin
        exact r_vret (pc := 140) dX6_lookFrom_140 rfl ⟨rfl, rfl, rfl⟩
      · have hou := or_lt (i := i) hs (by omega)
        have hnx2 : nxM wt n s < 256 := wmk_8 (nxP wt s) (n := n) hn8
        have hlr := lkF_r (may := fun s i => (nxM wt n s).testBit i) (co := co) (bg := bg) (Lt := Lt) (Wt := Wt) (s := s) i (fun q hq => (hco q (by omega)).2) (fun q hq => hLr q (by omega))
        refine r_iload_n (pc := 27) 6 dX6_lookFrom_27 rfl rfl ?_
        refine r_iconst (pc := 28) dX6_lookFrom_28 ?_
        refine r_iload (pc := 29) 0 dX6_lookFrom_29 rfl ?_
        refine r_ishl (pc := 31) (w := ((2 ^ i : Nat) : Int)) dX6_lookFrom_31  (iI_shl1 (by omega)) ?_
        refine r_ior (pc := 32) (w := ((s ||| (2 ^ i) : Nat) : Int)) dX6_lookFrom_32  (iI_or _ _) ?_
        refine r_istore (pc := 33) (L2 := [(8, (.int (iI (((s ||| (2 ^ i) : Nat) : Int))))), (7, (.int (iI (((i : Nat) : Int))))), (5, (.int (iI ((((lkF (fun s i => (nxM wt n s).testBit i) co bg Lt Wt s i).2 : Nat) : Int))))), (4, (.int (iI ((lkF (fun s i => (nxM wt n s).testBit i) co bg Lt Wt s i).1)))), (6, (.int (iI (((nxM wt n s : Nat) : Int))))), (0, (.ref e)), (1, (.ref y)), (2, (.int (iI (((s : Nat) : Int))))), (3, (.int (iI (b01 (bg = true)))))]) dX6_lookFrom_33 (by decide) rfl ?_
        refine r_iload (pc := 35) 4 dX6_lookFrom_35 rfl ?_
        refine r_iload (pc := 37) 1 dX6_lookFrom_37 rfl ?_
        refine r_ishr (pc := 39) (w := ((nxM wt n s / 2 ^ i : Nat) : Int)) dX6_lookFrom_39  (iI_shr (by omega) (by omega)) ?_
        refine r_iconst (pc := 40) dX6_lookFrom_40 ?_
        refine r_iand (pc := 41) (w := (((nxM wt n s / 2 ^ i) &&& 1 : Nat) : Int)) dX6_lookFrom_41  (iI_and _ _) ?_
        refine r_eqI (y := b01 ((nxM wt n s).testBit i = true)) (bitI _ _) ?_
        refine r_if_eq (pc := 42) (tgt := 118) dX6_lookFrom_42 (by decide) (b01_r) (fun c_42 => ?_) (fun c_42 => ?_)
        · replace c_42 := b01_z c_42
          refine r_iincv (pc := 118) (y := ((i + 1 : Nat) : Int)) (L2 := [(7, (.int (iI (((i + 1 : Nat) : Int))))), (8, (.int (iI (((s ||| (2 ^ i) : Nat) : Int))))), (5, (.int (iI ((((lkF (fun s i => (nxM wt n s).testBit i) co bg Lt Wt s i).2 : Nat) : Int))))), (4, (.int (iI ((lkF (fun s i => (nxM wt n s).testBit i) co bg Lt Wt s i).1)))), (6, (.int (iI (((nxM wt n s : Nat) : Int))))), (0, (.ref e)), (1, (.ref y)), (2, (.int (iI (((s : Nat) : Int))))), (3, (.int (iI (b01 (bg = true)))))]) 1 dX6_lookFrom_118 rfl (by omega) (by decide) rfl ?_
          refine r_goto (pc := 121) (tgt := 18) dX6_lookFrom_121 (by decide) ?_
          refine r_sub (L2 := [(7, (.int (iI (((i + 1 : Nat) : Int))))), (5, (.int (iI ((((lkF (fun s i => (nxM wt n s).testBit i) co bg Lt Wt s (i + 1)).2 : Nat) : Int))))), (4, (.int (iI ((lkF (fun s i => (nxM wt n s).testBit i) co bg Lt Wt s (i + 1)).1)))), (6, (.int (iI (((nxM wt n s : Nat) : Int))))), (0, (.ref e)), (1, (.ref y)), (2, (.int (iI (((s : Nat) : Int))))), (3, (.int (iI (b01 (bg = true)))))]) [0, 2, 3, 4, 5, 6, 7, 8] (by rw [lkF_n (may := fun s i => (nxM wt n s).testBit i) (s := s) (k := i) (fun h => c_42 h.1)]; rfl) ?_
          exact ih (n - (i + 1)) (by omega) (i + 1) (by omega) (by omega)
        · replace c_42 := b01_nz c_42
          refine r_aload_n (pc := 45) 5 dX6_lookFrom_45 rfl rfl ?_
          refine r_getR (pc := 46) (b := (e + 3)) dX6_lookFrom_46 fl_X6_18 rfl hE.k hE.r2 ?_
          refine r_iload (pc := 49) 0 dX6_lookFrom_49 rfl ?_
          refine r_ialdv (pc := 51) (w := ((Wt (s ||| (2 ^ i)) : Nat) : Int)) dX6_lookFrom_51 hE.a2 (by omega) (by decide) (hWt _ (or_gt (nx_out (by omega) c_42)) (or_lt hs (by omega))) ?_
          refine r_if_le (pc := 52) (tgt := 118) dX6_lookFrom_52 (by decide) (by have := hWr i (by omega); omega) (fun c_52 => ?_) (fun c_52 => ?_)
          · refine r_iincv (pc := 118) (y := ((i + 1 : Nat) : Int)) (L2 := [(7, (.int (iI (((i + 1 : Nat) : Int))))), (8, (.int (iI (((s ||| (2 ^ i) : Nat) : Int))))), (5, (.int (iI ((((lkF (fun s i => (nxM wt n s).testBit i) co bg Lt Wt s i).2 : Nat) : Int))))), (4, (.int (iI ((lkF (fun s i => (nxM wt n s).testBit i) co bg Lt Wt s i).1)))), (6, (.int (iI (((nxM wt n s : Nat) : Int))))), (0, (.ref e)), (1, (.ref y)), (2, (.int (iI (((s : Nat) : Int))))), (3, (.int (iI (b01 (bg = true)))))]) 1 dX6_lookFrom_118 rfl (by omega) (by decide) rfl ?_
            refine r_goto (pc := 121) (tgt := 18) dX6_lookFrom_121 (by decide) ?_
            refine r_sub (L2 := [(7, (.int (iI (((i + 1 : Nat) : Int))))), (5, (.int (iI ((((lkF (fun s i => (nxM wt n s).testBit i) co bg Lt Wt s (i + 1)).2 : Nat) : Int))))), (4, (.int (iI ((lkF (fun s i => (nxM wt n s).testBit i) co bg Lt Wt s (i + 1)).1)))), (6, (.int (iI (((nxM wt n s : Nat) : Int))))), (0, (.ref e)), (1, (.ref y)), (2, (.int (iI (((s : Nat) : Int))))), (3, (.int (iI (b01 (bg = true)))))]) [0, 2, 3, 4, 5, 6, 7, 8] (by rw [lkF_n (may := fun s i => (nxM wt n s).testBit i) (s := s) (k := i) (fun h => by omega)]; rfl) ?_
            exact ih (n - (i + 1)) (by omega) (i + 1) (by omega) (by omega)
          · refine r_aload_n (pc := 55) 5 dX6_lookFrom_55 rfl rfl ?_
            refine r_aload_n (pc := 56) 6 dX6_lookFrom_56 rfl rfl ?_
            refine r_iload (pc := 57) 1 dX6_lookFrom_57 rfl ?_
            refine r_iload_n (pc := 59) 7 dX6_lookFrom_59 rfl rfl ?_
            refine r_callV (pc := 60) (As := [(.ref y), (.int (iI (((i : Nat) : Int)))), (.int (iI (((s : Nat) : Int))))]) (S := []) dX6_lookFrom_60 cv_X6_56 hE.k rfl (Nat.le_of_ble_eq_true rfl) (x_costOf l z _ hE hY hL h0 h1 hb hs (by omega)) (Nat.zero_le _) (Nat.zero_le _) (fun r_60 g_60 f_60 q_60 => ?_)
            obtain ⟨rfl, rfl, rfl⟩ := q_60
            refine r_eqI (y := co s i) (hco i (by omega)).1 ?_
            have hcr := (hco i (by omega)).2
            have hlq := hLr i (by omega) (by omega)
            refine r_aload_n (pc := 63) 5 dX6_lookFrom_63 rfl rfl ?_
            refine r_getR (pc := 64) (b := (e + 2)) dX6_lookFrom_64 fl_X6_15 rfl hE.k hE.r1 ?_
            refine r_iload (pc := 67) 0 dX6_lookFrom_67 rfl ?_
            refine r_ialdv (pc := 69) (w := Lt (s ||| (2 ^ i))) dX6_lookFrom_69 hE.a1 (by omega) (by decide) (hLt _ (or_gt (nx_out (by omega) c_42)) (or_lt hs (by omega))) ?_
            refine r_iload_n (pc := 70) 8 dX6_lookFrom_70 rfl rfl ?_
            refine r_callS (pc := 71) (As := [(.int (iI (co s i))), (.int (iI (Lt (s ||| (2 ^ i))))), (.int (iI (b01 (bg = true))))]) (S := []) dX6_lookFrom_71 cs_X6_60 rfl (Nat.le_of_ble_eq_true rfl) (x_together (bg := bg) l z _ (by omega) (by omega)) (Nat.zero_le _) (Nat.zero_le _) (fun r_71 g_71 f_71 q_71 => ?_)
            obtain ⟨rfl, rfl, rfl⟩ := q_71
            refine r_eqI (y := jnB bg (co s i) (Lt (s ||| 2 ^ i))) rfl ?_
            have hjr := jnB_r (bg := bg) hcr (hLr i (by omega) (by omega))
            refine r_istore (pc := 74) (L2 := [(9, (.int (iI (jnB bg (co s i) (Lt (s ||| 2 ^ i)))))), (8, (.int (iI (((s ||| (2 ^ i) : Nat) : Int))))), (7, (.int (iI (((i : Nat) : Int))))), (5, (.int (iI ((((lkF (fun s i => (nxM wt n s).testBit i) co bg Lt Wt s i).2 : Nat) : Int))))), (4, (.int (iI ((lkF (fun s i => (nxM wt n s).testBit i) co bg Lt Wt s i).1)))), (6, (.int (iI (((nxM wt n s : Nat) : Int))))), (0, (.ref e)), (1, (.ref y)), (2, (.int (iI (((s : Nat) : Int))))), (3, (.int (iI (b01 (bg = true)))))]) dX6_lookFrom_74 (by decide) rfl ?_
            refine r_iload (pc := 76) 0 dX6_lookFrom_76 rfl ?_
            refine r_iload (pc := 78) 4 dX6_lookFrom_78 rfl ?_
            refine r_icmp_ge (pc := 80) (tgt := 99) dX6_lookFrom_80 (by decide) (by omega) (by omega) (fun c_80 => ?_) (fun c_80 => ?_)
            · refine r_iload (pc := 99) 0 dX6_lookFrom_99 rfl ?_
              refine r_iload (pc := 101) 4 dX6_lookFrom_101 rfl ?_
              refine r_icmp_ne (pc := 103) (tgt := 118) dX6_lookFrom_103 (by decide) (by omega) (by omega) (fun c_103 => ?_) (fun c_103 => ?_)
              · refine r_iincv (pc := 118) (y := ((i + 1 : Nat) : Int)) (L2 := [(7, (.int (iI (((i + 1 : Nat) : Int))))), (9, (.int (iI (jnB bg (co s i) (Lt (s ||| 2 ^ i)))))), (8, (.int (iI (((s ||| (2 ^ i) : Nat) : Int))))), (5, (.int (iI ((((lkF (fun s i => (nxM wt n s).testBit i) co bg Lt Wt s i).2 : Nat) : Int))))), (4, (.int (iI ((lkF (fun s i => (nxM wt n s).testBit i) co bg Lt Wt s i).1)))), (6, (.int (iI (((nxM wt n s : Nat) : Int))))), (0, (.ref e)), (1, (.ref y)), (2, (.int (iI (((s : Nat) : Int))))), (3, (.int (iI (b01 (bg = true)))))]) 2 dX6_lookFrom_118 rfl (by omega) (by decide) rfl ?_
                refine r_goto (pc := 121) (tgt := 18) dX6_lookFrom_121 (by decide) ?_
                refine r_sub (L2 := [(7, (.int (iI (((i + 1 : Nat) : Int))))), (5, (.int (iI ((((lkF (fun s i => (nxM wt n s).testBit i) co bg Lt Wt s (i + 1)).2 : Nat) : Int))))), (4, (.int (iI ((lkF (fun s i => (nxM wt n s).testBit i) co bg Lt Wt s (i + 1)).1)))), (6, (.int (iI (((nxM wt n s : Nat) : Int))))), (0, (.ref e)), (1, (.ref y)), (2, (.int (iI (((s : Nat) : Int))))), (3, (.int (iI (b01 (bg = true)))))]) [0, 3, 4, 5, 6, 7, 8, 9] (by rw [lkF_y (may := fun s i => (nxM wt n s).testBit i) (s := s) (k := i) ⟨c_42, by omega⟩]; unfold lkS; rw [if_neg (by omega), if_neg c_103]; rfl) ?_
                exact ih (n - (i + 1)) (by omega) (i + 1) (by omega) (by omega)
              · refine r_iload (pc := 106) 3 dX6_lookFrom_106 rfl ?_
                refine r_aload_n (pc := 108) 6 dX6_lookFrom_108 rfl rfl ?_
                refine r_getR (pc := 109) (b := (e + 3)) dX6_lookFrom_109 fl_X6_18 rfl hE.k hE.r2 ?_
                refine r_iload (pc := 112) 1 dX6_lookFrom_112 rfl ?_
                refine r_ialdv (pc := 114) (w := ((Wt (s ||| (2 ^ i)) : Nat) : Int)) dX6_lookFrom_114 hE.a2 (by omega) (by decide) (hWt _ (or_gt (nx_out (by omega) c_42)) (or_lt hs (by omega))) ?_
                refine r_iadd (pc := 115) dX6_lookFrom_115 ?_
                refine r_eqI (y := ((((lkF (fun s i => (nxM wt n s).testBit i) co bg Lt Wt s i).2) + (Wt (s ||| (2 ^ i))) : Nat) : Int)) (Int.natCast_add _ _ |>.symm) ?_
                refine r_istore (pc := 116) (L2 := [(5, (.int (iI (((((lkF (fun s i => (nxM wt n s).testBit i) co bg Lt Wt s i).2) + (Wt (s ||| (2 ^ i))) : Nat) : Int))))), (9, (.int (iI (jnB bg (co s i) (Lt (s ||| 2 ^ i)))))), (8, (.int (iI (((s ||| (2 ^ i) : Nat) : Int))))), (7, (.int (iI (((i : Nat) : Int))))), (4, (.int (iI ((lkF (fun s i => (nxM wt n s).testBit i) co bg Lt Wt s i).1)))), (6, (.int (iI (((nxM wt n s : Nat) : Int))))), (0, (.ref e)), (1, (.ref y)), (2, (.int (iI (((s : Nat) : Int))))), (3, (.int (iI (b01 (bg = true)))))]) dX6_lookFrom_116 (by decide) rfl ?_
                refine r_iincv (pc := 118) (y := ((i + 1 : Nat) : Int)) (L2 := [(7, (.int (iI (((i + 1 : Nat) : Int))))), (5, (.int (iI (((((lkF (fun s i => (nxM wt n s).testBit i) co bg Lt Wt s i).2) + (Wt (s ||| (2 ^ i))) : Nat) : Int))))), (9, (.int (iI (jnB bg (co s i) (Lt (s ||| 2 ^ i)))))), (8, (.int (iI (((s ||| (2 ^ i) : Nat) : Int))))), (4, (.int (iI ((lkF (fun s i => (nxM wt n s).testBit i) co bg Lt Wt s i).1)))), (6, (.int (iI (((nxM wt n s : Nat) : Int))))), (0, (.ref e)), (1, (.ref y)), (2, (.int (iI (((s : Nat) : Int))))), (3, (.int (iI (b01 (bg = true)))))]) 3 dX6_lookFrom_118 rfl (by omega) (by decide) rfl ?_
                refine r_goto (pc := 121) (tgt := 18) dX6_lookFrom_121 (by decide) ?_
                refine r_sub (L2 := [(7, (.int (iI (((i + 1 : Nat) : Int))))), (5, (.int (iI ((((lkF (fun s i => (nxM wt n s).testBit i) co bg Lt Wt s (i + 1)).2 : Nat) : Int))))), (4, (.int (iI ((lkF (fun s i => (nxM wt n s).testBit i) co bg Lt Wt s (i + 1)).1)))), (6, (.int (iI (((nxM wt n s : Nat) : Int))))), (0, (.ref e)), (1, (.ref y)), (2, (.int (iI (((s : Nat) : Int))))), (3, (.int (iI (b01 (bg = true)))))]) [0, 1, 4, 5, 6, 7, 8, 9] (by rw [lkF_y (may := fun s i => (nxM wt n s).testBit i) (s := s) (k := i) ⟨c_42, by omega⟩]; unfold lkS; rw [if_neg (by omega), if_pos c_103]; rfl) ?_
                exact ih (n - (i + 1)) (by omega) (i + 1) (by omega) (by omega)
            · refine r_iload (pc := 83) 0 dX6_lookFrom_83 rfl ?_
              refine r_istore (pc := 85) (L2 := [(4, (.int (iI (jnB bg (co s i) (Lt (s ||| 2 ^ i)))))), (9, (.int (iI (jnB bg (co s i) (Lt (s ||| 2 ^ i)))))), (8, (.int (iI (((s ||| (2 ^ i) : Nat) : Int))))), (7, (.int (iI (((i : Nat) : Int))))), (5, (.int (iI ((((lkF (fun s i => (nxM wt n s).testBit i) co bg Lt Wt s i).2 : Nat) : Int))))), (6, (.int (iI (((nxM wt n s : Nat) : Int))))), (0, (.ref e)), (1, (.ref y)), (2, (.int (iI (((s : Nat) : Int))))), (3, (.int (iI (b01 (bg = true)))))]) dX6_lookFrom_85 (by decide) rfl ?_
              refine r_aload_n (pc := 87) 6 dX6_lookFrom_87 rfl rfl ?_
              refine r_getR (pc := 88) (b := (e + 3)) dX6_lookFrom_88 fl_X6_18 rfl hE.k hE.r2 ?_
              refine r_iload (pc := 91) 2 dX6_lookFrom_91 rfl ?_
              refine r_ialdv (pc := 93) (w := ((Wt (s ||| (2 ^ i)) : Nat) : Int)) dX6_lookFrom_93 hE.a2 (by omega) (by decide) (hWt _ (or_gt (nx_out (by omega) c_42)) (or_lt hs (by omega))) ?_
              refine r_istore (pc := 94) (L2 := [(5, (.int (iI (((Wt (s ||| (2 ^ i)) : Nat) : Int))))), (4, (.int (iI (jnB bg (co s i) (Lt (s ||| 2 ^ i)))))), (9, (.int (iI (jnB bg (co s i) (Lt (s ||| 2 ^ i)))))), (8, (.int (iI (((s ||| (2 ^ i) : Nat) : Int))))), (7, (.int (iI (((i : Nat) : Int))))), (6, (.int (iI (((nxM wt n s : Nat) : Int))))), (0, (.ref e)), (1, (.ref y)), (2, (.int (iI (((s : Nat) : Int))))), (3, (.int (iI (b01 (bg = true)))))]) dX6_lookFrom_94 (by decide) rfl ?_
              refine r_goto (pc := 96) (tgt := 118) dX6_lookFrom_96 (by decide) ?_
              refine r_iincv (pc := 118) (y := ((i + 1 : Nat) : Int)) (L2 := [(7, (.int (iI (((i + 1 : Nat) : Int))))), (5, (.int (iI (((Wt (s ||| (2 ^ i)) : Nat) : Int))))), (4, (.int (iI (jnB bg (co s i) (Lt (s ||| 2 ^ i)))))), (9, (.int (iI (jnB bg (co s i) (Lt (s ||| 2 ^ i)))))), (8, (.int (iI (((s ||| (2 ^ i) : Nat) : Int))))), (6, (.int (iI (((nxM wt n s : Nat) : Int))))), (0, (.ref e)), (1, (.ref y)), (2, (.int (iI (((s : Nat) : Int))))), (3, (.int (iI (b01 (bg = true)))))]) 4 dX6_lookFrom_118 rfl (by omega) (by decide) rfl ?_
              refine r_goto (pc := 121) (tgt := 18) dX6_lookFrom_121 (by decide) ?_
              refine r_sub (L2 := [(7, (.int (iI (((i + 1 : Nat) : Int))))), (5, (.int (iI ((((lkF (fun s i => (nxM wt n s).testBit i) co bg Lt Wt s (i + 1)).2 : Nat) : Int))))), (4, (.int (iI ((lkF (fun s i => (nxM wt n s).testBit i) co bg Lt Wt s (i + 1)).1)))), (6, (.int (iI (((nxM wt n s : Nat) : Int))))), (0, (.ref e)), (1, (.ref y)), (2, (.int (iI (((s : Nat) : Int))))), (3, (.int (iI (b01 (bg = true)))))]) [0, 1, 2, 5, 6, 7, 8, 9] (by rw [lkF_y (may := fun s i => (nxM wt n s).testBit i) (s := s) (k := i) ⟨c_42, by omega⟩]; unfold lkS; rw [if_pos c_80]; rfl) ?_
              exact ih (n - (i + 1)) (by omega) (i + 1) (by omega) (by omega)
  refine r_ldc (pc := 0) (x := 1000000000) dX6_lookFrom_0 kc_X6_49 (by decide) ?_
  refine r_istore (pc := 2) (L2 := [(4, (.int (iI (1000000000)))), (0, (.ref e)), (1, (.ref y)), (2, (.int (iI (((s : Nat) : Int))))), (3, (.int (iI (b01 (bg = true)))))]) dX6_lookFrom_2 (by decide) rfl ?_
  refine r_iconst (pc := 4) dX6_lookFrom_4 ?_
  refine r_istore (pc := 5) (L2 := [(5, (.int (iI (0)))), (4, (.int (iI (1000000000)))), (0, (.ref e)), (1, (.ref y)), (2, (.int (iI (((s : Nat) : Int))))), (3, (.int (iI (b01 (bg = true)))))]) dX6_lookFrom_5 (by decide) rfl ?_
  refine r_aload_n (pc := 7) 3 dX6_lookFrom_7 rfl rfl ?_
  refine r_getR (pc := 8) (b := (y + 7)) dX6_lookFrom_8 fl_X6_50 rfl hY.k hY.r4 ?_
  refine r_iload_n (pc := 11) 4 dX6_lookFrom_11 rfl rfl ?_
  refine r_ialdv (pc := 12) (w := ((nxM wt n s : Nat) : Int)) dX6_lookFrom_12 hY.a4 (by omega) (by decide) ((hL.2.2.2.1 s (by omega)).1) ?_
  refine r_istore (pc := 13) (L2 := [(6, (.int (iI (((nxM wt n s : Nat) : Int))))), (5, (.int (iI (0)))), (4, (.int (iI (1000000000)))), (0, (.ref e)), (1, (.ref y)), (2, (.int (iI (((s : Nat) : Int))))), (3, (.int (iI (b01 (bg = true)))))]) dX6_lookFrom_13 (by decide) rfl ?_
  refine r_iconst (pc := 15) dX6_lookFrom_15 ?_
  refine r_istore (pc := 16) (L2 := [(7, (.int (iI (0)))), (6, (.int (iI (((nxM wt n s : Nat) : Int))))), (5, (.int (iI (0)))), (4, (.int (iI (1000000000)))), (0, (.ref e)), (1, (.ref y)), (2, (.int (iI (((s : Nat) : Int))))), (3, (.int (iI (b01 (bg = true)))))]) dX6_lookFrom_16 (by decide) rfl ?_
  refine r_sub (L2 := [(7, (.int (iI (((0 : Nat) : Int))))), (5, (.int (iI ((((lkF (fun s i => (nxM wt n s).testBit i) co bg Lt Wt s 0).2 : Nat) : Int))))), (4, (.int (iI ((lkF (fun s i => (nxM wt n s).testBit i) co bg Lt Wt s 0).1)))), (6, (.int (iI (((nxM wt n s : Nat) : Int))))), (0, (.ref e)), (1, (.ref y)), (2, (.int (iI (((s : Nat) : Int))))), (3, (.int (iI (b01 (bg = true)))))]) [0, 2, 3, 1, 4, 5, 6, 7] rfl ?_
  exact loop n 0 (by omega) (by omega)

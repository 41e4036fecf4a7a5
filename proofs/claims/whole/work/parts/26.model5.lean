def sby (x : Int) (k : Nat) : Int := (x / 2 ^ k + 128) % 256 - 128
theorem sby_r (x : Int) (k : Nat) : -128 ≤ sby x k ∧ sby x k ≤ 127 := by unfold sby; generalize x / 2 ^ k = y; omega
theorem nbyte {v : Int} (h : -128 ≤ v ∧ v ≤ 127) : narrow .byte (.int (iI v)) = .int (iI v) := by
  have e : narrow .byte (.int (iI v)) = .int ((iI v).toInt8.toInt32) := rfl
  rw [e, iI_i2b]
  congr 2
  omega
def fvX (x1 x2 x3 x4 x5 : Int) : Nat → Int := fun q => if q = 0 then x1 else if q = 1 then x2 else if q = 2 then x3 else if q = 3 then x4 else x5
def fv5 (f : Fm) (x1 x2 x3 x4 x5 : Int) : Fm := stF (stF (stF (stF (stF f 171 0 x1) 171 1 x2) 171 2 x3) 171 3 x4) 171 4 x5
def fdT (X : Nat → Int) : Nat → Int := fun i => sby (X (i / 4)) (24 - 8 * (i % 4))
def nFeed (f : Fm) (x1 x2 x3 x4 x5 : Int) : Fm := if f 164 9 + 20 ≤ 400 then stF (updA (fv5 f x1 x2 x3 x4 x5) 170 (imU (fdT (fvX x1 x2 x3 x4 x5)) (fv5 f x1 x2 x3 x4 x5 170) (f 164 9).toNat 20)) 164 9 (f 164 9 + 20) else f
def aFeed (f : Fm) : Int := if f 164 9 + 20 ≤ 400 then f 164 9 + 20 else -1

set_option maxRecDepth 100000 in
set_option maxHeartbeats 4000000 in
theorem m_feed (l : Launch) (z : Zv) (d : Nat) {g : Gm} {f : Fm} {x1 x2 x3 x4 x5 : Int} (hM : ML g) (h9 : 0 ≤ f 164 9 ∧ f 164 9 ≤ 400) (hx1 : -2147483648 ≤ x1 ∧ x1 ≤ 2147483647) (hx2 : -2147483648 ≤ x2 ∧ x2 ≤ 2147483647) (hx3 : -2147483648 ≤ x3 ∧ x3 ≤ 2147483647) (hx4 : -2147483648 ≤ x4 ∧ x4 ≤ 2147483647) (hx5 : -2147483648 ≤ x5 ∧ x5 ≤ 2147483647) : PM l z d mX11_feed [(.ref 164), (.int (iI (x1))), (.int (iI (x2))), (.int (iI (x3))), (.int (iI (x4))), (.int (iI (x5)))] g f 0 0 (rdQ (.int (iI (aFeed f))) g (nFeed f x1 x2 x3 x4 x5)) := by
  refine PM.of (by decide +kernel) (Nat.le_of_ble_eq_true rfl) ?_
  have hX5 : ∀ q, q < 5 → fv5 f x1 x2 x3 x4 x5 171 q = fvX x1 x2 x3 x4 x5 q := fun q hq => by
    rcases (show q = 0 ∨ q = 1 ∨ q = 2 ∨ q = 3 ∨ q = 4 by omega) with rfl | rfl | rfl | rfl | rfl <;> simp [fv5, stF, fvX]
  have hXr : ∀ q, -2147483648 ≤ fvX x1 x2 x3 x4 x5 q ∧ fvX x1 x2 x3 x4 x5 q ≤ 2147483647 := fun q => by
    unfold fvX; (repeat' split) <;> assumption
  refine r_aload_n (pc := 0) 0 dX11_feed_0 rfl rfl ?_
  refine r_getI (pc := 1) dX11_feed_1 fl_X11_150 rfl hM.k ?_
  refine r_bipush (pc := 4) dX11_feed_4 (by decide) ?_
  refine r_iadd (pc := 6) dX11_feed_6 ?_
  refine r_sipush (pc := 7) dX11_feed_7 (by decide) ?_
  refine r_icmp_le (pc := 10) (tgt := 15) dX11_feed_10 (by decide) (by omega) (by omega) (fun c_10 => ?_) (fun c_10 => ?_)
  · refine r_aload_n (pc := 15) 0 dX11_feed_15 rfl rfl ?_
    refine r_getR (pc := 16) (b := 171) dX11_feed_16 fl_X11_34 rfl hM.k hM.r8 ?_
    refine r_iconst (pc := 19) dX11_feed_19 ?_
    refine r_iload_n (pc := 20) 1 dX11_feed_20 rfl rfl ?_
    refine r_iastv (pc := 21) (i := 0) dX11_feed_21 hM.a8 (by decide) (by decide) rfl ?_
    refine r_aload_n (pc := 22) 0 dX11_feed_22 rfl rfl ?_
    refine r_getR (pc := 23) (b := 171) dX11_feed_23 fl_X11_34 rfl hM.k hM.r8 ?_
    refine r_iconst (pc := 26) dX11_feed_26 ?_
    refine r_iload_n (pc := 27) 2 dX11_feed_27 rfl rfl ?_
    refine r_iastv (pc := 28) (i := 1) dX11_feed_28 hM.a8 (by decide) (by decide) rfl ?_
    refine r_aload_n (pc := 29) 0 dX11_feed_29 rfl rfl ?_
    refine r_getR (pc := 30) (b := 171) dX11_feed_30 fl_X11_34 rfl hM.k hM.r8 ?_
    refine r_iconst (pc := 33) dX11_feed_33 ?_
    refine r_iload_n (pc := 34) 3 dX11_feed_34 rfl rfl ?_
    refine r_iastv (pc := 35) (i := 2) dX11_feed_35 hM.a8 (by decide) (by decide) rfl ?_
    refine r_aload_n (pc := 36) 0 dX11_feed_36 rfl rfl ?_
    refine r_getR (pc := 37) (b := 171) dX11_feed_37 fl_X11_34 rfl hM.k hM.r8 ?_
    refine r_iconst (pc := 40) dX11_feed_40 ?_
    refine r_iload (pc := 41) 4 dX11_feed_41 rfl ?_
    refine r_iastv (pc := 43) (i := 3) dX11_feed_43 hM.a8 (by decide) (by decide) rfl ?_
    refine r_aload_n (pc := 44) 0 dX11_feed_44 rfl rfl ?_
    refine r_getR (pc := 45) (b := 171) dX11_feed_45 fl_X11_34 rfl hM.k hM.r8 ?_
    refine r_iconst (pc := 48) dX11_feed_48 ?_
    refine r_iload (pc := 49) 5 dX11_feed_49 rfl ?_
    refine r_iastv (pc := 51) (i := 4) dX11_feed_51 hM.a8 (by decide) (by decide) rfl ?_
    refine r_iconst (pc := 52) dX11_feed_52 ?_
    refine r_istore (pc := 53) (L2 := [(6, (.int (iI (0)))), (0, (.ref 164)), (1, (.int (iI (x1)))), (2, (.int (iI (x2)))), (3, (.int (iI (x3)))), (4, (.int (iI (x4)))), (5, (.int (iI (x5))))]) dX11_feed_53 (by decide) rfl ?_
    refine r_sub (L2 := [(6, (.int (iI (0)))), (0, (.ref 164))]) [0, 1] rfl ?_
    have loop : ∀ m j : Nat, m = 20 - j → j ≤ 20 → PW l z d mX11_feed 0 0 (rdQ (.int (iI (aFeed f))) g (nFeed f x1 x2 x3 x4 x5)) 55 [(6, (.int (iI (((j : Nat) : Int))))), (0, (.ref 164))] [] g (updA (fv5 f x1 x2 x3 x4 x5) 170 (imU (fdT (fvX x1 x2 x3 x4 x5)) ((fv5 f x1 x2 x3 x4 x5) 170) (f 164 9).toNat j)) 0 0 := by
      intro m
      induction m using Nat.strongRecOn with
      | _ m ih =>
        intro j hm hj
        refine r_iload (pc := 55) 0 dX11_feed_55 rfl ?_
        refine r_bipush (pc := 57) dX11_feed_57 (by decide) ?_
        refine r_icmp_ge (pc := 59) (tgt := 101) dX11_feed_59 (by decide) (by omega) (by omega) (fun c_59 => ?_) (fun c_59 => ?_)
        · refine r_aload_n (pc := 101) 1 dX11_feed_101 rfl rfl ?_
          refine r_dup (pc := 102) dX11_feed_102 rfl ?_
          refine r_getIv (pc := 103) (x := f 164 9) dX11_feed_103 fl_X11_150 rfl hM.k (by rw [updA_n _ _ (by decide)]; simp [fv5, stF]) ?_
          refine r_bipush (pc := 106) dX11_feed_106 (by decide) ?_
          refine r_iadd (pc := 108) dX11_feed_108 ?_
          refine r_putI (pc := 109) dX11_feed_109 fl_X11_150 rfl rfl hM.k ?_
          refine r_aload_n (pc := 112) 1 dX11_feed_112 rfl rfl ?_
          refine r_getIv (pc := 113) (x := f 164 9 + 20) dX11_feed_113 fl_X11_150 rfl hM.k (stF_s _ _ _ _) ?_
          exact r_iret (pc := 116) dX11_feed_116 rfl rfl ⟨by simp only [aFeed]; first | rw [if_pos (by omega)] | rw [if_neg (by omega)], rfl, by simp only [nFeed]; first | (rw [if_neg (by omega)]) | (rw [if_pos (by omega), show (20 : Nat) = j by omega])⟩
        · refine r_aload_n (pc := 62) 1 dX11_feed_62 rfl rfl ?_
          refine r_getR (pc := 63) (b := 170) dX11_feed_63 fl_X11_31 rfl hM.k hM.r7 ?_
          refine r_aload_n (pc := 66) 1 dX11_feed_66 rfl rfl ?_
          refine r_getIv (pc := 67) (x := f 164 9) dX11_feed_67 fl_X11_150 rfl hM.k (by rw [updA_n _ _ (by decide)]; simp [fv5, stF]) ?_
          refine r_iload (pc := 70) 0 dX11_feed_70 rfl ?_
          refine r_iadd (pc := 72) dX11_feed_72 ?_
          refine r_aload_n (pc := 73) 1 dX11_feed_73 rfl rfl ?_
          refine r_getR (pc := 74) (b := 171) dX11_feed_74 fl_X11_34 rfl hM.k hM.r8 ?_
          refine r_iload (pc := 77) 0 dX11_feed_77 rfl ?_
          refine r_iconst (pc := 79) dX11_feed_79 ?_
          refine r_idiv (pc := 80) (w := ((j / 4 : Nat) : Int)) dX11_feed_80 (by decide) (by rw [show (4 : Int) = ((4 : Nat) : Int) from rfl]; exact iI_div (by omega) (by omega)) ?_
          refine r_ialdv (pc := 81) (w := fvX x1 x2 x3 x4 x5 (j / 4)) dX11_feed_81 hM.a8 (by omega) (by decide) (by rw [updA_n _ _ (by decide)]; exact hX5 (j / 4) (by omega)) ?_
          refine r_bipush (pc := 82) dX11_feed_82 (by decide) ?_
          refine r_bipush (pc := 84) dX11_feed_84 (by decide) ?_
          refine r_iload (pc := 86) 0 dX11_feed_86 rfl ?_
          refine r_iconst (pc := 88) dX11_feed_88 ?_
          refine r_irem (pc := 89) (w := ((j % 4 : Nat) : Int)) dX11_feed_89 (by decide) (by rw [show (4 : Int) = ((4 : Nat) : Int) from rfl]; exact iI_rem (by omega) (by omega)) ?_
          refine r_imul (pc := 90) dX11_feed_90 ?_
          refine r_isub (pc := 91) dX11_feed_91 ?_
          refine r_ishr (pc := 92) (w := (fvX x1 x2 x3 x4 x5 (j / 4)) / 2 ^ (24 - 8 * (j % 4))) dX11_feed_92  (by rw [show (24 : Int) - 8 * ((j % 4 : Nat) : Int) = ((24 - 8 * (j % 4) : Nat) : Int) by omega]; exact iI_sar (hXr (j / 4)) (by omega)) ?_
          refine r_i2b (pc := 93) (w := sby (fvX x1 x2 x3 x4 x5 (j / 4)) (24 - 8 * (j % 4))) dX11_feed_93 (iI_i2b _) ?_
          refine r_bast (pc := 94) dX11_feed_94 hM.a7 (by omega) (by decide) (nbyte (sby_r _ _)) ?_
          refine r_iincv (pc := 95) (y := ((j + 1 : Nat) : Int)) (L2 := [(6, (.int (iI (((j + 1 : Nat) : Int))))), (0, (.ref 164))]) 0 dX11_feed_95 rfl (by omega) (by decide) rfl ?_
          refine r_goto (pc := 98) (tgt := 55) dX11_feed_98 (by decide) ?_
          refine r_sub (L2 := [(6, (.int (iI (((j + 1 : Nat) : Int))))), (0, (.ref 164))]) [0, 1] rfl ?_
          rw [show (f 164 9 + ((j : Nat) : Int)).toNat = (f 164 9).toNat + j by omega]
          have hs := imU_s (fv5 f x1 x2 x3 x4 x5) (fdT (fvX x1 x2 x3 x4 x5)) 170 (f 164 9).toNat j
          rw [show fdT (fvX x1 x2 x3 x4 x5) j = sby (fvX x1 x2 x3 x4 x5 (j / 4)) (24 - 8 * (j % 4)) from rfl] at hs
          rw [hs]
          exact ih (20 - (j + 1)) (by omega) (j + 1) rfl (by omega)
    have h0 := loop 20 0 rfl (by omega)
    rw [imU_0] at h0
    exact h0
  · refine r_iconst (pc := 13) dX11_feed_13 ?_
    exact r_iret (pc := 14) dX11_feed_14 rfl rfl ⟨by simp only [aFeed]; first | rw [if_pos (by omega)] | rw [if_neg (by omega)], rfl, by simp only [nFeed]; first | (rw [if_neg (by omega)]) | (rw [if_pos (by omega), show (20 : Nat) = j by omega])⟩

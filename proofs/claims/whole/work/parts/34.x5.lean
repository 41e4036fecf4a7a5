def byN (x : Int) (k : Nat) : Nat := (x % 4294967296).toNat / 2 ^ k % 256
def ad1 (f : Fm) (b t : Nat) (x : Int) (k : Nat) : Fm := stF (stF f (b + 1) t ((byN x k : Nat) : Int)) b 4 ((t + 1 : Nat) : Int)
def ad4 (f : Fm) (b t : Nat) (x : Int) : Fm := ad1 (ad1 (ad1 (ad1 f b t x 24) b (t + 1) x 16) b (t + 2) x 8) b (t + 3) x 0
def xnFeed (f : Fm) (x1 x2 x3 x4 x5 : Int) : Fm := if f 107 4 + 20 ≤ 400 then ad4 (ad4 (ad4 (ad4 (ad4 f 107 (f 107 4).toNat x1) 107 ((f 107 4).toNat + 4) x2) 107 ((f 107 4).toNat + 8) x3) 107 ((f 107 4).toNat + 12) x4) 107 ((f 107 4).toNat + 16) x5 else f
def xaFeed (f : Fm) : Int := if f 107 4 + 20 ≤ 400 then f 107 4 + 20 else -1
theorem ad1_4 (f : Fm) (b t : Nat) (x : Int) (k : Nat) : ad1 f b t x k b 4 = ((t + 1 : Nat) : Int) := by simp [ad1, stF]
theorem ad4_4 (f : Fm) (b t : Nat) (x : Int) : ad4 f b t x b 4 = ((t + 4 : Nat) : Int) := by rw [ad4, ad1_4]

set_option maxRecDepth 100000 in
set_option maxHeartbeats 4000000 in
theorem x_tapeAdd (l : Launch) (z : Zv) (d : Nat) {g : Gm} {f : Fm} {b t : Nat} {x : Int} (hT : TL g b) (ht : f b 4 = ((t : Nat) : Int)) (h4 : t + 4 ≤ 400) : PM l z d mX8_add [(.ref b), (.int (iI (x)))] g f 0 0 (wrQ g (ad4 f b t x)) := by
  refine PM.of (by decide +kernel) (Nat.le_of_ble_eq_true rfl) ?_
  refine r_bipush (pc := 0) dX8_add_0 (by decide) ?_
  refine r_istore_n (pc := 2) (L2 := [(2, (.int (iI (24)))), (0, (.ref b)), (1, (.int (iI (x))))]) dX8_add_2 rfl (by decide) rfl ?_
  refine r_iload_n (pc := 3) 0 dX8_add_3 rfl rfl ?_
  refine r_if_lt (pc := 4) (tgt := 49) dX8_add_4 (by decide) (by omega) (fun c_4 => ?_) (fun c_4 => ?_)
  · exact absurd c_4 (by decide)
  · refine r_aload_n (pc := 7) 1 dX8_add_7 rfl rfl ?_
    refine r_getIv (pc := 8) (x := ((t : Nat) : Int)) dX8_add_8 fl_X8_27 rfl hT.k (ht) ?_
    refine r_sipush (pc := 11) dX8_add_11 (by decide) ?_
    refine r_icmp_ge (pc := 14) (tgt := 49) dX8_add_14 (by decide) (by omega) (by omega) (fun c_14 => ?_) (fun c_14 => ?_)
    · exfalso; omega
    · refine r_aload_n (pc := 17) 1 dX8_add_17 rfl rfl ?_
      refine r_getR (pc := 18) (b := (b + 1)) dX8_add_18 fl_X8_9 rfl hT.k hT.r0 ?_
      refine r_aload_n (pc := 21) 1 dX8_add_21 rfl rfl ?_
      refine r_getIv (pc := 22) (x := ((t : Nat) : Int)) dX8_add_22 fl_X8_27 rfl hT.k (ht) ?_
      refine r_iload_n (pc := 25) 2 dX8_add_25 rfl rfl ?_
      refine r_iload_n (pc := 26) 0 dX8_add_26 rfl rfl ?_
      refine r_iushr (pc := 27) (w := (((x % 4294967296).toNat / 2 ^ 24 : Nat) : Int)) dX8_add_27  (iI_ushr (by decide)) ?_
      refine r_sipush (pc := 28) dX8_add_28 (by decide) ?_
      refine r_iand (pc := 31) (w := ((byN x 24 : Nat) : Int)) dX8_add_31  (by rw [show (255 : Int) = ((255 : Nat) : Int) from rfl, iI_and, and255]; rfl) ?_
      refine r_iastv (pc := 32) (i := t) dX8_add_32 hT.a0 (by omega) (by decide) (by omega) ?_
      refine r_aload_n (pc := 33) 1 dX8_add_33 rfl rfl ?_
      refine r_dup (pc := 34) dX8_add_34 rfl ?_
      refine r_getIv (pc := 35) (x := ((t : Nat) : Int)) dX8_add_35 fl_X8_27 rfl hT.k (by simp [stF, ht]) ?_
      refine r_iconst (pc := 38) dX8_add_38 ?_
      refine r_iadd (pc := 39) dX8_add_39 ?_
      refine r_eqI (y := ((t + 1 : Nat) : Int)) (by omega) ?_
      refine r_putI (pc := 40) dX8_add_40 fl_X8_27 rfl rfl hT.k ?_
      refine r_iincv (pc := 43) (y := 16) (L2 := [(2, (.int (iI (16)))), (0, (.ref b)), (1, (.int (iI (x))))]) 0 dX8_add_43 rfl (by decide) (by decide) rfl ?_
      refine r_goto (pc := 46) (tgt := 3) dX8_add_46 (by decide) ?_
      refine r_iload_n (pc := 3) 0 dX8_add_3 rfl rfl ?_
      refine r_if_lt (pc := 4) (tgt := 49) dX8_add_4 (by decide) (by omega) (fun c_4 => ?_) (fun c_4 => ?_)
      · exact absurd c_4 (by decide)
      · refine r_aload_n (pc := 7) 1 dX8_add_7 rfl rfl ?_
        refine r_getIv (pc := 8) (x := ((t + 1 : Nat) : Int)) dX8_add_8 fl_X8_27 rfl hT.k (by simp [ad1, stF]) ?_
        refine r_sipush (pc := 11) dX8_add_11 (by decide) ?_
        refine r_icmp_ge (pc := 14) (tgt := 49) dX8_add_14 (by decide) (by omega) (by omega) (fun c_14 => ?_) (fun c_14 => ?_)
        · exfalso; omega
        · refine r_aload_n (pc := 17) 1 dX8_add_17 rfl rfl ?_
          refine r_getR (pc := 18) (b := (b + 1)) dX8_add_18 fl_X8_9 rfl hT.k hT.r0 ?_
          refine r_aload_n (pc := 21) 1 dX8_add_21 rfl rfl ?_
          refine r_getIv (pc := 22) (x := ((t + 1 : Nat) : Int)) dX8_add_22 fl_X8_27 rfl hT.k (by simp [ad1, stF]) ?_
          refine r_iload_n (pc := 25) 2 dX8_add_25 rfl rfl ?_
          refine r_iload_n (pc := 26) 0 dX8_add_26 rfl rfl ?_
          refine r_iushr (pc := 27) (w := (((x % 4294967296).toNat / 2 ^ 16 : Nat) : Int)) dX8_add_27  (iI_ushr (by decide)) ?_
          refine r_sipush (pc := 28) dX8_add_28 (by decide) ?_
          refine r_iand (pc := 31) (w := ((byN x 16 : Nat) : Int)) dX8_add_31  (by rw [show (255 : Int) = ((255 : Nat) : Int) from rfl, iI_and, and255]; rfl) ?_
          refine r_iastv (pc := 32) (i := (t + 1)) dX8_add_32 hT.a0 (by omega) (by decide) (by omega) ?_
          refine r_aload_n (pc := 33) 1 dX8_add_33 rfl rfl ?_
          refine r_dup (pc := 34) dX8_add_34 rfl ?_
          refine r_getIv (pc := 35) (x := ((t + 1 : Nat) : Int)) dX8_add_35 fl_X8_27 rfl hT.k (by simp [ad1, stF]) ?_
          refine r_iconst (pc := 38) dX8_add_38 ?_
          refine r_iadd (pc := 39) dX8_add_39 ?_
          refine r_eqI (y := ((t + 2 : Nat) : Int)) (by omega) ?_
          refine r_putI (pc := 40) dX8_add_40 fl_X8_27 rfl rfl hT.k ?_
          refine r_iincv (pc := 43) (y := 8) (L2 := [(2, (.int (iI (8)))), (0, (.ref b)), (1, (.int (iI (x))))]) 0 dX8_add_43 rfl (by decide) (by decide) rfl ?_
          refine r_goto (pc := 46) (tgt := 3) dX8_add_46 (by decide) ?_
          refine r_iload_n (pc := 3) 0 dX8_add_3 rfl rfl ?_
          refine r_if_lt (pc := 4) (tgt := 49) dX8_add_4 (by decide) (by omega) (fun c_4 => ?_) (fun c_4 => ?_)
          · exact absurd c_4 (by decide)
          · refine r_aload_n (pc := 7) 1 dX8_add_7 rfl rfl ?_
            refine r_getIv (pc := 8) (x := ((t + 2 : Nat) : Int)) dX8_add_8 fl_X8_27 rfl hT.k (by simp [ad1, stF]) ?_
            refine r_sipush (pc := 11) dX8_add_11 (by decide) ?_
            refine r_icmp_ge (pc := 14) (tgt := 49) dX8_add_14 (by decide) (by omega) (by omega) (fun c_14 => ?_) (fun c_14 => ?_)
            · exfalso; omega
            · refine r_aload_n (pc := 17) 1 dX8_add_17 rfl rfl ?_
              refine r_getR (pc := 18) (b := (b + 1)) dX8_add_18 fl_X8_9 rfl hT.k hT.r0 ?_
              refine r_aload_n (pc := 21) 1 dX8_add_21 rfl rfl ?_
              refine r_getIv (pc := 22) (x := ((t + 2 : Nat) : Int)) dX8_add_22 fl_X8_27 rfl hT.k (by simp [ad1, stF]) ?_
              refine r_iload_n (pc := 25) 2 dX8_add_25 rfl rfl ?_
              refine r_iload_n (pc := 26) 0 dX8_add_26 rfl rfl ?_
              refine r_iushr (pc := 27) (w := (((x % 4294967296).toNat / 2 ^ 8 : Nat) : Int)) dX8_add_27  (iI_ushr (by decide)) ?_
              refine r_sipush (pc := 28) dX8_add_28 (by decide) ?_
              refine r_iand (pc := 31) (w := ((byN x 8 : Nat) : Int)) dX8_add_31  (by rw [show (255 : Int) = ((255 : Nat) : Int) from rfl, iI_and, and255]; rfl) ?_
              refine r_iastv (pc := 32) (i := (t + 2)) dX8_add_32 hT.a0 (by omega) (by decide) (by omega) ?_
              refine r_aload_n (pc := 33) 1 dX8_add_33 rfl rfl ?_
              refine r_dup (pc := 34) dX8_add_34 rfl ?_
              refine r_getIv (pc := 35) (x := ((t + 2 : Nat) : Int)) dX8_add_35 fl_X8_27 rfl hT.k (by simp [ad1, stF]) ?_
              refine r_iconst (pc := 38) dX8_add_38 ?_
              refine r_iadd (pc := 39) dX8_add_39 ?_
              refine r_eqI (y := ((t + 3 : Nat) : Int)) (by omega) ?_
              refine r_putI (pc := 40) dX8_add_40 fl_X8_27 rfl rfl hT.k ?_
              refine r_iincv (pc := 43) (y := 0) (L2 := [(2, (.int (iI (0)))), (0, (.ref b)), (1, (.int (iI (x))))]) 0 dX8_add_43 rfl (by decide) (by decide) rfl ?_
              refine r_goto (pc := 46) (tgt := 3) dX8_add_46 (by decide) ?_
              refine r_iload_n (pc := 3) 0 dX8_add_3 rfl rfl ?_
              refine r_if_lt (pc := 4) (tgt := 49) dX8_add_4 (by decide) (by omega) (fun c_4 => ?_) (fun c_4 => ?_)
              · exact absurd c_4 (by decide)
              · refine r_aload_n (pc := 7) 1 dX8_add_7 rfl rfl ?_
                refine r_getIv (pc := 8) (x := ((t + 3 : Nat) : Int)) dX8_add_8 fl_X8_27 rfl hT.k (by simp [ad1, stF]) ?_
                refine r_sipush (pc := 11) dX8_add_11 (by decide) ?_
                refine r_icmp_ge (pc := 14) (tgt := 49) dX8_add_14 (by decide) (by omega) (by omega) (fun c_14 => ?_) (fun c_14 => ?_)
                · exfalso; omega
                · refine r_aload_n (pc := 17) 1 dX8_add_17 rfl rfl ?_
                  refine r_getR (pc := 18) (b := (b + 1)) dX8_add_18 fl_X8_9 rfl hT.k hT.r0 ?_
                  refine r_aload_n (pc := 21) 1 dX8_add_21 rfl rfl ?_
                  refine r_getIv (pc := 22) (x := ((t + 3 : Nat) : Int)) dX8_add_22 fl_X8_27 rfl hT.k (by simp [ad1, stF]) ?_
                  refine r_iload_n (pc := 25) 2 dX8_add_25 rfl rfl ?_
                  refine r_iload_n (pc := 26) 0 dX8_add_26 rfl rfl ?_
                  refine r_iushr (pc := 27) (w := (((x % 4294967296).toNat / 2 ^ 0 : Nat) : Int)) dX8_add_27  (iI_ushr (by decide)) ?_
                  refine r_sipush (pc := 28) dX8_add_28 (by decide) ?_
                  refine r_iand (pc := 31) (w := ((byN x 0 : Nat) : Int)) dX8_add_31  (by rw [show (255 : Int) = ((255 : Nat) : Int) from rfl, iI_and, and255]; rfl) ?_
                  refine r_iastv (pc := 32) (i := (t + 3)) dX8_add_32 hT.a0 (by omega) (by decide) (by omega) ?_
                  refine r_aload_n (pc := 33) 1 dX8_add_33 rfl rfl ?_
                  refine r_dup (pc := 34) dX8_add_34 rfl ?_
                  refine r_getIv (pc := 35) (x := ((t + 3 : Nat) : Int)) dX8_add_35 fl_X8_27 rfl hT.k (by simp [ad1, stF]) ?_
                  refine r_iconst (pc := 38) dX8_add_38 ?_
                  refine r_iadd (pc := 39) dX8_add_39 ?_
                  refine r_eqI (y := ((t + 4 : Nat) : Int)) (by omega) ?_
                  refine r_putI (pc := 40) dX8_add_40 fl_X8_27 rfl rfl hT.k ?_
                  refine r_iincv (pc := 43) (y := -8) (L2 := [(2, (.int (iI (-8)))), (0, (.ref b)), (1, (.int (iI (x))))]) 0 dX8_add_43 rfl (by decide) (by decide) rfl ?_
                  refine r_goto (pc := 46) (tgt := 3) dX8_add_46 (by decide) ?_
                  refine r_iload_n (pc := 3) 0 dX8_add_3 rfl rfl ?_
                  refine r_if_lt (pc := 4) (tgt := 49) dX8_add_4 (by decide) (by omega) (fun c_4 => ?_) (fun c_4 => ?_)
                  · exact r_vret (pc := 49) dX8_add_49 rfl ⟨rfl, rfl, rfl⟩
                  · exact absurd c_4 (by decide)

set_option maxRecDepth 100000 in
set_option maxHeartbeats 4000000 in
theorem x_feed (l : Launch) (z : Zv) (d : Nat) {g : Gm} {f : Fm} {x1 x2 x3 x4 x5 : Int} (hX : XL g) (h4 : 0 ≤ f 107 4 ∧ f 107 4 ≤ 400) : PM l z (d + 1) mX10_feed [(.ref 64), (.int (iI (x1))), (.int (iI (x2))), (.int (iI (x3))), (.int (iI (x4))), (.int (iI (x5)))] g f 0 0 (rdQ (.int (iI (xaFeed f))) g (xnFeed f x1 x2 x3 x4 x5)) := by
  refine PM.of (by decide +kernel) (Nat.le_of_ble_eq_true rfl) ?_
  refine r_aload_n (pc := 0) 0 dX10_feed_0 rfl rfl ?_
  refine r_getR (pc := 1) (b := 107) dX10_feed_1 fl_X10_30 rfl hX.k hX.r4 ?_
  refine r_getI (pc := 4) dX10_feed_4 fl_X10_132 rfl hX.o4.k ?_
  refine r_bipush (pc := 7) dX10_feed_7 (by decide) ?_
  refine r_iadd (pc := 9) dX10_feed_9 ?_
  refine r_sipush (pc := 10) dX10_feed_10 (by decide) ?_
  refine r_icmp_le (pc := 13) (tgt := 18) dX10_feed_13 (by decide) (by omega) (by omega) (fun c_13 => ?_) (fun c_13 => ?_)
  · refine r_aload_n (pc := 18) 0 dX10_feed_18 rfl rfl ?_
    refine r_getR (pc := 19) (b := 107) dX10_feed_19 fl_X10_30 rfl hX.k hX.r4 ?_
    refine r_iload_n (pc := 22) 1 dX10_feed_22 rfl rfl ?_
    refine r_callV (pc := 23) (As := [(.int (iI (x1)))]) (S := []) dX10_feed_23 cv_X10_135 hX.o4.k rfl (Nat.le_of_ble_eq_true rfl) (x_tapeAdd (t := (f 107 4).toNat) l z _ hX.o4 (by omega) (by omega)) (Nat.zero_le _) (Nat.zero_le _) (fun r_23 g_23 f_23 q_23 => ?_)
    obtain ⟨rfl, rfl, rfl⟩ := q_23
    refine r_aload_n (pc := 26) 0 dX10_feed_26 rfl rfl ?_
    refine r_getR (pc := 27) (b := 107) dX10_feed_27 fl_X10_30 rfl hX.k hX.r4 ?_
    refine r_iload_n (pc := 30) 2 dX10_feed_30 rfl rfl ?_
    refine r_callV (pc := 31) (As := [(.int (iI (x2)))]) (S := []) dX10_feed_31 cv_X10_135 hX.o4.k rfl (Nat.le_of_ble_eq_true rfl) (x_tapeAdd (t := ((f 107 4).toNat + 4)) l z _ hX.o4 (by rw [ad4_4]) (by omega)) (Nat.zero_le _) (Nat.zero_le _) (fun r_31 g_31 f_31 q_31 => ?_)
    obtain ⟨rfl, rfl, rfl⟩ := q_31
    refine r_aload_n (pc := 34) 0 dX10_feed_34 rfl rfl ?_
    refine r_getR (pc := 35) (b := 107) dX10_feed_35 fl_X10_30 rfl hX.k hX.r4 ?_
    refine r_iload_n (pc := 38) 3 dX10_feed_38 rfl rfl ?_
    refine r_callV (pc := 39) (As := [(.int (iI (x3)))]) (S := []) dX10_feed_39 cv_X10_135 hX.o4.k rfl (Nat.le_of_ble_eq_true rfl) (x_tapeAdd (t := ((f 107 4).toNat + 8)) l z _ hX.o4 (by rw [ad4_4]) (by omega)) (Nat.zero_le _) (Nat.zero_le _) (fun r_39 g_39 f_39 q_39 => ?_)
    obtain ⟨rfl, rfl, rfl⟩ := q_39
    refine r_aload_n (pc := 42) 0 dX10_feed_42 rfl rfl ?_
    refine r_getR (pc := 43) (b := 107) dX10_feed_43 fl_X10_30 rfl hX.k hX.r4 ?_
    refine r_iload (pc := 46) 4 dX10_feed_46 rfl ?_
    refine r_callV (pc := 48) (As := [(.int (iI (x4)))]) (S := []) dX10_feed_48 cv_X10_135 hX.o4.k rfl (Nat.le_of_ble_eq_true rfl) (x_tapeAdd (t := ((f 107 4).toNat + 12)) l z _ hX.o4 (by rw [ad4_4]) (by omega)) (Nat.zero_le _) (Nat.zero_le _) (fun r_48 g_48 f_48 q_48 => ?_)
    obtain ⟨rfl, rfl, rfl⟩ := q_48
    refine r_aload_n (pc := 51) 0 dX10_feed_51 rfl rfl ?_
    refine r_getR (pc := 52) (b := 107) dX10_feed_52 fl_X10_30 rfl hX.k hX.r4 ?_
    refine r_iload (pc := 55) 5 dX10_feed_55 rfl ?_
    refine r_callV (pc := 57) (As := [(.int (iI (x5)))]) (S := []) dX10_feed_57 cv_X10_135 hX.o4.k rfl (Nat.le_of_ble_eq_true rfl) (x_tapeAdd (t := ((f 107 4).toNat + 16)) l z _ hX.o4 (by rw [ad4_4]) (by omega)) (Nat.zero_le _) (Nat.zero_le _) (fun r_57 g_57 f_57 q_57 => ?_)
    obtain ⟨rfl, rfl, rfl⟩ := q_57
    refine r_aload_n (pc := 60) 0 dX10_feed_60 rfl rfl ?_
    refine r_getR (pc := 61) (b := 107) dX10_feed_61 fl_X10_30 rfl hX.k hX.r4 ?_
    refine r_getIv (pc := 64) (x := f 107 4 + 20) dX10_feed_64 fl_X10_132 rfl hX.o4.k (by rw [ad4_4]; omega) ?_
    exact r_iret (pc := 67) dX10_feed_67 rfl rfl ⟨by simp only [xaFeed]; first | rw [if_pos (by omega)] | rw [if_neg (by omega)], rfl, by simp only [xnFeed]; first | rw [if_pos (by omega)] | rw [if_neg (by omega)]⟩
  · refine r_iconst (pc := 16) dX10_feed_16 ?_
    exact r_iret (pc := 17) dX10_feed_17 rfl rfl ⟨by simp only [xaFeed]; first | rw [if_pos (by omega)] | rw [if_neg (by omega)], rfl, by simp only [xnFeed]; first | rw [if_pos (by omega)] | rw [if_neg (by omega)]⟩

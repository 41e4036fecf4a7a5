def g00 : Gm := (64, fun _ => 0, fun _ => 0, fun _ _ => 0, fun _ _ => none)
def f00 : Fm := fun _ _ => 0

def gX1 : Gm := (stR (nwG (stR (nwG (stR (nwG (stR (gI4 (nwG (stR (gI8 (nwG (stR (gI6 (nwG (stR (gI6 (nwG (stR (gI6 (nwG (stR (gI2 (nwG (stR (gI2 (nwG (stR (gI7 (nwG (stR (nwG (stR (stR (gI1 (nwG (stR (gI1 (nwG (nwG (stR (gI1 (nwG (stR (gI1 (nwG (nwG g00 9 0) 1 0) 65) 64 0 (some 65)) 1 0) 75) 64 1 (some 75)) 16 2) 1 0) 86) 85 (0 : Int).toNat (some 86)) 1 0) 96) 85 (1 : Int).toNat (some 96)) 64 2 (some 85)) 13 2) 64 3 (some 106)) 7 0) 107) 64 4 (some 107)) 2 0) 111) 64 5 (some 111)) 2 0) 123) 64 6 (some 123)) 6 0) 135) 64 7 (some 135)) 6 0) 140) 64 8 (some 140)) 6 0) 145) 64 9 (some 145)) 8 0) 150) 64 10 (some 150)) 4 0) 157) 64 11 (some 157)) 11 5) 64 12 (some 161)) 11 8) 64 13 (some 162)) 11 8) 64 14 (some 163))
def fX1 : Fm := (nwF (nwF (nwF (fI4 (nwG (stR (gI8 (nwG (stR (gI6 (nwG (stR (gI6 (nwG (stR (gI6 (nwG (stR (gI2 (nwG (stR (gI2 (nwG (stR (gI7 (nwG (stR (nwG (stR (stR (gI1 (nwG (stR (gI1 (nwG (nwG (stR (gI1 (nwG (stR (gI1 (nwG (nwG g00 9 0) 1 0) 65) 64 0 (some 65)) 1 0) 75) 64 1 (some 75)) 16 2) 1 0) 86) 85 (0 : Int).toNat (some 86)) 1 0) 96) 85 (1 : Int).toNat (some 96)) 64 2 (some 85)) 13 2) 64 3 (some 106)) 7 0) 107) 64 4 (some 107)) 2 0) 111) 64 5 (some 111)) 2 0) 123) 64 6 (some 123)) 6 0) 135) 64 7 (some 135)) 6 0) 140) 64 8 (some 140)) 6 0) 145) 64 9 (some 145)) 8 0) 150) 64 10 (some 150)) 4 0) (nwF (fI8 (nwG (stR (gI6 (nwG (stR (gI6 (nwG (stR (gI6 (nwG (stR (gI2 (nwG (stR (gI2 (nwG (stR (gI7 (nwG (stR (nwG (stR (stR (gI1 (nwG (stR (gI1 (nwG (nwG (stR (gI1 (nwG (stR (gI1 (nwG (nwG g00 9 0) 1 0) 65) 64 0 (some 65)) 1 0) 75) 64 1 (some 75)) 16 2) 1 0) 86) 85 (0 : Int).toNat (some 86)) 1 0) 96) 85 (1 : Int).toNat (some 96)) 64 2 (some 85)) 13 2) 64 3 (some 106)) 7 0) 107) 64 4 (some 107)) 2 0) 111) 64 5 (some 111)) 2 0) 123) 64 6 (some 123)) 6 0) 135) 64 7 (some 135)) 6 0) 140) 64 8 (some 140)) 6 0) 145) 64 9 (some 145)) 8 0) (nwF (fI6 (nwG (stR (gI6 (nwG (stR (gI6 (nwG (stR (gI2 (nwG (stR (gI2 (nwG (stR (gI7 (nwG (stR (nwG (stR (stR (gI1 (nwG (stR (gI1 (nwG (nwG (stR (gI1 (nwG (stR (gI1 (nwG (nwG g00 9 0) 1 0) 65) 64 0 (some 65)) 1 0) 75) 64 1 (some 75)) 16 2) 1 0) 86) 85 (0 : Int).toNat (some 86)) 1 0) 96) 85 (1 : Int).toNat (some 96)) 64 2 (some 85)) 13 2) 64 3 (some 106)) 7 0) 107) 64 4 (some 107)) 2 0) 111) 64 5 (some 111)) 2 0) 123) 64 6 (some 123)) 6 0) 135) 64 7 (some 135)) 6 0) 140) 64 8 (some 140)) 6 0) (nwF (fI6 (nwG (stR (gI6 (nwG (stR (gI2 (nwG (stR (gI2 (nwG (stR (gI7 (nwG (stR (nwG (stR (stR (gI1 (nwG (stR (gI1 (nwG (nwG (stR (gI1 (nwG (stR (gI1 (nwG (nwG g00 9 0) 1 0) 65) 64 0 (some 65)) 1 0) 75) 64 1 (some 75)) 16 2) 1 0) 86) 85 (0 : Int).toNat (some 86)) 1 0) 96) 85 (1 : Int).toNat (some 96)) 64 2 (some 85)) 13 2) 64 3 (some 106)) 7 0) 107) 64 4 (some 107)) 2 0) 111) 64 5 (some 111)) 2 0) 123) 64 6 (some 123)) 6 0) 135) 64 7 (some 135)) 6 0) (nwF (fI6 (nwG (stR (gI2 (nwG (stR (gI2 (nwG (stR (gI7 (nwG (stR (nwG (stR (stR (gI1 (nwG (stR (gI1 (nwG (nwG (stR (gI1 (nwG (stR (gI1 (nwG (nwG g00 9 0) 1 0) 65) 64 0 (some 65)) 1 0) 75) 64 1 (some 75)) 16 2) 1 0) 86) 85 (0 : Int).toNat (some 86)) 1 0) 96) 85 (1 : Int).toNat (some 96)) 64 2 (some 85)) 13 2) 64 3 (some 106)) 7 0) 107) 64 4 (some 107)) 2 0) 111) 64 5 (some 111)) 2 0) 123) 64 6 (some 123)) 6 0) (nwF (fI2 (nwG (stR (gI2 (nwG (stR (gI7 (nwG (stR (nwG (stR (stR (gI1 (nwG (stR (gI1 (nwG (nwG (stR (gI1 (nwG (stR (gI1 (nwG (nwG g00 9 0) 1 0) 65) 64 0 (some 65)) 1 0) 75) 64 1 (some 75)) 16 2) 1 0) 86) 85 (0 : Int).toNat (some 86)) 1 0) 96) 85 (1 : Int).toNat (some 96)) 64 2 (some 85)) 13 2) 64 3 (some 106)) 7 0) 107) 64 4 (some 107)) 2 0) 111) 64 5 (some 111)) 2 0) (nwF (fI2 (nwG (stR (gI7 (nwG (stR (nwG (stR (stR (gI1 (nwG (stR (gI1 (nwG (nwG (stR (gI1 (nwG (stR (gI1 (nwG (nwG g00 9 0) 1 0) 65) 64 0 (some 65)) 1 0) 75) 64 1 (some 75)) 16 2) 1 0) 86) 85 (0 : Int).toNat (some 86)) 1 0) 96) 85 (1 : Int).toNat (some 96)) 64 2 (some 85)) 13 2) 64 3 (some 106)) 7 0) 107) 64 4 (some 107)) 2 0) (nwF (fI7 (nwG (stR (nwG (stR (stR (gI1 (nwG (stR (gI1 (nwG (nwG (stR (gI1 (nwG (stR (gI1 (nwG (nwG g00 9 0) 1 0) 65) 64 0 (some 65)) 1 0) 75) 64 1 (some 75)) 16 2) 1 0) 86) 85 (0 : Int).toNat (some 86)) 1 0) 96) 85 (1 : Int).toNat (some 96)) 64 2 (some 85)) 13 2) 64 3 (some 106)) 7 0) (nwF (nwF (fI1 (nwG (stR (gI1 (nwG (nwG (stR (gI1 (nwG (stR (gI1 (nwG (nwG g00 9 0) 1 0) 65) 64 0 (some 65)) 1 0) 75) 64 1 (some 75)) 16 2) 1 0) 86) 85 (0 : Int).toNat (some 86)) 1 0) (nwF (fI1 (nwG (nwG (stR (gI1 (nwG (stR (gI1 (nwG (nwG g00 9 0) 1 0) 65) 64 0 (some 65)) 1 0) 75) 64 1 (some 75)) 16 2) 1 0) (nwF (nwF (fI1 (nwG (stR (gI1 (nwG (nwG g00 9 0) 1 0) 65) 64 0 (some 65)) 1 0) (nwF (fI1 (nwG (nwG g00 9 0) 1 0) (nwF (nwF f00 64) 65) 65) 75) 75) 85) 86) 86) 96) 96) 106) 107) 107) 111) 111) 123) 123) 135) 135) 140) 140) 145) 145) 150) 150) 157) 157) 161) 162) 163)
set_option maxRecDepth 100000 in
set_option maxHeartbeats 4000000 in
theorem i_9 (l : Launch) (z : Zv) (d : Nat) (hb : isK (nwG g00 9 0) 64 9) : PM l z (d + 2) mX10_init [.ref 64] (nwG g00 9 0) (nwF f00 64) 99 8103 (fun r g' f' => r = none ∧ gX1 = g' ∧ fX1 = f') := by
  refine PM.of (by decide +kernel) (Nat.le_of_ble_eq_true rfl) ?_
  refine r_aload_n (pc := 0) 0 dX10_init_0 rfl rfl ?_
  refine r_objInit (pc := 1) dX10_init_1 oi_X10_1 (Nat.le_of_ble_eq_true rfl) ?_
  refine r_aload_n (pc := 4) 0 dX10_init_4 rfl rfl ?_
  refine r_newv (pc := 5) (c := 1) (a := 65) dX10_init_5 rfl (by decide) cw_X10_7 (by decide) (by decide) ?_
  refine r_dup (pc := 8) dX10_init_8 rfl ?_
  refine r_callIN (pc := 9) (As := []) (S := [(.ref 65), (.ref 64)]) dX10_init_9 cn_X10_9 rfl (Nat.le_of_ble_eq_true rfl) (i_1 l z _ (isK_new (a := 65) 1 0 rfl (by omega))) (by decide) (by decide) (fun r_9 g_9 f_9 q_9 => ?_)
  obtain ⟨rfl, rfl, rfl⟩ := q_9
  refine r_putRF (pc := 12) dX10_init_12 fl_X10_10 rfl rfl rfl rfl ((hb.nw 1 0).ext (eI1 _ 65)) ?_
  refine r_aload_n (pc := 15) 0 dX10_init_15 rfl rfl ?_
  refine r_newv (pc := 16) (c := 1) (a := 75) dX10_init_16 rfl (by decide) cw_X10_7 (by decide) (by decide) ?_
  refine r_dup (pc := 19) dX10_init_19 rfl ?_
  refine r_callIN (pc := 20) (As := []) (S := [(.ref 75), (.ref 64)]) dX10_init_20 cn_X10_9 rfl (Nat.le_of_ble_eq_true rfl) (i_1 l z _ (isK_new (a := 75) 1 0 rfl (by omega))) (by decide) (by decide) (fun r_20 g_20 f_20 q_20 => ?_)
  obtain ⟨rfl, rfl, rfl⟩ := q_20
  refine r_putRF (pc := 23) dX10_init_23 fl_X10_16 rfl rfl rfl rfl (((((hb.nw 1 0).ext (eI1 _ 65)).st 64 0 (some 65)).nw 1 0).ext (eI1 _ 75)) ?_
  refine r_aload_n (pc := 26) 0 dX10_init_26 rfl rfl ?_
  refine r_iconst (pc := 27) dX10_init_27 ?_
  refine r_anewv (pc := 28) (c := 16) (n := 2) (a := 85) dX10_init_28 rfl (Or.inr ⟨rfl, al_X10_7⟩) (by decide) (by decide) (by decide) ?_
  refine r_dup (pc := 31) dX10_init_31 rfl ?_
  refine r_iconst (pc := 32) dX10_init_32 ?_
  refine r_newv (pc := 33) (c := 1) (a := 86) dX10_init_33 rfl (by decide) cw_X10_7 (by decide) (by decide) ?_
  refine r_dup (pc := 36) dX10_init_36 rfl ?_
  refine r_callIN (pc := 37) (As := []) (S := [(.ref 86), (.int (iI (0))), (.ref 85), (.ref 85), (.ref 64)]) dX10_init_37 cn_X10_9 rfl (Nat.le_of_ble_eq_true rfl) (i_1 l z _ (isK_new (a := 86) 1 0 rfl (by omega))) (by decide) (by decide) (fun r_37 g_37 f_37 q_37 => ?_)
  obtain ⟨rfl, rfl, rfl⟩ := q_37
  refine r_aast (pc := 40) (c := 16) (j := 1) dX10_init_40 (((isA_new (a := 85) 16 2 rfl (by omega)).nw 1 0).ext (eI1 _ 86)) (by decide) (by decide) (by decide) ((isK_new (a := 86) 1 0 rfl (by omega)).ext (eI1 _ 86)) ?_
  refine r_dup (pc := 41) dX10_init_41 rfl ?_
  refine r_iconst (pc := 42) dX10_init_42 ?_
  refine r_newv (pc := 43) (c := 1) (a := 96) dX10_init_43 rfl (by decide) cw_X10_7 (by decide) (by decide) ?_
  refine r_dup (pc := 46) dX10_init_46 rfl ?_
  refine r_callIN (pc := 47) (As := []) (S := [(.ref 96), (.int (iI (1))), (.ref 85), (.ref 85), (.ref 64)]) dX10_init_47 cn_X10_9 rfl (Nat.le_of_ble_eq_true rfl) (i_1 l z _ (isK_new (a := 96) 1 0 rfl (by omega))) (by decide) (by decide) (fun r_47 g_47 f_47 q_47 => ?_)
  obtain ⟨rfl, rfl, rfl⟩ := q_47
  refine r_aast (pc := 50) (c := 16) (j := 1) dX10_init_50 ((((((isA_new (a := 85) 16 2 rfl (by omega)).nw 1 0).ext (eI1 _ 86)).st 85 (0 : Int).toNat (some 86)).nw 1 0).ext (eI1 _ 96)) (by decide) (by decide) (by decide) ((isK_new (a := 96) 1 0 rfl (by omega)).ext (eI1 _ 96)) ?_
  refine r_putRF (pc := 51) dX10_init_51 fl_X10_19 rfl rfl rfl rfl (((((((((((((hb.nw 1 0).ext (eI1 _ 65)).st 64 0 (some 65)).nw 1 0).ext (eI1 _ 75)).st 64 1 (some 75)).nw 16 2).nw 1 0).ext (eI1 _ 86)).st 85 (0 : Int).toNat (some 86)).nw 1 0).ext (eI1 _ 96)).st 85 (1 : Int).toNat (some 96)) ?_
  refine r_aload_n (pc := 54) 0 dX10_init_54 rfl rfl ?_
  refine r_iconst (pc := 55) dX10_init_55 ?_
  refine r_newav (pc := 56) (c := 13) (n := 2) (a := 106) dX10_init_56 rfl (by decide) ak_boolean (by decide) (by decide) (by decide) ?_
  refine r_putRF (pc := 58) dX10_init_58 fl_X10_23 rfl rfl rfl rfl (((((((((((((((hb.nw 1 0).ext (eI1 _ 65)).st 64 0 (some 65)).nw 1 0).ext (eI1 _ 75)).st 64 1 (some 75)).nw 16 2).nw 1 0).ext (eI1 _ 86)).st 85 (0 : Int).toNat (some 86)).nw 1 0).ext (eI1 _ 96)).st 85 (1 : Int).toNat (some 96)).st 64 2 (some 85)).nw 13 2) ?_
  refine r_aload_n (pc := 61) 0 dX10_init_61 rfl rfl ?_
  refine r_newv (pc := 62) (c := 7) (a := 107) dX10_init_62 rfl (by decide) cw_X10_27 (by decide) (by decide) ?_
  refine r_dup (pc := 65) dX10_init_65 rfl ?_
  refine r_callIN (pc := 66) (As := []) (S := [(.ref 107), (.ref 64)]) dX10_init_66 cn_X10_29 rfl (Nat.le_of_ble_eq_true rfl) (i_7 l z _ (isK_new (a := 107) 7 0 rfl (by omega))) (by decide) (by decide) (fun r_66 g_66 f_66 q_66 => ?_)
  obtain ⟨rfl, rfl, rfl⟩ := q_66
  refine r_putRF (pc := 69) dX10_init_69 fl_X10_30 rfl rfl rfl rfl ((((((((((((((((((hb.nw 1 0).ext (eI1 _ 65)).st 64 0 (some 65)).nw 1 0).ext (eI1 _ 75)).st 64 1 (some 75)).nw 16 2).nw 1 0).ext (eI1 _ 86)).st 85 (0 : Int).toNat (some 86)).nw 1 0).ext (eI1 _ 96)).st 85 (1 : Int).toNat (some 96)).st 64 2 (some 85)).nw 13 2).st 64 3 (some 106)).nw 7 0).ext (eI7 _ 107)) ?_
  refine r_aload_n (pc := 72) 0 dX10_init_72 rfl rfl ?_
  refine r_newv (pc := 73) (c := 2) (a := 111) dX10_init_73 rfl (by decide) cw_X10_34 (by decide) (by decide) ?_
  refine r_dup (pc := 76) dX10_init_76 rfl ?_
  refine r_callIN (pc := 77) (As := []) (S := [(.ref 111), (.ref 64)]) dX10_init_77 cn_X10_36 rfl (Nat.le_of_ble_eq_true rfl) (i_2 l z _ (isK_new (a := 111) 2 0 rfl (by omega))) (by decide) (by decide) (fun r_77 g_77 f_77 q_77 => ?_)
  obtain ⟨rfl, rfl, rfl⟩ := q_77
  refine r_putRF (pc := 80) dX10_init_80 fl_X10_37 rfl rfl rfl rfl (((((((((((((((((((((hb.nw 1 0).ext (eI1 _ 65)).st 64 0 (some 65)).nw 1 0).ext (eI1 _ 75)).st 64 1 (some 75)).nw 16 2).nw 1 0).ext (eI1 _ 86)).st 85 (0 : Int).toNat (some 86)).nw 1 0).ext (eI1 _ 96)).st 85 (1 : Int).toNat (some 96)).st 64 2 (some 85)).nw 13 2).st 64 3 (some 106)).nw 7 0).ext (eI7 _ 107)).st 64 4 (some 107)).nw 2 0).ext (eI2 _ 111)) ?_
  refine r_aload_n (pc := 83) 0 dX10_init_83 rfl rfl ?_
  refine r_newv (pc := 84) (c := 2) (a := 123) dX10_init_84 rfl (by decide) cw_X10_34 (by decide) (by decide) ?_
  refine r_dup (pc := 87) dX10_init_87 rfl ?_
  refine r_callIN (pc := 88) (As := []) (S := [(.ref 123), (.ref 64)]) dX10_init_88 cn_X10_36 rfl (Nat.le_of_ble_eq_true rfl) (i_2 l z _ (isK_new (a := 123) 2 0 rfl (by omega))) (by decide) (by decide) (fun r_88 g_88 f_88 q_88 => ?_)
  obtain ⟨rfl, rfl, rfl⟩ := q_88
  refine r_putRF (pc := 91) dX10_init_91 fl_X10_41 rfl rfl rfl rfl ((((((((((((((((((((((((hb.nw 1 0).ext (eI1 _ 65)).st 64 0 (some 65)).nw 1 0).ext (eI1 _ 75)).st 64 1 (some 75)).nw 16 2).nw 1 0).ext (eI1 _ 86)).st 85 (0 : Int).toNat (some 86)).nw 1 0).ext (eI1 _ 96)).st 85 (1 : Int).toNat (some 96)).st 64 2 (some 85)).nw 13 2).st 64 3 (some 106)).nw 7 0).ext (eI7 _ 107)).st 64 4 (some 107)).nw 2 0).ext (eI2 _ 111)).st 64 5 (some 111)).nw 2 0).ext (eI2 _ 123)) ?_
  refine r_aload_n (pc := 94) 0 dX10_init_94 rfl rfl ?_
  refine r_newv (pc := 95) (c := 6) (a := 135) dX10_init_95 rfl (by decide) cw_X10_44 (by decide) (by decide) ?_
  refine r_dup (pc := 98) dX10_init_98 rfl ?_
  refine r_callIN (pc := 99) (As := []) (S := [(.ref 135), (.ref 64)]) dX10_init_99 cn_X10_46 rfl (Nat.le_of_ble_eq_true rfl) (i_6 l z _ (isK_new (a := 135) 6 0 rfl (by omega))) (by decide) (by decide) (fun r_99 g_99 f_99 q_99 => ?_)
  obtain ⟨rfl, rfl, rfl⟩ := q_99
  refine r_putRF (pc := 102) dX10_init_102 fl_X10_47 rfl rfl rfl rfl (((((((((((((((((((((((((((hb.nw 1 0).ext (eI1 _ 65)).st 64 0 (some 65)).nw 1 0).ext (eI1 _ 75)).st 64 1 (some 75)).nw 16 2).nw 1 0).ext (eI1 _ 86)).st 85 (0 : Int).toNat (some 86)).nw 1 0).ext (eI1 _ 96)).st 85 (1 : Int).toNat (some 96)).st 64 2 (some 85)).nw 13 2).st 64 3 (some 106)).nw 7 0).ext (eI7 _ 107)).st 64 4 (some 107)).nw 2 0).ext (eI2 _ 111)).st 64 5 (some 111)).nw 2 0).ext (eI2 _ 123)).st 64 6 (some 123)).nw 6 0).ext (eI6 _ 135)) ?_
  refine r_aload_n (pc := 105) 0 dX10_init_105 rfl rfl ?_
  refine r_newv (pc := 106) (c := 6) (a := 140) dX10_init_106 rfl (by decide) cw_X10_44 (by decide) (by decide) ?_
  refine r_dup (pc := 109) dX10_init_109 rfl ?_
  refine r_callIN (pc := 110) (As := []) (S := [(.ref 140), (.ref 64)]) dX10_init_110 cn_X10_46 rfl (Nat.le_of_ble_eq_true rfl) (i_6 l z _ (isK_new (a := 140) 6 0 rfl (by omega))) (by decide) (by decide) (fun r_110 g_110 f_110 q_110 => ?_)
  obtain ⟨rfl, rfl, rfl⟩ := q_110
  refine r_putRF (pc := 113) dX10_init_113 fl_X10_51 rfl rfl rfl rfl ((((((((((((((((((((((((((((((hb.nw 1 0).ext (eI1 _ 65)).st 64 0 (some 65)).nw 1 0).ext (eI1 _ 75)).st 64 1 (some 75)).nw 16 2).nw 1 0).ext (eI1 _ 86)).st 85 (0 : Int).toNat (some 86)).nw 1 0).ext (eI1 _ 96)).st 85 (1 : Int).toNat (some 96)).st 64 2 (some 85)).nw 13 2).st 64 3 (some 106)).nw 7 0).ext (eI7 _ 107)).st 64 4 (some 107)).nw 2 0).ext (eI2 _ 111)).st 64 5 (some 111)).nw 2 0).ext (eI2 _ 123)).st 64 6 (some 123)).nw 6 0).ext (eI6 _ 135)).st 64 7 (some 135)).nw 6 0).ext (eI6 _ 140)) ?_
  refine r_aload_n (pc := 116) 0 dX10_init_116 rfl rfl ?_
  refine r_newv (pc := 117) (c := 6) (a := 145) dX10_init_117 rfl (by decide) cw_X10_44 (by decide) (by decide) ?_
  refine r_dup (pc := 120) dX10_init_120 rfl ?_
  refine r_callIN (pc := 121) (As := []) (S := [(.ref 145), (.ref 64)]) dX10_init_121 cn_X10_46 rfl (Nat.le_of_ble_eq_true rfl) (i_6 l z _ (isK_new (a := 145) 6 0 rfl (by omega))) (by decide) (by decide) (fun r_121 g_121 f_121 q_121 => ?_)
  obtain ⟨rfl, rfl, rfl⟩ := q_121
  refine r_putRF (pc := 124) dX10_init_124 fl_X10_54 rfl rfl rfl rfl (((((((((((((((((((((((((((((((((hb.nw 1 0).ext (eI1 _ 65)).st 64 0 (some 65)).nw 1 0).ext (eI1 _ 75)).st 64 1 (some 75)).nw 16 2).nw 1 0).ext (eI1 _ 86)).st 85 (0 : Int).toNat (some 86)).nw 1 0).ext (eI1 _ 96)).st 85 (1 : Int).toNat (some 96)).st 64 2 (some 85)).nw 13 2).st 64 3 (some 106)).nw 7 0).ext (eI7 _ 107)).st 64 4 (some 107)).nw 2 0).ext (eI2 _ 111)).st 64 5 (some 111)).nw 2 0).ext (eI2 _ 123)).st 64 6 (some 123)).nw 6 0).ext (eI6 _ 135)).st 64 7 (some 135)).nw 6 0).ext (eI6 _ 140)).st 64 8 (some 140)).nw 6 0).ext (eI6 _ 145)) ?_
  refine r_aload_n (pc := 127) 0 dX10_init_127 rfl rfl ?_
  refine r_newv (pc := 128) (c := 8) (a := 150) dX10_init_128 rfl (by decide) cw_X10_57 (by decide) (by decide) ?_
  refine r_dup (pc := 131) dX10_init_131 rfl ?_
  refine r_callIN (pc := 132) (As := []) (S := [(.ref 150), (.ref 64)]) dX10_init_132 cn_X10_59 rfl (Nat.le_of_ble_eq_true rfl) (i_8 l z _ (isK_new (a := 150) 8 0 rfl (by omega))) (by decide) (by decide) (fun r_132 g_132 f_132 q_132 => ?_)
  obtain ⟨rfl, rfl, rfl⟩ := q_132
  refine r_putRF (pc := 135) dX10_init_135 fl_X10_60 rfl rfl rfl rfl ((((((((((((((((((((((((((((((((((((hb.nw 1 0).ext (eI1 _ 65)).st 64 0 (some 65)).nw 1 0).ext (eI1 _ 75)).st 64 1 (some 75)).nw 16 2).nw 1 0).ext (eI1 _ 86)).st 85 (0 : Int).toNat (some 86)).nw 1 0).ext (eI1 _ 96)).st 85 (1 : Int).toNat (some 96)).st 64 2 (some 85)).nw 13 2).st 64 3 (some 106)).nw 7 0).ext (eI7 _ 107)).st 64 4 (some 107)).nw 2 0).ext (eI2 _ 111)).st 64 5 (some 111)).nw 2 0).ext (eI2 _ 123)).st 64 6 (some 123)).nw 6 0).ext (eI6 _ 135)).st 64 7 (some 135)).nw 6 0).ext (eI6 _ 140)).st 64 8 (some 140)).nw 6 0).ext (eI6 _ 145)).st 64 9 (some 145)).nw 8 0).ext (eI8 _ 150)) ?_
  refine r_aload_n (pc := 138) 0 dX10_init_138 rfl rfl ?_
  refine r_newv (pc := 139) (c := 4) (a := 157) dX10_init_139 rfl (by decide) cw_X10_64 (by decide) (by decide) ?_
  refine r_dup (pc := 142) dX10_init_142 rfl ?_
  refine r_callIN (pc := 143) (As := []) (S := [(.ref 157), (.ref 64)]) dX10_init_143 cn_X10_66 rfl (Nat.le_of_ble_eq_true rfl) (i_4 l z _ (isK_new (a := 157) 4 0 rfl (by omega))) (by decide) (by decide) (fun r_143 g_143 f_143 q_143 => ?_)
  obtain ⟨rfl, rfl, rfl⟩ := q_143
  refine r_putRF (pc := 146) dX10_init_146 fl_X10_67 rfl rfl rfl rfl (((((((((((((((((((((((((((((((((((((((hb.nw 1 0).ext (eI1 _ 65)).st 64 0 (some 65)).nw 1 0).ext (eI1 _ 75)).st 64 1 (some 75)).nw 16 2).nw 1 0).ext (eI1 _ 86)).st 85 (0 : Int).toNat (some 86)).nw 1 0).ext (eI1 _ 96)).st 85 (1 : Int).toNat (some 96)).st 64 2 (some 85)).nw 13 2).st 64 3 (some 106)).nw 7 0).ext (eI7 _ 107)).st 64 4 (some 107)).nw 2 0).ext (eI2 _ 111)).st 64 5 (some 111)).nw 2 0).ext (eI2 _ 123)).st 64 6 (some 123)).nw 6 0).ext (eI6 _ 135)).st 64 7 (some 135)).nw 6 0).ext (eI6 _ 140)).st 64 8 (some 140)).nw 6 0).ext (eI6 _ 145)).st 64 9 (some 145)).nw 8 0).ext (eI8 _ 150)).st 64 10 (some 150)).nw 4 0).ext (eI4 _ 157)) ?_
  refine r_aload_n (pc := 149) 0 dX10_init_149 rfl rfl ?_
  refine r_iconst (pc := 150) dX10_init_150 ?_
  refine r_newav (pc := 151) (c := 11) (n := 5) (a := 161) dX10_init_151 rfl (by decide) ak_int (by decide) (by decide) (by decide) ?_
  refine r_putRF (pc := 153) dX10_init_153 fl_X10_71 rfl rfl rfl rfl (((((((((((((((((((((((((((((((((((((((((hb.nw 1 0).ext (eI1 _ 65)).st 64 0 (some 65)).nw 1 0).ext (eI1 _ 75)).st 64 1 (some 75)).nw 16 2).nw 1 0).ext (eI1 _ 86)).st 85 (0 : Int).toNat (some 86)).nw 1 0).ext (eI1 _ 96)).st 85 (1 : Int).toNat (some 96)).st 64 2 (some 85)).nw 13 2).st 64 3 (some 106)).nw 7 0).ext (eI7 _ 107)).st 64 4 (some 107)).nw 2 0).ext (eI2 _ 111)).st 64 5 (some 111)).nw 2 0).ext (eI2 _ 123)).st 64 6 (some 123)).nw 6 0).ext (eI6 _ 135)).st 64 7 (some 135)).nw 6 0).ext (eI6 _ 140)).st 64 8 (some 140)).nw 6 0).ext (eI6 _ 145)).st 64 9 (some 145)).nw 8 0).ext (eI8 _ 150)).st 64 10 (some 150)).nw 4 0).ext (eI4 _ 157)).st 64 11 (some 157)).nw 11 5) ?_
  refine r_aload_n (pc := 156) 0 dX10_init_156 rfl rfl ?_
  refine r_bipush (pc := 157) dX10_init_157 (by decide) ?_
  refine r_newav (pc := 159) (c := 11) (n := 8) (a := 162) dX10_init_159 rfl (by decide) ak_int (by decide) (by decide) (by decide) ?_
  refine r_putRF (pc := 161) dX10_init_161 fl_X10_75 rfl rfl rfl rfl (((((((((((((((((((((((((((((((((((((((((((hb.nw 1 0).ext (eI1 _ 65)).st 64 0 (some 65)).nw 1 0).ext (eI1 _ 75)).st 64 1 (some 75)).nw 16 2).nw 1 0).ext (eI1 _ 86)).st 85 (0 : Int).toNat (some 86)).nw 1 0).ext (eI1 _ 96)).st 85 (1 : Int).toNat (some 96)).st 64 2 (some 85)).nw 13 2).st 64 3 (some 106)).nw 7 0).ext (eI7 _ 107)).st 64 4 (some 107)).nw 2 0).ext (eI2 _ 111)).st 64 5 (some 111)).nw 2 0).ext (eI2 _ 123)).st 64 6 (some 123)).nw 6 0).ext (eI6 _ 135)).st 64 7 (some 135)).nw 6 0).ext (eI6 _ 140)).st 64 8 (some 140)).nw 6 0).ext (eI6 _ 145)).st 64 9 (some 145)).nw 8 0).ext (eI8 _ 150)).st 64 10 (some 150)).nw 4 0).ext (eI4 _ 157)).st 64 11 (some 157)).nw 11 5).st 64 12 (some 161)).nw 11 8) ?_
  refine r_aload_n (pc := 164) 0 dX10_init_164 rfl rfl ?_
  refine r_bipush (pc := 165) dX10_init_165 (by decide) ?_
  refine r_newav (pc := 167) (c := 11) (n := 8) (a := 163) dX10_init_167 rfl (by decide) ak_int (by decide) (by decide) (by decide) ?_
  refine r_putRF (pc := 169) dX10_init_169 fl_X10_78 rfl rfl rfl rfl (((((((((((((((((((((((((((((((((((((((((((((hb.nw 1 0).ext (eI1 _ 65)).st 64 0 (some 65)).nw 1 0).ext (eI1 _ 75)).st 64 1 (some 75)).nw 16 2).nw 1 0).ext (eI1 _ 86)).st 85 (0 : Int).toNat (some 86)).nw 1 0).ext (eI1 _ 96)).st 85 (1 : Int).toNat (some 96)).st 64 2 (some 85)).nw 13 2).st 64 3 (some 106)).nw 7 0).ext (eI7 _ 107)).st 64 4 (some 107)).nw 2 0).ext (eI2 _ 111)).st 64 5 (some 111)).nw 2 0).ext (eI2 _ 123)).st 64 6 (some 123)).nw 6 0).ext (eI6 _ 135)).st 64 7 (some 135)).nw 6 0).ext (eI6 _ 140)).st 64 8 (some 140)).nw 6 0).ext (eI6 _ 145)).st 64 9 (some 145)).nw 8 0).ext (eI8 _ 150)).st 64 10 (some 150)).nw 4 0).ext (eI4 _ 157)).st 64 11 (some 157)).nw 11 5).st 64 12 (some 161)).nw 11 8).st 64 13 (some 162)).nw 11 8) ?_
  exact r_vret (pc := 172) dX10_init_172 rfl ⟨rfl, rfl, rfl⟩
def gX2 : Gm := (stR (nwG (stR (nwG (stR (nwG (stR (nwG (stR (nwG (stR (nwG (stR (nwG (stR (nwG (stR (nwG (stR (nwG (stR (nwG (stR (nwG (stR (nwG (stR (nwG (stR (nwG (stR (nwG (stR (nwG (stR (nwG (stR (nwG (stR (nwG (stR (nwG (stR (nwG (stR (nwG (stR (nwG (stR (nwG (stR (nwG (stR (nwG (stR (nwG (stR (nwG (stR (nwG (nwG gX1 10 0) 11 7) 164 1 (some 165)) 11 4888) 164 2 (some 166)) 11 9776) 164 3 (some 167)) 13 2) 164 4 (some 168)) 14 66) 164 6 (some 169)) 14 400) 164 7 (some 170)) 11 5) 164 8 (some 171)) 11 401) 164 11 (some 172)) 11 401) 164 12 (some 173)) 11 401) 164 13 (some 174)) 11 8) 164 21 (some 175)) 11 8) 164 24 (some 176)) 11 8) 164 25 (some 177)) 11 2) 164 26 (some 178)) 11 8) 164 27 (some 179)) 11 256) 164 28 (some 180)) 11 256) 164 29 (some 181)) 11 256) 164 30 (some 182)) 11 256) 164 31 (some 183)) 11 8) 164 32 (some 184)) 13 7680) 164 33 (some 185)) 13 65536) 164 34 (some 186)) 13 7936) 164 35 (some 187)) 13 7936) 164 36 (some 188)) 11 8) 164 37 (some 189)) 11 8) 164 38 (some 190)) 11 8) 164 39 (some 191)) 11 8) 164 40 (some 192)) 11 8) 164 41 (some 193)) 11 8) 164 42 (some 194))
def fX2 : Fm := (stF (stF (nwF (nwF (nwF (nwF (nwF (nwF (nwF (nwF (nwF (nwF (nwF (nwF (nwF (nwF (nwF (nwF (nwF (nwF (nwF (nwF (nwF (nwF (nwF (stF (nwF (nwF (stF (stF (stF (stF (stF (stF (stF (stF (stF (stF (stF (stF (stF (stF (stF (stF (stF (stF (stF (stF (stF (stF (stF (stF (stF (stF (stF (stF (stF (stF (stF (stF (stF (stF (stF (stF (stF (stF (stF (stF (stF (stF (stF (stF (stF (stF (stF (stF (stF (stF (stF (stF (stF (stF (stF (stF (stF (stF (stF (stF (stF (stF (stF (stF (stF (stF (nwF (nwF (nwF (nwF (nwF (nwF fX1 164) 165) 166) 167) 168) 169) 169 0 (119)) 169 1 (97)) 169 2 (110)) 169 3 (116)) 169 4 (115)) 169 5 (32)) 169 6 (119)) 169 7 (97)) 169 8 (105)) 169 9 (116)) 169 10 (115)) 169 11 (32)) 169 12 (105)) 169 13 (102)) 169 14 (32)) 169 15 (111)) 169 16 (114)) 169 17 (32)) 169 18 (97)) 169 19 (110)) 169 20 (100)) 169 21 (32)) 169 22 (110)) 169 23 (111)) 169 24 (116)) 169 25 (32)) 169 26 (119)) 169 27 (104)) 169 28 (111)) 169 29 (32)) 169 30 (98)) 169 31 (97)) 169 32 (115)) 169 33 (101)) 169 34 (32)) 169 35 (114)) 169 36 (97)) 169 37 (110)) 169 38 (107)) 169 39 (32)) 169 40 (111)) 169 41 (118)) 169 42 (101)) 169 43 (110)) 169 44 (32)) 169 45 (104)) 169 46 (97)) 169 47 (100)) 169 48 (32)) 169 49 (100)) 169 50 (97)) 169 51 (121)) 169 52 (32)) 169 53 (111)) 169 54 (116)) 169 55 (104)) 169 56 (101)) 169 57 (114)) 169 58 (32)) 169 59 (116)) 169 60 (104)) 169 61 (101)) 169 62 (105)) 169 63 (114)) 169 64 (115)) 169 65 (32)) 170) 171) 164 10 (-1)) 172) 173) 174) 175) 176) 177) 178) 179) 180) 181) 182) 183) 184) 185) 186) 187) 188) 189) 190) 191) 192) 193) 194) 166 40 (13)) 166 81 (-1))
set_option maxRecDepth 100000 in
set_option maxHeartbeats 4000000 in
theorem i_10 (l : Launch) (z : Zv) (d : Nat) (hb : isK (nwG gX1 10 0) 164 10) : PM l z d mX11_init [.ref 164] (nwG gX1 10 0) (nwF fX1 164) 30 106549 (fun r g' f' => r = none ∧ gX2 = g' ∧ fX2 = f') := by
  refine PM.of (by decide +kernel) (Nat.le_of_ble_eq_true rfl) ?_
  refine r_aload_n (pc := 0) 0 dX11_init_0 rfl rfl ?_
  refine r_objInit (pc := 1) dX11_init_1 oi_X11_11 (Nat.le_of_ble_eq_true rfl) ?_
  refine r_aload_n (pc := 4) 0 dX11_init_4 rfl rfl ?_
  refine r_bipush (pc := 5) dX11_init_5 (by decide) ?_
  refine r_newav (pc := 7) (c := 11) (n := 7) (a := 165) dX11_init_7 rfl (by decide) ak_int (by decide) (by decide) (by decide) ?_
  refine r_putRF (pc := 9) dX11_init_9 fl_X11_7 rfl rfl rfl rfl (hb.nw 11 7) ?_
  refine r_aload_n (pc := 12) 0 dX11_init_12 rfl rfl ?_
  refine r_sipush (pc := 13) dX11_init_13 (by decide) ?_
  refine r_newav (pc := 16) (c := 11) (n := 4888) (a := 166) dX11_init_16 rfl (by decide) ak_int (by decide) (by decide) (by decide) ?_
  refine r_putRF (pc := 18) dX11_init_18 fl_X11_17 rfl rfl rfl rfl (((hb.nw 11 7).st 164 1 (some 165)).nw 11 4888) ?_
  refine r_aload_n (pc := 21) 0 dX11_init_21 rfl rfl ?_
  refine r_sipush (pc := 22) dX11_init_22 (by decide) ?_
  refine r_newav (pc := 25) (c := 11) (n := 9776) (a := 167) dX11_init_25 rfl (by decide) ak_int (by decide) (by decide) (by decide) ?_
  refine r_putRF (pc := 27) dX11_init_27 fl_X11_20 rfl rfl rfl rfl (((((hb.nw 11 7).st 164 1 (some 165)).nw 11 4888).st 164 2 (some 166)).nw 11 9776) ?_
  refine r_aload_n (pc := 30) 0 dX11_init_30 rfl rfl ?_
  refine r_iconst (pc := 31) dX11_init_31 ?_
  refine r_newav (pc := 32) (c := 13) (n := 2) (a := 168) dX11_init_32 rfl (by decide) ak_boolean (by decide) (by decide) (by decide) ?_
  refine r_putRF (pc := 34) dX11_init_34 fl_X11_23 rfl rfl rfl rfl (((((((hb.nw 11 7).st 164 1 (some 165)).nw 11 4888).st 164 2 (some 166)).nw 11 9776).st 164 3 (some 167)).nw 13 2) ?_
  refine r_aload_n (pc := 37) 0 dX11_init_37 rfl rfl ?_
  refine r_bipush (pc := 38) dX11_init_38 (by decide) ?_
  refine r_newav (pc := 40) (c := 14) (n := 66) (a := 169) dX11_init_40 rfl (by decide) ak_byte (by decide) (by decide) (by decide) ?_
  refine r_dup (pc := 42) dX11_init_42 rfl ?_
  refine r_iconst (pc := 43) dX11_init_43 ?_
  refine r_bipush (pc := 44) dX11_init_44 (by decide) ?_
  refine r_bastv (pc := 46) (i := 0) dX11_init_46 (isA_new (a := 169) 14 66 rfl (by omega)) (by decide) (by decide) rfl rfl ?_
  refine r_dup (pc := 47) dX11_init_47 rfl ?_
  refine r_iconst (pc := 48) dX11_init_48 ?_
  refine r_bipush (pc := 49) dX11_init_49 (by decide) ?_
  refine r_bastv (pc := 51) (i := 1) dX11_init_51 (isA_new (a := 169) 14 66 rfl (by omega)) (by decide) (by decide) rfl rfl ?_
  refine r_dup (pc := 52) dX11_init_52 rfl ?_
  refine r_iconst (pc := 53) dX11_init_53 ?_
  refine r_bipush (pc := 54) dX11_init_54 (by decide) ?_
  refine r_bastv (pc := 56) (i := 2) dX11_init_56 (isA_new (a := 169) 14 66 rfl (by omega)) (by decide) (by decide) rfl rfl ?_
  refine r_dup (pc := 57) dX11_init_57 rfl ?_
  refine r_iconst (pc := 58) dX11_init_58 ?_
  refine r_bipush (pc := 59) dX11_init_59 (by decide) ?_
  refine r_bastv (pc := 61) (i := 3) dX11_init_61 (isA_new (a := 169) 14 66 rfl (by omega)) (by decide) (by decide) rfl rfl ?_
  refine r_dup (pc := 62) dX11_init_62 rfl ?_
  refine r_iconst (pc := 63) dX11_init_63 ?_
  refine r_bipush (pc := 64) dX11_init_64 (by decide) ?_
  refine r_bastv (pc := 66) (i := 4) dX11_init_66 (isA_new (a := 169) 14 66 rfl (by omega)) (by decide) (by decide) rfl rfl ?_
  refine r_dup (pc := 67) dX11_init_67 rfl ?_
  refine r_iconst (pc := 68) dX11_init_68 ?_
  refine r_bipush (pc := 69) dX11_init_69 (by decide) ?_
  refine r_bastv (pc := 71) (i := 5) dX11_init_71 (isA_new (a := 169) 14 66 rfl (by omega)) (by decide) (by decide) rfl rfl ?_
  refine r_dup (pc := 72) dX11_init_72 rfl ?_
  refine r_bipush (pc := 73) dX11_init_73 (by decide) ?_
  refine r_bipush (pc := 75) dX11_init_75 (by decide) ?_
  refine r_bastv (pc := 77) (i := 6) dX11_init_77 (isA_new (a := 169) 14 66 rfl (by omega)) (by decide) (by decide) rfl rfl ?_
  refine r_dup (pc := 78) dX11_init_78 rfl ?_
  refine r_bipush (pc := 79) dX11_init_79 (by decide) ?_
  refine r_bipush (pc := 81) dX11_init_81 (by decide) ?_
  refine r_bastv (pc := 83) (i := 7) dX11_init_83 (isA_new (a := 169) 14 66 rfl (by omega)) (by decide) (by decide) rfl rfl ?_
  refine r_dup (pc := 84) dX11_init_84 rfl ?_
  refine r_bipush (pc := 85) dX11_init_85 (by decide) ?_
  refine r_bipush (pc := 87) dX11_init_87 (by decide) ?_
  refine r_bastv (pc := 89) (i := 8) dX11_init_89 (isA_new (a := 169) 14 66 rfl (by omega)) (by decide) (by decide) rfl rfl ?_
  refine r_dup (pc := 90) dX11_init_90 rfl ?_
  refine r_bipush (pc := 91) dX11_init_91 (by decide) ?_
  refine r_bipush (pc := 93) dX11_init_93 (by decide) ?_
  refine r_bastv (pc := 95) (i := 9) dX11_init_95 (isA_new (a := 169) 14 66 rfl (by omega)) (by decide) (by decide) rfl rfl ?_
  refine r_dup (pc := 96) dX11_init_96 rfl ?_
  refine r_bipush (pc := 97) dX11_init_97 (by decide) ?_
  refine r_bipush (pc := 99) dX11_init_99 (by decide) ?_
  refine r_bastv (pc := 101) (i := 10) dX11_init_101 (isA_new (a := 169) 14 66 rfl (by omega)) (by decide) (by decide) rfl rfl ?_
  refine r_dup (pc := 102) dX11_init_102 rfl ?_
  refine r_bipush (pc := 103) dX11_init_103 (by decide) ?_
  refine r_bipush (pc := 105) dX11_init_105 (by decide) ?_
  refine r_bastv (pc := 107) (i := 11) dX11_init_107 (isA_new (a := 169) 14 66 rfl (by omega)) (by decide) (by decide) rfl rfl ?_
  refine r_dup (pc := 108) dX11_init_108 rfl ?_
  refine r_bipush (pc := 109) dX11_init_109 (by decide) ?_
  refine r_bipush (pc := 111) dX11_init_111 (by decide) ?_
  refine r_bastv (pc := 113) (i := 12) dX11_init_113 (isA_new (a := 169) 14 66 rfl (by omega)) (by decide) (by decide) rfl rfl ?_
  refine r_dup (pc := 114) dX11_init_114 rfl ?_
  refine r_bipush (pc := 115) dX11_init_115 (by decide) ?_
  refine r_bipush (pc := 117) dX11_init_117 (by decide) ?_
  refine r_bastv (pc := 119) (i := 13) dX11_init_119 (isA_new (a := 169) 14 66 rfl (by omega)) (by decide) (by decide) rfl rfl ?_
  refine r_dup (pc := 120) dX11_init_120 rfl ?_
  refine r_bipush (pc := 121) dX11_init_121 (by decide) ?_
  refine r_bipush (pc := 123) dX11_init_123 (by decide) ?_
  refine r_bastv (pc := 125) (i := 14) dX11_init_125 (isA_new (a := 169) 14 66 rfl (by omega)) (by decide) (by decide) rfl rfl ?_
  refine r_dup (pc := 126) dX11_init_126 rfl ?_
  refine r_bipush (pc := 127) dX11_init_127 (by decide) ?_
  refine r_bipush (pc := 129) dX11_init_129 (by decide) ?_
  refine r_bastv (pc := 131) (i := 15) dX11_init_131 (isA_new (a := 169) 14 66 rfl (by omega)) (by decide) (by decide) rfl rfl ?_
  refine r_dup (pc := 132) dX11_init_132 rfl ?_
  refine r_bipush (pc := 133) dX11_init_133 (by decide) ?_
  refine r_bipush (pc := 135) dX11_init_135 (by decide) ?_
  refine r_bastv (pc := 137) (i := 16) dX11_init_137 (isA_new (a := 169) 14 66 rfl (by omega)) (by decide) (by decide) rfl rfl ?_
  refine r_dup (pc := 138) dX11_init_138 rfl ?_
  refine r_bipush (pc := 139) dX11_init_139 (by decide) ?_
  refine r_bipush (pc := 141) dX11_init_141 (by decide) ?_
  refine r_bastv (pc := 143) (i := 17) dX11_init_143 (isA_new (a := 169) 14 66 rfl (by omega)) (by decide) (by decide) rfl rfl ?_
  refine r_dup (pc := 144) dX11_init_144 rfl ?_
  refine r_bipush (pc := 145) dX11_init_145 (by decide) ?_
  refine r_bipush (pc := 147) dX11_init_147 (by decide) ?_
  refine r_bastv (pc := 149) (i := 18) dX11_init_149 (isA_new (a := 169) 14 66 rfl (by omega)) (by decide) (by decide) rfl rfl ?_
  refine r_dup (pc := 150) dX11_init_150 rfl ?_
  refine r_bipush (pc := 151) dX11_init_151 (by decide) ?_
  refine r_bipush (pc := 153) dX11_init_153 (by decide) ?_
  refine r_bastv (pc := 155) (i := 19) dX11_init_155 (isA_new (a := 169) 14 66 rfl (by omega)) (by decide) (by decide) rfl rfl ?_
  refine r_dup (pc := 156) dX11_init_156 rfl ?_
  refine r_bipush (pc := 157) dX11_init_157 (by decide) ?_
  refine r_bipush (pc := 159) dX11_init_159 (by decide) ?_
  refine r_bastv (pc := 161) (i := 20) dX11_init_161 (isA_new (a := 169) 14 66 rfl (by omega)) (by decide) (by decide) rfl rfl ?_
  refine r_dup (pc := 162) dX11_init_162 rfl ?_
  refine r_bipush (pc := 163) dX11_init_163 (by decide) ?_
  refine r_bipush (pc := 165) dX11_init_165 (by decide) ?_
  refine r_bastv (pc := 167) (i := 21) dX11_init_167 (isA_new (a := 169) 14 66 rfl (by omega)) (by decide) (by decide) rfl rfl ?_
  refine r_dup (pc := 168) dX11_init_168 rfl ?_
  refine r_bipush (pc := 169) dX11_init_169 (by decide) ?_
  refine r_bipush (pc := 171) dX11_init_171 (by decide) ?_
  refine r_bastv (pc := 173) (i := 22) dX11_init_173 (isA_new (a := 169) 14 66 rfl (by omega)) (by decide) (by decide) rfl rfl ?_
  refine r_dup (pc := 174) dX11_init_174 rfl ?_
  refine r_bipush (pc := 175) dX11_init_175 (by decide) ?_
  refine r_bipush (pc := 177) dX11_init_177 (by decide) ?_
  refine r_bastv (pc := 179) (i := 23) dX11_init_179 (isA_new (a := 169) 14 66 rfl (by omega)) (by decide) (by decide) rfl rfl ?_
  refine r_dup (pc := 180) dX11_init_180 rfl ?_
  refine r_bipush (pc := 181) dX11_init_181 (by decide) ?_
  refine r_bipush (pc := 183) dX11_init_183 (by decide) ?_
  refine r_bastv (pc := 185) (i := 24) dX11_init_185 (isA_new (a := 169) 14 66 rfl (by omega)) (by decide) (by decide) rfl rfl ?_
  refine r_dup (pc := 186) dX11_init_186 rfl ?_
  refine r_bipush (pc := 187) dX11_init_187 (by decide) ?_
  refine r_bipush (pc := 189) dX11_init_189 (by decide) ?_
  refine r_bastv (pc := 191) (i := 25) dX11_init_191 (isA_new (a := 169) 14 66 rfl (by omega)) (by decide) (by decide) rfl rfl ?_
  refine r_dup (pc := 192) dX11_init_192 rfl ?_
  refine r_bipush (pc := 193) dX11_init_193 (by decide) ?_
  refine r_bipush (pc := 195) dX11_init_195 (by decide) ?_
  refine r_bastv (pc := 197) (i := 26) dX11_init_197 (isA_new (a := 169) 14 66 rfl (by omega)) (by decide) (by decide) rfl rfl ?_
  refine r_dup (pc := 198) dX11_init_198 rfl ?_
  refine r_bipush (pc := 199) dX11_init_199 (by decide) ?_
  refine r_bipush (pc := 201) dX11_init_201 (by decide) ?_
  refine r_bastv (pc := 203) (i := 27) dX11_init_203 (isA_new (a := 169) 14 66 rfl (by omega)) (by decide) (by decide) rfl rfl ?_
  refine r_dup (pc := 204) dX11_init_204 rfl ?_
  refine r_bipush (pc := 205) dX11_init_205 (by decide) ?_
  refine r_bipush (pc := 207) dX11_init_207 (by decide) ?_
  refine r_bastv (pc := 209) (i := 28) dX11_init_209 (isA_new (a := 169) 14 66 rfl (by omega)) (by decide) (by decide) rfl rfl ?_
  refine r_dup (pc := 210) dX11_init_210 rfl ?_
  refine r_bipush (pc := 211) dX11_init_211 (by decide) ?_
  refine r_bipush (pc := 213) dX11_init_213 (by decide) ?_
  refine r_bastv (pc := 215) (i := 29) dX11_init_215 (isA_new (a := 169) 14 66 rfl (by omega)) (by decide) (by decide) rfl rfl ?_
  refine r_dup (pc := 216) dX11_init_216 rfl ?_
  refine r_bipush (pc := 217) dX11_init_217 (by decide) ?_
  refine r_bipush (pc := 219) dX11_init_219 (by decide) ?_
  refine r_bastv (pc := 221) (i := 30) dX11_init_221 (isA_new (a := 169) 14 66 rfl (by omega)) (by decide) (by decide) rfl rfl ?_
  refine r_dup (pc := 222) dX11_init_222 rfl ?_
  refine r_bipush (pc := 223) dX11_init_223 (by decide) ?_
  refine r_bipush (pc := 225) dX11_init_225 (by decide) ?_
  refine r_bastv (pc := 227) (i := 31) dX11_init_227 (isA_new (a := 169) 14 66 rfl (by omega)) (by decide) (by decide) rfl rfl ?_
  refine r_dup (pc := 228) dX11_init_228 rfl ?_
  refine r_bipush (pc := 229) dX11_init_229 (by decide) ?_
  refine r_bipush (pc := 231) dX11_init_231 (by decide) ?_
  refine r_bastv (pc := 233) (i := 32) dX11_init_233 (isA_new (a := 169) 14 66 rfl (by omega)) (by decide) (by decide) rfl rfl ?_
  refine r_dup (pc := 234) dX11_init_234 rfl ?_
  refine r_bipush (pc := 235) dX11_init_235 (by decide) ?_
  refine r_bipush (pc := 237) dX11_init_237 (by decide) ?_
  refine r_bastv (pc := 239) (i := 33) dX11_init_239 (isA_new (a := 169) 14 66 rfl (by omega)) (by decide) (by decide) rfl rfl ?_
  refine r_dup (pc := 240) dX11_init_240 rfl ?_
  refine r_bipush (pc := 241) dX11_init_241 (by decide) ?_
  refine r_bipush (pc := 243) dX11_init_243 (by decide) ?_
  refine r_bastv (pc := 245) (i := 34) dX11_init_245 (isA_new (a := 169) 14 66 rfl (by omega)) (by decide) (by decide) rfl rfl ?_
  refine r_dup (pc := 246) dX11_init_246 rfl ?_
  refine r_bipush (pc := 247) dX11_init_247 (by decide) ?_
  refine r_bipush (pc := 249) dX11_init_249 (by decide) ?_
  refine r_bastv (pc := 251) (i := 35) dX11_init_251 (isA_new (a := 169) 14 66 rfl (by omega)) (by decide) (by decide) rfl rfl ?_
  refine r_dup (pc := 252) dX11_init_252 rfl ?_
  refine r_bipush (pc := 253) dX11_init_253 (by decide) ?_
  refine r_bipush (pc := 255) dX11_init_255 (by decide) ?_
  refine r_bastv (pc := 257) (i := 36) dX11_init_257 (isA_new (a := 169) 14 66 rfl (by omega)) (by decide) (by decide) rfl rfl ?_
  refine r_dup (pc := 258) dX11_init_258 rfl ?_
  refine r_bipush (pc := 259) dX11_init_259 (by decide) ?_
  refine r_bipush (pc := 261) dX11_init_261 (by decide) ?_
  refine r_bastv (pc := 263) (i := 37) dX11_init_263 (isA_new (a := 169) 14 66 rfl (by omega)) (by decide) (by decide) rfl rfl ?_
  refine r_dup (pc := 264) dX11_init_264 rfl ?_
  refine r_bipush (pc := 265) dX11_init_265 (by decide) ?_
  refine r_bipush (pc := 267) dX11_init_267 (by decide) ?_
  refine r_bastv (pc := 269) (i := 38) dX11_init_269 (isA_new (a := 169) 14 66 rfl (by omega)) (by decide) (by decide) rfl rfl ?_
  refine r_dup (pc := 270) dX11_init_270 rfl ?_
  refine r_bipush (pc := 271) dX11_init_271 (by decide) ?_
  refine r_bipush (pc := 273) dX11_init_273 (by decide) ?_
  refine r_bastv (pc := 275) (i := 39) dX11_init_275 (isA_new (a := 169) 14 66 rfl (by omega)) (by decide) (by decide) rfl rfl ?_
  refine r_dup (pc := 276) dX11_init_276 rfl ?_
  refine r_bipush (pc := 277) dX11_init_277 (by decide) ?_
  refine r_bipush (pc := 279) dX11_init_279 (by decide) ?_
  refine r_bastv (pc := 281) (i := 40) dX11_init_281 (isA_new (a := 169) 14 66 rfl (by omega)) (by decide) (by decide) rfl rfl ?_
  refine r_dup (pc := 282) dX11_init_282 rfl ?_
  refine r_bipush (pc := 283) dX11_init_283 (by decide) ?_
  refine r_bipush (pc := 285) dX11_init_285 (by decide) ?_
  refine r_bastv (pc := 287) (i := 41) dX11_init_287 (isA_new (a := 169) 14 66 rfl (by omega)) (by decide) (by decide) rfl rfl ?_
  refine r_dup (pc := 288) dX11_init_288 rfl ?_
  refine r_bipush (pc := 289) dX11_init_289 (by decide) ?_
  refine r_bipush (pc := 291) dX11_init_291 (by decide) ?_
  refine r_bastv (pc := 293) (i := 42) dX11_init_293 (isA_new (a := 169) 14 66 rfl (by omega)) (by decide) (by decide) rfl rfl ?_
  refine r_dup (pc := 294) dX11_init_294 rfl ?_
  refine r_bipush (pc := 295) dX11_init_295 (by decide) ?_
  refine r_bipush (pc := 297) dX11_init_297 (by decide) ?_
  refine r_bastv (pc := 299) (i := 43) dX11_init_299 (isA_new (a := 169) 14 66 rfl (by omega)) (by decide) (by decide) rfl rfl ?_
  refine r_dup (pc := 300) dX11_init_300 rfl ?_
  refine r_bipush (pc := 301) dX11_init_301 (by decide) ?_
  refine r_bipush (pc := 303) dX11_init_303 (by decide) ?_
  refine r_bastv (pc := 305) (i := 44) dX11_init_305 (isA_new (a := 169) 14 66 rfl (by omega)) (by decide) (by decide) rfl rfl ?_
  refine r_dup (pc := 306) dX11_init_306 rfl ?_
  refine r_bipush (pc := 307) dX11_init_307 (by decide) ?_
  refine r_bipush (pc := 309) dX11_init_309 (by decide) ?_
  refine r_bastv (pc := 311) (i := 45) dX11_init_311 (isA_new (a := 169) 14 66 rfl (by omega)) (by decide) (by decide) rfl rfl ?_
  refine r_dup (pc := 312) dX11_init_312 rfl ?_
  refine r_bipush (pc := 313) dX11_init_313 (by decide) ?_
  refine r_bipush (pc := 315) dX11_init_315 (by decide) ?_
  refine r_bastv (pc := 317) (i := 46) dX11_init_317 (isA_new (a := 169) 14 66 rfl (by omega)) (by decide) (by decide) rfl rfl ?_
  refine r_dup (pc := 318) dX11_init_318 rfl ?_
  refine r_bipush (pc := 319) dX11_init_319 (by decide) ?_
  refine r_bipush (pc := 321) dX11_init_321 (by decide) ?_
  refine r_bastv (pc := 323) (i := 47) dX11_init_323 (isA_new (a := 169) 14 66 rfl (by omega)) (by decide) (by decide) rfl rfl ?_
  refine r_dup (pc := 324) dX11_init_324 rfl ?_
  refine r_bipush (pc := 325) dX11_init_325 (by decide) ?_
  refine r_bipush (pc := 327) dX11_init_327 (by decide) ?_
  refine r_bastv (pc := 329) (i := 48) dX11_init_329 (isA_new (a := 169) 14 66 rfl (by omega)) (by decide) (by decide) rfl rfl ?_
  refine r_dup (pc := 330) dX11_init_330 rfl ?_
  refine r_bipush (pc := 331) dX11_init_331 (by decide) ?_
  refine r_bipush (pc := 333) dX11_init_333 (by decide) ?_
  refine r_bastv (pc := 335) (i := 49) dX11_init_335 (isA_new (a := 169) 14 66 rfl (by omega)) (by decide) (by decide) rfl rfl ?_
  refine r_dup (pc := 336) dX11_init_336 rfl ?_
  refine r_bipush (pc := 337) dX11_init_337 (by decide) ?_
  refine r_bipush (pc := 339) dX11_init_339 (by decide) ?_
  refine r_bastv (pc := 341) (i := 50) dX11_init_341 (isA_new (a := 169) 14 66 rfl (by omega)) (by decide) (by decide) rfl rfl ?_
  refine r_dup (pc := 342) dX11_init_342 rfl ?_
  refine r_bipush (pc := 343) dX11_init_343 (by decide) ?_
  refine r_bipush (pc := 345) dX11_init_345 (by decide) ?_
  refine r_bastv (pc := 347) (i := 51) dX11_init_347 (isA_new (a := 169) 14 66 rfl (by omega)) (by decide) (by decide) rfl rfl ?_
  refine r_dup (pc := 348) dX11_init_348 rfl ?_
  refine r_bipush (pc := 349) dX11_init_349 (by decide) ?_
  refine r_bipush (pc := 351) dX11_init_351 (by decide) ?_
  refine r_bastv (pc := 353) (i := 52) dX11_init_353 (isA_new (a := 169) 14 66 rfl (by omega)) (by decide) (by decide) rfl rfl ?_
  refine r_dup (pc := 354) dX11_init_354 rfl ?_
  refine r_bipush (pc := 355) dX11_init_355 (by decide) ?_
  refine r_bipush (pc := 357) dX11_init_357 (by decide) ?_
  refine r_bastv (pc := 359) (i := 53) dX11_init_359 (isA_new (a := 169) 14 66 rfl (by omega)) (by decide) (by decide) rfl rfl ?_
  refine r_dup (pc := 360) dX11_init_360 rfl ?_
  refine r_bipush (pc := 361) dX11_init_361 (by decide) ?_
  refine r_bipush (pc := 363) dX11_init_363 (by decide) ?_
  refine r_bastv (pc := 365) (i := 54) dX11_init_365 (isA_new (a := 169) 14 66 rfl (by omega)) (by decide) (by decide) rfl rfl ?_
  refine r_dup (pc := 366) dX11_init_366 rfl ?_
  refine r_bipush (pc := 367) dX11_init_367 (by decide) ?_
  refine r_bipush (pc := 369) dX11_init_369 (by decide) ?_
  refine r_bastv (pc := 371) (i := 55) dX11_init_371 (isA_new (a := 169) 14 66 rfl (by omega)) (by decide) (by decide) rfl rfl ?_
  refine r_dup (pc := 372) dX11_init_372 rfl ?_
  refine r_bipush (pc := 373) dX11_init_373 (by decide) ?_
  refine r_bipush (pc := 375) dX11_init_375 (by decide) ?_
  refine r_bastv (pc := 377) (i := 56) dX11_init_377 (isA_new (a := 169) 14 66 rfl (by omega)) (by decide) (by decide) rfl rfl ?_
  refine r_dup (pc := 378) dX11_init_378 rfl ?_
  refine r_bipush (pc := 379) dX11_init_379 (by decide) ?_
  refine r_bipush (pc := 381) dX11_init_381 (by decide) ?_
  refine r_bastv (pc := 383) (i := 57) dX11_init_383 (isA_new (a := 169) 14 66 rfl (by omega)) (by decide) (by decide) rfl rfl ?_
  refine r_dup (pc := 384) dX11_init_384 rfl ?_
  refine r_bipush (pc := 385) dX11_init_385 (by decide) ?_
  refine r_bipush (pc := 387) dX11_init_387 (by decide) ?_
  refine r_bastv (pc := 389) (i := 58) dX11_init_389 (isA_new (a := 169) 14 66 rfl (by omega)) (by decide) (by decide) rfl rfl ?_
  refine r_dup (pc := 390) dX11_init_390 rfl ?_
  refine r_bipush (pc := 391) dX11_init_391 (by decide) ?_
  refine r_bipush (pc := 393) dX11_init_393 (by decide) ?_
  refine r_bastv (pc := 395) (i := 59) dX11_init_395 (isA_new (a := 169) 14 66 rfl (by omega)) (by decide) (by decide) rfl rfl ?_
  refine r_dup (pc := 396) dX11_init_396 rfl ?_
  refine r_bipush (pc := 397) dX11_init_397 (by decide) ?_
  refine r_bipush (pc := 399) dX11_init_399 (by decide) ?_
  refine r_bastv (pc := 401) (i := 60) dX11_init_401 (isA_new (a := 169) 14 66 rfl (by omega)) (by decide) (by decide) rfl rfl ?_
  refine r_dup (pc := 402) dX11_init_402 rfl ?_
  refine r_bipush (pc := 403) dX11_init_403 (by decide) ?_
  refine r_bipush (pc := 405) dX11_init_405 (by decide) ?_
  refine r_bastv (pc := 407) (i := 61) dX11_init_407 (isA_new (a := 169) 14 66 rfl (by omega)) (by decide) (by decide) rfl rfl ?_
  refine r_dup (pc := 408) dX11_init_408 rfl ?_
  refine r_bipush (pc := 409) dX11_init_409 (by decide) ?_
  refine r_bipush (pc := 411) dX11_init_411 (by decide) ?_
  refine r_bastv (pc := 413) (i := 62) dX11_init_413 (isA_new (a := 169) 14 66 rfl (by omega)) (by decide) (by decide) rfl rfl ?_
  refine r_dup (pc := 414) dX11_init_414 rfl ?_
  refine r_bipush (pc := 415) dX11_init_415 (by decide) ?_
  refine r_bipush (pc := 417) dX11_init_417 (by decide) ?_
  refine r_bastv (pc := 419) (i := 63) dX11_init_419 (isA_new (a := 169) 14 66 rfl (by omega)) (by decide) (by decide) rfl rfl ?_
  refine r_dup (pc := 420) dX11_init_420 rfl ?_
  refine r_bipush (pc := 421) dX11_init_421 (by decide) ?_
  refine r_bipush (pc := 423) dX11_init_423 (by decide) ?_
  refine r_bastv (pc := 425) (i := 64) dX11_init_425 (isA_new (a := 169) 14 66 rfl (by omega)) (by decide) (by decide) rfl rfl ?_
  refine r_dup (pc := 426) dX11_init_426 rfl ?_
  refine r_bipush (pc := 427) dX11_init_427 (by decide) ?_
  refine r_bipush (pc := 429) dX11_init_429 (by decide) ?_
  refine r_bastv (pc := 431) (i := 65) dX11_init_431 (isA_new (a := 169) 14 66 rfl (by omega)) (by decide) (by decide) rfl rfl ?_
  refine r_putRF (pc := 432) dX11_init_432 fl_X11_27 rfl rfl rfl rfl (((((((((hb.nw 11 7).st 164 1 (some 165)).nw 11 4888).st 164 2 (some 166)).nw 11 9776).st 164 3 (some 167)).nw 13 2).st 164 4 (some 168)).nw 14 66) ?_
  refine r_aload_n (pc := 435) 0 dX11_init_435 rfl rfl ?_
  refine r_sipush (pc := 436) dX11_init_436 (by decide) ?_
  refine r_newav (pc := 439) (c := 14) (n := 400) (a := 170) dX11_init_439 rfl (by decide) ak_byte (by decide) (by decide) (by decide) ?_
  refine r_putRF (pc := 441) dX11_init_441 fl_X11_31 rfl rfl rfl rfl (((((((((((hb.nw 11 7).st 164 1 (some 165)).nw 11 4888).st 164 2 (some 166)).nw 11 9776).st 164 3 (some 167)).nw 13 2).st 164 4 (some 168)).nw 14 66).st 164 6 (some 169)).nw 14 400) ?_
  refine r_aload_n (pc := 444) 0 dX11_init_444 rfl rfl ?_
  refine r_iconst (pc := 445) dX11_init_445 ?_
  refine r_newav (pc := 446) (c := 11) (n := 5) (a := 171) dX11_init_446 rfl (by decide) ak_int (by decide) (by decide) (by decide) ?_
  refine r_putRF (pc := 448) dX11_init_448 fl_X11_34 rfl rfl rfl rfl (((((((((((((hb.nw 11 7).st 164 1 (some 165)).nw 11 4888).st 164 2 (some 166)).nw 11 9776).st 164 3 (some 167)).nw 13 2).st 164 4 (some 168)).nw 14 66).st 164 6 (some 169)).nw 14 400).st 164 7 (some 170)).nw 11 5) ?_
  refine r_aload_n (pc := 451) 0 dX11_init_451 rfl rfl ?_
  refine r_iconst (pc := 452) dX11_init_452 ?_
  refine r_putI (pc := 453) dX11_init_453 fl_X11_37 rfl rfl ((((((((((((((hb.nw 11 7).st 164 1 (some 165)).nw 11 4888).st 164 2 (some 166)).nw 11 9776).st 164 3 (some 167)).nw 13 2).st 164 4 (some 168)).nw 14 66).st 164 6 (some 169)).nw 14 400).st 164 7 (some 170)).nw 11 5).st 164 8 (some 171)) ?_
  refine r_aload_n (pc := 456) 0 dX11_init_456 rfl rfl ?_
  refine r_sipush (pc := 457) dX11_init_457 (by decide) ?_
  refine r_newav (pc := 460) (c := 11) (n := 401) (a := 172) dX11_init_460 rfl (by decide) ak_int (by decide) (by decide) (by decide) ?_
  refine r_putRF (pc := 462) dX11_init_462 fl_X11_40 rfl rfl rfl rfl (((((((((((((((hb.nw 11 7).st 164 1 (some 165)).nw 11 4888).st 164 2 (some 166)).nw 11 9776).st 164 3 (some 167)).nw 13 2).st 164 4 (some 168)).nw 14 66).st 164 6 (some 169)).nw 14 400).st 164 7 (some 170)).nw 11 5).st 164 8 (some 171)).nw 11 401) ?_
  refine r_aload_n (pc := 465) 0 dX11_init_465 rfl rfl ?_
  refine r_sipush (pc := 466) dX11_init_466 (by decide) ?_
  refine r_newav (pc := 469) (c := 11) (n := 401) (a := 173) dX11_init_469 rfl (by decide) ak_int (by decide) (by decide) (by decide) ?_
  refine r_putRF (pc := 471) dX11_init_471 fl_X11_43 rfl rfl rfl rfl (((((((((((((((((hb.nw 11 7).st 164 1 (some 165)).nw 11 4888).st 164 2 (some 166)).nw 11 9776).st 164 3 (some 167)).nw 13 2).st 164 4 (some 168)).nw 14 66).st 164 6 (some 169)).nw 14 400).st 164 7 (some 170)).nw 11 5).st 164 8 (some 171)).nw 11 401).st 164 11 (some 172)).nw 11 401) ?_
  refine r_aload_n (pc := 474) 0 dX11_init_474 rfl rfl ?_
  refine r_sipush (pc := 475) dX11_init_475 (by decide) ?_
  refine r_newav (pc := 478) (c := 11) (n := 401) (a := 174) dX11_init_478 rfl (by decide) ak_int (by decide) (by decide) (by decide) ?_
  refine r_putRF (pc := 480) dX11_init_480 fl_X11_46 rfl rfl rfl rfl (((((((((((((((((((hb.nw 11 7).st 164 1 (some 165)).nw 11 4888).st 164 2 (some 166)).nw 11 9776).st 164 3 (some 167)).nw 13 2).st 164 4 (some 168)).nw 14 66).st 164 6 (some 169)).nw 14 400).st 164 7 (some 170)).nw 11 5).st 164 8 (some 171)).nw 11 401).st 164 11 (some 172)).nw 11 401).st 164 12 (some 173)).nw 11 401) ?_
  refine r_aload_n (pc := 483) 0 dX11_init_483 rfl rfl ?_
  refine r_bipush (pc := 484) dX11_init_484 (by decide) ?_
  refine r_newav (pc := 486) (c := 11) (n := 8) (a := 175) dX11_init_486 rfl (by decide) ak_int (by decide) (by decide) (by decide) ?_
  refine r_putRF (pc := 488) dX11_init_488 fl_X11_49 rfl rfl rfl rfl (((((((((((((((((((((hb.nw 11 7).st 164 1 (some 165)).nw 11 4888).st 164 2 (some 166)).nw 11 9776).st 164 3 (some 167)).nw 13 2).st 164 4 (some 168)).nw 14 66).st 164 6 (some 169)).nw 14 400).st 164 7 (some 170)).nw 11 5).st 164 8 (some 171)).nw 11 401).st 164 11 (some 172)).nw 11 401).st 164 12 (some 173)).nw 11 401).st 164 13 (some 174)).nw 11 8) ?_
  refine r_aload_n (pc := 491) 0 dX11_init_491 rfl rfl ?_
  refine r_bipush (pc := 492) dX11_init_492 (by decide) ?_
  refine r_newav (pc := 494) (c := 11) (n := 8) (a := 176) dX11_init_494 rfl (by decide) ak_int (by decide) (by decide) (by decide) ?_
  refine r_putRF (pc := 496) dX11_init_496 fl_X11_52 rfl rfl rfl rfl (((((((((((((((((((((((hb.nw 11 7).st 164 1 (some 165)).nw 11 4888).st 164 2 (some 166)).nw 11 9776).st 164 3 (some 167)).nw 13 2).st 164 4 (some 168)).nw 14 66).st 164 6 (some 169)).nw 14 400).st 164 7 (some 170)).nw 11 5).st 164 8 (some 171)).nw 11 401).st 164 11 (some 172)).nw 11 401).st 164 12 (some 173)).nw 11 401).st 164 13 (some 174)).nw 11 8).st 164 21 (some 175)).nw 11 8) ?_
  refine r_aload_n (pc := 499) 0 dX11_init_499 rfl rfl ?_
  refine r_bipush (pc := 500) dX11_init_500 (by decide) ?_
  refine r_newav (pc := 502) (c := 11) (n := 8) (a := 177) dX11_init_502 rfl (by decide) ak_int (by decide) (by decide) (by decide) ?_
  refine r_putRF (pc := 504) dX11_init_504 fl_X11_55 rfl rfl rfl rfl (((((((((((((((((((((((((hb.nw 11 7).st 164 1 (some 165)).nw 11 4888).st 164 2 (some 166)).nw 11 9776).st 164 3 (some 167)).nw 13 2).st 164 4 (some 168)).nw 14 66).st 164 6 (some 169)).nw 14 400).st 164 7 (some 170)).nw 11 5).st 164 8 (some 171)).nw 11 401).st 164 11 (some 172)).nw 11 401).st 164 12 (some 173)).nw 11 401).st 164 13 (some 174)).nw 11 8).st 164 21 (some 175)).nw 11 8).st 164 24 (some 176)).nw 11 8) ?_
  refine r_aload_n (pc := 507) 0 dX11_init_507 rfl rfl ?_
  refine r_iconst (pc := 508) dX11_init_508 ?_
  refine r_newav (pc := 509) (c := 11) (n := 2) (a := 178) dX11_init_509 rfl (by decide) ak_int (by decide) (by decide) (by decide) ?_
  refine r_putRF (pc := 511) dX11_init_511 fl_X11_58 rfl rfl rfl rfl (((((((((((((((((((((((((((hb.nw 11 7).st 164 1 (some 165)).nw 11 4888).st 164 2 (some 166)).nw 11 9776).st 164 3 (some 167)).nw 13 2).st 164 4 (some 168)).nw 14 66).st 164 6 (some 169)).nw 14 400).st 164 7 (some 170)).nw 11 5).st 164 8 (some 171)).nw 11 401).st 164 11 (some 172)).nw 11 401).st 164 12 (some 173)).nw 11 401).st 164 13 (some 174)).nw 11 8).st 164 21 (some 175)).nw 11 8).st 164 24 (some 176)).nw 11 8).st 164 25 (some 177)).nw 11 2) ?_
  refine r_aload_n (pc := 514) 0 dX11_init_514 rfl rfl ?_
  refine r_bipush (pc := 515) dX11_init_515 (by decide) ?_
  refine r_newav (pc := 517) (c := 11) (n := 8) (a := 179) dX11_init_517 rfl (by decide) ak_int (by decide) (by decide) (by decide) ?_
  refine r_putRF (pc := 519) dX11_init_519 fl_X11_61 rfl rfl rfl rfl (((((((((((((((((((((((((((((hb.nw 11 7).st 164 1 (some 165)).nw 11 4888).st 164 2 (some 166)).nw 11 9776).st 164 3 (some 167)).nw 13 2).st 164 4 (some 168)).nw 14 66).st 164 6 (some 169)).nw 14 400).st 164 7 (some 170)).nw 11 5).st 164 8 (some 171)).nw 11 401).st 164 11 (some 172)).nw 11 401).st 164 12 (some 173)).nw 11 401).st 164 13 (some 174)).nw 11 8).st 164 21 (some 175)).nw 11 8).st 164 24 (some 176)).nw 11 8).st 164 25 (some 177)).nw 11 2).st 164 26 (some 178)).nw 11 8) ?_
  refine r_aload_n (pc := 522) 0 dX11_init_522 rfl rfl ?_
  refine r_sipush (pc := 523) dX11_init_523 (by decide) ?_
  refine r_newav (pc := 526) (c := 11) (n := 256) (a := 180) dX11_init_526 rfl (by decide) ak_int (by decide) (by decide) (by decide) ?_
  refine r_putRF (pc := 528) dX11_init_528 fl_X11_64 rfl rfl rfl rfl (((((((((((((((((((((((((((((((hb.nw 11 7).st 164 1 (some 165)).nw 11 4888).st 164 2 (some 166)).nw 11 9776).st 164 3 (some 167)).nw 13 2).st 164 4 (some 168)).nw 14 66).st 164 6 (some 169)).nw 14 400).st 164 7 (some 170)).nw 11 5).st 164 8 (some 171)).nw 11 401).st 164 11 (some 172)).nw 11 401).st 164 12 (some 173)).nw 11 401).st 164 13 (some 174)).nw 11 8).st 164 21 (some 175)).nw 11 8).st 164 24 (some 176)).nw 11 8).st 164 25 (some 177)).nw 11 2).st 164 26 (some 178)).nw 11 8).st 164 27 (some 179)).nw 11 256) ?_
  refine r_aload_n (pc := 531) 0 dX11_init_531 rfl rfl ?_
  refine r_sipush (pc := 532) dX11_init_532 (by decide) ?_
  refine r_newav (pc := 535) (c := 11) (n := 256) (a := 181) dX11_init_535 rfl (by decide) ak_int (by decide) (by decide) (by decide) ?_
  refine r_putRF (pc := 537) dX11_init_537 fl_X11_67 rfl rfl rfl rfl (((((((((((((((((((((((((((((((((hb.nw 11 7).st 164 1 (some 165)).nw 11 4888).st 164 2 (some 166)).nw 11 9776).st 164 3 (some 167)).nw 13 2).st 164 4 (some 168)).nw 14 66).st 164 6 (some 169)).nw 14 400).st 164 7 (some 170)).nw 11 5).st 164 8 (some 171)).nw 11 401).st 164 11 (some 172)).nw 11 401).st 164 12 (some 173)).nw 11 401).st 164 13 (some 174)).nw 11 8).st 164 21 (some 175)).nw 11 8).st 164 24 (some 176)).nw 11 8).st 164 25 (some 177)).nw 11 2).st 164 26 (some 178)).nw 11 8).st 164 27 (some 179)).nw 11 256).st 164 28 (some 180)).nw 11 256) ?_
  refine r_aload_n (pc := 540) 0 dX11_init_540 rfl rfl ?_
  refine r_sipush (pc := 541) dX11_init_541 (by decide) ?_
  refine r_newav (pc := 544) (c := 11) (n := 256) (a := 182) dX11_init_544 rfl (by decide) ak_int (by decide) (by decide) (by decide) ?_
  refine r_putRF (pc := 546) dX11_init_546 fl_X11_70 rfl rfl rfl rfl (((((((((((((((((((((((((((((((((((hb.nw 11 7).st 164 1 (some 165)).nw 11 4888).st 164 2 (some 166)).nw 11 9776).st 164 3 (some 167)).nw 13 2).st 164 4 (some 168)).nw 14 66).st 164 6 (some 169)).nw 14 400).st 164 7 (some 170)).nw 11 5).st 164 8 (some 171)).nw 11 401).st 164 11 (some 172)).nw 11 401).st 164 12 (some 173)).nw 11 401).st 164 13 (some 174)).nw 11 8).st 164 21 (some 175)).nw 11 8).st 164 24 (some 176)).nw 11 8).st 164 25 (some 177)).nw 11 2).st 164 26 (some 178)).nw 11 8).st 164 27 (some 179)).nw 11 256).st 164 28 (some 180)).nw 11 256).st 164 29 (some 181)).nw 11 256) ?_
  refine r_aload_n (pc := 549) 0 dX11_init_549 rfl rfl ?_
  refine r_sipush (pc := 550) dX11_init_550 (by decide) ?_
  refine r_newav (pc := 553) (c := 11) (n := 256) (a := 183) dX11_init_553 rfl (by decide) ak_int (by decide) (by decide) (by decide) ?_
  refine r_putRF (pc := 555) dX11_init_555 fl_X11_73 rfl rfl rfl rfl (((((((((((((((((((((((((((((((((((((hb.nw 11 7).st 164 1 (some 165)).nw 11 4888).st 164 2 (some 166)).nw 11 9776).st 164 3 (some 167)).nw 13 2).st 164 4 (some 168)).nw 14 66).st 164 6 (some 169)).nw 14 400).st 164 7 (some 170)).nw 11 5).st 164 8 (some 171)).nw 11 401).st 164 11 (some 172)).nw 11 401).st 164 12 (some 173)).nw 11 401).st 164 13 (some 174)).nw 11 8).st 164 21 (some 175)).nw 11 8).st 164 24 (some 176)).nw 11 8).st 164 25 (some 177)).nw 11 2).st 164 26 (some 178)).nw 11 8).st 164 27 (some 179)).nw 11 256).st 164 28 (some 180)).nw 11 256).st 164 29 (some 181)).nw 11 256).st 164 30 (some 182)).nw 11 256) ?_
  refine r_aload_n (pc := 558) 0 dX11_init_558 rfl rfl ?_
  refine r_bipush (pc := 559) dX11_init_559 (by decide) ?_
  refine r_newav (pc := 561) (c := 11) (n := 8) (a := 184) dX11_init_561 rfl (by decide) ak_int (by decide) (by decide) (by decide) ?_
  refine r_putRF (pc := 563) dX11_init_563 fl_X11_76 rfl rfl rfl rfl (((((((((((((((((((((((((((((((((((((((hb.nw 11 7).st 164 1 (some 165)).nw 11 4888).st 164 2 (some 166)).nw 11 9776).st 164 3 (some 167)).nw 13 2).st 164 4 (some 168)).nw 14 66).st 164 6 (some 169)).nw 14 400).st 164 7 (some 170)).nw 11 5).st 164 8 (some 171)).nw 11 401).st 164 11 (some 172)).nw 11 401).st 164 12 (some 173)).nw 11 401).st 164 13 (some 174)).nw 11 8).st 164 21 (some 175)).nw 11 8).st 164 24 (some 176)).nw 11 8).st 164 25 (some 177)).nw 11 2).st 164 26 (some 178)).nw 11 8).st 164 27 (some 179)).nw 11 256).st 164 28 (some 180)).nw 11 256).st 164 29 (some 181)).nw 11 256).st 164 30 (some 182)).nw 11 256).st 164 31 (some 183)).nw 11 8) ?_
  refine r_aload_n (pc := 566) 0 dX11_init_566 rfl rfl ?_
  refine r_sipush (pc := 567) dX11_init_567 (by decide) ?_
  refine r_newav (pc := 570) (c := 13) (n := 7680) (a := 185) dX11_init_570 rfl (by decide) ak_boolean (by decide) (by decide) (by decide) ?_
  refine r_putRF (pc := 572) dX11_init_572 fl_X11_79 rfl rfl rfl rfl (((((((((((((((((((((((((((((((((((((((((hb.nw 11 7).st 164 1 (some 165)).nw 11 4888).st 164 2 (some 166)).nw 11 9776).st 164 3 (some 167)).nw 13 2).st 164 4 (some 168)).nw 14 66).st 164 6 (some 169)).nw 14 400).st 164 7 (some 170)).nw 11 5).st 164 8 (some 171)).nw 11 401).st 164 11 (some 172)).nw 11 401).st 164 12 (some 173)).nw 11 401).st 164 13 (some 174)).nw 11 8).st 164 21 (some 175)).nw 11 8).st 164 24 (some 176)).nw 11 8).st 164 25 (some 177)).nw 11 2).st 164 26 (some 178)).nw 11 8).st 164 27 (some 179)).nw 11 256).st 164 28 (some 180)).nw 11 256).st 164 29 (some 181)).nw 11 256).st 164 30 (some 182)).nw 11 256).st 164 31 (some 183)).nw 11 8).st 164 32 (some 184)).nw 13 7680) ?_
  refine r_aload_n (pc := 575) 0 dX11_init_575 rfl rfl ?_
  refine r_ldc (pc := 576) (x := 65536) dX11_init_576 kc_X11_82 (by decide) ?_
  refine r_newav (pc := 578) (c := 13) (n := 65536) (a := 186) dX11_init_578 rfl (by decide) ak_boolean (by decide) (by decide) (by decide) ?_
  refine r_putRF (pc := 580) dX11_init_580 fl_X11_83 rfl rfl rfl rfl (((((((((((((((((((((((((((((((((((((((((((hb.nw 11 7).st 164 1 (some 165)).nw 11 4888).st 164 2 (some 166)).nw 11 9776).st 164 3 (some 167)).nw 13 2).st 164 4 (some 168)).nw 14 66).st 164 6 (some 169)).nw 14 400).st 164 7 (some 170)).nw 11 5).st 164 8 (some 171)).nw 11 401).st 164 11 (some 172)).nw 11 401).st 164 12 (some 173)).nw 11 401).st 164 13 (some 174)).nw 11 8).st 164 21 (some 175)).nw 11 8).st 164 24 (some 176)).nw 11 8).st 164 25 (some 177)).nw 11 2).st 164 26 (some 178)).nw 11 8).st 164 27 (some 179)).nw 11 256).st 164 28 (some 180)).nw 11 256).st 164 29 (some 181)).nw 11 256).st 164 30 (some 182)).nw 11 256).st 164 31 (some 183)).nw 11 8).st 164 32 (some 184)).nw 13 7680).st 164 33 (some 185)).nw 13 65536) ?_
  refine r_aload_n (pc := 583) 0 dX11_init_583 rfl rfl ?_
  refine r_sipush (pc := 584) dX11_init_584 (by decide) ?_
  refine r_newav (pc := 587) (c := 13) (n := 7936) (a := 187) dX11_init_587 rfl (by decide) ak_boolean (by decide) (by decide) (by decide) ?_
  refine r_putRF (pc := 589) dX11_init_589 fl_X11_86 rfl rfl rfl rfl (((((((((((((((((((((((((((((((((((((((((((((hb.nw 11 7).st 164 1 (some 165)).nw 11 4888).st 164 2 (some 166)).nw 11 9776).st 164 3 (some 167)).nw 13 2).st 164 4 (some 168)).nw 14 66).st 164 6 (some 169)).nw 14 400).st 164 7 (some 170)).nw 11 5).st 164 8 (some 171)).nw 11 401).st 164 11 (some 172)).nw 11 401).st 164 12 (some 173)).nw 11 401).st 164 13 (some 174)).nw 11 8).st 164 21 (some 175)).nw 11 8).st 164 24 (some 176)).nw 11 8).st 164 25 (some 177)).nw 11 2).st 164 26 (some 178)).nw 11 8).st 164 27 (some 179)).nw 11 256).st 164 28 (some 180)).nw 11 256).st 164 29 (some 181)).nw 11 256).st 164 30 (some 182)).nw 11 256).st 164 31 (some 183)).nw 11 8).st 164 32 (some 184)).nw 13 7680).st 164 33 (some 185)).nw 13 65536).st 164 34 (some 186)).nw 13 7936) ?_
  refine r_aload_n (pc := 592) 0 dX11_init_592 rfl rfl ?_
  refine r_sipush (pc := 593) dX11_init_593 (by decide) ?_
  refine r_newav (pc := 596) (c := 13) (n := 7936) (a := 188) dX11_init_596 rfl (by decide) ak_boolean (by decide) (by decide) (by decide) ?_
  refine r_putRF (pc := 598) dX11_init_598 fl_X11_89 rfl rfl rfl rfl (((((((((((((((((((((((((((((((((((((((((((((((hb.nw 11 7).st 164 1 (some 165)).nw 11 4888).st 164 2 (some 166)).nw 11 9776).st 164 3 (some 167)).nw 13 2).st 164 4 (some 168)).nw 14 66).st 164 6 (some 169)).nw 14 400).st 164 7 (some 170)).nw 11 5).st 164 8 (some 171)).nw 11 401).st 164 11 (some 172)).nw 11 401).st 164 12 (some 173)).nw 11 401).st 164 13 (some 174)).nw 11 8).st 164 21 (some 175)).nw 11 8).st 164 24 (some 176)).nw 11 8).st 164 25 (some 177)).nw 11 2).st 164 26 (some 178)).nw 11 8).st 164 27 (some 179)).nw 11 256).st 164 28 (some 180)).nw 11 256).st 164 29 (some 181)).nw 11 256).st 164 30 (some 182)).nw 11 256).st 164 31 (some 183)).nw 11 8).st 164 32 (some 184)).nw 13 7680).st 164 33 (some 185)).nw 13 65536).st 164 34 (some 186)).nw 13 7936).st 164 35 (some 187)).nw 13 7936) ?_
  refine r_aload_n (pc := 601) 0 dX11_init_601 rfl rfl ?_
  refine r_bipush (pc := 602) dX11_init_602 (by decide) ?_
  refine r_newav (pc := 604) (c := 11) (n := 8) (a := 189) dX11_init_604 rfl (by decide) ak_int (by decide) (by decide) (by decide) ?_
  refine r_putRF (pc := 606) dX11_init_606 fl_X11_92 rfl rfl rfl rfl (((((((((((((((((((((((((((((((((((((((((((((((((hb.nw 11 7).st 164 1 (some 165)).nw 11 4888).st 164 2 (some 166)).nw 11 9776).st 164 3 (some 167)).nw 13 2).st 164 4 (some 168)).nw 14 66).st 164 6 (some 169)).nw 14 400).st 164 7 (some 170)).nw 11 5).st 164 8 (some 171)).nw 11 401).st 164 11 (some 172)).nw 11 401).st 164 12 (some 173)).nw 11 401).st 164 13 (some 174)).nw 11 8).st 164 21 (some 175)).nw 11 8).st 164 24 (some 176)).nw 11 8).st 164 25 (some 177)).nw 11 2).st 164 26 (some 178)).nw 11 8).st 164 27 (some 179)).nw 11 256).st 164 28 (some 180)).nw 11 256).st 164 29 (some 181)).nw 11 256).st 164 30 (some 182)).nw 11 256).st 164 31 (some 183)).nw 11 8).st 164 32 (some 184)).nw 13 7680).st 164 33 (some 185)).nw 13 65536).st 164 34 (some 186)).nw 13 7936).st 164 35 (some 187)).nw 13 7936).st 164 36 (some 188)).nw 11 8) ?_
  refine r_aload_n (pc := 609) 0 dX11_init_609 rfl rfl ?_
  refine r_bipush (pc := 610) dX11_init_610 (by decide) ?_
  refine r_newav (pc := 612) (c := 11) (n := 8) (a := 190) dX11_init_612 rfl (by decide) ak_int (by decide) (by decide) (by decide) ?_
  refine r_putRF (pc := 614) dX11_init_614 fl_X11_95 rfl rfl rfl rfl (((((((((((((((((((((((((((((((((((((((((((((((((((hb.nw 11 7).st 164 1 (some 165)).nw 11 4888).st 164 2 (some 166)).nw 11 9776).st 164 3 (some 167)).nw 13 2).st 164 4 (some 168)).nw 14 66).st 164 6 (some 169)).nw 14 400).st 164 7 (some 170)).nw 11 5).st 164 8 (some 171)).nw 11 401).st 164 11 (some 172)).nw 11 401).st 164 12 (some 173)).nw 11 401).st 164 13 (some 174)).nw 11 8).st 164 21 (some 175)).nw 11 8).st 164 24 (some 176)).nw 11 8).st 164 25 (some 177)).nw 11 2).st 164 26 (some 178)).nw 11 8).st 164 27 (some 179)).nw 11 256).st 164 28 (some 180)).nw 11 256).st 164 29 (some 181)).nw 11 256).st 164 30 (some 182)).nw 11 256).st 164 31 (some 183)).nw 11 8).st 164 32 (some 184)).nw 13 7680).st 164 33 (some 185)).nw 13 65536).st 164 34 (some 186)).nw 13 7936).st 164 35 (some 187)).nw 13 7936).st 164 36 (some 188)).nw 11 8).st 164 37 (some 189)).nw 11 8) ?_
  refine r_aload_n (pc := 617) 0 dX11_init_617 rfl rfl ?_
  refine r_bipush (pc := 618) dX11_init_618 (by decide) ?_
  refine r_newav (pc := 620) (c := 11) (n := 8) (a := 191) dX11_init_620 rfl (by decide) ak_int (by decide) (by decide) (by decide) ?_
  refine r_putRF (pc := 622) dX11_init_622 fl_X11_98 rfl rfl rfl rfl (((((((((((((((((((((((((((((((((((((((((((((((((((((hb.nw 11 7).st 164 1 (some 165)).nw 11 4888).st 164 2 (some 166)).nw 11 9776).st 164 3 (some 167)).nw 13 2).st 164 4 (some 168)).nw 14 66).st 164 6 (some 169)).nw 14 400).st 164 7 (some 170)).nw 11 5).st 164 8 (some 171)).nw 11 401).st 164 11 (some 172)).nw 11 401).st 164 12 (some 173)).nw 11 401).st 164 13 (some 174)).nw 11 8).st 164 21 (some 175)).nw 11 8).st 164 24 (some 176)).nw 11 8).st 164 25 (some 177)).nw 11 2).st 164 26 (some 178)).nw 11 8).st 164 27 (some 179)).nw 11 256).st 164 28 (some 180)).nw 11 256).st 164 29 (some 181)).nw 11 256).st 164 30 (some 182)).nw 11 256).st 164 31 (some 183)).nw 11 8).st 164 32 (some 184)).nw 13 7680).st 164 33 (some 185)).nw 13 65536).st 164 34 (some 186)).nw 13 7936).st 164 35 (some 187)).nw 13 7936).st 164 36 (some 188)).nw 11 8).st 164 37 (some 189)).nw 11 8).st 164 38 (some 190)).nw 11 8) ?_
  refine r_aload_n (pc := 625) 0 dX11_init_625 rfl rfl ?_
  refine r_bipush (pc := 626) dX11_init_626 (by decide) ?_
  refine r_newav (pc := 628) (c := 11) (n := 8) (a := 192) dX11_init_628 rfl (by decide) ak_int (by decide) (by decide) (by decide) ?_
  refine r_putRF (pc := 630) dX11_init_630 fl_X11_101 rfl rfl rfl rfl (((((((((((((((((((((((((((((((((((((((((((((((((((((((hb.nw 11 7).st 164 1 (some 165)).nw 11 4888).st 164 2 (some 166)).nw 11 9776).st 164 3 (some 167)).nw 13 2).st 164 4 (some 168)).nw 14 66).st 164 6 (some 169)).nw 14 400).st 164 7 (some 170)).nw 11 5).st 164 8 (some 171)).nw 11 401).st 164 11 (some 172)).nw 11 401).st 164 12 (some 173)).nw 11 401).st 164 13 (some 174)).nw 11 8).st 164 21 (some 175)).nw 11 8).st 164 24 (some 176)).nw 11 8).st 164 25 (some 177)).nw 11 2).st 164 26 (some 178)).nw 11 8).st 164 27 (some 179)).nw 11 256).st 164 28 (some 180)).nw 11 256).st 164 29 (some 181)).nw 11 256).st 164 30 (some 182)).nw 11 256).st 164 31 (some 183)).nw 11 8).st 164 32 (some 184)).nw 13 7680).st 164 33 (some 185)).nw 13 65536).st 164 34 (some 186)).nw 13 7936).st 164 35 (some 187)).nw 13 7936).st 164 36 (some 188)).nw 11 8).st 164 37 (some 189)).nw 11 8).st 164 38 (some 190)).nw 11 8).st 164 39 (some 191)).nw 11 8) ?_
  refine r_aload_n (pc := 633) 0 dX11_init_633 rfl rfl ?_
  refine r_bipush (pc := 634) dX11_init_634 (by decide) ?_
  refine r_newav (pc := 636) (c := 11) (n := 8) (a := 193) dX11_init_636 rfl (by decide) ak_int (by decide) (by decide) (by decide) ?_
  refine r_putRF (pc := 638) dX11_init_638 fl_X11_104 rfl rfl rfl rfl (((((((((((((((((((((((((((((((((((((((((((((((((((((((((hb.nw 11 7).st 164 1 (some 165)).nw 11 4888).st 164 2 (some 166)).nw 11 9776).st 164 3 (some 167)).nw 13 2).st 164 4 (some 168)).nw 14 66).st 164 6 (some 169)).nw 14 400).st 164 7 (some 170)).nw 11 5).st 164 8 (some 171)).nw 11 401).st 164 11 (some 172)).nw 11 401).st 164 12 (some 173)).nw 11 401).st 164 13 (some 174)).nw 11 8).st 164 21 (some 175)).nw 11 8).st 164 24 (some 176)).nw 11 8).st 164 25 (some 177)).nw 11 2).st 164 26 (some 178)).nw 11 8).st 164 27 (some 179)).nw 11 256).st 164 28 (some 180)).nw 11 256).st 164 29 (some 181)).nw 11 256).st 164 30 (some 182)).nw 11 256).st 164 31 (some 183)).nw 11 8).st 164 32 (some 184)).nw 13 7680).st 164 33 (some 185)).nw 13 65536).st 164 34 (some 186)).nw 13 7936).st 164 35 (some 187)).nw 13 7936).st 164 36 (some 188)).nw 11 8).st 164 37 (some 189)).nw 11 8).st 164 38 (some 190)).nw 11 8).st 164 39 (some 191)).nw 11 8).st 164 40 (some 192)).nw 11 8) ?_
  refine r_aload_n (pc := 641) 0 dX11_init_641 rfl rfl ?_
  refine r_bipush (pc := 642) dX11_init_642 (by decide) ?_
  refine r_newav (pc := 644) (c := 11) (n := 8) (a := 194) dX11_init_644 rfl (by decide) ak_int (by decide) (by decide) (by decide) ?_
  refine r_putRF (pc := 646) dX11_init_646 fl_X11_107 rfl rfl rfl rfl (((((((((((((((((((((((((((((((((((((((((((((((((((((((((((hb.nw 11 7).st 164 1 (some 165)).nw 11 4888).st 164 2 (some 166)).nw 11 9776).st 164 3 (some 167)).nw 13 2).st 164 4 (some 168)).nw 14 66).st 164 6 (some 169)).nw 14 400).st 164 7 (some 170)).nw 11 5).st 164 8 (some 171)).nw 11 401).st 164 11 (some 172)).nw 11 401).st 164 12 (some 173)).nw 11 401).st 164 13 (some 174)).nw 11 8).st 164 21 (some 175)).nw 11 8).st 164 24 (some 176)).nw 11 8).st 164 25 (some 177)).nw 11 2).st 164 26 (some 178)).nw 11 8).st 164 27 (some 179)).nw 11 256).st 164 28 (some 180)).nw 11 256).st 164 29 (some 181)).nw 11 256).st 164 30 (some 182)).nw 11 256).st 164 31 (some 183)).nw 11 8).st 164 32 (some 184)).nw 13 7680).st 164 33 (some 185)).nw 13 65536).st 164 34 (some 186)).nw 13 7936).st 164 35 (some 187)).nw 13 7936).st 164 36 (some 188)).nw 11 8).st 164 37 (some 189)).nw 11 8).st 164 38 (some 190)).nw 11 8).st 164 39 (some 191)).nw 11 8).st 164 40 (some 192)).nw 11 8).st 164 41 (some 193)).nw 11 8) ?_
  refine r_aload_n (pc := 649) 0 dX11_init_649 rfl rfl ?_
  refine r_getR (pc := 650) (b := 166) dX11_init_650 fl_X11_17 rfl ((((((((((((((((((((((((((((((((((((((((((((((((((((((((((((hb.nw 11 7).st 164 1 (some 165)).nw 11 4888).st 164 2 (some 166)).nw 11 9776).st 164 3 (some 167)).nw 13 2).st 164 4 (some 168)).nw 14 66).st 164 6 (some 169)).nw 14 400).st 164 7 (some 170)).nw 11 5).st 164 8 (some 171)).nw 11 401).st 164 11 (some 172)).nw 11 401).st 164 12 (some 173)).nw 11 401).st 164 13 (some 174)).nw 11 8).st 164 21 (some 175)).nw 11 8).st 164 24 (some 176)).nw 11 8).st 164 25 (some 177)).nw 11 2).st 164 26 (some 178)).nw 11 8).st 164 27 (some 179)).nw 11 256).st 164 28 (some 180)).nw 11 256).st 164 29 (some 181)).nw 11 256).st 164 30 (some 182)).nw 11 256).st 164 31 (some 183)).nw 11 8).st 164 32 (some 184)).nw 13 7680).st 164 33 (some 185)).nw 13 65536).st 164 34 (some 186)).nw 13 7936).st 164 35 (some 187)).nw 13 7936).st 164 36 (some 188)).nw 11 8).st 164 37 (some 189)).nw 11 8).st 164 38 (some 190)).nw 11 8).st 164 39 (some 191)).nw 11 8).st 164 40 (some 192)).nw 11 8).st 164 41 (some 193)).nw 11 8).st 164 42 (some 194)) (by decide +kernel) ?_
  refine r_bipush (pc := 653) dX11_init_653 (by decide) ?_
  refine r_bipush (pc := 655) dX11_init_655 (by decide) ?_
  refine r_iastv (pc := 657) (i := 40) (n := 4888) dX11_init_657 (by unfold isA; decide +kernel) (by decide) (by decide) rfl ?_
  refine r_aload_n (pc := 658) 0 dX11_init_658 rfl rfl ?_
  refine r_getR (pc := 659) (b := 166) dX11_init_659 fl_X11_17 rfl ((((((((((((((((((((((((((((((((((((((((((((((((((((((((((((hb.nw 11 7).st 164 1 (some 165)).nw 11 4888).st 164 2 (some 166)).nw 11 9776).st 164 3 (some 167)).nw 13 2).st 164 4 (some 168)).nw 14 66).st 164 6 (some 169)).nw 14 400).st 164 7 (some 170)).nw 11 5).st 164 8 (some 171)).nw 11 401).st 164 11 (some 172)).nw 11 401).st 164 12 (some 173)).nw 11 401).st 164 13 (some 174)).nw 11 8).st 164 21 (some 175)).nw 11 8).st 164 24 (some 176)).nw 11 8).st 164 25 (some 177)).nw 11 2).st 164 26 (some 178)).nw 11 8).st 164 27 (some 179)).nw 11 256).st 164 28 (some 180)).nw 11 256).st 164 29 (some 181)).nw 11 256).st 164 30 (some 182)).nw 11 256).st 164 31 (some 183)).nw 11 8).st 164 32 (some 184)).nw 13 7680).st 164 33 (some 185)).nw 13 65536).st 164 34 (some 186)).nw 13 7936).st 164 35 (some 187)).nw 13 7936).st 164 36 (some 188)).nw 11 8).st 164 37 (some 189)).nw 11 8).st 164 38 (some 190)).nw 11 8).st 164 39 (some 191)).nw 11 8).st 164 40 (some 192)).nw 11 8).st 164 41 (some 193)).nw 11 8).st 164 42 (some 194)) (by decide +kernel) ?_
  refine r_bipush (pc := 662) dX11_init_662 (by decide) ?_
  refine r_iconst (pc := 664) dX11_init_664 ?_
  refine r_iastv (pc := 665) (i := 81) (n := 4888) dX11_init_665 (by unfold isA; decide +kernel) (by decide) (by decide) rfl ?_
  exact r_vret (pc := 666) dX11_init_666 rfl ⟨rfl, rfl, rfl⟩

def gext (g g' : Gm) : Prop := gnx g ≤ gnx g' ∧ ∀ a, a < gnx g → gkd g' a = gkd g a ∧ gln g' a = gln g a
theorem gext.rf (g : Gm) : gext g g := ⟨Nat.le_refl _, fun _ _ => ⟨rfl, rfl⟩⟩
theorem gext.tr {g g' g'' : Gm} (h : gext g g') (k : gext g' g'') : gext g g'' := ⟨Nat.le_trans h.1 k.1, fun a ha => ⟨((k.2 a (Nat.lt_of_lt_of_le ha h.1)).1).trans (h.2 a ha).1, ((k.2 a (Nat.lt_of_lt_of_le ha h.1)).2).trans (h.2 a ha).2⟩⟩
theorem gext.nw {g g' : Gm} (c n : Nat) (h : gext g g') : gext g (nwG g' c n) := h.tr ⟨Nat.le_succ _, fun a ha => by
  have hne : ¬ a = g'.1 := Nat.ne_of_lt ha
  exact ⟨by simp [gkd, nwG, hne], by simp [gln, nwG, hne]⟩⟩
theorem gext.st {g g' : Gm} (a j : Nat) (x : Option Nat) (h : gext g g') : gext g (stR g' a j x) := h.tr ⟨Nat.le_refl _, fun _ _ => ⟨rfl, rfl⟩⟩
theorem isK.k {g : Gm} {a c : Nat} (h : isK g a c) : isK g a c := h
theorem isK.ext {g g' : Gm} {a c : Nat} (h : isK g a c) (e : gext g g') : isK g' a c := ⟨(e.2 a h.2.2).1.trans h.1, h.2.1, Nat.lt_of_lt_of_le h.2.2 e.1⟩
theorem isA.ext {g g' : Gm} {a c n : Nat} (h : isA g a c n) (e : gext g g') : isA g' a c n := ⟨(e.2 a h.2.2.1).1.trans h.1, h.2.1, Nat.lt_of_lt_of_le h.2.2.1 e.1, (e.2 a h.2.2.1).2.trans h.2.2.2⟩
theorem isK.nw {g : Gm} {a c : Nat} (h : isK g a c) (c' n : Nat) : isK (nwG g c' n) a c := h.ext ((gext.rf g).nw c' n)
theorem isA.nw {g : Gm} {a c n : Nat} (h : isA g a c n) (c' n' : Nat) : isA (nwG g c' n') a c n := h.ext ((gext.rf g).nw c' n')
theorem isK.st {g : Gm} {a c : Nat} (h : isK g a c) (a' j : Nat) (x : Option Nat) : isK (stR g a' j x) a c := h
theorem isA.st {g : Gm} {a c n : Nat} (h : isA g a c n) (a' j : Nat) (x : Option Nat) : isA (stR g a' j x) a c n := h
theorem isK_new {g : Gm} {a : Nat} (c n : Nat) (ha : gnx g = a) (h64 : 64 ≤ a) : isK (nwG g c n) a c := by
  subst ha; exact ⟨by simp [gkd, nwG, gnx], h64, Nat.lt_succ_self _⟩
theorem isA_new {g : Gm} {a : Nat} (c n : Nat) (ha : gnx g = a) (h64 : 64 ≤ a) : isA (nwG g c n) a c n := by
  subst ha; exact ⟨by simp [gkd, nwG, gnx], h64, Nat.lt_succ_self _, by simp [gln, nwG, gnx]⟩

theorem al_X1_18 : Cond.classLink RX1 18 "ThirteenthLoaf$Law" ∈ tblG := (cw_X1_18).1
theorem al_X10_7 : Cond.classLink RX10 7 "ThirteenthLoaf$Bakery" ∈ tblG := (cw_X10_7).1
def gI5 (g : Gm) (b : Nat) : Gm := (stR (nwG (stR (nwG g 11 8) b 0 (some (gnx g))) 11 8) b 1 (some (gnx g + 1)))
def fI5 (g : Gm) (f : Fm) (b : Nat) : Fm := (nwF (nwF f (gnx g)) (gnx g + 1))
theorem eI5 (g : Gm) (b : Nat) : gext g (gI5 g b) := (((((gext.rf g).nw 11 8).st b 0 (some (gnx g))).nw 11 8).st b 1 (some (gnx g + 1)))
set_option maxRecDepth 100000 in
set_option maxHeartbeats 4000000 in
theorem i_5 (l : Launch) (z : Zv) (d : Nat) {g : Gm} {f : Fm} {b : Nat} (hb : isK g b 5) : PM l z d mX5_init [.ref b] g f 2 16 (fun r g' f' => r = none ∧ gI5 g b = g' ∧ fI5 g f b = f') := by
  have h64 : 64 ≤ gnx g := Nat.le_of_lt (Nat.lt_of_le_of_lt hb.2.1 hb.2.2)
  refine PM.of (by decide +kernel) (Nat.le_of_ble_eq_true rfl) ?_
  refine r_aload_n (pc := 0) 0 dX5_init_0 rfl rfl ?_
  refine r_objInit (pc := 1) dX5_init_1 oi_X5_3 (Nat.le_of_ble_eq_true rfl) ?_
  refine r_aload_n (pc := 4) 0 dX5_init_4 rfl rfl ?_
  refine r_bipush (pc := 5) dX5_init_5 (by decide) ?_
  refine r_newav (pc := 7) (c := 11) (n := 8) (a := (gnx g)) dX5_init_7 rfl (by decide) ak_int (by decide) (by decide) (by decide) ?_
  refine r_putRF (pc := 9) dX5_init_9 fl_X5_9 rfl rfl rfl rfl (hb.nw 11 8) ?_
  refine r_aload_n (pc := 12) 0 dX5_init_12 rfl rfl ?_
  refine r_bipush (pc := 13) dX5_init_13 (by decide) ?_
  refine r_newav (pc := 15) (c := 11) (n := 8) (a := (gnx g + 1)) dX5_init_15 rfl (by decide) ak_int (by decide) (by decide) (by decide) ?_
  refine r_putRF (pc := 17) dX5_init_17 fl_X5_15 rfl rfl rfl rfl (((hb.nw 11 8).st b 0 (some (gnx g))).nw 11 8) ?_
  exact r_vret (pc := 20) dX5_init_20 rfl ⟨rfl, rfl, rfl⟩
def gI0 (g : Gm) (b : Nat) : Gm := (stR (nwG (stR (nwG g 11 8) b 0 (some (gnx g))) 11 64) b 1 (some (gnx g + 1)))
def fI0 (g : Gm) (f : Fm) (b : Nat) : Fm := (nwF (nwF f (gnx g)) (gnx g + 1))
theorem eI0 (g : Gm) (b : Nat) : gext g (gI0 g b) := (((((gext.rf g).nw 11 8).st b 0 (some (gnx g))).nw 11 64).st b 1 (some (gnx g + 1)))
set_option maxRecDepth 100000 in
set_option maxHeartbeats 4000000 in
theorem i_0 (l : Launch) (z : Zv) (d : Nat) {g : Gm} {f : Fm} {b : Nat} (hb : isK g b 0) : PM l z d mX0_init [.ref b] g f 2 72 (fun r g' f' => r = none ∧ gI0 g b = g' ∧ fI0 g f b = f') := by
  have h64 : 64 ≤ gnx g := Nat.le_of_lt (Nat.lt_of_le_of_lt hb.2.1 hb.2.2)
  refine PM.of (by decide +kernel) (Nat.le_of_ble_eq_true rfl) ?_
  refine r_aload_n (pc := 0) 0 dX0_init_0 rfl rfl ?_
  refine r_objInit (pc := 1) dX0_init_1 oi_X0_5 (Nat.le_of_ble_eq_true rfl) ?_
  refine r_aload_n (pc := 4) 0 dX0_init_4 rfl rfl ?_
  refine r_bipush (pc := 5) dX0_init_5 (by decide) ?_
  refine r_newav (pc := 7) (c := 11) (n := 8) (a := (gnx g)) dX0_init_7 rfl (by decide) ak_int (by decide) (by decide) (by decide) ?_
  refine r_putRF (pc := 9) dX0_init_9 fl_X0_13 rfl rfl rfl rfl (hb.nw 11 8) ?_
  refine r_aload_n (pc := 12) 0 dX0_init_12 rfl rfl ?_
  refine r_bipush (pc := 13) dX0_init_13 (by decide) ?_
  refine r_newav (pc := 15) (c := 11) (n := 64) (a := (gnx g + 1)) dX0_init_15 rfl (by decide) ak_int (by decide) (by decide) (by decide) ?_
  refine r_putRF (pc := 17) dX0_init_17 fl_X0_17 rfl rfl rfl rfl (((hb.nw 11 8).st b 0 (some (gnx g))).nw 11 64) ?_
  exact r_vret (pc := 20) dX0_init_20 rfl ⟨rfl, rfl, rfl⟩
def gI4 (g : Gm) (b : Nat) : Gm := (stR (nwG (stR (nwG (stR (nwG g 11 8) b 0 (some (gnx g))) 11 8) b 1 (some (gnx g + 1))) 11 8) b 2 (some (gnx g + 2)))
def fI4 (g : Gm) (f : Fm) (b : Nat) : Fm := (nwF (nwF (nwF f (gnx g)) (gnx g + 1)) (gnx g + 2))
theorem eI4 (g : Gm) (b : Nat) : gext g (gI4 g b) := (((((((gext.rf g).nw 11 8).st b 0 (some (gnx g))).nw 11 8).st b 1 (some (gnx g + 1))).nw 11 8).st b 2 (some (gnx g + 2)))
set_option maxRecDepth 100000 in
set_option maxHeartbeats 4000000 in
theorem i_4 (l : Launch) (z : Zv) (d : Nat) {g : Gm} {f : Fm} {b : Nat} (hb : isK g b 4) : PM l z d mX4_init [.ref b] g f 3 24 (fun r g' f' => r = none ∧ gI4 g b = g' ∧ fI4 g f b = f') := by
  have h64 : 64 ≤ gnx g := Nat.le_of_lt (Nat.lt_of_le_of_lt hb.2.1 hb.2.2)
  refine PM.of (by decide +kernel) (Nat.le_of_ble_eq_true rfl) ?_
  refine r_aload_n (pc := 0) 0 dX4_init_0 rfl rfl ?_
  refine r_objInit (pc := 1) dX4_init_1 oi_X4_3 (Nat.le_of_ble_eq_true rfl) ?_
  refine r_aload_n (pc := 4) 0 dX4_init_4 rfl rfl ?_
  refine r_bipush (pc := 5) dX4_init_5 (by decide) ?_
  refine r_newav (pc := 7) (c := 11) (n := 8) (a := (gnx g)) dX4_init_7 rfl (by decide) ak_int (by decide) (by decide) (by decide) ?_
  refine r_putRF (pc := 9) dX4_init_9 fl_X4_9 rfl rfl rfl rfl (hb.nw 11 8) ?_
  refine r_aload_n (pc := 12) 0 dX4_init_12 rfl rfl ?_
  refine r_bipush (pc := 13) dX4_init_13 (by decide) ?_
  refine r_newav (pc := 15) (c := 11) (n := 8) (a := (gnx g + 1)) dX4_init_15 rfl (by decide) ak_int (by decide) (by decide) (by decide) ?_
  refine r_putRF (pc := 17) dX4_init_17 fl_X4_15 rfl rfl rfl rfl (((hb.nw 11 8).st b 0 (some (gnx g))).nw 11 8) ?_
  refine r_aload_n (pc := 20) 0 dX4_init_20 rfl rfl ?_
  refine r_bipush (pc := 21) dX4_init_21 (by decide) ?_
  refine r_newav (pc := 23) (c := 11) (n := 8) (a := (gnx g + 2)) dX4_init_23 rfl (by decide) ak_int (by decide) (by decide) (by decide) ?_
  refine r_putRF (pc := 25) dX4_init_25 fl_X4_18 rfl rfl rfl rfl (((((hb.nw 11 8).st b 0 (some (gnx g))).nw 11 8).st b 1 (some (gnx g + 1))).nw 11 8) ?_
  exact r_vret (pc := 28) dX4_init_28 rfl ⟨rfl, rfl, rfl⟩
def gI6 (g : Gm) (b : Nat) : Gm := (stR (nwG (stR (nwG (stR (nwG (stR (nwG g 11 168) b 0 (some (gnx g))) 11 256) b 1 (some (gnx g + 1))) 11 256) b 2 (some (gnx g + 2))) 11 8) b 3 (some (gnx g + 3)))
def fI6 (g : Gm) (f : Fm) (b : Nat) : Fm := (nwF (nwF (nwF (nwF f (gnx g)) (gnx g + 1)) (gnx g + 2)) (gnx g + 3))
theorem eI6 (g : Gm) (b : Nat) : gext g (gI6 g b) := (((((((((gext.rf g).nw 11 168).st b 0 (some (gnx g))).nw 11 256).st b 1 (some (gnx g + 1))).nw 11 256).st b 2 (some (gnx g + 2))).nw 11 8).st b 3 (some (gnx g + 3)))
set_option maxRecDepth 100000 in
set_option maxHeartbeats 4000000 in
theorem i_6 (l : Launch) (z : Zv) (d : Nat) {g : Gm} {f : Fm} {b : Nat} (hb : isK g b 6) : PM l z d mX6_init [.ref b] g f 4 688 (fun r g' f' => r = none ∧ gI6 g b = g' ∧ fI6 g f b = f') := by
  have h64 : 64 ≤ gnx g := Nat.le_of_lt (Nat.lt_of_le_of_lt hb.2.1 hb.2.2)
  refine PM.of (by decide +kernel) (Nat.le_of_ble_eq_true rfl) ?_
  refine r_aload_n (pc := 0) 0 dX6_init_0 rfl rfl ?_
  refine r_objInit (pc := 1) dX6_init_1 oi_X6_3 (Nat.le_of_ble_eq_true rfl) ?_
  refine r_aload_n (pc := 4) 0 dX6_init_4 rfl rfl ?_
  refine r_sipush (pc := 5) dX6_init_5 (by decide) ?_
  refine r_newav (pc := 8) (c := 11) (n := 168) (a := (gnx g)) dX6_init_8 rfl (by decide) ak_int (by decide) (by decide) (by decide) ?_
  refine r_putRF (pc := 10) dX6_init_10 fl_X6_9 rfl rfl rfl rfl (hb.nw 11 168) ?_
  refine r_aload_n (pc := 13) 0 dX6_init_13 rfl rfl ?_
  refine r_sipush (pc := 14) dX6_init_14 (by decide) ?_
  refine r_newav (pc := 17) (c := 11) (n := 256) (a := (gnx g + 1)) dX6_init_17 rfl (by decide) ak_int (by decide) (by decide) (by decide) ?_
  refine r_putRF (pc := 19) dX6_init_19 fl_X6_15 rfl rfl rfl rfl (((hb.nw 11 168).st b 0 (some (gnx g))).nw 11 256) ?_
  refine r_aload_n (pc := 22) 0 dX6_init_22 rfl rfl ?_
  refine r_sipush (pc := 23) dX6_init_23 (by decide) ?_
  refine r_newav (pc := 26) (c := 11) (n := 256) (a := (gnx g + 2)) dX6_init_26 rfl (by decide) ak_int (by decide) (by decide) (by decide) ?_
  refine r_putRF (pc := 28) dX6_init_28 fl_X6_18 rfl rfl rfl rfl (((((hb.nw 11 168).st b 0 (some (gnx g))).nw 11 256).st b 1 (some (gnx g + 1))).nw 11 256) ?_
  refine r_aload_n (pc := 31) 0 dX6_init_31 rfl rfl ?_
  refine r_bipush (pc := 32) dX6_init_32 (by decide) ?_
  refine r_newav (pc := 34) (c := 11) (n := 8) (a := (gnx g + 3)) dX6_init_34 rfl (by decide) ak_int (by decide) (by decide) (by decide) ?_
  refine r_putRF (pc := 36) dX6_init_36 fl_X6_21 rfl rfl rfl rfl (((((((hb.nw 11 168).st b 0 (some (gnx g))).nw 11 256).st b 1 (some (gnx g + 1))).nw 11 256).st b 2 (some (gnx g + 2))).nw 11 8) ?_
  exact r_vret (pc := 39) dX6_init_39 rfl ⟨rfl, rfl, rfl⟩
def gI7 (g : Gm) (b : Nat) : Gm := (stR (nwG (stR (nwG (stR (nwG g 11 400) b 0 (some (gnx g))) 11 512) b 1 (some (gnx g + 1))) 11 48) b 2 (some (gnx g + 2)))
def fI7 (g : Gm) (f : Fm) (b : Nat) : Fm := (stF (nwF (nwF (nwF f (gnx g)) (gnx g + 1)) (gnx g + 2)) b 3 (-1))
theorem eI7 (g : Gm) (b : Nat) : gext g (gI7 g b) := (((((((gext.rf g).nw 11 400).st b 0 (some (gnx g))).nw 11 512).st b 1 (some (gnx g + 1))).nw 11 48).st b 2 (some (gnx g + 2)))
set_option maxRecDepth 100000 in
set_option maxHeartbeats 4000000 in
theorem i_7 (l : Launch) (z : Zv) (d : Nat) {g : Gm} {f : Fm} {b : Nat} (hb : isK g b 7) : PM l z d mX8_init [.ref b] g f 3 960 (fun r g' f' => r = none ∧ gI7 g b = g' ∧ fI7 g f b = f') := by
  have h64 : 64 ≤ gnx g := Nat.le_of_lt (Nat.lt_of_le_of_lt hb.2.1 hb.2.2)
  refine PM.of (by decide +kernel) (Nat.le_of_ble_eq_true rfl) ?_
  refine r_aload_n (pc := 0) 0 dX8_init_0 rfl rfl ?_
  refine r_objInit (pc := 1) dX8_init_1 oi_X8_3 (Nat.le_of_ble_eq_true rfl) ?_
  refine r_aload_n (pc := 4) 0 dX8_init_4 rfl rfl ?_
  refine r_sipush (pc := 5) dX8_init_5 (by decide) ?_
  refine r_newav (pc := 8) (c := 11) (n := 400) (a := (gnx g)) dX8_init_8 rfl (by decide) ak_int (by decide) (by decide) (by decide) ?_
  refine r_putRF (pc := 10) dX8_init_10 fl_X8_9 rfl rfl rfl rfl (hb.nw 11 400) ?_
  refine r_aload_n (pc := 13) 0 dX8_init_13 rfl rfl ?_
  refine r_sipush (pc := 14) dX8_init_14 (by decide) ?_
  refine r_newav (pc := 17) (c := 11) (n := 512) (a := (gnx g + 1)) dX8_init_17 rfl (by decide) ak_int (by decide) (by decide) (by decide) ?_
  refine r_putRF (pc := 19) dX8_init_19 fl_X8_15 rfl rfl rfl rfl (((hb.nw 11 400).st b 0 (some (gnx g))).nw 11 512) ?_
  refine r_aload_n (pc := 22) 0 dX8_init_22 rfl rfl ?_
  refine r_bipush (pc := 23) dX8_init_23 (by decide) ?_
  refine r_newav (pc := 25) (c := 11) (n := 48) (a := (gnx g + 2)) dX8_init_25 rfl (by decide) ak_int (by decide) (by decide) (by decide) ?_
  refine r_putRF (pc := 27) dX8_init_27 fl_X8_20 rfl rfl rfl rfl (((((hb.nw 11 400).st b 0 (some (gnx g))).nw 11 512).st b 1 (some (gnx g + 1))).nw 11 48) ?_
  refine r_aload_n (pc := 30) 0 dX8_init_30 rfl rfl ?_
  refine r_iconst (pc := 31) dX8_init_31 ?_
  refine r_putI (pc := 32) dX8_init_32 fl_X8_23 rfl rfl ((((((hb.nw 11 400).st b 0 (some (gnx g))).nw 11 512).st b 1 (some (gnx g + 1))).nw 11 48).st b 2 (some (gnx g + 2))) ?_
  exact r_vret (pc := 35) dX8_init_35 rfl ⟨rfl, rfl, rfl⟩
def gI8 (g : Gm) (b : Nat) : Gm := (stR (nwG (stR (nwG (stR (nwG (stR (nwG (stR (nwG (stR (nwG g 11 30) b 0 (some (gnx g))) 12 120) b 1 (some (gnx g + 1))) 12 124) b 2 (some (gnx g + 2))) 12 1024) b 3 (some (gnx g + 3))) 11 256) b 4 (some (gnx g + 4))) 11 256) b 5 (some (gnx g + 5)))
def fI8 (g : Gm) (f : Fm) (b : Nat) : Fm := (nwF (nwF (nwF (nwF (nwF (nwF f (gnx g)) (gnx g + 1)) (gnx g + 2)) (gnx g + 3)) (gnx g + 4)) (gnx g + 5))
theorem eI8 (g : Gm) (b : Nat) : gext g (gI8 g b) := (((((((((((((gext.rf g).nw 11 30).st b 0 (some (gnx g))).nw 12 120).st b 1 (some (gnx g + 1))).nw 12 124).st b 2 (some (gnx g + 2))).nw 12 1024).st b 3 (some (gnx g + 3))).nw 11 256).st b 4 (some (gnx g + 4))).nw 11 256).st b 5 (some (gnx g + 5)))
set_option maxRecDepth 100000 in
set_option maxHeartbeats 4000000 in
theorem i_8 (l : Launch) (z : Zv) (d : Nat) {g : Gm} {f : Fm} {b : Nat} (hb : isK g b 8) : PM l z d mX9_init [.ref b] g f 6 1810 (fun r g' f' => r = none ∧ gI8 g b = g' ∧ fI8 g f b = f') := by
  have h64 : 64 ≤ gnx g := Nat.le_of_lt (Nat.lt_of_le_of_lt hb.2.1 hb.2.2)
  refine PM.of (by decide +kernel) (Nat.le_of_ble_eq_true rfl) ?_
  refine r_aload_n (pc := 0) 0 dX9_init_0 rfl rfl ?_
  refine r_objInit (pc := 1) dX9_init_1 oi_X9_3 (Nat.le_of_ble_eq_true rfl) ?_
  refine r_aload_n (pc := 4) 0 dX9_init_4 rfl rfl ?_
  refine r_bipush (pc := 5) dX9_init_5 (by decide) ?_
  refine r_newav (pc := 7) (c := 11) (n := 30) (a := (gnx g)) dX9_init_7 rfl (by decide) ak_int (by decide) (by decide) (by decide) ?_
  refine r_putRF (pc := 9) dX9_init_9 fl_X9_9 rfl rfl rfl rfl (hb.nw 11 30) ?_
  refine r_aload_n (pc := 12) 0 dX9_init_12 rfl rfl ?_
  refine r_bipush (pc := 13) dX9_init_13 (by decide) ?_
  refine r_newav (pc := 15) (c := 12) (n := 120) (a := (gnx g + 1)) dX9_init_15 rfl (by decide) ak_long (by decide) (by decide) (by decide) ?_
  refine r_putRF (pc := 17) dX9_init_17 fl_X9_15 rfl rfl rfl rfl (((hb.nw 11 30).st b 0 (some (gnx g))).nw 12 120) ?_
  refine r_aload_n (pc := 20) 0 dX9_init_20 rfl rfl ?_
  refine r_bipush (pc := 21) dX9_init_21 (by decide) ?_
  refine r_newav (pc := 23) (c := 12) (n := 124) (a := (gnx g + 2)) dX9_init_23 rfl (by decide) ak_long (by decide) (by decide) (by decide) ?_
  refine r_putRF (pc := 25) dX9_init_25 fl_X9_19 rfl rfl rfl rfl (((((hb.nw 11 30).st b 0 (some (gnx g))).nw 12 120).st b 1 (some (gnx g + 1))).nw 12 124) ?_
  refine r_aload_n (pc := 28) 0 dX9_init_28 rfl rfl ?_
  refine r_sipush (pc := 29) dX9_init_29 (by decide) ?_
  refine r_newav (pc := 32) (c := 12) (n := 1024) (a := (gnx g + 3)) dX9_init_32 rfl (by decide) ak_long (by decide) (by decide) (by decide) ?_
  refine r_putRF (pc := 34) dX9_init_34 fl_X9_22 rfl rfl rfl rfl (((((((hb.nw 11 30).st b 0 (some (gnx g))).nw 12 120).st b 1 (some (gnx g + 1))).nw 12 124).st b 2 (some (gnx g + 2))).nw 12 1024) ?_
  refine r_aload_n (pc := 37) 0 dX9_init_37 rfl rfl ?_
  refine r_sipush (pc := 38) dX9_init_38 (by decide) ?_
  refine r_newav (pc := 41) (c := 11) (n := 256) (a := (gnx g + 4)) dX9_init_41 rfl (by decide) ak_int (by decide) (by decide) (by decide) ?_
  refine r_putRF (pc := 43) dX9_init_43 fl_X9_25 rfl rfl rfl rfl (((((((((hb.nw 11 30).st b 0 (some (gnx g))).nw 12 120).st b 1 (some (gnx g + 1))).nw 12 124).st b 2 (some (gnx g + 2))).nw 12 1024).st b 3 (some (gnx g + 3))).nw 11 256) ?_
  refine r_aload_n (pc := 46) 0 dX9_init_46 rfl rfl ?_
  refine r_sipush (pc := 47) dX9_init_47 (by decide) ?_
  refine r_newav (pc := 50) (c := 11) (n := 256) (a := (gnx g + 5)) dX9_init_50 rfl (by decide) ak_int (by decide) (by decide) (by decide) ?_
  refine r_putRF (pc := 52) dX9_init_52 fl_X9_28 rfl rfl rfl rfl (((((((((((hb.nw 11 30).st b 0 (some (gnx g))).nw 12 120).st b 1 (some (gnx g + 1))).nw 12 124).st b 2 (some (gnx g + 2))).nw 12 1024).st b 3 (some (gnx g + 3))).nw 11 256).st b 4 (some (gnx g + 4))).nw 11 256) ?_
  exact r_vret (pc := 55) dX9_init_55 rfl ⟨rfl, rfl, rfl⟩
def gI2 (g : Gm) (b : Nat) : Gm := (stR (nwG (stR (nwG (stR (nwG (stR (nwG (stR (nwG (stR (nwG (stR (nwG (stR (nwG (stR (gI0 (nwG g 0 0) (gnx g)) b 0 (some (gnx g))) 11 8) b 1 (some (gnx g + 3))) 11 8) b 2 (some (gnx g + 4))) 11 8) b 3 (some (gnx g + 5))) 11 256) b 4 (some (gnx g + 6))) 11 256) b 5 (some (gnx g + 7))) 11 256) b 6 (some (gnx g + 8))) 11 256) b 7 (some (gnx g + 9))) 11 256) b 8 (some (gnx g + 10)))
def fI2 (g : Gm) (f : Fm) (b : Nat) : Fm := (nwF (nwF (nwF (nwF (nwF (nwF (nwF (nwF (fI0 (nwG g 0 0) (nwF f (gnx g)) (gnx g)) (gnx g + 3)) (gnx g + 4)) (gnx g + 5)) (gnx g + 6)) (gnx g + 7)) (gnx g + 8)) (gnx g + 9)) (gnx g + 10))
theorem eI2 (g : Gm) (b : Nat) : gext g (gI2 g b) := ((((((((((((((((((((gext.rf g).nw 0 0).tr (eI0 _ (gnx g))).st b 0 (some (gnx g))).nw 11 8).st b 1 (some (gnx g + 3))).nw 11 8).st b 2 (some (gnx g + 4))).nw 11 8).st b 3 (some (gnx g + 5))).nw 11 256).st b 4 (some (gnx g + 6))).nw 11 256).st b 5 (some (gnx g + 7))).nw 11 256).st b 6 (some (gnx g + 8))).nw 11 256).st b 7 (some (gnx g + 9))).nw 11 256).st b 8 (some (gnx g + 10)))
set_option maxRecDepth 100000 in
set_option maxHeartbeats 4000000 in
theorem i_2 (l : Launch) (z : Zv) (d : Nat) {g : Gm} {f : Fm} {b : Nat} (hb : isK g b 2) : PM l z (d + 1) mX2_init [.ref b] g f 11 1378 (fun r g' f' => r = none ∧ gI2 g b = g' ∧ fI2 g f b = f') := by
  have h64 : 64 ≤ gnx g := Nat.le_of_lt (Nat.lt_of_le_of_lt hb.2.1 hb.2.2)
  refine PM.of (by decide +kernel) (Nat.le_of_ble_eq_true rfl) ?_
  refine r_aload_n (pc := 0) 0 dX2_init_0 rfl rfl ?_
  refine r_objInit (pc := 1) dX2_init_1 oi_X2_3 (Nat.le_of_ble_eq_true rfl) ?_
  refine r_aload_n (pc := 4) 0 dX2_init_4 rfl rfl ?_
  refine r_newv (pc := 5) (c := 0) (a := (gnx g)) dX2_init_5 rfl (by decide) cw_X2_9 (by decide) (by decide) ?_
  refine r_dup (pc := 8) dX2_init_8 rfl ?_
  refine r_callIN (pc := 9) (As := []) (S := [(.ref (gnx g)), (.ref b)]) dX2_init_9 cn_X2_11 rfl (Nat.le_of_ble_eq_true rfl) (i_0 l z _ (isK_new (a := (gnx g)) 0 0 rfl (by omega))) (by decide) (by decide) (fun r_9 g_9 f_9 q_9 => ?_)
  obtain ⟨rfl, rfl, rfl⟩ := q_9
  refine r_putRF (pc := 12) dX2_init_12 fl_X2_12 rfl rfl rfl rfl ((hb.nw 0 0).ext (eI0 _ (gnx g))) ?_
  refine r_aload_n (pc := 15) 0 dX2_init_15 rfl rfl ?_
  refine r_bipush (pc := 16) dX2_init_16 (by decide) ?_
  refine r_newav (pc := 18) (c := 11) (n := 8) (a := (gnx g + 3)) dX2_init_18 rfl (by decide) ak_int (by decide) (by decide) (by decide) ?_
  refine r_putRF (pc := 20) dX2_init_20 fl_X2_18 rfl rfl rfl rfl ((((hb.nw 0 0).ext (eI0 _ (gnx g))).st b 0 (some (gnx g))).nw 11 8) ?_
  refine r_aload_n (pc := 23) 0 dX2_init_23 rfl rfl ?_
  refine r_bipush (pc := 24) dX2_init_24 (by decide) ?_
  refine r_newav (pc := 26) (c := 11) (n := 8) (a := (gnx g + 4)) dX2_init_26 rfl (by decide) ak_int (by decide) (by decide) (by decide) ?_
  refine r_putRF (pc := 28) dX2_init_28 fl_X2_22 rfl rfl rfl rfl ((((((hb.nw 0 0).ext (eI0 _ (gnx g))).st b 0 (some (gnx g))).nw 11 8).st b 1 (some (gnx g + 3))).nw 11 8) ?_
  refine r_aload_n (pc := 31) 0 dX2_init_31 rfl rfl ?_
  refine r_bipush (pc := 32) dX2_init_32 (by decide) ?_
  refine r_newav (pc := 34) (c := 11) (n := 8) (a := (gnx g + 5)) dX2_init_34 rfl (by decide) ak_int (by decide) (by decide) (by decide) ?_
  refine r_putRF (pc := 36) dX2_init_36 fl_X2_25 rfl rfl rfl rfl ((((((((hb.nw 0 0).ext (eI0 _ (gnx g))).st b 0 (some (gnx g))).nw 11 8).st b 1 (some (gnx g + 3))).nw 11 8).st b 2 (some (gnx g + 4))).nw 11 8) ?_
  refine r_aload_n (pc := 39) 0 dX2_init_39 rfl rfl ?_
  refine r_sipush (pc := 40) dX2_init_40 (by decide) ?_
  refine r_newav (pc := 43) (c := 11) (n := 256) (a := (gnx g + 6)) dX2_init_43 rfl (by decide) ak_int (by decide) (by decide) (by decide) ?_
  refine r_putRF (pc := 45) dX2_init_45 fl_X2_28 rfl rfl rfl rfl ((((((((((hb.nw 0 0).ext (eI0 _ (gnx g))).st b 0 (some (gnx g))).nw 11 8).st b 1 (some (gnx g + 3))).nw 11 8).st b 2 (some (gnx g + 4))).nw 11 8).st b 3 (some (gnx g + 5))).nw 11 256) ?_
  refine r_aload_n (pc := 48) 0 dX2_init_48 rfl rfl ?_
  refine r_sipush (pc := 49) dX2_init_49 (by decide) ?_
  refine r_newav (pc := 52) (c := 11) (n := 256) (a := (gnx g + 7)) dX2_init_52 rfl (by decide) ak_int (by decide) (by decide) (by decide) ?_
  refine r_putRF (pc := 54) dX2_init_54 fl_X2_31 rfl rfl rfl rfl ((((((((((((hb.nw 0 0).ext (eI0 _ (gnx g))).st b 0 (some (gnx g))).nw 11 8).st b 1 (some (gnx g + 3))).nw 11 8).st b 2 (some (gnx g + 4))).nw 11 8).st b 3 (some (gnx g + 5))).nw 11 256).st b 4 (some (gnx g + 6))).nw 11 256) ?_
  refine r_aload_n (pc := 57) 0 dX2_init_57 rfl rfl ?_
  refine r_sipush (pc := 58) dX2_init_58 (by decide) ?_
  refine r_newav (pc := 61) (c := 11) (n := 256) (a := (gnx g + 8)) dX2_init_61 rfl (by decide) ak_int (by decide) (by decide) (by decide) ?_
  refine r_putRF (pc := 63) dX2_init_63 fl_X2_34 rfl rfl rfl rfl ((((((((((((((hb.nw 0 0).ext (eI0 _ (gnx g))).st b 0 (some (gnx g))).nw 11 8).st b 1 (some (gnx g + 3))).nw 11 8).st b 2 (some (gnx g + 4))).nw 11 8).st b 3 (some (gnx g + 5))).nw 11 256).st b 4 (some (gnx g + 6))).nw 11 256).st b 5 (some (gnx g + 7))).nw 11 256) ?_
  refine r_aload_n (pc := 66) 0 dX2_init_66 rfl rfl ?_
  refine r_sipush (pc := 67) dX2_init_67 (by decide) ?_
  refine r_newav (pc := 70) (c := 11) (n := 256) (a := (gnx g + 9)) dX2_init_70 rfl (by decide) ak_int (by decide) (by decide) (by decide) ?_
  refine r_putRF (pc := 72) dX2_init_72 fl_X2_37 rfl rfl rfl rfl ((((((((((((((((hb.nw 0 0).ext (eI0 _ (gnx g))).st b 0 (some (gnx g))).nw 11 8).st b 1 (some (gnx g + 3))).nw 11 8).st b 2 (some (gnx g + 4))).nw 11 8).st b 3 (some (gnx g + 5))).nw 11 256).st b 4 (some (gnx g + 6))).nw 11 256).st b 5 (some (gnx g + 7))).nw 11 256).st b 6 (some (gnx g + 8))).nw 11 256) ?_
  refine r_aload_n (pc := 75) 0 dX2_init_75 rfl rfl ?_
  refine r_sipush (pc := 76) dX2_init_76 (by decide) ?_
  refine r_newav (pc := 79) (c := 11) (n := 256) (a := (gnx g + 10)) dX2_init_79 rfl (by decide) ak_int (by decide) (by decide) (by decide) ?_
  refine r_putRF (pc := 81) dX2_init_81 fl_X2_40 rfl rfl rfl rfl ((((((((((((((((((hb.nw 0 0).ext (eI0 _ (gnx g))).st b 0 (some (gnx g))).nw 11 8).st b 1 (some (gnx g + 3))).nw 11 8).st b 2 (some (gnx g + 4))).nw 11 8).st b 3 (some (gnx g + 5))).nw 11 256).st b 4 (some (gnx g + 6))).nw 11 256).st b 5 (some (gnx g + 7))).nw 11 256).st b 6 (some (gnx g + 8))).nw 11 256).st b 7 (some (gnx g + 9))).nw 11 256) ?_
  exact r_vret (pc := 84) dX2_init_84 rfl ⟨rfl, rfl, rfl⟩
def gI1 (g : Gm) (b : Nat) : Gm := (stR (gI5 (nwG (stR (gI5 (nwG (stR (nwG (stR (nwG (stR (nwG g 11 40) b 0 (some (gnx g))) 11 5) b 1 (some (gnx g + 1))) 15 6) b 2 (some (gnx g + 2))) 5 0) (gnx g + 3)) b 3 (some (gnx g + 3))) 5 0) (gnx g + 6)) b 4 (some (gnx g + 6)))
def fI1 (g : Gm) (f : Fm) (b : Nat) : Fm := (stF (fI5 (nwG (stR (gI5 (nwG (stR (nwG (stR (nwG (stR (nwG g 11 40) b 0 (some (gnx g))) 11 5) b 1 (some (gnx g + 1))) 15 6) b 2 (some (gnx g + 2))) 5 0) (gnx g + 3)) b 3 (some (gnx g + 3))) 5 0) (nwF (fI5 (nwG (stR (nwG (stR (nwG (stR (nwG g 11 40) b 0 (some (gnx g))) 11 5) b 1 (some (gnx g + 1))) 15 6) b 2 (some (gnx g + 2))) 5 0) (nwF (nwF (stF (stF (stF (stF (stF (nwF (nwF f (gnx g)) (gnx g + 1)) (gnx g + 1) 0 (13)) (gnx g + 1) 1 (0)) (gnx g + 1) 2 (0)) (gnx g + 1) 3 (0)) (gnx g + 1) 4 (0)) (gnx g + 2)) (gnx g + 3)) (gnx g + 3)) (gnx g + 6)) (gnx g + 6)) b 7 (-1))
theorem eI1 (g : Gm) (b : Nat) : gext g (gI1 g b) := (((((((((((((gext.rf g).nw 11 40).st b 0 (some (gnx g))).nw 11 5).st b 1 (some (gnx g + 1))).nw 15 6).st b 2 (some (gnx g + 2))).nw 5 0).tr (eI5 _ (gnx g + 3))).st b 3 (some (gnx g + 3))).nw 5 0).tr (eI5 _ (gnx g + 6))).st b 4 (some (gnx g + 6)))
set_option maxRecDepth 100000 in
set_option maxHeartbeats 4000000 in
theorem i_1 (l : Launch) (z : Zv) (d : Nat) {g : Gm} {f : Fm} {b : Nat} (hb : isK g b 1) : PM l z (d + 1) mX1_init [.ref b] g f 9 89 (fun r g' f' => r = none ∧ gI1 g b = g' ∧ fI1 g f b = f') := by
  have h64 : 64 ≤ gnx g := Nat.le_of_lt (Nat.lt_of_le_of_lt hb.2.1 hb.2.2)
  refine PM.of (by decide +kernel) (Nat.le_of_ble_eq_true rfl) ?_
  refine r_aload_n (pc := 0) 0 dX1_init_0 rfl rfl ?_
  refine r_objInit (pc := 1) dX1_init_1 oi_X1_3 (Nat.le_of_ble_eq_true rfl) ?_
  refine r_aload_n (pc := 4) 0 dX1_init_4 rfl rfl ?_
  refine r_bipush (pc := 5) dX1_init_5 (by decide) ?_
  refine r_newav (pc := 7) (c := 11) (n := 40) (a := (gnx g)) dX1_init_7 rfl (by decide) ak_int (by decide) (by decide) (by decide) ?_
  refine r_putRF (pc := 9) dX1_init_9 fl_X1_9 rfl rfl rfl rfl (hb.nw 11 40) ?_
  refine r_aload_n (pc := 12) 0 dX1_init_12 rfl rfl ?_
  refine r_iconst (pc := 13) dX1_init_13 ?_
  refine r_newav (pc := 14) (c := 11) (n := 5) (a := (gnx g + 1)) dX1_init_14 rfl (by decide) ak_int (by decide) (by decide) (by decide) ?_
  refine r_dup (pc := 16) dX1_init_16 rfl ?_
  refine r_iconst (pc := 17) dX1_init_17 ?_
  refine r_bipush (pc := 18) dX1_init_18 (by decide) ?_
  refine r_iastv (pc := 20) (i := 0) (n := 5) dX1_init_20 (isA_new (a := (gnx g + 1)) 11 5 rfl (by omega)) (by decide) (by decide) rfl ?_
  refine r_dup (pc := 21) dX1_init_21 rfl ?_
  refine r_iconst (pc := 22) dX1_init_22 ?_
  refine r_iconst (pc := 23) dX1_init_23 ?_
  refine r_iastv (pc := 24) (i := 1) (n := 5) dX1_init_24 (isA_new (a := (gnx g + 1)) 11 5 rfl (by omega)) (by decide) (by decide) rfl ?_
  refine r_dup (pc := 25) dX1_init_25 rfl ?_
  refine r_iconst (pc := 26) dX1_init_26 ?_
  refine r_iconst (pc := 27) dX1_init_27 ?_
  refine r_iastv (pc := 28) (i := 2) (n := 5) dX1_init_28 (isA_new (a := (gnx g + 1)) 11 5 rfl (by omega)) (by decide) (by decide) rfl ?_
  refine r_dup (pc := 29) dX1_init_29 rfl ?_
  refine r_iconst (pc := 30) dX1_init_30 ?_
  refine r_iconst (pc := 31) dX1_init_31 ?_
  refine r_iastv (pc := 32) (i := 3) (n := 5) dX1_init_32 (isA_new (a := (gnx g + 1)) 11 5 rfl (by omega)) (by decide) (by decide) rfl ?_
  refine r_dup (pc := 33) dX1_init_33 rfl ?_
  refine r_iconst (pc := 34) dX1_init_34 ?_
  refine r_iconst (pc := 35) dX1_init_35 ?_
  refine r_iastv (pc := 36) (i := 4) (n := 5) dX1_init_36 (isA_new (a := (gnx g + 1)) 11 5 rfl (by omega)) (by decide) (by decide) rfl ?_
  refine r_putRF (pc := 37) dX1_init_37 fl_X1_15 rfl rfl rfl rfl (((hb.nw 11 40).st b 0 (some (gnx g))).nw 11 5) ?_
  refine r_aload_n (pc := 40) 0 dX1_init_40 rfl rfl ?_
  refine r_bipush (pc := 41) dX1_init_41 (by decide) ?_
  refine r_anewv (pc := 43) (c := 15) (n := 6) (a := (gnx g + 2)) dX1_init_43 rfl (Or.inl ⟨rfl, al_X1_18⟩) (by decide) (by decide) (by decide) ?_
  refine r_putRF (pc := 46) dX1_init_46 fl_X1_20 rfl rfl rfl rfl (((((hb.nw 11 40).st b 0 (some (gnx g))).nw 11 5).st b 1 (some (gnx g + 1))).nw 15 6) ?_
  refine r_aload_n (pc := 49) 0 dX1_init_49 rfl rfl ?_
  refine r_newv (pc := 50) (c := 5) (a := (gnx g + 3)) dX1_init_50 rfl (by decide) cw_X1_24 (by decide) (by decide) ?_
  refine r_dup (pc := 53) dX1_init_53 rfl ?_
  refine r_callIN (pc := 54) (As := []) (S := [(.ref (gnx g + 3)), (.ref b)]) dX1_init_54 cn_X1_26 rfl (Nat.le_of_ble_eq_true rfl) (i_5 l z _ (isK_new (a := (gnx g + 3)) 5 0 rfl (by omega))) (by decide) (by decide) (fun r_54 g_54 f_54 q_54 => ?_)
  obtain ⟨rfl, rfl, rfl⟩ := q_54
  refine r_putRF (pc := 57) dX1_init_57 fl_X1_27 rfl rfl rfl rfl ((((((((hb.nw 11 40).st b 0 (some (gnx g))).nw 11 5).st b 1 (some (gnx g + 1))).nw 15 6).st b 2 (some (gnx g + 2))).nw 5 0).ext (eI5 _ (gnx g + 3))) ?_
  refine r_aload_n (pc := 60) 0 dX1_init_60 rfl rfl ?_
  refine r_newv (pc := 61) (c := 5) (a := (gnx g + 6)) dX1_init_61 rfl (by decide) cw_X1_24 (by decide) (by decide) ?_
  refine r_dup (pc := 64) dX1_init_64 rfl ?_
  refine r_callIN (pc := 65) (As := []) (S := [(.ref (gnx g + 6)), (.ref b)]) dX1_init_65 cn_X1_26 rfl (Nat.le_of_ble_eq_true rfl) (i_5 l z _ (isK_new (a := (gnx g + 6)) 5 0 rfl (by omega))) (by decide) (by decide) (fun r_65 g_65 f_65 q_65 => ?_)
  obtain ⟨rfl, rfl, rfl⟩ := q_65
  refine r_putRF (pc := 68) dX1_init_68 fl_X1_31 rfl rfl rfl rfl (((((((((((hb.nw 11 40).st b 0 (some (gnx g))).nw 11 5).st b 1 (some (gnx g + 1))).nw 15 6).st b 2 (some (gnx g + 2))).nw 5 0).ext (eI5 _ (gnx g + 3))).st b 3 (some (gnx g + 3))).nw 5 0).ext (eI5 _ (gnx g + 6))) ?_
  refine r_aload_n (pc := 71) 0 dX1_init_71 rfl rfl ?_
  refine r_iconst (pc := 72) dX1_init_72 ?_
  refine r_putI (pc := 73) dX1_init_73 fl_X1_34 rfl rfl ((((((((((((hb.nw 11 40).st b 0 (some (gnx g))).nw 11 5).st b 1 (some (gnx g + 1))).nw 15 6).st b 2 (some (gnx g + 2))).nw 5 0).ext (eI5 _ (gnx g + 3))).st b 3 (some (gnx g + 3))).nw 5 0).ext (eI5 _ (gnx g + 6))).st b 4 (some (gnx g + 6))) ?_
  exact r_vret (pc := 76) dX1_init_76 rfl ⟨rfl, rfl, rfl⟩

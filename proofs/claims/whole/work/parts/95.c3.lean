theorem DYK.bld {f f' : Fm} {K : Nat → Int} {y n : Nat} (h : DYK f y K n) (hA : DA f' y K n) (hf : ∀ q, y + 6 ≤ q → q ≤ y + 10 → f' q = f q) : DYK f' y K n := by
  obtain ⟨⟨d1, d2, d3, d4⟩, d5, d6, d7, d8⟩ := h
  refine ⟨⟨d1, hA.1, fun c hc => ⟨(hA.2.2 c hc).1, (d3 c hc).2⟩, fun c hc => by rw [hf (y + 6) (by omega) (by omega)]; exact d4 c hc⟩, hA.2.1, d6, fun t ht => by rw [hf (y + 7) (by omega) (by omega), hf (y + 8) (by omega) (by omega)]; exact d7 t ht, fun t ht => by rw [hf (y + 9) (by omega) (by omega), hf (y + 10) (by omega) (by omega)]; exact d8 t ht⟩
theorem LwI.da {f f' : Fm} {K : Nat → Int} {y n : Nat} (h : LwI f f' K y n n) : DA f' y K n := ⟨h.2.2.1, h.2.2.2.1, h.2.2.2.2⟩
theorem TdK.lw {f f' : Fm} {K : Nat → Int} {n : Nat} (h : TdK f K n) (hl : LwI f f' K 111 n n) (h9 : f' 111 9 = 1) : TdK f' K n := by
  refine ⟨Or.inr ⟨h9, hl.da⟩, ?_⟩
  have e10 : f' 111 10 = f 111 10 := hl.2.1 10 (by decide) (by decide) (by decide)
  rcases h.2 with h10 | h10
  · exact Or.inl (e10.trans h10)
  · exact Or.inr ⟨e10.trans h10.1, h9, hl.da, h10.2.2.2.bld hl.da (fun q q1 q2 => hl.1 q (by omega) (by omega) (by omega) (by omega) (by omega))⟩
theorem TdK.mv2 {f f1 : Fm} {n : Nat} {K : Nat → Int} (h : TdK f K n) (hf : ∀ q, 111 ≤ q → q ≤ 121 → q ≠ 113 → q ≠ 114 → f1 q = f q) : TdK f1 K n := by
  have hda : DA f 111 K n → DA f1 111 K n := fun q => by
    unfold DA at q ⊢
    rw [hf 111 (by omega) (by omega) (by omega) (by omega), hf (111 + 4) (by omega) (by omega) (by omega) (by omega), hf (111 + 5) (by omega) (by omega) (by omega) (by omega)]
    exact q
  unfold TdK at h ⊢
  rw [hf 111 (by omega) (by omega) (by omega) (by omega)]
  obtain ⟨h1, h2⟩ := h
  refine ⟨?_, ?_⟩
  · rcases h1 with h1 | h1
    · exact Or.inl h1
    · exact Or.inr ⟨h1.1, hda h1.2⟩
  · rcases h2 with h2 | h2
    · exact Or.inl h2
    · exact Or.inr ⟨h2.1, h2.2.1, hda h2.2.2.1, h2.2.2.2.bld (hda h2.2.2.1) (fun q q1 q2 => hf q (by omega) (by omega) (by omega) (by omega))⟩

set_option maxRecDepth 100000 in
set_option maxHeartbeats 4000000 in
theorem x_orders (l : Launch) (z : Zv) (d : Nat) {g : Gm} {f : Fm} {n : Nat} {K : Nat → Int} {D0 M0 : Int} (hX : XL g) (hB : BK g f 65 K) (hO : KO K D0 M0) (hD0 : D0 ≤ 1000000) (hM0 : M0 ≤ 1100000) (hn : K 77 = ((n : Nat) : Int)) (hT : TdK f K n) : PM l z (d + 7) mX10_orders [.ref 64] g f 0 0 (fun r g' f' => r = some (.int (iI (((orK K n (-1) 0 : Nat) : Int)))) ∧ g = g' ∧ (∀ q, q < 111 ∨ 122 < q → f' q = f q) ∧ TdK f' K n) := by
  have hn8 : n ≤ 8 := by have := hO.n; omega
  have hp8 := pow8 hn8
  refine PM.of (by decide +kernel) (Nat.le_of_ble_eq_true rfl) ?_
  refine r_aload_n (pc := 0) 0 dX10_orders_0 rfl rfl ?_
  refine r_getR (pc := 1) (b := 111) dX10_orders_1 fl_X10_37 rfl hX.k hX.r5 ?_
  refine r_aload_n (pc := 4) 0 dX10_orders_4 rfl rfl ?_
  refine r_getR (pc := 5) (b := 65) dX10_orders_5 fl_X10_10 rfl hX.k hX.r0 ?_
  refine r_callV (pc := 8) (As := [(.ref 65)]) (S := []) dX10_orders_8 cv_X10_185 hX.o5.k rfl (Nat.le_of_ble_eq_true rfl) (x_layOutK (y := 111) (b := 65) (K := K) (n := n) l z (d + 1) hX.o5 hX.o0 hB hO hD0 hn (by omega) (by omega) hM0 hT.1 hT.2) (Nat.zero_le _) (Nat.zero_le _) (fun r_8 g_8 f_8 q_8 => ?_)
  obtain ⟨rfl, rfl, hl1, hl2, hl3, hl4, hl5⟩ := q_8
  have hbb : bkK K 0 ≤ 1100000 ∧ bkK K 1 ≤ 1100000 := ⟨(bkK_r hO hM0 (by decide)).2, (bkK_r hO hM0 (by decide)).2⟩
  refine r_aload_n (pc := 11) 0 dX10_orders_11 rfl rfl ?_
  refine r_getR (pc := 12) (b := 111) dX10_orders_12 fl_X10_37 rfl hX.k hX.r5 ?_
  refine r_iconst (pc := 15) dX10_orders_15 ?_
  refine r_iconst (pc := 16) dX10_orders_16 ?_
  refine r_callV (pc := 17) (As := [(.int (iI (-1))), (.int (iI (0)))]) (S := []) dX10_orders_17 cv_X10_188 hX.o5.k rfl (Nat.le_of_ble_eq_true rfl) (x_ordersWith (y := 111) (cu := -1) (many := 0) l z _ hX.o5 hl2 hO.dz hO.lp hbb (by omega) (by omega)) (Nat.zero_le _) (Nat.zero_le _) (fun r_17 g_17 f_17 q_17 => ?_)
  obtain ⟨rfl, ho1, rfl⟩ := q_17
  exact r_iret (pc := 20) dX10_orders_20 rfl rfl ⟨rfl, rfl, ⟨fun q hq => by rw [ho1 q (by omega), hl1 q (by omega) (by omega) (by omega) (by omega) (by omega) (by omega) (by omega) (by omega) (by omega) (by omega)], ⟨Or.inr ⟨(congrFun (ho1 111 (by decide)) 9).trans hl4, hl3.mv (fun q q1 q2 => ho1 q (by omega))⟩, Or.inr ⟨(congrFun (ho1 111 (by decide)) 10).trans hl5, (congrFun (ho1 111 (by decide)) 9).trans hl4, hl3.mv (fun q q1 q2 => ho1 q (by omega)), DYo.mv hl2 (fun q q1 q2 => ho1 q (by omega))⟩⟩⟩⟩

set_option maxRecDepth 100000 in
set_option maxHeartbeats 4000000 in
theorem x_chances (l : Launch) (z : Zv) (d : Nat) {g : Gm} {f : Fm} {n : Nat} {K : Nat → Int} {D0 M0 : Int} (hX : XL g) (hB : BK g f 65 K) (hO : KO K D0 M0) (hD0 : D0 ≤ 1000000) (hM0 : M0 ≤ 1100000) (hn : K 77 = ((n : Nat) : Int)) (hT : TdK f K n) {c m : Int} (h_c : -2147483648 ≤ c ∧ c ≤ 2147483647) (h_m : -2147483648 ≤ m ∧ m ≤ 2147483647) : PM l z (d + 7) mX10_chances [.ref 64, .int (iI c), .int (iI m)] g f 0 0 (fun r g' f' => r = some (.int (iI (chA K n c m))) ∧ g = g' ∧ (∀ q, q < 111 ∨ 122 < q → f' q = f q) ∧ TdK f' K n) := by
  have hn8 : n ≤ 8 := by have := hO.n; omega
  have hp8 := pow8 hn8
  refine PM.of (by decide +kernel) (Nat.le_of_ble_eq_true rfl) ?_
  refine r_aload_n (pc := 0) 0 dX10_chances_0 rfl rfl ?_
  refine r_getR (pc := 1) (b := 65) dX10_chances_1 fl_X10_10 rfl hX.k hX.r0 ?_
  refine r_iload_n (pc := 4) 1 dX10_chances_4 rfl rfl ?_
  refine r_callV (pc := 5) (As := [(.int (iI (c)))]) (S := []) dX10_chances_5 cv_X10_103 hX.o0.k rfl (Nat.le_of_ble_eq_true rfl) (c_knows l z _ hX.o0 (by rw [hB.n, hn]; omega) (by omega)) (Nat.zero_le _) (Nat.zero_le _) (fun r_5 g_5 f_5 q_5 => ?_)
  obtain ⟨rfl, rfl, rfl⟩ := q_5
  refine r_eqI (y := b01 (0 ≤ c ∧ c < (n : Int))) (b01_iff (by rw [hB.n, hn])) ?_
  refine r_if_eq (pc := 8) (tgt := 21) dX10_chances_8 (by decide) (b01_r) (fun c_8 => ?_) (fun c_8 => ?_)
  · replace c_8 := b01_z c_8
    refine r_iconst (pc := 21) dX10_chances_21 ?_
    exact r_iret (pc := 22) dX10_chances_22 rfl rfl ⟨by unfold chA; rw [if_neg (fun q => by omega)], rfl, ⟨fun _ _ => rfl, hT⟩⟩
  · replace c_8 := b01_nz c_8
    refine r_iload_n (pc := 11) 2 dX10_chances_11 rfl rfl ?_
    refine r_if_lt (pc := 12) (tgt := 21) dX10_chances_12 (by decide) (by omega) (fun c_12 => ?_) (fun c_12 => ?_)
    · refine r_iconst (pc := 21) dX10_chances_21 ?_
      exact r_iret (pc := 22) dX10_chances_22 rfl rfl ⟨by unfold chA; rw [if_neg (fun q => by omega)], rfl, ⟨fun _ _ => rfl, hT⟩⟩
    · refine r_iload_n (pc := 15) 2 dX10_chances_15 rfl rfl ?_
      refine r_bipush (pc := 16) dX10_chances_16 (by decide) ?_
      refine r_icmp_le (pc := 18) (tgt := 23) dX10_chances_18 (by decide) (by omega) (by omega) (fun c_18 => ?_) (fun c_18 => ?_)
      · refine r_aload_n (pc := 23) 0 dX10_chances_23 rfl rfl ?_
        refine r_getR (pc := 24) (b := 111) dX10_chances_24 fl_X10_37 rfl hX.k hX.r5 ?_
        refine r_aload_n (pc := 27) 0 dX10_chances_27 rfl rfl ?_
        refine r_getR (pc := 28) (b := 65) dX10_chances_28 fl_X10_10 rfl hX.k hX.r0 ?_
        refine r_callV (pc := 31) (As := [(.ref 65)]) (S := []) dX10_chances_31 cv_X10_185 hX.o5.k rfl (Nat.le_of_ble_eq_true rfl) (x_layOutK (y := 111) (b := 65) (K := K) (n := n) l z (d + 1) hX.o5 hX.o0 hB hO hD0 hn (by omega) (by omega) hM0 hT.1 hT.2) (Nat.zero_le _) (Nat.zero_le _) (fun r_31 g_31 f_31 q_31 => ?_)
        obtain ⟨rfl, rfl, hl1, hl2, hl3, hl4, hl5⟩ := q_31
        have hbb : bkK K 0 ≤ 1100000 ∧ bkK K 1 ≤ 1100000 := ⟨(bkK_r hO hM0 (by decide)).2, (bkK_r hO hM0 (by decide)).2⟩
        refine r_aload_n (pc := 34) 0 dX10_chances_34 rfl rfl ?_
        refine r_getR (pc := 35) (b := 111) dX10_chances_35 fl_X10_37 rfl hX.k hX.r5 ?_
        refine r_iload_n (pc := 38) 1 dX10_chances_38 rfl rfl ?_
        refine r_iload_n (pc := 39) 2 dX10_chances_39 rfl rfl ?_
        refine r_callV (pc := 40) (As := [(.int (iI (c))), (.int (iI (m)))]) (S := []) dX10_chances_40 cv_X10_188 hX.o5.k rfl (Nat.le_of_ble_eq_true rfl) (x_ordersWith (y := 111) (cu := c) (many := m) l z _ hX.o5 hl2 hO.dz hO.lp hbb (by omega) (by omega)) (Nat.zero_le _) (Nat.zero_le _) (fun r_40 g_40 f_40 q_40 => ?_)
        obtain ⟨rfl, ho1, rfl⟩ := q_40
        exact r_iret (pc := 43) dX10_chances_43 rfl rfl ⟨by unfold chA; rw [if_pos (show (0 ≤ c ∧ c < (n : Int)) ∧ (0 ≤ m ∧ m ≤ 20) from ⟨by omega, by omega⟩)]; rfl, rfl, ⟨fun q hq => by rw [ho1 q (by omega), hl1 q (by omega) (by omega) (by omega) (by omega) (by omega) (by omega) (by omega) (by omega) (by omega) (by omega)], ⟨Or.inr ⟨(congrFun (ho1 111 (by decide)) 9).trans hl4, hl3.mv (fun q q1 q2 => ho1 q (by omega))⟩, Or.inr ⟨(congrFun (ho1 111 (by decide)) 10).trans hl5, (congrFun (ho1 111 (by decide)) 9).trans hl4, hl3.mv (fun q q1 q2 => ho1 q (by omega)), DYo.mv hl2 (fun q q1 q2 => ho1 q (by omega))⟩⟩⟩⟩
      · refine r_iconst (pc := 21) dX10_chances_21 ?_
        exact r_iret (pc := 22) dX10_chances_22 rfl rfl ⟨by unfold chA; rw [if_neg (fun q => by omega)], rfl, ⟨fun _ _ => rfl, hT⟩⟩

set_option maxRecDepth 100000 in
set_option maxHeartbeats 4000000 in
theorem x_of (l : Launch) (z : Zv) (d : Nat) {g : Gm} {f : Fm} {n : Nat} {K : Nat → Int} {D0 M0 : Int} (hX : XL g) (hB : BK g f 65 K) (hO : KO K D0 M0) (hD0 : D0 ≤ 1000000) (hM0 : M0 ≤ 1100000) (hn : K 77 = ((n : Nat) : Int)) (hT : TdK f K n) {c w : Int} (h_c : -2147483648 ≤ c ∧ c ≤ 2147483647) (h_w : -2147483648 ≤ w ∧ w ≤ 2147483647) : PM l z (d + 6) mX10_of [.ref 64, .int (iI c), .int (iI w)] g f 0 0 (fun r g' f' => r = some (.int (iI (ofA K n c w))) ∧ g = g' ∧ (∀ q, q < 111 ∨ 122 < q → f' q = f q) ∧ TdK f' K n) := by
  have hn8 : n ≤ 8 := by have := hO.n; omega
  have hp8 := pow8 hn8
  refine PM.of (by decide +kernel) (Nat.le_of_ble_eq_true rfl) ?_
  refine r_aload_n (pc := 0) 0 dX10_of_0 rfl rfl ?_
  refine r_getR (pc := 1) (b := 65) dX10_of_1 fl_X10_10 rfl hX.k hX.r0 ?_
  refine r_iload_n (pc := 4) 1 dX10_of_4 rfl rfl ?_
  refine r_callV (pc := 5) (As := [(.int (iI (c)))]) (S := []) dX10_of_5 cv_X10_103 hX.o0.k rfl (Nat.le_of_ble_eq_true rfl) (c_knows l z _ hX.o0 (by rw [hB.n, hn]; omega) (by omega)) (Nat.zero_le _) (Nat.zero_le _) (fun r_5 g_5 f_5 q_5 => ?_)
  obtain ⟨rfl, rfl, rfl⟩ := q_5
  refine r_eqI (y := b01 (0 ≤ c ∧ c < (n : Int))) (b01_iff (by rw [hB.n, hn])) ?_
  refine r_if_eq (pc := 8) (tgt := 20) dX10_of_8 (by decide) (b01_r) (fun c_8 => ?_) (fun c_8 => ?_)
  · replace c_8 := b01_z c_8
    refine r_iconst (pc := 20) dX10_of_20 ?_
    exact r_iret (pc := 21) dX10_of_21 rfl rfl ⟨by unfold ofA; rw [if_neg (fun q => by omega)], rfl, ⟨fun _ _ => rfl, hT⟩⟩
  · replace c_8 := b01_nz c_8
    refine r_iload_n (pc := 11) 2 dX10_of_11 rfl rfl ?_
    refine r_if_lt (pc := 12) (tgt := 20) dX10_of_12 (by decide) (by omega) (fun c_12 => ?_) (fun c_12 => ?_)
    · refine r_iconst (pc := 20) dX10_of_20 ?_
      exact r_iret (pc := 21) dX10_of_21 rfl rfl ⟨by unfold ofA; rw [if_neg (fun q => by omega)], rfl, ⟨fun _ _ => rfl, hT⟩⟩
    · refine r_iload_n (pc := 15) 2 dX10_of_15 rfl rfl ?_
      refine r_iconst (pc := 16) dX10_of_16 ?_
      refine r_icmp_le (pc := 17) (tgt := 22) dX10_of_17 (by decide) (by omega) (by omega) (fun c_17 => ?_) (fun c_17 => ?_)
      · refine r_iload_n (pc := 22) 2 dX10_of_22 rfl rfl ?_
        refine r_iconst (pc := 23) dX10_of_23 ?_
        refine r_icmp_ge (pc := 24) (tgt := 37) dX10_of_24 (by decide) (by omega) (by omega) (fun c_24 => ?_) (fun c_24 => ?_)
        · refine r_aload_n (pc := 37) 0 dX10_of_37 rfl rfl ?_
          refine r_getR (pc := 38) (b := 111) dX10_of_38 fl_X10_37 rfl hX.k hX.r5 ?_
          refine r_aload_n (pc := 41) 0 dX10_of_41 rfl rfl ?_
          refine r_getR (pc := 42) (b := 65) dX10_of_42 fl_X10_10 rfl hX.k hX.r0 ?_
          refine r_callV (pc := 45) (As := [(.ref 65)]) (S := []) dX10_of_45 cv_X10_115 hX.o5.k rfl (Nat.le_of_ble_eq_true rfl) (x_learnWantsK (y := 111) (b := 65) (K := K) (n := n) l z (d + 1) hX.o5 hX.o0 hB hO hD0 hn (by omega) (by omega) hT.1) (Nat.zero_le _) (Nat.zero_le _) (fun r_45 g_45 f_45 q_45 => ?_)
          obtain ⟨rfl, rfl, hl1, hl9⟩ := q_45
          have hT1 := hT.lw hl1 hl9
          have hB1 : BK g f_45 65 K := hB.mem (fun q hq => hl1.1 q (by omega) (by omega) (by omega) (by omega) (by omega))
          refine r_aload_n (pc := 48) 0 dX10_of_48 rfl rfl ?_
          refine r_getR (pc := 49) (b := 111) dX10_of_49 fl_X10_37 rfl hX.k hX.r5 ?_
          refine r_getR (pc := 52) (b := 115) dX10_of_52 fl_X10_119 rfl hX.o5.k hX.o5.r1 ?_
          refine r_iload_n (pc := 55) 1 dX10_of_55 rfl rfl ?_
          refine r_ialdv (pc := 56) (w := ((waK K (K 42) (hdK K) c.toNat : Nat) : Int)) dX10_of_56 hX.o5.a1 (by omega) (by decide) ((hl1.2.2.2.2 c.toNat (by omega)).1) ?_
          exact r_iret (pc := 57) dX10_of_57 rfl rfl ⟨by unfold ofA; rw [if_pos (show (0 ≤ c ∧ c < (n : Int)) ∧ (0 ≤ w ∧ w ≤ 5) from ⟨by omega, by omega⟩), if_neg (show ¬ w < 5 by omega)], rfl, ⟨fun q hq => hl1.1 q (by omega) (by omega) (by omega) (by omega) (by omega), hT1⟩⟩
        · refine r_aload_n (pc := 27) 0 dX10_of_27 rfl rfl ?_
          refine r_getR (pc := 28) (b := 65) dX10_of_28 fl_X10_10 rfl hX.k hX.r0 ?_
          refine r_iload_n (pc := 31) 2 dX10_of_31 rfl rfl ?_
          refine r_iload_n (pc := 32) 1 dX10_of_32 rfl rfl ?_
          refine r_callV (pc := 33) (As := [(.int (iI (w))), (.int (iI (c)))]) (S := []) dX10_of_33 cv_X10_107 hX.o0.k rfl (Nat.le_of_ble_eq_true rfl) (c_trait (w := w) (c := c) l z _ _ hX.o0 (by omega) (by omega)) (Nat.zero_le _) (Nat.zero_le _) (fun r_33 g_33 f_33 q_33 => ?_)
          obtain ⟨rfl, rfl, rfl⟩ := q_33
          refine r_eqI (y := K (5 * c.toNat + w.toNat)) (by rw [show (w * 8 + c).toNat = 8 * w.toNat + c.toNat by omega]; exact hB.tr (by omega) (by omega)) ?_
          exact r_iret (pc := 36) dX10_of_36 rfl rfl ⟨by unfold ofA; rw [if_pos (show (0 ≤ c ∧ c < (n : Int)) ∧ (0 ≤ w ∧ w ≤ 5) from ⟨by omega, by omega⟩), if_pos (show w < 5 by omega)], rfl, ⟨fun _ _ => rfl, hT⟩⟩
      · refine r_iconst (pc := 20) dX10_of_20 ?_
        exact r_iret (pc := 21) dX10_of_21 rfl rfl ⟨by unfold ofA; rw [if_neg (fun q => by omega)], rfl, ⟨fun _ _ => rfl, hT⟩⟩

set_option maxRecDepth 100000 in
set_option maxHeartbeats 4000000 in
theorem x_waits (l : Launch) (z : Zv) (d : Nat) {g : Gm} {f : Fm} {n : Nat} {K : Nat → Int} {D0 M0 : Int} (hX : XL g) (hB : BK g f 65 K) (hO : KO K D0 M0) (hD0 : D0 ≤ 1000000) (hM0 : M0 ≤ 1100000) (hn : K 77 = ((n : Nat) : Int)) (hT : TdK f K n) {c o : Int} (h_c : -2147483648 ≤ c ∧ c ≤ 2147483647) (h_o : -2147483648 ≤ o ∧ o ≤ 2147483647) : PM l z (d + 6) mX10_waits [.ref 64, .int (iI c), .int (iI o)] g f 0 0 (fun r g' f' => r = some (.int (iI (waA K n c o))) ∧ g = g' ∧ (∀ q, q < 111 ∨ 122 < q → f' q = f q) ∧ TdK f' K n) := by
  have hn8 : n ≤ 8 := by have := hO.n; omega
  have hp8 := pow8 hn8
  refine PM.of (by decide +kernel) (Nat.le_of_ble_eq_true rfl) ?_
  refine r_aload_n (pc := 0) 0 dX10_waits_0 rfl rfl ?_
  refine r_getR (pc := 1) (b := 65) dX10_waits_1 fl_X10_10 rfl hX.k hX.r0 ?_
  refine r_iload_n (pc := 4) 1 dX10_waits_4 rfl rfl ?_
  refine r_callV (pc := 5) (As := [(.int (iI (c)))]) (S := []) dX10_waits_5 cv_X10_103 hX.o0.k rfl (Nat.le_of_ble_eq_true rfl) (c_knows l z _ hX.o0 (by rw [hB.n, hn]; omega) (by omega)) (Nat.zero_le _) (Nat.zero_le _) (fun r_5 g_5 f_5 q_5 => ?_)
  obtain ⟨rfl, rfl, rfl⟩ := q_5
  refine r_eqI (y := b01 (0 ≤ c ∧ c < (n : Int))) (b01_iff (by rw [hB.n, hn])) ?_
  refine r_if_eq (pc := 8) (tgt := 27) dX10_waits_8 (by decide) (b01_r) (fun c_8 => ?_) (fun c_8 => ?_)
  · replace c_8 := b01_z c_8
    refine r_iconst (pc := 27) dX10_waits_27 ?_
    exact r_iret (pc := 28) dX10_waits_28 rfl rfl ⟨by unfold waA; rw [if_neg (fun q => by omega)], rfl, ⟨fun _ _ => rfl, hT⟩⟩
  · replace c_8 := b01_nz c_8
    refine r_aload_n (pc := 11) 0 dX10_waits_11 rfl rfl ?_
    refine r_getR (pc := 12) (b := 65) dX10_waits_12 fl_X10_10 rfl hX.k hX.r0 ?_
    refine r_iload_n (pc := 15) 2 dX10_waits_15 rfl rfl ?_
    refine r_callV (pc := 16) (As := [(.int (iI (o)))]) (S := []) dX10_waits_16 cv_X10_103 hX.o0.k rfl (Nat.le_of_ble_eq_true rfl) (c_knows l z _ hX.o0 (by rw [hB.n, hn]; omega) (by omega)) (Nat.zero_le _) (Nat.zero_le _) (fun r_16 g_16 f_16 q_16 => ?_)
    obtain ⟨rfl, rfl, rfl⟩ := q_16
    refine r_eqI (y := b01 (0 ≤ o ∧ o < (n : Int))) (b01_iff (by rw [hB.n, hn])) ?_
    refine r_if_eq (pc := 19) (tgt := 27) dX10_waits_19 (by decide) (b01_r) (fun c_19 => ?_) (fun c_19 => ?_)
    · replace c_19 := b01_z c_19
      refine r_iconst (pc := 27) dX10_waits_27 ?_
      exact r_iret (pc := 28) dX10_waits_28 rfl rfl ⟨by unfold waA; rw [if_neg (fun q => by omega)], rfl, ⟨fun _ _ => rfl, hT⟩⟩
    · replace c_19 := b01_nz c_19
      refine r_iload_n (pc := 22) 1 dX10_waits_22 rfl rfl ?_
      refine r_iload_n (pc := 23) 2 dX10_waits_23 rfl rfl ?_
      refine r_icmp_ne (pc := 24) (tgt := 29) dX10_waits_24 (by decide) (by omega) (by omega) (fun c_24 => ?_) (fun c_24 => ?_)
      · refine r_aload_n (pc := 29) 0 dX10_waits_29 rfl rfl ?_
        refine r_getR (pc := 30) (b := 111) dX10_waits_30 fl_X10_37 rfl hX.k hX.r5 ?_
        refine r_getR (pc := 33) (b := 112) dX10_waits_33 fl_X10_162 rfl hX.o5.k hX.o5.r0 ?_
        refine r_aload_n (pc := 36) 0 dX10_waits_36 rfl rfl ?_
        refine r_getR (pc := 37) (b := 65) dX10_waits_37 fl_X10_10 rfl hX.k hX.r0 ?_
        refine r_iload_n (pc := 40) 1 dX10_waits_40 rfl rfl ?_
        refine r_eqI (y := ((c.toNat : Nat) : Int)) (by omega) ?_
        refine r_iload_n (pc := 41) 2 dX10_waits_41 rfl rfl ?_
        refine r_eqI (y := ((o.toNat : Nat) : Int)) (by omega) ?_
        refine r_callV (pc := 42) (As := [(.ref 65), (.int (iI (((c.toNat : Nat) : Int)))), (.int (iI (((o.toNat : Nat) : Int))))]) (S := []) dX10_waits_42 cv_X10_166 hX.o5.o0.k rfl (Nat.le_of_ble_eq_true rfl) (x_askWaits (a := 112) (b := 65) (c := c.toNat) (o := o.toNat) l z (d + 2) hX.o5.o0 hX.o0 hB hO hD0 (by omega) (by omega) (by omega) (by omega)) (Nat.zero_le _) (Nat.zero_le _) (fun r_42 g_42 f_42 q_42 => ?_)
        obtain ⟨rfl, hw1, rfl⟩ := q_42
        refine r_if_eq (pc := 45) (tgt := 52) dX10_waits_45 (by decide) (b01_r) (fun c_45 => ?_) (fun c_45 => ?_)
        · replace c_45 := b01_z c_45
          refine r_iconst (pc := 52) dX10_waits_52 ?_
          exact r_iret (pc := 53) dX10_waits_53 rfl rfl ⟨by unfold waA; rw [if_pos (show (0 ≤ c ∧ c < (n : Int)) ∧ (0 ≤ o ∧ o < (n : Int)) ∧ c ≠ o from ⟨by omega, by omega, by omega⟩), b01_f c_45], rfl, ⟨fun q hq => hw1 q (by omega) (by omega), hT.mv2 (fun q q1 q2 q3 q4 => hw1 q (by omega) (by omega))⟩⟩
        · replace c_45 := b01_nz c_45
          refine r_iconst (pc := 48) dX10_waits_48 ?_
          refine r_goto (pc := 49) (tgt := 53) dX10_waits_49 (by decide) ?_
          exact r_iret (pc := 53) dX10_waits_53 rfl rfl ⟨by unfold waA; rw [if_pos (show (0 ≤ c ∧ c < (n : Int)) ∧ (0 ≤ o ∧ o < (n : Int)) ∧ c ≠ o from ⟨by omega, by omega, by omega⟩), b01_t c_45], rfl, ⟨fun q hq => hw1 q (by omega) (by omega), hT.mv2 (fun q q1 q2 q3 q4 => hw1 q (by omega) (by omega))⟩⟩
      · refine r_iconst (pc := 27) dX10_waits_27 ?_
        exact r_iret (pc := 28) dX10_waits_28 rfl rfl ⟨by unfold waA; rw [if_neg (fun q => by omega)], rfl, ⟨fun _ _ => rfl, hT⟩⟩

set_option maxRecDepth 100000 in
set_option maxHeartbeats 4000000 in
theorem x_served (l : Launch) (z : Zv) (d : Nat) {g : Gm} {f : Fm} {n : Nat} {K : Nat → Int} {D0 M0 : Int} (hX : XL g) (hB : BK g f 65 K) (hO : KO K D0 M0) (hD0 : D0 ≤ 1000000) (hM0 : M0 ≤ 1100000) (hn : K 77 = ((n : Nat) : Int)) (hT : TdK f K n) {c w : Int} (h_c : -2147483648 ≤ c ∧ c ≤ 2147483647) (h_w : -2147483648 ≤ w ∧ w ≤ 2147483647) : PM l z (d + 6) mX10_served [.ref 64, .int (iI c), .int (iI w)] g f 0 0 (fun r g' f' => r = some (.int (iI (sdA K n c w))) ∧ g = g' ∧ (∀ q, q < 111 ∨ 122 < q → f' q = f q) ∧ TdK f' K n) := by
  have hn8 : n ≤ 8 := by have := hO.n; omega
  have hp8 := pow8 hn8
  refine PM.of (by decide +kernel) (Nat.le_of_ble_eq_true rfl) ?_
  refine r_aload_n (pc := 0) 0 dX10_served_0 rfl rfl ?_
  refine r_getR (pc := 1) (b := 65) dX10_served_1 fl_X10_10 rfl hX.k hX.r0 ?_
  refine r_iload_n (pc := 4) 1 dX10_served_4 rfl rfl ?_
  refine r_callV (pc := 5) (As := [(.int (iI (c)))]) (S := []) dX10_served_5 cv_X10_103 hX.o0.k rfl (Nat.le_of_ble_eq_true rfl) (c_knows l z _ hX.o0 (by rw [hB.n, hn]; omega) (by omega)) (Nat.zero_le _) (Nat.zero_le _) (fun r_5 g_5 f_5 q_5 => ?_)
  obtain ⟨rfl, rfl, rfl⟩ := q_5
  refine r_eqI (y := b01 (0 ≤ c ∧ c < (n : Int))) (b01_iff (by rw [hB.n, hn])) ?_
  refine r_if_eq (pc := 8) (tgt := 20) dX10_served_8 (by decide) (b01_r) (fun c_8 => ?_) (fun c_8 => ?_)
  · replace c_8 := b01_z c_8
    refine r_iconst (pc := 20) dX10_served_20 ?_
    exact r_iret (pc := 21) dX10_served_21 rfl rfl ⟨by unfold sdA; rw [if_neg (fun q => by omega)], rfl, ⟨fun _ _ => rfl, hT⟩⟩
  · replace c_8 := b01_nz c_8
    refine r_iload_n (pc := 11) 2 dX10_served_11 rfl rfl ?_
    refine r_if_lt (pc := 12) (tgt := 20) dX10_served_12 (by decide) (by omega) (fun c_12 => ?_) (fun c_12 => ?_)
    · refine r_iconst (pc := 20) dX10_served_20 ?_
      exact r_iret (pc := 21) dX10_served_21 rfl rfl ⟨by unfold sdA; rw [if_neg (fun q => by omega)], rfl, ⟨fun _ _ => rfl, hT⟩⟩
    · refine r_iload_n (pc := 15) 2 dX10_served_15 rfl rfl ?_
      refine r_iconst (pc := 16) dX10_served_16 ?_
      refine r_icmp_le (pc := 17) (tgt := 22) dX10_served_17 (by decide) (by omega) (by omega) (fun c_17 => ?_) (fun c_17 => ?_)
      · refine r_aload_n (pc := 22) 0 dX10_served_22 rfl rfl ?_
        refine r_getR (pc := 23) (b := 111) dX10_served_23 fl_X10_37 rfl hX.k hX.r5 ?_
        refine r_aload_n (pc := 26) 0 dX10_served_26 rfl rfl ?_
        refine r_getR (pc := 27) (b := 65) dX10_served_27 fl_X10_10 rfl hX.k hX.r0 ?_
        refine r_callV (pc := 30) (As := [(.ref 65)]) (S := []) dX10_served_30 cv_X10_115 hX.o5.k rfl (Nat.le_of_ble_eq_true rfl) (x_learnWantsK (y := 111) (b := 65) (K := K) (n := n) l z (d + 1) hX.o5 hX.o0 hB hO hD0 hn (by omega) (by omega) hT.1) (Nat.zero_le _) (Nat.zero_le _) (fun r_30 g_30 f_30 q_30 => ?_)
        obtain ⟨rfl, rfl, hl1, hl9⟩ := q_30
        have hT1 := hT.lw hl1 hl9
        have hB1 : BK g f_30 65 K := hB.mem (fun q hq => hl1.1 q (by omega) (by omega) (by omega) (by omega) (by omega))
        refine r_aload_n (pc := 33) 0 dX10_served_33 rfl rfl ?_
        refine r_getR (pc := 34) (b := 65) dX10_served_34 fl_X10_10 rfl hX.k hX.r0 ?_
        refine r_getR (pc := 37) (b := 67) dX10_served_37 fl_X10_123 rfl hX.o0.k hX.o0.r1 ?_
        refine r_iconst (pc := 40) dX10_served_40 ?_
        refine r_aload_n (pc := 41) 0 dX10_served_41 rfl rfl ?_
        refine r_getR (pc := 42) (b := 65) dX10_served_42 fl_X10_10 rfl hX.k hX.r0 ?_
        refine r_iload_n (pc := 45) 1 dX10_served_45 rfl rfl ?_
        refine r_callV (pc := 46) (As := [(.int (iI (c)))]) (S := [(.int (iI (3))), (.ref 67)]) dX10_served_46 cv_X10_176 hX.o0.k rfl (Nat.le_of_ble_eq_true rfl) (c_ovenOf (c := c) l z _ _ hX.o0 (by omega)) (Nat.zero_le _) (Nat.zero_le _) (fun r_46 g_46 f_46 q_46 => ?_)
        obtain ⟨rfl, rfl, rfl⟩ := q_46
        have hov := ovK_r hO (show c.toNat < 8 by omega)
        have hbk := bkK_r (o := ovK K c.toNat) hO hM0 hov.2
        refine r_eqI (y := ((ovK K c.toNat : Nat) : Int)) (by rw [show (2 * 8 + c).toNat = 8 * 2 + c.toNat by omega]; exact (hB1.tr (w := 2) (by decide) (by omega)).trans hov.1) ?_
        refine r_iadd (pc := 49) dX10_served_49 ?_
        refine r_eqI (y := ((3 + (ovK K c.toNat) : Nat) : Int)) (Int.natCast_add _ _ |>.symm) ?_
        refine r_ialdv (pc := 50) (w := ((bkK K (ovK K c.toNat) : Nat) : Int)) dX10_served_50 hX.o0.a1 (by omega) (by decide) ((hB1.te (t := 3 + ovK K c.toNat) (by omega)).trans (by rw [← Nat.add_assoc]; exact hbk.1)) ?_
        have har := ahK_r hO (show c.toNat < 8 by omega)
        have hwr := waK_r (day := K 42) (hd := hdK K) hO (show c.toNat < 8 by omega)
        refine r_aload_n (pc := 51) 0 dX10_served_51 rfl rfl ?_
        refine r_getR (pc := 52) (b := 111) dX10_served_52 fl_X10_37 rfl hX.k hX.r5 ?_
        refine r_getR (pc := 55) (b := 116) dX10_served_55 fl_X10_179 rfl hX.o5.k hX.o5.r2 ?_
        refine r_iload_n (pc := 58) 1 dX10_served_58 rfl rfl ?_
        refine r_ialdv (pc := 59) (w := ((ahK K c.toNat : Nat) : Int)) dX10_served_59 hX.o5.a2 (by omega) (by decide) ((hl1.2.2.2.2 c.toNat (by omega)).2) ?_
        refine r_iadd (pc := 60) dX10_served_60 ?_
        refine r_eqI (y := (((bkK K (ovK K c.toNat)) + (ahK K c.toNat) : Nat) : Int)) (Int.natCast_add _ _ |>.symm) ?_
        refine r_istore_n (pc := 61) (L2 := [(3, (.int (iI ((((bkK K (ovK K c.toNat)) + (ahK K c.toNat) : Nat) : Int))))), (0, (.ref 64)), (1, (.int (iI (c)))), (2, (.int (iI (w))))]) dX10_served_61 rfl (by decide) rfl ?_
        refine r_iload_n (pc := 62) 3 dX10_served_62 rfl rfl ?_
        refine r_if_ne (pc := 63) (tgt := 84) dX10_served_63 (by decide) (by omega) (fun c_63 => ?_) (fun c_63 => ?_)
        · refine r_aload_n (pc := 84) 1 dX10_served_84 rfl rfl ?_
          refine r_getR (pc := 85) (b := 111) dX10_served_85 fl_X10_37 rfl hX.k hX.r5 ?_
          refine r_getR (pc := 88) (b := 115) dX10_served_88 fl_X10_119 rfl hX.o5.k hX.o5.r1 ?_
          refine r_iload_n (pc := 91) 2 dX10_served_91 rfl rfl ?_
          refine r_ialdv (pc := 92) (w := (((waK K (K 42) (hdK K)) c.toNat : Nat) : Int)) dX10_served_92 hX.o5.a1 (by omega) (by decide) ((hl1.2.2.2.2 c.toNat (by omega)).1) ?_
          refine r_if_le (pc := 93) (tgt := 102) dX10_served_93 (by decide) (by omega) (fun c_93 => ?_) (fun c_93 => ?_)
          · refine r_iconst (pc := 102) dX10_served_102 ?_
            exact r_iret (pc := 103) dX10_served_103 rfl rfl ⟨by unfold sdA; rw [if_pos (show (0 ≤ c ∧ c < (n : Int)) ∧ (0 ≤ w ∧ w ≤ 1) from ⟨by omega, by omega⟩), if_neg (show ¬ w = 0 by omega), if_pos (show (waK K (K 42) (hdK K)) c.toNat = 0 by omega)], rfl, ⟨fun q hq => hl1.1 q (by omega) (by omega) (by omega) (by omega) (by omega), hT1⟩⟩
          · refine r_iload_n (pc := 96) 0 dX10_served_96 rfl rfl ?_
            refine r_iconst (pc := 97) dX10_served_97 ?_
            refine r_iadd (pc := 98) dX10_served_98 ?_
            refine r_eqI (y := (((bkK K (ovK K c.toNat)) + (ahK K c.toNat) + 1 : Nat) : Int)) (Int.natCast_add _ _ |>.symm) ?_
            refine r_goto (pc := 99) (tgt := 103) dX10_served_99 (by decide) ?_
            exact r_iret (pc := 103) dX10_served_103 rfl rfl ⟨by unfold sdA; rw [if_pos (show (0 ≤ c ∧ c < (n : Int)) ∧ (0 ≤ w ∧ w ≤ 1) from ⟨by omega, by omega⟩), if_neg (show ¬ w = 0 by omega), if_neg (show ¬ (waK K (K 42) (hdK K)) c.toNat = 0 by omega)], rfl, ⟨fun q hq => hl1.1 q (by omega) (by omega) (by omega) (by omega) (by omega), hT1⟩⟩
        · refine r_aload_n (pc := 66) 1 dX10_served_66 rfl rfl ?_
          refine r_getR (pc := 67) (b := 65) dX10_served_67 fl_X10_10 rfl hX.k hX.r0 ?_
          refine r_iload_n (pc := 70) 0 dX10_served_70 rfl rfl ?_
          refine r_aload_n (pc := 71) 1 dX10_served_71 rfl rfl ?_
          refine r_getR (pc := 72) (b := 111) dX10_served_72 fl_X10_37 rfl hX.k hX.r5 ?_
          refine r_getR (pc := 75) (b := 115) dX10_served_75 fl_X10_119 rfl hX.o5.k hX.o5.r1 ?_
          refine r_iload_n (pc := 78) 2 dX10_served_78 rfl rfl ?_
          refine r_ialdv (pc := 79) (w := (((waK K (K 42) (hdK K)) c.toNat : Nat) : Int)) dX10_served_79 hX.o5.a1 (by omega) (by decide) ((hl1.2.2.2.2 c.toNat (by omega)).1) ?_
          refine r_callV (pc := 80) (As := [(.int (iI ((((bkK K (ovK K c.toNat)) + (ahK K c.toNat) : Nat) : Int)))), (.int (iI ((((waK K (K 42) (hdK K)) c.toNat : Nat) : Int))))]) (S := []) dX10_served_80 cv_X10_182 hX.o0.k rfl (Nat.le_of_ble_eq_true rfl) (c_blessedBetween (n := ((bkK K (ovK K c.toNat) + ahK K c.toNat : Nat) : Int)) (m := (((waK K (K 42) (hdK K)) c.toNat : Nat) : Int)) l z _ hX.o0 (hB1.te (t := 0) (by decide)) (hB1.te (t := 1) (by decide)) hO.dz hO.lp (by omega) (by omega)) (Nat.zero_le _) (Nat.zero_le _) (fun r_80 g_80 f_80 q_80 => ?_)
          obtain ⟨rfl, rfl, rfl⟩ := q_80
          exact r_iret (pc := 83) dX10_served_83 rfl rfl ⟨by unfold sdA; rw [if_pos (show (0 ≤ c ∧ c < (n : Int)) ∧ (0 ≤ w ∧ w ≤ 1) from ⟨by omega, by omega⟩), if_pos (show w = 0 by omega)], rfl, ⟨fun q hq => hl1.1 q (by omega) (by omega) (by omega) (by omega) (by omega), hT1⟩⟩
      · refine r_iconst (pc := 20) dX10_served_20 ?_
        exact r_iret (pc := 21) dX10_served_21 rfl rfl ⟨by unfold sdA; rw [if_neg (fun q => by omega)], rfl, ⟨fun _ _ => rfl, hT⟩⟩

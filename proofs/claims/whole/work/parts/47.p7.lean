theorem BL.st3 {g : Gm} {b : Nat} (h : BL g b) (i : Nat) (x : Option Nat) {a : Nat} (ha : gkd g a = 15) : BL (stR g a i x) b := by
  have hn : ∀ q j, gkd g q ≠ 15 → grm (stR g a i x) q j = grm g q j := fun q j hq => by
    simp only [grm, stR]
    rw [if_neg (fun e => hq (by rw [e.1]; exact ha))]
  have k1 := h.k.1
  have k2 := h.o3.k.1
  have k3 := h.o4.k.1
  exact ⟨h.k, (hn b 0 (by omega)).trans h.r0, h.a0, (hn b 1 (by omega)).trans h.r1, h.a1, (hn b 2 (by omega)).trans h.r2, h.a2, (hn b 3 (by omega)).trans h.r3, ⟨h.o3.k, (hn _ 0 (by omega)).trans h.o3.r0, h.o3.a0, (hn _ 1 (by omega)).trans h.o3.r1, h.o3.a1⟩, (hn b 4 (by omega)).trans h.r4, ⟨h.o4.k, (hn _ 0 (by omega)).trans h.o4.r0, h.o4.a0, (hn _ 1 (by omega)).trans h.o4.r1, h.o4.a1⟩⟩

theorem AL.sx {g : Gm} {b : Nat} {a i : Nat} {x : Option Nat} (h : AL g b) (hn : ∀ q j, gkd g q ≠ 15 → grm (stR g a i x) q j = grm g q j) : AL (stR g a i x) b := ⟨h.k, (hn b 0 (by have := h.k.1; omega)).trans h.r0, h.a0, (hn b 1 (by have := h.k.1; omega)).trans h.r1, h.a1⟩
theorem SL.sx {g : Gm} {b : Nat} {a i : Nat} {x : Option Nat} (h : SL g b) (hn : ∀ q j, gkd g q ≠ 15 → grm (stR g a i x) q j = grm g q j) : SL (stR g a i x) b := ⟨h.k, (hn b 0 (by have := h.k.1; omega)).trans h.r0, h.a0, (hn b 1 (by have := h.k.1; omega)).trans h.r1, h.a1⟩
theorem BL.sx {g : Gm} {b : Nat} {a i : Nat} {x : Option Nat} (h : BL g b) (hn : ∀ q j, gkd g q ≠ 15 → grm (stR g a i x) q j = grm g q j) : BL (stR g a i x) b := ⟨h.k, (hn b 0 (by have := h.k.1; omega)).trans h.r0, h.a0, (hn b 1 (by have := h.k.1; omega)).trans h.r1, h.a1, (hn b 2 (by have := h.k.1; omega)).trans h.r2, h.a2, (hn b 3 (by have := h.k.1; omega)).trans h.r3, h.o3.sx hn, (hn b 4 (by have := h.k.1; omega)).trans h.r4, h.o4.sx hn⟩
theorem DL.sx {g : Gm} {b : Nat} {a i : Nat} {x : Option Nat} (h : DL g b) (hn : ∀ q j, gkd g q ≠ 15 → grm (stR g a i x) q j = grm g q j) : DL (stR g a i x) b := ⟨h.k, (hn b 0 (by have := h.k.1; omega)).trans h.r0, h.o0.sx hn, (hn b 1 (by have := h.k.1; omega)).trans h.r1, h.a1, (hn b 2 (by have := h.k.1; omega)).trans h.r2, h.a2, (hn b 3 (by have := h.k.1; omega)).trans h.r3, h.a3, (hn b 4 (by have := h.k.1; omega)).trans h.r4, h.a4, (hn b 5 (by have := h.k.1; omega)).trans h.r5, h.a5, (hn b 6 (by have := h.k.1; omega)).trans h.r6, h.a6, (hn b 7 (by have := h.k.1; omega)).trans h.r7, h.a7, (hn b 8 (by have := h.k.1; omega)).trans h.r8, h.a8⟩
theorem OL.sx {g : Gm} {b : Nat} {a i : Nat} {x : Option Nat} (h : OL g b) (hn : ∀ q j, gkd g q ≠ 15 → grm (stR g a i x) q j = grm g q j) : OL (stR g a i x) b := ⟨h.k, (hn b 0 (by have := h.k.1; omega)).trans h.r0, h.a0, (hn b 1 (by have := h.k.1; omega)).trans h.r1, h.a1, (hn b 2 (by have := h.k.1; omega)).trans h.r2, h.a2⟩
theorem EL.sx {g : Gm} {b : Nat} {a i : Nat} {x : Option Nat} (h : EL g b) (hn : ∀ q j, gkd g q ≠ 15 → grm (stR g a i x) q j = grm g q j) : EL (stR g a i x) b := ⟨h.k, (hn b 0 (by have := h.k.1; omega)).trans h.r0, h.a0, (hn b 1 (by have := h.k.1; omega)).trans h.r1, h.a1, (hn b 2 (by have := h.k.1; omega)).trans h.r2, h.a2, (hn b 3 (by have := h.k.1; omega)).trans h.r3, h.a3⟩
theorem TL.sx {g : Gm} {b : Nat} {a i : Nat} {x : Option Nat} (h : TL g b) (hn : ∀ q j, gkd g q ≠ 15 → grm (stR g a i x) q j = grm g q j) : TL (stR g a i x) b := ⟨h.k, (hn b 0 (by have := h.k.1; omega)).trans h.r0, h.a0, (hn b 1 (by have := h.k.1; omega)).trans h.r1, h.a1, (hn b 2 (by have := h.k.1; omega)).trans h.r2, h.a2⟩
theorem YL.sx {g : Gm} {b : Nat} {a i : Nat} {x : Option Nat} (h : YL g b) (hn : ∀ q j, gkd g q ≠ 15 → grm (stR g a i x) q j = grm g q j) : YL (stR g a i x) b := ⟨h.k, (hn b 0 (by have := h.k.1; omega)).trans h.r0, h.a0, (hn b 1 (by have := h.k.1; omega)).trans h.r1, h.a1, (hn b 2 (by have := h.k.1; omega)).trans h.r2, h.a2, (hn b 3 (by have := h.k.1; omega)).trans h.r3, h.a3, (hn b 4 (by have := h.k.1; omega)).trans h.r4, h.a4, (hn b 5 (by have := h.k.1; omega)).trans h.r5, h.a5⟩
theorem XL.sx {g : Gm} {a i : Nat} {x : Option Nat} (h : XL g) (hn : ∀ q j, gkd g q ≠ 15 → grm (stR g a i x) q j = grm g q j) : XL (stR g a i x) := ⟨h.k, (hn 64 0 (by have := h.k.1; omega)).trans h.r0, h.o0.sx hn, (hn 64 1 (by have := h.k.1; omega)).trans h.r1, h.o1.sx hn, (hn 64 2 (by have := h.k.1; omega)).trans h.r2, h.a2, (hn 64 3 (by have := h.k.1; omega)).trans h.r3, h.a3, (hn 64 4 (by have := h.k.1; omega)).trans h.r4, h.o4.sx hn, (hn 64 5 (by have := h.k.1; omega)).trans h.r5, h.o5.sx hn, (hn 64 6 (by have := h.k.1; omega)).trans h.r6, h.o6.sx hn, (hn 64 7 (by have := h.k.1; omega)).trans h.r7, h.o7.sx hn, (hn 64 8 (by have := h.k.1; omega)).trans h.r8, h.o8.sx hn, (hn 64 9 (by have := h.k.1; omega)).trans h.r9, h.o9.sx hn, (hn 64 10 (by have := h.k.1; omega)).trans h.r10, h.o10.sx hn, (hn 64 11 (by have := h.k.1; omega)).trans h.r11, h.o11.sx hn, (hn 64 12 (by have := h.k.1; omega)).trans h.r12, h.a12, (hn 64 13 (by have := h.k.1; omega)).trans h.r13, h.a13, (hn 64 14 (by have := h.k.1; omega)).trans h.r14, h.a14, (hn 85 0 (by have := h.a2.1; omega)).trans h.e0, (hn 85 1 (by have := h.a2.1; omega)).trans h.e1, h.i0.sx hn, h.i1.sx hn⟩
theorem ML.sx {g : Gm} {a i : Nat} {x : Option Nat} (h : ML g) (hn : ∀ q j, gkd g q ≠ 15 → grm (stR g a i x) q j = grm g q j) : ML (stR g a i x) := ⟨h.k, (hn 164 1 (by have := h.k.1; omega)).trans h.r1, h.a1, (hn 164 2 (by have := h.k.1; omega)).trans h.r2, h.a2, (hn 164 3 (by have := h.k.1; omega)).trans h.r3, h.a3, (hn 164 4 (by have := h.k.1; omega)).trans h.r4, h.a4, (hn 164 6 (by have := h.k.1; omega)).trans h.r6, h.a6, (hn 164 7 (by have := h.k.1; omega)).trans h.r7, h.a7, (hn 164 8 (by have := h.k.1; omega)).trans h.r8, h.a8, (hn 164 11 (by have := h.k.1; omega)).trans h.r11, h.a11, (hn 164 12 (by have := h.k.1; omega)).trans h.r12, h.a12, (hn 164 13 (by have := h.k.1; omega)).trans h.r13, h.a13, (hn 164 21 (by have := h.k.1; omega)).trans h.r21, h.a21, (hn 164 24 (by have := h.k.1; omega)).trans h.r24, h.a24, (hn 164 25 (by have := h.k.1; omega)).trans h.r25, h.a25, (hn 164 26 (by have := h.k.1; omega)).trans h.r26, h.a26, (hn 164 27 (by have := h.k.1; omega)).trans h.r27, h.a27, (hn 164 28 (by have := h.k.1; omega)).trans h.r28, h.a28, (hn 164 29 (by have := h.k.1; omega)).trans h.r29, h.a29, (hn 164 30 (by have := h.k.1; omega)).trans h.r30, h.a30, (hn 164 31 (by have := h.k.1; omega)).trans h.r31, h.a31, (hn 164 32 (by have := h.k.1; omega)).trans h.r32, h.a32, (hn 164 33 (by have := h.k.1; omega)).trans h.r33, h.a33, (hn 164 34 (by have := h.k.1; omega)).trans h.r34, h.a34, (hn 164 35 (by have := h.k.1; omega)).trans h.r35, h.a35, (hn 164 36 (by have := h.k.1; omega)).trans h.r36, h.a36, (hn 164 37 (by have := h.k.1; omega)).trans h.r37, h.a37, (hn 164 38 (by have := h.k.1; omega)).trans h.r38, h.a38, (hn 164 39 (by have := h.k.1; omega)).trans h.r39, h.a39, (hn 164 40 (by have := h.k.1; omega)).trans h.r40, h.a40, (hn 164 41 (by have := h.k.1; omega)).trans h.r41, h.a41, (hn 164 42 (by have := h.k.1; omega)).trans h.r42, h.a42⟩
theorem st15 {g : Gm} {a i : Nat} {x : Option Nat} (ha : gkd g a = 15) : ∀ q j, gkd g q ≠ 15 → grm (stR g a i x) q j = grm g q j := fun q j hq => by
  simp only [grm, stR]
  rw [if_neg (fun e => hq (by rw [e.1]; exact ha))]
theorem XL_st {g : Gm} (h : XL g) (i : Nat) (x : Option Nat) : XL (stR g 68 i x) := h.sx (st15 h.o0.a2.1)
theorem ML_st {g : Gm} (h : ML g) (hX : XL g) (i : Nat) (x : Option Nat) : ML (stR g 68 i x) := h.sx (st15 hX.o0.a2.1)

set_option maxRecDepth 100000 in
set_option maxHeartbeats 4000000 in
theorem x_law (l : Launch) (z : Zv) {g : Gm} {f : Fm} {t nl : Nat} (hX : XL g) (hnl : f 65 6 = ((nl : Nat) : Int)) (hnl6 : nl ≤ 6) (ht : f 107 4 = ((t : Nat) : Int)) (ht4 : t ≤ 400) (hby : ∀ i, 0 ≤ f 108 i ∧ f 108 i ≤ 255) (h195 : 195 ≤ gnx g) {D : Nat} (hD : 170 ≤ D) : PM l z D mX10_law [(.ref 64)] g f 3 600 (fun r g' f' => (nl = 6 ∧ r = some (.int (iI (-5))) ∧ g = g' ∧ xrf (stF f 107 4 0) (-5) = f') ∨ (nl < 6 ∧ ∃ x f1, sLaw (cj (f 108) t) (vj (f 108) t) (enj (f 108) t) 12 0 0 [] = .error x ∧ r = some (.int (iI (-6))) ∧ g = g' ∧ f1 107 3 = ((pl (f 108) t x : Nat) : Int) ∧ CF 107 t f f1 ∧ xrf (stF f1 107 4 0) (-6) = f') ∨ (nl < 6 ∧ ∃ cls g1 f1, sLaw (cj (f 108) t) (vj (f 108) t) (enj (f 108) t) 12 0 0 [] = .ok cls ∧ r = some (.int (iI ((nl : Nat) : Int))) ∧ gx g g1 ∧ gnx g1 = gnx g + 3 ∧ LawAt g1 f1 (gnx g) cls ∧ f1 107 3 = -1 ∧ (∀ a, a ≠ 107 → a ≠ 107 + 2 → a ≠ 107 + 3 → a < gnx g → f1 a = f a) ∧ stR g1 68 nl (some (gnx g + 2)) = g' ∧ stF (stF (stF f1 107 4 0) 65 6 ((nl + 1 : Nat) : Int)) 64 16 0 = f')) := by
  obtain ⟨d, rfl⟩ : ∃ d, D = d + 8 := ⟨D - 8, by omega⟩
  refine PM.of (by decide +kernel) (Nat.le_of_ble_eq_true rfl) ?_
  refine r_aload_n (pc := 0) 0 dX10_law_0 rfl rfl ?_
  refine r_getR (pc := 1) (b := 65) dX10_law_1 fl_X10_10 rfl hX.k hX.r0 ?_
  refine r_getIv (pc := 4) (x := ((nl : Nat) : Int)) dX10_law_4 fl_X10_145 rfl hX.o0.k (hnl) ?_
  refine r_bipush (pc := 7) dX10_law_7 (by decide) ?_
  refine r_icmp_lt (pc := 9) (tgt := 27) dX10_law_9 (by decide) (by omega) (by omega) (fun c_9 => ?_) (fun c_9 => ?_)
  · refine r_aload_n (pc := 27) 0 dX10_law_27 rfl rfl ?_
    refine r_getR (pc := 28) (b := 107) dX10_law_28 fl_X10_30 rfl hX.k hX.r4 ?_
    refine r_callV (pc := 31) (As := []) (S := []) dX10_law_31 cv_X10_148 hX.o4.k rfl (Nat.le_of_ble_eq_true rfl) (x_readLaw (b := 107) (t := t) l z hX.o4 ht ht4 hby h195 (by omega)) (by omega) (by omega) (fun r_31 g_31 f_31 q_31 => ?_)
    rcases q_31 with ⟨x, hR, rfl, rfl, hx, hF⟩ | ⟨cls, hR, rfl, hg, hn, hLw, hf3, hfr⟩
    · refine r_astore_nN (pc := 34) (L2 := [(1, .null), (0, (.ref 64))]) dX10_law_34 rfl (by decide) rfl ?_
      refine r_aload_n (pc := 35) 1 dX10_law_35 rfl rfl ?_
      refine r_getR (pc := 36) (b := 107) dX10_law_36 fl_X10_30 rfl hX.k hX.r4 ?_
      refine r_iconst (pc := 39) dX10_law_39 ?_
      refine r_putI (pc := 40) dX10_law_40 fl_X10_132 rfl rfl hX.o4.k ?_
      refine r_aload_nN (pc := 43) 0 dX10_law_43 rfl rfl ?_
      refine r_ifnonnullN (pc := 44) dX10_law_44 ?_
      refine r_aload_n (pc := 47) 1 dX10_law_47 rfl rfl ?_
      refine r_bipush (pc := 48) dX10_law_48 (by decide) ?_
      refine r_callV (pc := 50) (As := [(.int (iI (-6)))]) (S := []) dX10_law_50 cv_X10_85 hX.k rfl (Nat.le_of_ble_eq_true rfl) (x_refuse l z _ hX (by omega)) (Nat.zero_le _) (Nat.zero_le _) (fun r_50 g_50 f_50 q_50 => ?_)
      obtain ⟨rfl, rfl, rfl⟩ := q_50
      exact r_iret (pc := 53) dX10_law_53 rfl rfl (Or.inr (Or.inl ⟨by omega, x, f_31, hR, rfl, rfl, hx, hF, rfl⟩))
    · have hX := hX.gx hg
      have hnl2 : f_31 65 6 = ((nl : Nat) : Int) := by rw [hfr 65 (by decide) (by decide) (by decide) (by omega)]; exact hnl
      refine r_astore_n (pc := 34) (L2 := [(1, (.ref (gnx g + 2))), (0, (.ref 64))]) dX10_law_34 rfl (by decide) rfl ?_
      refine r_aload_n (pc := 35) 1 dX10_law_35 rfl rfl ?_
      refine r_getR (pc := 36) (b := 107) dX10_law_36 fl_X10_30 rfl hX.k hX.r4 ?_
      refine r_iconst (pc := 39) dX10_law_39 ?_
      refine r_putI (pc := 40) dX10_law_40 fl_X10_132 rfl rfl hX.o4.k ?_
      refine r_aload_n (pc := 43) 0 dX10_law_43 rfl rfl ?_
      refine r_ifnonnull (pc := 44) (tgt := 54) dX10_law_44 (by decide) ?_
      refine r_aload_n (pc := 54) 1 dX10_law_54 rfl rfl ?_
      refine r_getR (pc := 55) (b := 65) dX10_law_55 fl_X10_10 rfl hX.k hX.r0 ?_
      refine r_getR (pc := 58) (b := 68) dX10_law_58 fl_X10_152 rfl hX.o0.k hX.o0.r2 ?_
      refine r_aload_n (pc := 61) 1 dX10_law_61 rfl rfl ?_
      refine r_getR (pc := 62) (b := 65) dX10_law_62 fl_X10_10 rfl hX.k hX.r0 ?_
      refine r_getIv (pc := 65) (x := ((nl : Nat) : Int)) dX10_law_65 fl_X10_145 rfl hX.o0.k (rdn (by decide) (hnl2)) ?_
      refine r_aload_n (pc := 68) 0 dX10_law_68 rfl rfl ?_
      refine r_aast (pc := 69) (j := 3) dX10_law_69 hX.o0.a2 (Or.inl ⟨rfl, rfl⟩) (by omega) (by decide) hLw.2.1 ?_
      have hX : XL (stR g_31 68 ((nl : Nat) : Int).toNat (some (gnx g + 2))) := XL_st hX nl _
      refine r_aload_n (pc := 70) 1 dX10_law_70 rfl rfl ?_
      refine r_getR (pc := 71) (b := 65) dX10_law_71 fl_X10_10 rfl hX.k hX.r0 ?_
      refine r_dup (pc := 74) dX10_law_74 rfl ?_
      refine r_getIv (pc := 75) (x := ((nl : Nat) : Int)) dX10_law_75 fl_X10_145 rfl hX.o0.k (rdn (by decide) (hnl2)) ?_
      refine r_iconst (pc := 78) dX10_law_78 ?_
      refine r_iadd (pc := 79) dX10_law_79 ?_
      refine r_eqI (y := ((nl + 1 : Nat) : Int)) (Int.natCast_add _ _ |>.symm) ?_
      refine r_putI (pc := 80) dX10_law_80 fl_X10_145 rfl rfl hX.o0.k ?_
      refine r_aload_n (pc := 83) 1 dX10_law_83 rfl rfl ?_
      refine r_aload_n (pc := 84) 1 dX10_law_84 rfl rfl ?_
      refine r_getR (pc := 85) (b := 65) dX10_law_85 fl_X10_10 rfl hX.k hX.r0 ?_
      refine r_getIv (pc := 88) (x := ((nl + 1 : Nat) : Int)) dX10_law_88 fl_X10_145 rfl hX.o0.k (stF_s _ _ _ _) ?_
      refine r_iconst (pc := 91) dX10_law_91 ?_
      refine r_isub (pc := 92) dX10_law_92 ?_
      refine r_eqI (y := ((nl : Nat) : Int)) (by omega) ?_
      refine r_callV (pc := 93) (As := [(.int (iI (((nl : Nat) : Int))))]) (S := []) dX10_law_93 cv_X10_100 hX.k rfl (Nat.le_of_ble_eq_true rfl) (x_accept l z _ (((nl : Nat) : Int)) hX) (Nat.zero_le _) (Nat.zero_le _) (fun r_93 g_93 f_93 q_93 => ?_)
      obtain ⟨rfl, rfl, rfl⟩ := q_93
      exact r_iret (pc := 96) dX10_law_96 rfl rfl (Or.inr (Or.inr ⟨by omega, cls, g_31, f_31, hR, rfl, hg, hn, hLw, hf3, hfr, rfl, rfl⟩))
  · refine r_aload_n (pc := 12) 0 dX10_law_12 rfl rfl ?_
    refine r_getR (pc := 13) (b := 107) dX10_law_13 fl_X10_30 rfl hX.k hX.r4 ?_
    refine r_iconst (pc := 16) dX10_law_16 ?_
    refine r_putI (pc := 17) dX10_law_17 fl_X10_132 rfl rfl hX.o4.k ?_
    refine r_aload_n (pc := 20) 0 dX10_law_20 rfl rfl ?_
    refine r_bipush (pc := 21) dX10_law_21 (by decide) ?_
    refine r_callV (pc := 23) (As := [(.int (iI (-5)))]) (S := []) dX10_law_23 cv_X10_85 hX.k rfl (Nat.le_of_ble_eq_true rfl) (x_refuse l z _ hX (by omega)) (Nat.zero_le _) (Nat.zero_le _) (fun r_23 g_23 f_23 q_23 => ?_)
    obtain ⟨rfl, rfl, rfl⟩ := q_23
    exact r_iret (pc := 26) dX10_law_26 rfl rfl (Or.inl ⟨by omega, rfl, rfl, rfl⟩)

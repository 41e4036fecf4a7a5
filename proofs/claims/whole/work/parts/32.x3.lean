section AASTN
variable {l : Launch} {z : Zv} {d : Nat} {k : PMd} {mc ms : Nat} {post : Po} {pc : Nat} {L : List (Nat × Value)} {S : List Value} {g : Gm} {f : Fm} {cb sb : Nat}
theorem r_aastN {a n c : Nat} {x : Int} (hd : decode k.2.1 pc = .ok (.aastore, 1)) (hA : isA g a c n) (hcc : c = 15 ∨ c = 16) (hx : 0 ≤ x ∧ x < n) (hn : n ≤ 2147483647) (h : PW l z d k mc ms post (pc + 1) L S (stR g a x.toNat none) f cb sb) : PW l z d k mc ms post pc L (.null :: .int (iI x) :: .ref a :: S) g f cb sb := by
  intro p e s m args below meth c0 H locs cells slots ls B hz hl hH hS hc hs
  obtain ⟨k1, k2, k3, k4⟩ := hA
  have K := B.2.2.2.2.2.2.2.2.K
  have hcell := zH_cell hH k2 k3 (zpic_q (f := f) k1 k4 hcc)
  have hty : ∃ (t0 : Nat) (C : String), (ztys z)[t0]? = some (z.2.1 c, .object C) := by
    rcases hcc with rfl | rfl
    · exact ⟨4, _, rfl⟩
    · exact ⟨5, _, rfl⟩
  obtain ⟨t0, C, ht0⟩ := hty
  have hin := iI_in hx hn
  refine va_WaastN (C := C) B.1 B.2.1 hcell ((K.2 t0 _ ht0).1 n (fun j => va_rf ((grm g a j).map (zad z)))) (fun h => by cases h) (by show ¬ (iI x < 0 ∨ (arrV _ _ _).slots.size ≤ _); rw [arrV_size]; exact hin) rfl rfl hd fun H1 e1 z1 oq => ?_
  rw [iI_cl (by omega)] at e1
  have hH1 : zH z (stR g a x.toNat none) f H1 := by
    refine zH_store hH k2 k3 rfl ?_ z1 oq zpic_stR
    rw [zpic_q (g := stR g a x.toNat none) k1 k4 hcc]
    show H1[zad z a]? = some (vp_cell _ _)
    rw [e1, vp_cell_q, vp_cell_q, arrV_store]
    congr 2
    funext q
    by_cases hq : q = x.toNat
    · subst hq; simp [updV, grm, stR, va_rf]
    · simp [updV, grm, stR, hq]
  exact h p e s m args below meth c0 H1 _ cells slots ls B hz hl hH1 (hS.put z1 oq (zad_A k2)) hc hs
end AASTN
def cpS (f : Fm) (b q : Nat) : Fm := stF (cpF (cpF f (q + 1) (b + 1) 0 0 8) (q + 2) (b + 2) 0 0 8) b 2 (f q 2)
def cpR (g : Gm) (a b n : Nat) : Gm := (g.1, g.2.1, g.2.2.1, g.2.2.2.1, fun q i => if q = b ∧ i < n then g.2.2.2.2 a i else g.2.2.2.2 q i)
theorem cpR_0 (g : Gm) (a b : Nat) : cpR g a b 0 = g := by
  obtain ⟨g1, g2, g3, g4, g5⟩ := g
  simp [cpR]
theorem cpR_s (g : Gm) {a b : Nat} (n : Nat) (h : a ≠ b) : stR (cpR g a b n) b n (grm (cpR g a b n) a n) = cpR g a b (n + 1) := by
  obtain ⟨g1, g2, g3, g4, g5⟩ := g
  simp only [stR, cpR, grm, h, false_and, if_false]
  congr 4
  funext q i
  by_cases hq : q = b
  · subst hq
    by_cases hi : i = n
    · subst hi; simp
    · by_cases h2 : i < n
      · simp [hi, h2, Nat.lt_succ_of_lt h2]
      · simp [hi, h2, show ¬ i < n + 1 by omega]
  · simp [hq]

set_option maxRecDepth 100000 in
set_option maxHeartbeats 4000000 in
theorem x_sayCopy (l : Launch) (z : Zv) (d : Nat) {g : Gm} {f : Fm} {b q : Nat} (hS : SL g b) (hQ : SL g q) (hbq : q + 3 ≤ b ∨ b + 3 ≤ q) : PM l z d mX5_copyFrom [(.ref b), (.ref q)] g f 0 0 (wrQ g (cpS f b q)) := by
  refine PM.of (by decide +kernel) (Nat.le_of_ble_eq_true rfl) ?_
  refine r_aload_n (pc := 0) 1 dX5_copyFrom_0 rfl rfl ?_
  refine r_getR (pc := 1) (b := (q + 1)) dX5_copyFrom_1 fl_X5_9 rfl hQ.k hQ.r0 ?_
  refine r_iconst (pc := 4) dX5_copyFrom_4 ?_
  refine r_aload_n (pc := 5) 0 dX5_copyFrom_5 rfl rfl ?_
  refine r_getR (pc := 6) (b := (b + 1)) dX5_copyFrom_6 fl_X5_9 rfl hS.k hS.r0 ?_
  refine r_iconst (pc := 9) dX5_copyFrom_9 ?_
  refine r_bipush (pc := 10) dX5_copyFrom_10 (by decide) ?_
  refine r_acopyI (pc := 12) dX5_copyFrom_12 ac_X5_22 hQ.a0 hS.a0 (by decide) (by decide) (by decide) (by decide) (Nat.le_of_ble_eq_true rfl) ?_
  refine r_aload_n (pc := 15) 1 dX5_copyFrom_15 rfl rfl ?_
  refine r_getR (pc := 16) (b := (q + 2)) dX5_copyFrom_16 fl_X5_15 rfl hQ.k hQ.r1 ?_
  refine r_iconst (pc := 19) dX5_copyFrom_19 ?_
  refine r_aload_n (pc := 20) 0 dX5_copyFrom_20 rfl rfl ?_
  refine r_getR (pc := 21) (b := (b + 2)) dX5_copyFrom_21 fl_X5_15 rfl hS.k hS.r1 ?_
  refine r_iconst (pc := 24) dX5_copyFrom_24 ?_
  refine r_bipush (pc := 25) dX5_copyFrom_25 (by decide) ?_
  refine r_acopyI (pc := 27) dX5_copyFrom_27 ac_X5_22 hQ.a1 hS.a1 (by decide) (by decide) (by decide) (by decide) (Nat.le_of_ble_eq_true rfl) ?_
  refine r_aload_n (pc := 30) 0 dX5_copyFrom_30 rfl rfl ?_
  refine r_aload_n (pc := 31) 1 dX5_copyFrom_31 rfl rfl ?_
  refine r_getIv (pc := 32) (x := f q 2) dX5_copyFrom_32 fl_X5_18 rfl hQ.k (by simp [cpF, show ¬ q = b + 1 by omega, show ¬ q = b + 2 by omega]) ?_
  refine r_putI (pc := 35) dX5_copyFrom_35 fl_X5_18 rfl rfl hS.k ?_
  exact r_vret (pc := 38) dX5_copyFrom_38 rfl ⟨rfl, rfl, rfl⟩

def gsh (g g' : Gm) : Prop := gnx g' = gnx g ∧ gkd g' = gkd g ∧ gln g' = gln g
theorem isK.to {g g' : Gm} {a c : Nat} (h : isK g a c) (e : gsh g g') : isK g' a c := by unfold isK; rw [e.1, e.2.1]; exact h
theorem isA.to {g g' : Gm} {a c n : Nat} (h : isA g a c n) (e : gsh g g') : isA g' a c n := by unfold isA; rw [e.1, e.2.1, e.2.2]; exact h

theorem AL.to {g g' : Gm} {b : Nat} (h : AL g b) (e : gsh g g') (r0 : grm g' b = grm g b) : AL g' b := ⟨h.k.to e, by rw [r0]; exact h.r0, h.a0.to e, by rw [r0]; exact h.r1, h.a1.to e⟩
theorem SL.to {g g' : Gm} {b : Nat} (h : SL g b) (e : gsh g g') (r0 : grm g' b = grm g b) : SL g' b := ⟨h.k.to e, by rw [r0]; exact h.r0, h.a0.to e, by rw [r0]; exact h.r1, h.a1.to e⟩
theorem BL.to {g g' : Gm} {b : Nat} (h : BL g b) (e : gsh g g') (r0 : grm g' b = grm g b) (r1 : grm g' (b + 4) = grm g (b + 4)) (r2 : grm g' (b + 7) = grm g (b + 7)) : BL g' b := ⟨h.k.to e, by rw [r0]; exact h.r0, h.a0.to e, by rw [r0]; exact h.r1, h.a1.to e, by rw [r0]; exact h.r2, h.a2.to e, by rw [r0]; exact h.r3, SL.to h.o3 e r1, by rw [r0]; exact h.r4, SL.to h.o4 e r2⟩
theorem DL.to {g g' : Gm} {b : Nat} (h : DL g b) (e : gsh g g') (r0 : grm g' b = grm g b) (r1 : grm g' (b + 1) = grm g (b + 1)) : DL g' b := ⟨h.k.to e, by rw [r0]; exact h.r0, AL.to h.o0 e r1, by rw [r0]; exact h.r1, h.a1.to e, by rw [r0]; exact h.r2, h.a2.to e, by rw [r0]; exact h.r3, h.a3.to e, by rw [r0]; exact h.r4, h.a4.to e, by rw [r0]; exact h.r5, h.a5.to e, by rw [r0]; exact h.r6, h.a6.to e, by rw [r0]; exact h.r7, h.a7.to e, by rw [r0]; exact h.r8, h.a8.to e⟩
theorem OL.to {g g' : Gm} {b : Nat} (h : OL g b) (e : gsh g g') (r0 : grm g' b = grm g b) : OL g' b := ⟨h.k.to e, by rw [r0]; exact h.r0, h.a0.to e, by rw [r0]; exact h.r1, h.a1.to e, by rw [r0]; exact h.r2, h.a2.to e⟩
theorem EL.to {g g' : Gm} {b : Nat} (h : EL g b) (e : gsh g g') (r0 : grm g' b = grm g b) : EL g' b := ⟨h.k.to e, by rw [r0]; exact h.r0, h.a0.to e, by rw [r0]; exact h.r1, h.a1.to e, by rw [r0]; exact h.r2, h.a2.to e, by rw [r0]; exact h.r3, h.a3.to e⟩
theorem TL.to {g g' : Gm} {b : Nat} (h : TL g b) (e : gsh g g') (r0 : grm g' b = grm g b) : TL g' b := ⟨h.k.to e, by rw [r0]; exact h.r0, h.a0.to e, by rw [r0]; exact h.r1, h.a1.to e, by rw [r0]; exact h.r2, h.a2.to e⟩
theorem YL.to {g g' : Gm} {b : Nat} (h : YL g b) (e : gsh g g') (r0 : grm g' b = grm g b) : YL g' b := ⟨h.k.to e, by rw [r0]; exact h.r0, h.a0.to e, by rw [r0]; exact h.r1, h.a1.to e, by rw [r0]; exact h.r2, h.a2.to e, by rw [r0]; exact h.r3, h.a3.to e, by rw [r0]; exact h.r4, h.a4.to e, by rw [r0]; exact h.r5, h.a5.to e⟩
theorem cpR_sh (g : Gm) (a b n : Nat) : gsh g (cpR g a b n) := ⟨rfl, rfl, rfl⟩
theorem cpR_rm (g : Gm) {a b n q : Nat} (h : q ≠ b) : grm (cpR g a b n) q = grm g q := by funext i; simp [grm, cpR, h]
theorem BL.cp {g : Gm} {b a c n : Nat} (h : BL g b) (h0 : b ≠ c) (h4 : b + 4 ≠ c) (h7 : b + 7 ≠ c) : BL (cpR g a c n) b := h.to (cpR_sh g a c n) (cpR_rm g h0) (cpR_rm g h4) (cpR_rm g h7)
def cpB (f : Fm) (b q : Nat) : Fm :=
  let f1 := cpF (cpF f (q + 1) (b + 1) 0 0 40) (q + 2) (b + 2) 0 0 5
  stF (stF (stF (cpS (cpS f1 (b + 4) (q + 4)) (b + 7) (q + 7)) b 5 (f q 5)) b 6 (f q 6)) b 7 (f q 7)

set_option maxRecDepth 100000 in
set_option maxHeartbeats 4000000 in
theorem x_copyFrom (l : Launch) (z : Zv) (d : Nat) {g : Gm} {f : Fm} {b q : Nat} (hB : BL g b) (hQ : BL g q) (hbq : q + 10 ≤ b ∨ b + 10 ≤ q) (hT : ∀ (i p : Nat), grm g (q + 3) i = some p → isK g p 3) : PM l z (d + 1) mX1_copyFrom [(.ref b), (.ref q)] g f 0 0 (fun r g' f' => r = none ∧ cpR g (q + 3) (b + 3) 6 = g' ∧ cpB f b q = f') := by
  refine PM.of (by decide +kernel) (Nat.le_of_ble_eq_true rfl) ?_
  have hT : ∀ (j p : Nat), grm (cpR g (q + 3) (b + 3) j) (q + 3) j = some p → isK (cpR g (q + 3) (b + 3) j) p 3 := fun j p hp => by
    rw [cpR_rm g (show q + 3 ≠ b + 3 by omega)] at hp
    exact (hT j p hp).to (cpR_sh g _ _ _)
  have loop : ∀ m j : Nat, m = 6 - j → j ≤ 6 → PW l z (d + 1) mX1_copyFrom 0 0 (fun r g' f' => r = none ∧ cpR g (q + 3) (b + 3) 6 = g' ∧ cpB f b q = f') 34 [(2, (.int (iI (((j : Nat) : Int))))), (0, (.ref b)), (1, (.ref q))] [] (cpR g (q + 3) (b + 3) j) (cpF (cpF f (q + 1) (b + 1) 0 0 40) (q + 2) (b + 2) 0 0 5) 0 0 := by
    intro m
    induction m using Nat.strongRecOn with
    | _ m ih =>
      intro j hm hj
      refine r_iload_n (pc := 34) 0 dX1_copyFrom_34 rfl rfl ?_
      refine r_bipush (pc := 35) dX1_copyFrom_35 (by decide) ?_
      refine r_icmp_ge (pc := 37) (tgt := 58) dX1_copyFrom_37 (by decide) (by omega) (by omega) (fun c_37 => ?_) (fun c_37 => ?_)
      · refine r_aload_n (pc := 58) 1 dX1_copyFrom_58 rfl rfl ?_
        refine r_getR (pc := 59) (b := (b + 4)) dX1_copyFrom_59 fl_X1_27 rfl (hB.cp (by omega) (by omega) (by omega)).k (hB.cp (by omega) (by omega) (by omega)).r3 ?_
        refine r_aload_n (pc := 62) 2 dX1_copyFrom_62 rfl rfl ?_
        refine r_getR (pc := 63) (b := (q + 4)) dX1_copyFrom_63 fl_X1_27 rfl (hQ.cp (by omega) (by omega) (by omega)).k (hQ.cp (by omega) (by omega) (by omega)).r3 ?_
        refine r_callV (pc := 66) (As := [(.ref (q + 4))]) (S := []) dX1_copyFrom_66 cv_X1_84 (hB.cp (by omega) (by omega) (by omega)).o3.k rfl (Nat.le_of_ble_eq_true rfl) (x_sayCopy l z _ (hB.cp (by omega) (by omega) (by omega)).o3 (hQ.cp (by omega) (by omega) (by omega)).o3 (by omega)) (Nat.zero_le _) (Nat.zero_le _) (fun r_66 g_66 f_66 q_66 => ?_)
        obtain ⟨rfl, rfl, rfl⟩ := q_66
        refine r_aload_n (pc := 69) 1 dX1_copyFrom_69 rfl rfl ?_
        refine r_getR (pc := 70) (b := (b + 7)) dX1_copyFrom_70 fl_X1_31 rfl (hB.cp (by omega) (by omega) (by omega)).k (hB.cp (by omega) (by omega) (by omega)).r4 ?_
        refine r_aload_n (pc := 73) 2 dX1_copyFrom_73 rfl rfl ?_
        refine r_getR (pc := 74) (b := (q + 7)) dX1_copyFrom_74 fl_X1_31 rfl (hQ.cp (by omega) (by omega) (by omega)).k (hQ.cp (by omega) (by omega) (by omega)).r4 ?_
        refine r_callV (pc := 77) (As := [(.ref (q + 7))]) (S := []) dX1_copyFrom_77 cv_X1_84 (hB.cp (by omega) (by omega) (by omega)).o4.k rfl (Nat.le_of_ble_eq_true rfl) (x_sayCopy l z _ (hB.cp (by omega) (by omega) (by omega)).o4 (hQ.cp (by omega) (by omega) (by omega)).o4 (by omega)) (Nat.zero_le _) (Nat.zero_le _) (fun r_77 g_77 f_77 q_77 => ?_)
        obtain ⟨rfl, rfl, rfl⟩ := q_77
        refine r_aload_n (pc := 80) 1 dX1_copyFrom_80 rfl rfl ?_
        refine r_aload_n (pc := 81) 2 dX1_copyFrom_81 rfl rfl ?_
        refine r_getIv (pc := 82) (x := f q 5) dX1_copyFrom_82 fl_X1_38 rfl (hQ.cp (by omega) (by omega) (by omega)).k (by simp [cpS, cpF, stF, show ¬ q = b by omega, show ¬ q = b + 1 by omega, show ¬ q = b + 2 by omega, show ¬ q = b + 4 by omega, show ¬ q = b + 5 by omega, show ¬ q = b + 6 by omega, show ¬ q = b + 7 by omega, show ¬ q = b + 8 by omega, show ¬ q = b + 9 by omega]) ?_
        refine r_putI (pc := 85) dX1_copyFrom_85 fl_X1_38 rfl rfl (hB.cp (by omega) (by omega) (by omega)).k ?_
        refine r_aload_n (pc := 88) 1 dX1_copyFrom_88 rfl rfl ?_
        refine r_aload_n (pc := 89) 2 dX1_copyFrom_89 rfl rfl ?_
        refine r_getIv (pc := 90) (x := f q 6) dX1_copyFrom_90 fl_X1_49 rfl (hQ.cp (by omega) (by omega) (by omega)).k (by simp [cpS, cpF, stF, show ¬ q = b by omega, show ¬ q = b + 1 by omega, show ¬ q = b + 2 by omega, show ¬ q = b + 4 by omega, show ¬ q = b + 5 by omega, show ¬ q = b + 6 by omega, show ¬ q = b + 7 by omega, show ¬ q = b + 8 by omega, show ¬ q = b + 9 by omega]) ?_
        refine r_putI (pc := 93) dX1_copyFrom_93 fl_X1_49 rfl rfl (hB.cp (by omega) (by omega) (by omega)).k ?_
        refine r_aload_n (pc := 96) 1 dX1_copyFrom_96 rfl rfl ?_
        refine r_aload_n (pc := 97) 2 dX1_copyFrom_97 rfl rfl ?_
        refine r_getIv (pc := 98) (x := f q 7) dX1_copyFrom_98 fl_X1_34 rfl (hQ.cp (by omega) (by omega) (by omega)).k (by simp [cpS, cpF, stF, show ¬ q = b by omega, show ¬ q = b + 1 by omega, show ¬ q = b + 2 by omega, show ¬ q = b + 4 by omega, show ¬ q = b + 5 by omega, show ¬ q = b + 6 by omega, show ¬ q = b + 7 by omega, show ¬ q = b + 8 by omega, show ¬ q = b + 9 by omega]) ?_
        refine r_putI (pc := 101) dX1_copyFrom_101 fl_X1_34 rfl rfl (hB.cp (by omega) (by omega) (by omega)).k ?_
        exact r_vret (pc := 104) dX1_copyFrom_104 rfl ⟨rfl, by rw [show (6 : Nat) = j by omega], rfl⟩
      · refine r_aload_n (pc := 40) 1 dX1_copyFrom_40 rfl rfl ?_
        refine r_getR (pc := 41) (b := (b + 3)) dX1_copyFrom_41 fl_X1_20 rfl (hB.cp (by omega) (by omega) (by omega)).k (hB.cp (by omega) (by omega) (by omega)).r2 ?_
        refine r_iload_n (pc := 44) 0 dX1_copyFrom_44 rfl rfl ?_
        refine r_aload_n (pc := 45) 2 dX1_copyFrom_45 rfl rfl ?_
        refine r_getR (pc := 46) (b := (q + 3)) dX1_copyFrom_46 fl_X1_20 rfl (hQ.cp (by omega) (by omega) (by omega)).k (hQ.cp (by omega) (by omega) (by omega)).r2 ?_
        refine r_iload_n (pc := 49) 0 dX1_copyFrom_49 rfl rfl ?_
        refine r_aald (pc := 50) dX1_copyFrom_50 (hQ.cp (by omega) (by omega) (by omega)).a2 (by decide) (by omega) (by decide) (fun p_ hp_ => ?_) (fun hp_ => ?_)
        · refine r_aast (pc := 51) (j := 3) dX1_copyFrom_51 (hB.cp (by omega) (by omega) (by omega)).a2 (by decide) (by omega) (by decide) (hT j p_ hp_) ?_
          rw [show stR (cpR g (q + 3) (b + 3) j) (b + 3) ((j : Nat) : Int).toNat (some p_) = (cpR g (q + 3) (b + 3) (j + 1)) by rw [← cpR_s g j (show q + 3 ≠ b + 3 by omega)]; rw [show grm (cpR g (q + 3) (b + 3) j) (q + 3) j = (some p_) from hp_]; rfl]
          refine r_iincv (pc := 52) (y := ((j + 1 : Nat) : Int)) (L2 := [(2, (.int (iI (((j + 1 : Nat) : Int))))), (0, (.ref b)), (1, (.ref q))]) 0 dX1_copyFrom_52 rfl (by omega) (by decide) rfl ?_
          refine r_goto (pc := 55) (tgt := 34) dX1_copyFrom_55 (by decide) ?_
          refine r_sub (L2 := [(2, (.int (iI (((j + 1 : Nat) : Int))))), (0, (.ref b)), (1, (.ref q))]) [0, 1, 2] rfl ?_
          exact ih (6 - (j + 1)) (by omega) (j + 1) rfl (by omega)
        · refine r_aastN (pc := 51) dX1_copyFrom_51 (hB.cp (by omega) (by omega) (by omega)).a2 (by decide) (by omega) (by decide) ?_
          rw [show stR (cpR g (q + 3) (b + 3) j) (b + 3) ((j : Nat) : Int).toNat none = (cpR g (q + 3) (b + 3) (j + 1)) by rw [← cpR_s g j (show q + 3 ≠ b + 3 by omega)]; rw [show grm (cpR g (q + 3) (b + 3) j) (q + 3) j = none from hp_]; rfl]
          refine r_iincv (pc := 52) (y := ((j + 1 : Nat) : Int)) (L2 := [(2, (.int (iI (((j + 1 : Nat) : Int))))), (0, (.ref b)), (1, (.ref q))]) 0 dX1_copyFrom_52 rfl (by omega) (by decide) rfl ?_
          refine r_goto (pc := 55) (tgt := 34) dX1_copyFrom_55 (by decide) ?_
          refine r_sub (L2 := [(2, (.int (iI (((j + 1 : Nat) : Int))))), (0, (.ref b)), (1, (.ref q))]) [0, 1, 2] rfl ?_
          exact ih (6 - (j + 1)) (by omega) (j + 1) rfl (by omega)
  refine r_aload_n (pc := 0) 1 dX1_copyFrom_0 rfl rfl ?_
  refine r_getR (pc := 1) (b := (q + 1)) dX1_copyFrom_1 fl_X1_9 rfl hQ.k hQ.r0 ?_
  refine r_iconst (pc := 4) dX1_copyFrom_4 ?_
  refine r_aload_n (pc := 5) 0 dX1_copyFrom_5 rfl rfl ?_
  refine r_getR (pc := 6) (b := (b + 1)) dX1_copyFrom_6 fl_X1_9 rfl hB.k hB.r0 ?_
  refine r_iconst (pc := 9) dX1_copyFrom_9 ?_
  refine r_aload_n (pc := 10) 0 dX1_copyFrom_10 rfl rfl ?_
  refine r_getR (pc := 11) (b := (b + 1)) dX1_copyFrom_11 fl_X1_9 rfl hB.k hB.r0 ?_
  refine r_alen (pc := 14) (n := 40) dX1_copyFrom_14 hB.a0 (by decide) ?_
  refine r_acopyI (pc := 15) dX1_copyFrom_15 ac_X1_78 hQ.a0 hB.a0 (by decide) (by decide) (by decide) (by decide) (Nat.le_of_ble_eq_true rfl) ?_
  refine r_aload_n (pc := 18) 1 dX1_copyFrom_18 rfl rfl ?_
  refine r_getR (pc := 19) (b := (q + 2)) dX1_copyFrom_19 fl_X1_15 rfl hQ.k hQ.r1 ?_
  refine r_iconst (pc := 22) dX1_copyFrom_22 ?_
  refine r_aload_n (pc := 23) 0 dX1_copyFrom_23 rfl rfl ?_
  refine r_getR (pc := 24) (b := (b + 2)) dX1_copyFrom_24 fl_X1_15 rfl hB.k hB.r1 ?_
  refine r_iconst (pc := 27) dX1_copyFrom_27 ?_
  refine r_iconst (pc := 28) dX1_copyFrom_28 ?_
  refine r_acopyI (pc := 29) dX1_copyFrom_29 ac_X1_78 hQ.a1 hB.a1 (by decide) (by decide) (by decide) (by decide) (Nat.le_of_ble_eq_true rfl) ?_
  refine r_iconst (pc := 32) dX1_copyFrom_32 ?_
  refine r_istore_n (pc := 33) (L2 := [(2, (.int (iI (0)))), (0, (.ref b)), (1, (.ref q))]) dX1_copyFrom_33 rfl (by decide) rfl ?_
  refine r_sub (L2 := [(2, (.int (iI (0)))), (0, (.ref b)), (1, (.ref q))]) [0, 1, 2] rfl ?_
  have h0 := loop 6 0 rfl (by omega)
  rw [cpR_0] at h0
  exact h0

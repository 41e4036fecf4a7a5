section EQJ
variable {l : Launch} {z : Zv} {d : Nat} {k : PMd} {mc ms : Nat} {post : Po} {pc : Nat} {L : List (Nat × Value)} {S : List Value} {g : Gm} {f : Fm} {cb sb : Nat}
theorem r_eqJ {x y : Int} (hv : x = y) (h : PW l z d k mc ms post pc L (.long (lI y) :: S) g f cb sb) : PW l z d k mc ms post pc L (.long (lI x) :: S) g f cb sb := by
  subst hv; exact h
theorem r_aloadN {i : Nat} (j : Nat) (hd : decode k.2.1 pc = .ok (.aload i, 2)) (hj : L[j]? = some (i, .null)) (h : PW l z d k mc ms post (pc + 2) L (.null :: S) g f cb sb) : PW l z d k mc ms post pc L S g f cb sb := by
  intro p e s m args below meth c H locs cells slots ls B hz hl hH hS hc hs
  exact lv_aloadN B.1 B.2.1 hd (lv_at hl j (by rw [List.getElem?_map, hj]; rfl)) (h p e s m args below meth c H locs cells slots ls B hz hl hH hS hc hs)
theorem r_astoreN {i : Nat} {L2 : List (Nat × Value)} (hd : decode k.2.1 pc = .ok (.astore i, 2)) (hn : i < k.2.2.1) (hL : stL i .null L = L2) (h : PW l z d k mc ms post (pc + 2) L2 S g f cb sb) : PW l z d k mc ms post pc L (.null :: S) g f cb sb := by
  intro p e s m args below meth c H locs cells slots ls B hz hl hH hS hc hs
  subst hL
  exact lv_astoreN B.1 B.2.1 hd hl hn (stL_map z i .null L).symm (fun ls2 hl2 => h p e s m args below meth c H locs cells slots ls2 B hz hl2 hH hS hc hs)
end EQJ
theorem clV_0 {e : Nat → Int} {cl : Cl} (h : cl.2.2 = none) : clV e cl = if cl.1 = true then evS e cl.2.1 else some 0 := by
  unfold clV; rw [h]; rfl
theorem clV_1 {e : Nat → Int} {cl : Cl} {t : Term} (h : cl.2.2 = some t) (ht : evT e t = some true) : clV e cl = if cl.1 = true then evS e cl.2.1 else some 0 := by
  unfold clV; rw [h]; simp only [ht]; rfl
theorem clV_2 {e : Nat → Int} {cl : Cl} {t : Term} (h : cl.2.2 = some t) (ht : ¬ evT e t = some true) : clV e cl = none := by
  unfold clV; rw [h]; simp [ht]

set_option maxRecDepth 100000 in
set_option maxHeartbeats 4000000 in
theorem x_mark (l : Launch) (z : Zv) (d : Nat) {g : Gm} {f : Fm} {q k w : Nat} {cls : List Cl} {v : Int} (hL : LawAt g f q cls) (hk : k < cls.length) (hw : w < 4) (hv : f (q + 1) (4 * k + w) = v) : PM l z d mX3_mark [.ref (q + 2), .int (iI ((k : Nat) : Int)), .int (iI ((w : Nat) : Int))] g f 0 0 (rdQ (.int (iI v)) g f) := by
  have n1 : Nat := 0
  have hn := hL.a1
  refine PM.of (by decide +kernel) (Nat.le_of_ble_eq_true rfl) ?_
  refine r_aload_n (pc := 0) 0 dX3_mark_0 rfl rfl ?_
  refine r_getR (pc := 1) (b := (q + 1)) dX3_mark_1 fl_X3_13 rfl hL.k hL.r1 ?_
  refine r_iload_n (pc := 4) 1 dX3_mark_4 rfl rfl ?_
  refine r_iconst (pc := 5) dX3_mark_5 ?_
  refine r_imul (pc := 6) dX3_mark_6 ?_
  refine r_eqI (y := ((k * 4 : Nat) : Int)) (Int.natCast_mul _ _ |>.symm) ?_
  refine r_iload_n (pc := 7) 2 dX3_mark_7 rfl rfl ?_
  refine r_iadd (pc := 8) dX3_mark_8 ?_
  refine r_eqI (y := ((4 * k + w : Nat) : Int)) (by omega) ?_
  refine r_ialdv (pc := 9) (w := v) dX3_mark_9 hL.a1 (by have := hL.2.2.2.2.2.2.2.1; omega) (by have := hL.2.2.2.2.2.2.2.1; omega) (hv) ?_
  exact r_iret (pc := 10) dX3_mark_10 rfl rfl ⟨rfl, rfl, rfl⟩

set_option maxRecDepth 100000 in
set_option maxHeartbeats 4000000 in
theorem c_minL (l : Launch) (z : Zv) (d : Nat) {g : Gm} {f : Fm} {x y : Int} (hx : -9223372036854775808 ≤ x ∧ x ≤ 9223372036854775807) (hy : -9223372036854775808 ≤ y ∧ y ≤ 9223372036854775807) : PM l z d mJ9_min_f86c9 [(.long (lI (x))), (.long (lI (y)))] g f 0 0 (rdQ (.long (lI (min x y))) g f) := by
  refine PM.ofF (by decide +kernel) (Nat.le_of_ble_eq_true rfl) ?_
  refine r_lload_n (pc := 0) 0 dJ9_min_f86c9_0 rfl rfl ?_
  refine r_lload_n (pc := 1) 1 dJ9_min_f86c9_1 rfl rfl ?_
  refine r_lcmp (pc := 2) (w := cmpZ (x) (y)) dJ9_min_f86c9_2  (cmp_z (by omega) (by omega)) ?_
  refine r_if_gt (pc := 3) (tgt := 10) dJ9_min_f86c9_3 (by decide) (cmpZ_r) (fun c_3 => ?_) (fun c_3 => ?_)
  · replace c_3 := cmpZ_gt.mp c_3
    refine r_lload_n (pc := 10) 1 dJ9_min_f86c9_10 rfl rfl ?_
    exact r_lret (pc := 11) dJ9_min_f86c9_11 rfl ⟨by first | rw [Int.min_eq_left (by omega)] | rw [Int.min_eq_right (by omega)], rfl, rfl⟩
  · replace c_3 := cmpZ_le.mp c_3
    refine r_lload_n (pc := 6) 0 dJ9_min_f86c9_6 rfl rfl ?_
    refine r_goto (pc := 7) (tgt := 11) dJ9_min_f86c9_7 (by decide) ?_
    exact r_lret (pc := 11) dJ9_min_f86c9_11 rfl ⟨by first | rw [Int.min_eq_left (by omega)] | rw [Int.min_eq_right (by omega)], rfl, rfl⟩

set_option maxRecDepth 100000 in
set_option maxHeartbeats 4000000 in
theorem c_maxL (l : Launch) (z : Zv) (d : Nat) {g : Gm} {f : Fm} {x y : Int} (hx : -9223372036854775808 ≤ x ∧ x ≤ 9223372036854775807) (hy : -9223372036854775808 ≤ y ∧ y ≤ 9223372036854775807) : PM l z d mJ9_max_f86c9 [(.long (lI (x))), (.long (lI (y)))] g f 0 0 (rdQ (.long (lI (max x y))) g f) := by
  refine PM.ofF (by decide +kernel) (Nat.le_of_ble_eq_true rfl) ?_
  refine r_lload_n (pc := 0) 0 dJ9_max_f86c9_0 rfl rfl ?_
  refine r_lload_n (pc := 1) 1 dJ9_max_f86c9_1 rfl rfl ?_
  refine r_lcmp (pc := 2) (w := cmpZ (x) (y)) dJ9_max_f86c9_2  (cmp_z (by omega) (by omega)) ?_
  refine r_if_lt (pc := 3) (tgt := 10) dJ9_max_f86c9_3 (by decide) (cmpZ_r) (fun c_3 => ?_) (fun c_3 => ?_)
  · replace c_3 := cmpZ_lt.mp c_3
    refine r_lload_n (pc := 10) 1 dJ9_max_f86c9_10 rfl rfl ?_
    exact r_lret (pc := 11) dJ9_max_f86c9_11 rfl ⟨by first | rw [Int.max_eq_left (by omega)] | rw [Int.max_eq_right (by omega)], rfl, rfl⟩
  · replace c_3 := cmpZ_ge.mp c_3
    refine r_lload_n (pc := 6) 0 dJ9_max_f86c9_6 rfl rfl ?_
    refine r_goto (pc := 7) (tgt := 11) dJ9_max_f86c9_7 (by decide) ?_
    exact r_lret (pc := 11) dJ9_max_f86c9_11 rfl ⟨by first | rw [Int.max_eq_left (by omega)] | rw [Int.max_eq_right (by omega)], rfl, rfl⟩

set_option maxRecDepth 100000 in
set_option maxHeartbeats 4000000 in
theorem x_told (l : Launch) (z : Zv) (d : Nat) {g : Gm} {f : Fm} {a k s1 s2 : Nat} {e : Nat → Int} {cl : Cl} {q n1 : Nat} {cls : List Cl} (hL : LawAt g f q cls) (hn : isA g q 11 n1) (hA : AL g a) (ha : a + 2 < 195) (hn4 : n1 ≤ 401) (hk : k < cls.length) (hk12 : cls.length ≤ 12) (hs2 : s2 ≤ n1) (hcl : clc (f q) (f (q + 1)) k cl s1 s2) (hw0 : ∀ k, k < 8 → f (a + 1) k = e k) (he : ∀ k, k < 8 → -1000000000 ≤ e k ∧ e k ≤ 1000000000) : PM l z (d + 2) mX0_told [.ref a, .ref (q + 2), .int (iI ((k : Nat) : Int))] g f 0 0 (fun r g' f' => g = g' ∧ (∀ q', q' ≠ a + 2 → f' q' = f q') ∧ r = some (.long (lI ((clV e cl).getD 1000000001)))) := by
  have hq195 := hL.1
  refine PM.of (by decide +kernel) (Nat.le_of_ble_eq_true rfl) ?_
  obtain ⟨h1, h2, h3, m, h4, h5, h6, h7⟩ := hcl
  have h6 : (cl.2.2 = none ∧ s2 = m) ∨ ∃ t2, cl.2.2 = some t2 ∧ cdT (f q) t2 m s2 ∧ lvs t2 ≤ 50 := by
    match hq : cl.2.2, h6 with
    | none, h6 => exact Or.inl ⟨rfl, h6⟩
    | some t2, h6 => exact Or.inr ⟨t2, rfl, h6⟩
  have hx5 : (cl.1 = true ∧ cdS (f q) cl.2.1 s1 m) ∨ (¬ cl.1 = true ∧ m = s1) := by
    by_cases hc : cl.1 = true
    · rw [if_pos hc] at h5; exact Or.inl ⟨hc, h5⟩
    · rw [if_neg hc] at h5; exact Or.inr ⟨hc, h5⟩
  have hmm : s1 ≤ m ∧ m ≤ s2 := by
    constructor
    · rcases hx5 with h | h
      · exact Nat.le_of_lt (cdS_lt h.2)
      · omega
    · rcases h6 with h | ⟨t2, h, c2, l2⟩
      · omega
      · exact Nat.le_of_lt (cdT_lt c2)
  refine r_aload_n (pc := 0) 1 dX0_told_0 rfl rfl ?_
  refine r_iload_n (pc := 1) 2 dX0_told_1 rfl rfl ?_
  refine r_iconst (pc := 2) dX0_told_2 ?_
  refine r_callV (pc := 3) (As := [(.int (iI (((k : Nat) : Int)))), (.int (iI (1)))]) (S := []) dX0_told_3 cv_X0_40 hL.k rfl (Nat.le_of_ble_eq_true rfl) (x_mark (k := k) (w := 1) l z _ hL (by omega) (by decide) (h2)) (Nat.zero_le _) (Nat.zero_le _) (fun r_3 g_3 f_3 q_3 => ?_)
  obtain ⟨rfl, rfl, rfl⟩ := q_3
  refine r_istore_n (pc := 6) (L2 := [(3, (.int (iI (((s1 : Nat) : Int))))), (0, (.ref a)), (1, (.ref (q + 2))), (2, (.int (iI (((k : Nat) : Int)))))]) dX0_told_6 rfl (by decide) rfl ?_
  refine r_aload_n (pc := 7) 2 dX0_told_7 rfl rfl ?_
  refine r_iload_n (pc := 8) 3 dX0_told_8 rfl rfl ?_
  refine r_iconst (pc := 9) dX0_told_9 ?_
  refine r_callV (pc := 10) (As := [(.int (iI (((k : Nat) : Int)))), (.int (iI (2)))]) (S := []) dX0_told_10 cv_X0_40 hL.k rfl (Nat.le_of_ble_eq_true rfl) (x_mark (k := k) (w := 2) l z _ hL (by omega) (by decide) (h4)) (Nat.zero_le _) (Nat.zero_le _) (fun r_10 g_10 f_10 q_10 => ?_)
  obtain ⟨rfl, rfl, rfl⟩ := q_10
  refine r_istore (pc := 13) (L2 := [(4, (.int (iI (((m : Nat) : Int))))), (3, (.int (iI (((s1 : Nat) : Int))))), (0, (.ref a)), (1, (.ref (q + 2))), (2, (.int (iI (((k : Nat) : Int)))))]) dX0_told_13 (by decide) rfl ?_
  refine r_aload_n (pc := 15) 3 dX0_told_15 rfl rfl ?_
  refine r_iload_n (pc := 16) 4 dX0_told_16 rfl rfl ?_
  refine r_iconst (pc := 17) dX0_told_17 ?_
  refine r_callV (pc := 18) (As := [(.int (iI (((k : Nat) : Int)))), (.int (iI (3)))]) (S := []) dX0_told_18 cv_X0_40 hL.k rfl (Nat.le_of_ble_eq_true rfl) (x_mark (k := k) (w := 3) l z _ hL (by omega) (by decide) (h3)) (Nat.zero_le _) (Nat.zero_le _) (fun r_18 g_18 f_18 q_18 => ?_)
  obtain ⟨rfl, rfl, rfl⟩ := q_18
  refine r_istore (pc := 21) (L2 := [(5, (.int (iI (((s2 : Nat) : Int))))), (4, (.int (iI (((m : Nat) : Int))))), (3, (.int (iI (((s1 : Nat) : Int))))), (0, (.ref a)), (1, (.ref (q + 2))), (2, (.int (iI (((k : Nat) : Int)))))]) dX0_told_21 (by decide) rfl ?_
  refine r_iload (pc := 23) 1 dX0_told_23 rfl ?_
  refine r_iload (pc := 25) 0 dX0_told_25 rfl ?_
  refine r_icmp_ge (pc := 27) (tgt := 64) dX0_told_27 (by decide) (by omega) (by omega) (fun c_27 => ?_) (fun c_27 => ?_)
  · have e2 : cl.2.2 = none := by rcases h6 with h | ⟨t2, h, c2, l2⟩; exact h.1; have := cdT_lt c2; omega
    have hclv := clV_0 (e := e) e2
    refine r_iload_n (pc := 64) 2 dX0_told_64 rfl rfl ?_
    refine r_iload (pc := 65) 1 dX0_told_65 rfl ?_
    refine r_icmp_ge (pc := 67) (tgt := 84) dX0_told_67 (by decide) (by omega) (by omega) (fun c_67 => ?_) (fun c_67 => ?_)
    · have hcw : ¬ cl.1 = true := by rcases hx5 with h | h; have := cdS_lt h.2; omega; exact h.1
      refine r_lconst (pc := 84) (x := 0) dX0_told_84 (by decide) ?_
      exact r_lret (pc := 85) dX0_told_85 rfl ⟨rfl, fun _ _ => rfl, by rw [hclv, if_neg hcw]; rfl⟩
    · have hcw : cl.1 = true := by rcases hx5 with h | h; exact h.1; omega
      have hcs : cdS (f q) cl.2.1 s1 m := by rcases hx5 with h | h; exact h.2; omega
      refine r_aload_n (pc := 70) 3 dX0_told_70 rfl rfl ?_
      refine r_aload_n (pc := 71) 4 dX0_told_71 rfl rfl ?_
      refine r_getR (pc := 72) (b := q) dX0_told_72 fl_X0_63 rfl hL.k hL.r0 ?_
      refine r_iload_n (pc := 75) 2 dX0_told_75 rfl rfl ?_
      refine r_iload (pc := 76) 1 dX0_told_76 rfl ?_
      refine r_callV (pc := 78) (As := [(.ref q), (.int (iI (((s1 : Nat) : Int)))), (.int (iI (((m : Nat) : Int))))]) (S := []) dX0_told_78 cv_X0_66 hA.k rfl (Nat.le_of_ble_eq_true rfl) (x_workS (e := e) (t := cl.2.1) (n1 := n1) l z _ hA hn hn4 (by omega) (by omega) hw0 he hcs h7) (Nat.zero_le _) (Nat.zero_le _) (fun r_78 g_78 f_78 q_78 => ?_)
      obtain ⟨rfl, hF_78, rfl⟩ := q_78
      refine r_goto (pc := 81) (tgt := 85) dX0_told_81 (by decide) ?_
      exact r_lret (pc := 85) dX0_told_85 rfl ⟨rfl, hF_78, by rw [hclv, if_pos hcw]⟩
  · obtain ⟨t2, e2, c2, l2⟩ : ∃ t2, cl.2.2 = some t2 ∧ cdT (f q) t2 m s2 ∧ lvs t2 ≤ 50 := by rcases h6 with h | h; omega; exact h
    refine r_aload_n (pc := 30) 3 dX0_told_30 rfl rfl ?_
    refine r_aload_n (pc := 31) 4 dX0_told_31 rfl rfl ?_
    refine r_getR (pc := 32) (b := q) dX0_told_32 fl_X0_63 rfl hL.k hL.r0 ?_
    refine r_iload (pc := 35) 1 dX0_told_35 rfl ?_
    refine r_iload (pc := 37) 0 dX0_told_37 rfl ?_
    refine r_callV (pc := 39) (As := [(.ref q), (.int (iI (((m : Nat) : Int)))), (.int (iI (((s2 : Nat) : Int))))]) (S := []) dX0_told_39 cv_X0_66 hA.k rfl (Nat.le_of_ble_eq_true rfl) (x_workT (e := e) (t := t2) (n1 := n1) l z _ hA hn hn4 (by omega) (by omega) hw0 he c2 l2) (Nat.zero_le _) (Nat.zero_le _) (fun r_39 g_39 f_39 q_39 => ?_)
    obtain ⟨rfl, hF_39, rfl⟩ := q_39
    rcases hev : evT e t2 with _ | _ | _
    · refine r_eqJ (y := 1000000001) rfl ?_
      refine r_lstore (pc := 42) (L2 := [(6, (.long (lI (1000000001)))), (5, (.int (iI (((s2 : Nat) : Int))))), (4, (.int (iI (((m : Nat) : Int))))), (3, (.int (iI (((s1 : Nat) : Int))))), (0, (.ref a)), (1, (.ref (q + 2))), (2, (.int (iI (((k : Nat) : Int)))))]) dX0_told_42 (by decide) rfl ?_
      refine r_lload (pc := 44) 0 dX0_told_44 rfl ?_
      refine r_ldc2 (pc := 46) (x := 1000000001) dX0_told_46 kc_X0_47 (by decide) ?_
      refine r_lcmp (pc := 49) (w := cmpZ (1000000001) (1000000001)) dX0_told_49  (cmp_z (by omega) (by omega)) ?_
      refine r_if_eq (pc := 50) (tgt := 60) dX0_told_50 (by decide) (cmpZ_r) (fun c_50 => ?_) (fun c_50 => ?_)
      · replace c_50 := cmpZ_eq.mp c_50
        refine r_ldc2 (pc := 60) (x := 1000000001) dX0_told_60 kc_X0_47 (by decide) ?_
        exact r_lret (pc := 63) dX0_told_63 rfl ⟨rfl, hF_39, by rw [clV_2 e2 (by rw [hev]; simp)]; rfl⟩
      · replace c_50 := (not_congr cmpZ_eq).mp c_50
        exfalso; omega
    · refine r_eqJ (y := 0) (by decide) ?_
      refine r_lstore (pc := 42) (L2 := [(6, (.long (lI (0)))), (5, (.int (iI (((s2 : Nat) : Int))))), (4, (.int (iI (((m : Nat) : Int))))), (3, (.int (iI (((s1 : Nat) : Int))))), (0, (.ref a)), (1, (.ref (q + 2))), (2, (.int (iI (((k : Nat) : Int)))))]) dX0_told_42 (by decide) rfl ?_
      refine r_lload (pc := 44) 0 dX0_told_44 rfl ?_
      refine r_ldc2 (pc := 46) (x := 1000000001) dX0_told_46 kc_X0_47 (by decide) ?_
      refine r_lcmp (pc := 49) (w := cmpZ (0) (1000000001)) dX0_told_49  (cmp_z (by omega) (by omega)) ?_
      refine r_if_eq (pc := 50) (tgt := 60) dX0_told_50 (by decide) (cmpZ_r) (fun c_50 => ?_) (fun c_50 => ?_)
      · replace c_50 := cmpZ_eq.mp c_50
        exfalso; omega
      · replace c_50 := (not_congr cmpZ_eq).mp c_50
        refine r_lload (pc := 53) 0 dX0_told_53 rfl ?_
        refine r_lconst (pc := 55) (x := 0) dX0_told_55 (by decide) ?_
        refine r_lcmp (pc := 56) (w := cmpZ (0) (0)) dX0_told_56  (cmp_z (by omega) (by omega)) ?_
        refine r_if_ne (pc := 57) (tgt := 64) dX0_told_57 (by decide) (cmpZ_r) (fun c_57 => ?_) (fun c_57 => ?_)
        · replace c_57 := (not_congr cmpZ_eq).mp c_57
          exfalso; omega
        · replace c_57 := cmpZ_eq.mp c_57
          refine r_ldc2 (pc := 60) (x := 1000000001) dX0_told_60 kc_X0_47 (by decide) ?_
          exact r_lret (pc := 63) dX0_told_63 rfl ⟨rfl, hF_39, by rw [clV_2 e2 (by rw [hev]; simp)]; rfl⟩
    · refine r_eqJ (y := 1) (by decide) ?_
      refine r_lstore (pc := 42) (L2 := [(6, (.long (lI (1)))), (5, (.int (iI (((s2 : Nat) : Int))))), (4, (.int (iI (((m : Nat) : Int))))), (3, (.int (iI (((s1 : Nat) : Int))))), (0, (.ref a)), (1, (.ref (q + 2))), (2, (.int (iI (((k : Nat) : Int)))))]) dX0_told_42 (by decide) rfl ?_
      refine r_lload (pc := 44) 0 dX0_told_44 rfl ?_
      refine r_ldc2 (pc := 46) (x := 1000000001) dX0_told_46 kc_X0_47 (by decide) ?_
      refine r_lcmp (pc := 49) (w := cmpZ (1) (1000000001)) dX0_told_49  (cmp_z (by omega) (by omega)) ?_
      refine r_if_eq (pc := 50) (tgt := 60) dX0_told_50 (by decide) (cmpZ_r) (fun c_50 => ?_) (fun c_50 => ?_)
      · replace c_50 := cmpZ_eq.mp c_50
        exfalso; omega
      · replace c_50 := (not_congr cmpZ_eq).mp c_50
        refine r_lload (pc := 53) 0 dX0_told_53 rfl ?_
        refine r_lconst (pc := 55) (x := 0) dX0_told_55 (by decide) ?_
        refine r_lcmp (pc := 56) (w := cmpZ (1) (0)) dX0_told_56  (cmp_z (by omega) (by omega)) ?_
        refine r_if_ne (pc := 57) (tgt := 64) dX0_told_57 (by decide) (cmpZ_r) (fun c_57 => ?_) (fun c_57 => ?_)
        · replace c_57 := (not_congr cmpZ_eq).mp c_57
          have hclv := clV_1 (e := e) e2 hev
          refine r_iload_n (pc := 64) 3 dX0_told_64 rfl rfl ?_
          refine r_iload (pc := 65) 2 dX0_told_65 rfl ?_
          refine r_icmp_ge (pc := 67) (tgt := 84) dX0_told_67 (by decide) (by omega) (by omega) (fun c_67 => ?_) (fun c_67 => ?_)
          · have hcw : ¬ cl.1 = true := by rcases hx5 with h | h; have := cdS_lt h.2; omega; exact h.1
            refine r_lconst (pc := 84) (x := 0) dX0_told_84 (by decide) ?_
            exact r_lret (pc := 85) dX0_told_85 rfl ⟨rfl, hF_39, by rw [hclv, if_neg hcw]; rfl⟩
          · have hcw : cl.1 = true := by rcases hx5 with h | h; exact h.1; omega
            have hcs : cdS (f q) cl.2.1 s1 m := by rcases hx5 with h | h; exact h.2; omega
            refine r_aload_n (pc := 70) 4 dX0_told_70 rfl rfl ?_
            refine r_aload_n (pc := 71) 5 dX0_told_71 rfl rfl ?_
            refine r_getR (pc := 72) (b := q) dX0_told_72 fl_X0_63 rfl hL.k hL.r0 ?_
            refine r_iload_n (pc := 75) 3 dX0_told_75 rfl rfl ?_
            refine r_iload (pc := 76) 2 dX0_told_76 rfl ?_
            refine r_callV (pc := 78) (As := [(.ref q), (.int (iI (((s1 : Nat) : Int)))), (.int (iI (((m : Nat) : Int))))]) (S := []) dX0_told_78 cv_X0_66 hA.k rfl (Nat.le_of_ble_eq_true rfl) (x_workS (e := e) (t := cl.2.1) (n1 := n1) l z _ hA hn hn4 (by omega) (by omega) (fun k hk => by rw [hF_39 (a + 1) (by omega)]; exact hw0 k hk) he (by rw [hF_39 q (by omega)]; exact hcs) h7) (Nat.zero_le _) (Nat.zero_le _) (fun r_78 g_78 f_78 q_78 => ?_)
            obtain ⟨rfl, hF_78, rfl⟩ := q_78
            refine r_goto (pc := 81) (tgt := 85) dX0_told_81 (by decide) ?_
            exact r_lret (pc := 85) dX0_told_85 rfl ⟨rfl, fun q h => (hF_78 q h).trans (hF_39 q h), by rw [hclv, if_pos hcw]⟩
        · replace c_57 := cmpZ_eq.mp c_57
          exfalso; omega

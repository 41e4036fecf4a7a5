theorem x_tr (l : Launch) (z : Zv) (d : Nat) {g : Gm} {f : Fm} {b w c : Nat} {v : Int} (hB : BL g b) (hw : w < 5) (hc : c < 8) (hv : f (b + 1) (8 * w + c) = v) : PM l z d mX1_trait [.ref b, .int (iI ((w : Nat) : Int)), .int (iI ((c : Nat) : Int))] g f 0 0 (rdQ (.int (iI v)) g f) := by
  refine PM.mono (c_trait l z d f (w := (w : Int)) (c := (c : Int)) hB (by omega) (by omega)) (fun r g' f' hq => ?_)
  obtain ⟨h1, h2, h3⟩ := hq
  refine ⟨?_, h2, h3⟩
  rw [h1, show ((w : Int) * 8 + (c : Int)).toNat = 8 * w + c by omega, hv]
theorem lwc_get {A M : Nat → Int} {cls : List Cl} {n k : Nat} (h : lwc A M cls 0 0 n) (hk : k < cls.length) : ∃ cl, cls[k]? = some cl ∧ ∃ s1 s2, clc A M k cl s1 s2 ∧ s1 ≤ s2 ∧ s2 ≤ n := by
  obtain ⟨s1, s2, h1, h2, h3⟩ := lwc_at cls 0 0 n k hk h
  rw [Nat.zero_add] at h1
  exact ⟨cls[k], List.getElem?_eq_getElem hk, s1, s2, h1, h2, h3⟩
def wstep (e : Nat → Int) (acc : Int) (c : Cl) : Int := if c.1 = true then (match clV e c with
  | some v => cl40 v
  | none => acc) else acc
theorem wantsL_take {e : Nat → Int} {base : Int} {cls : List Cl} {k : Nat} {cl : Cl} (h : cls[k]? = some cl) : wantsL e base (cls.take (k + 1)) = wstep e (wantsL e base (cls.take k)) cl := by
  rw [List.take_add_one, h]
  unfold wantsL
  rw [List.foldl_append]
  rfl
theorem wstep_v {e : Nat → Int} {acc v : Int} {c : Cl} (h1 : c.1 = true) (h2 : clV e c = some v) : wstep e acc c = cl40 v := by unfold wstep; rw [if_pos h1, h2]
theorem wstep_n {e : Nat → Int} {acc : Int} {c : Cl} (h2 : clV e c = none) : wstep e acc c = acc := by unfold wstep; rw [h2]; split <;> rfl
theorem wstep_f {e : Nat → Int} {acc : Int} {c : Cl} (h1 : ¬ c.1 = true) : wstep e acc c = acc := by unfold wstep; rw [if_neg h1]
theorem cl40_m (v : Int) : cl40 v = max 0 (min 40 v) := by unfold cl40; omega
theorem cl40_r (v : Int) : 0 ≤ cl40 v ∧ cl40 v ≤ 40 := by unfold cl40; omega
theorem wantsL_r {e : Nat → Int} {base : Int} (hb : 0 ≤ base ∧ base ≤ 40) : ∀ cls : List Cl, 0 ≤ wantsL e base cls ∧ wantsL e base cls ≤ 40 := by
  intro cls
  unfold wantsL
  suffices h : ∀ (cls : List Cl) (acc : Int), 0 ≤ acc ∧ acc ≤ 40 → 0 ≤ cls.foldl (wstep e) acc ∧ cls.foldl (wstep e) acc ≤ 40 from h cls base hb
  intro cls
  induction cls with
  | nil => intro acc h; exact h
  | cons c rest ih =>
    intro acc h
    refine ih _ ?_
    unfold wstep
    split
    · split
      · exact cl40_r _
      · exact h
    · exact h
theorem waitsL_drop {e : Nat → Int} {cls : List Cl} {k : Nat} {cl : Cl} (h : cls[k]? = some cl) : waitsL e (cls.drop k) = ((!cl.1 && (clV e cl).isSome) || waitsL e (cls.drop (k + 1))) := by
  obtain ⟨hk, h2⟩ := List.getElem?_eq_some_iff.mp h
  rw [List.drop_eq_getElem_cons hk, h2]
  rfl

set_option maxRecDepth 100000 in
set_option maxHeartbeats 4000000 in
theorem x_inForce (l : Launch) (z : Zv) (d : Nat) {g : Gm} {f : Fm} {b : Nat} {K : Nat → Int} {D M : Int} (hB : BL g b) (hK : BK g f b K) (hO : KO K D M) : PM l z d mX1_lawInForce [.ref b] g f 0 0 (fun r g' f' => g = g' ∧ f = f' ∧ ((K 81 = -1 ∧ r = some .null) ∨ (∃ q, ¬ K 81 = -1 ∧ r = some (.ref (q + 2)) ∧ LawAt g f q (lawK K (K 81).toNat)))) := by
  refine PM.of (by decide +kernel) (Nat.le_of_ble_eq_true rfl) ?_
  refine r_aload_n (pc := 0) 0 dX1_lawInForce_0 rfl rfl ?_
  refine r_getIv (pc := 1) (x := K 81) dX1_lawInForce_1 fl_X1_34 rfl hB.k (hK.fo) ?_
  refine r_if_lt (pc := 4) (tgt := 30) dX1_lawInForce_4 (by decide) (by have := hO.fo; have := hO.nl; omega) (fun c_4 => ?_) (fun c_4 => ?_)
  · refine r_null (pc := 30) dX1_lawInForce_30 ?_
    exact r_aretN (pc := 31) dX1_lawInForce_31 rfl (by simp) ⟨rfl, rfl, Or.inl ⟨by have := hO.fo; omega, rfl⟩⟩
  · refine r_aload_n (pc := 7) 0 dX1_lawInForce_7 rfl rfl ?_
    refine r_getIv (pc := 8) (x := K 81) dX1_lawInForce_8 fl_X1_34 rfl hB.k (hK.fo) ?_
    refine r_aload_n (pc := 11) 0 dX1_lawInForce_11 rfl rfl ?_
    refine r_getIv (pc := 12) (x := K 80) dX1_lawInForce_12 fl_X1_49 rfl hB.k (hK.nl) ?_
    refine r_icmp_ge (pc := 15) (tgt := 30) dX1_lawInForce_15 (by decide) (by have := hO.fo; have := hO.nl; omega) (by have := hO.fo; have := hO.nl; omega) (fun c_15 => ?_) (fun c_15 => ?_)
    · refine r_null (pc := 30) dX1_lawInForce_30 ?_
      exact r_aretN (pc := 31) dX1_lawInForce_31 rfl (by simp) ⟨rfl, rfl, Or.inl ⟨by have := hO.fo; omega, rfl⟩⟩
    · refine r_aload_n (pc := 18) 0 dX1_lawInForce_18 rfl rfl ?_
      refine r_getR (pc := 19) (b := (b + 3)) dX1_lawInForce_19 fl_X1_20 rfl hB.k hB.r2 ?_
      refine r_aload_n (pc := 22) 0 dX1_lawInForce_22 rfl rfl ?_
      refine r_getIv (pc := 23) (x := K 81) dX1_lawInForce_23 fl_X1_34 rfl hB.k (hK.fo) ?_
      obtain ⟨q, hq1, hq2⟩ := hK.lw (K 81).toNat (by omega)
      refine r_aald (pc := 26) dX1_lawInForce_26 hB.a2 (Or.inl rfl) (by have := hO.nl; omega) (by decide) (fun p_26 hp_26 => ?_) (fun hp_26 => ?_)
      · obtain rfl := Option.some.inj (hq1.symm.trans hp_26)
        refine r_goto (pc := 27) (tgt := 31) dX1_lawInForce_27 (by decide) ?_
        exact r_aret (pc := 31) dX1_lawInForce_31 rfl (by simp) ⟨rfl, rfl, Or.inr ⟨q, by omega, rfl, hq2⟩⟩
      · rw [hq1] at hp_26; cases hp_26

set_option maxRecDepth 100000 in
set_option maxHeartbeats 4000000 in
theorem x_meet (l : Launch) (z : Zv) (d : Nat) {g : Gm} {f : Fm} {a b c : Nat} {K : Nat → Int} (hA : AL g a) (hB : BL g b) (hK : BK g f b K) (hab : b + 10 ≤ a) (hc8 : c < 8) : PM l z (d + 1) mX0_meet [.ref a, .ref b, .int (iI ((c : Nat) : Int))] g f 0 0 (fun r g' f' => r = none ∧ g = g' ∧ (∀ q', q' ≠ a + 1 → f' q' = f q') ∧ f' (a + 1) 0 = ((c : Nat) : Int) ∧ f' (a + 1) 1 = K (5 * c) ∧ f' (a + 1) 2 = K (5 * c + 1) ∧ f' (a + 1) 3 = K (5 * c + 2) ∧ f' (a + 1) 4 = K (5 * c + 3) ∧ f' (a + 1) 5 = K 42) := by
  refine PM.of (by decide +kernel) (Nat.le_of_ble_eq_true rfl) ?_
  refine r_aload_n (pc := 0) 0 dX0_meet_0 rfl rfl ?_
  refine r_getR (pc := 1) (b := (a + 1)) dX0_meet_1 fl_X0_13 rfl hA.k hA.r0 ?_
  refine r_iconst (pc := 4) dX0_meet_4 ?_
  refine r_iload_n (pc := 5) 2 dX0_meet_5 rfl rfl ?_
  refine r_iastv (pc := 6) (i := 0) dX0_meet_6 hA.a0 (by decide) (by decide) rfl ?_
  refine r_aload_n (pc := 7) 0 dX0_meet_7 rfl rfl ?_
  refine r_getR (pc := 8) (b := (a + 1)) dX0_meet_8 fl_X0_13 rfl hA.k hA.r0 ?_
  refine r_iconst (pc := 11) dX0_meet_11 ?_
  refine r_aload_n (pc := 12) 1 dX0_meet_12 rfl rfl ?_
  refine r_iconst (pc := 13) dX0_meet_13 ?_
  refine r_iload_n (pc := 14) 2 dX0_meet_14 rfl rfl ?_
  refine r_callV (pc := 15) (As := [(.int (iI (0))), (.int (iI (((c : Nat) : Int))))]) (S := [(.int (iI (1))), (.ref (a + 1))]) dX0_meet_15 cv_X0_26 hB.k rfl (Nat.le_of_ble_eq_true rfl) (x_tr (w := 0) (c := c) l z _ hB (by decide) (by omega) (rdn (by omega) (hK.tr (w := 0) (by decide) (by omega)))) (Nat.zero_le _) (Nat.zero_le _) (fun r_15 g_15 f_15 q_15 => ?_)
  obtain ⟨rfl, rfl, rfl⟩ := q_15
  refine r_iastv (pc := 18) (i := 1) dX0_meet_18 hA.a0 (by decide) (by decide) rfl ?_
  refine r_aload_n (pc := 19) 0 dX0_meet_19 rfl rfl ?_
  refine r_getR (pc := 20) (b := (a + 1)) dX0_meet_20 fl_X0_13 rfl hA.k hA.r0 ?_
  refine r_iconst (pc := 23) dX0_meet_23 ?_
  refine r_aload_n (pc := 24) 1 dX0_meet_24 rfl rfl ?_
  refine r_iconst (pc := 25) dX0_meet_25 ?_
  refine r_iload_n (pc := 26) 2 dX0_meet_26 rfl rfl ?_
  refine r_callV (pc := 27) (As := [(.int (iI (1))), (.int (iI (((c : Nat) : Int))))]) (S := [(.int (iI (2))), (.ref (a + 1))]) dX0_meet_27 cv_X0_26 hB.k rfl (Nat.le_of_ble_eq_true rfl) (x_tr (w := 1) (c := c) l z _ hB (by decide) (by omega) (rdn (by omega) (rdn (by omega) (hK.tr (w := 1) (by decide) (by omega))))) (Nat.zero_le _) (Nat.zero_le _) (fun r_27 g_27 f_27 q_27 => ?_)
  obtain ⟨rfl, rfl, rfl⟩ := q_27
  refine r_iastv (pc := 30) (i := 2) dX0_meet_30 hA.a0 (by decide) (by decide) rfl ?_
  refine r_aload_n (pc := 31) 0 dX0_meet_31 rfl rfl ?_
  refine r_getR (pc := 32) (b := (a + 1)) dX0_meet_32 fl_X0_13 rfl hA.k hA.r0 ?_
  refine r_iconst (pc := 35) dX0_meet_35 ?_
  refine r_aload_n (pc := 36) 1 dX0_meet_36 rfl rfl ?_
  refine r_iconst (pc := 37) dX0_meet_37 ?_
  refine r_iload_n (pc := 38) 2 dX0_meet_38 rfl rfl ?_
  refine r_callV (pc := 39) (As := [(.int (iI (2))), (.int (iI (((c : Nat) : Int))))]) (S := [(.int (iI (3))), (.ref (a + 1))]) dX0_meet_39 cv_X0_26 hB.k rfl (Nat.le_of_ble_eq_true rfl) (x_tr (w := 2) (c := c) l z _ hB (by decide) (by omega) (rdn (by omega) (rdn (by omega) (rdn (by omega) (hK.tr (w := 2) (by decide) (by omega)))))) (Nat.zero_le _) (Nat.zero_le _) (fun r_39 g_39 f_39 q_39 => ?_)
  obtain ⟨rfl, rfl, rfl⟩ := q_39
  refine r_iastv (pc := 42) (i := 3) dX0_meet_42 hA.a0 (by decide) (by decide) rfl ?_
  refine r_aload_n (pc := 43) 0 dX0_meet_43 rfl rfl ?_
  refine r_getR (pc := 44) (b := (a + 1)) dX0_meet_44 fl_X0_13 rfl hA.k hA.r0 ?_
  refine r_iconst (pc := 47) dX0_meet_47 ?_
  refine r_aload_n (pc := 48) 1 dX0_meet_48 rfl rfl ?_
  refine r_iconst (pc := 49) dX0_meet_49 ?_
  refine r_iload_n (pc := 50) 2 dX0_meet_50 rfl rfl ?_
  refine r_callV (pc := 51) (As := [(.int (iI (3))), (.int (iI (((c : Nat) : Int))))]) (S := [(.int (iI (4))), (.ref (a + 1))]) dX0_meet_51 cv_X0_26 hB.k rfl (Nat.le_of_ble_eq_true rfl) (x_tr (w := 3) (c := c) l z _ hB (by decide) (by omega) (rdn (by omega) (rdn (by omega) (rdn (by omega) (rdn (by omega) (hK.tr (w := 3) (by decide) (by omega))))))) (Nat.zero_le _) (Nat.zero_le _) (fun r_51 g_51 f_51 q_51 => ?_)
  obtain ⟨rfl, rfl, rfl⟩ := q_51
  refine r_iastv (pc := 54) (i := 4) dX0_meet_54 hA.a0 (by decide) (by decide) rfl ?_
  refine r_aload_n (pc := 55) 0 dX0_meet_55 rfl rfl ?_
  refine r_getR (pc := 56) (b := (a + 1)) dX0_meet_56 fl_X0_13 rfl hA.k hA.r0 ?_
  refine r_iconst (pc := 59) dX0_meet_59 ?_
  refine r_aload_n (pc := 60) 1 dX0_meet_60 rfl rfl ?_
  refine r_getR (pc := 61) (b := (b + 2)) dX0_meet_61 fl_X0_60 rfl hB.k hB.r1 ?_
  refine r_iconst (pc := 64) dX0_meet_64 ?_
  refine r_ialdv (pc := 65) (w := K 42) dX0_meet_65 hB.a1 (by decide) (by decide) (rdn (by omega) (rdn (by omega) (rdn (by omega) (rdn (by omega) (rdn (by omega) (hK.te (t := 2) (by decide))))))) ?_
  refine r_iastv (pc := 66) (i := 5) dX0_meet_66 hA.a0 (by decide) (by decide) rfl ?_
  exact r_vret (pc := 67) dX0_meet_67 rfl ⟨rfl, rfl, fun q' hq => by rw [stF_n _ _ _ hq, stF_n _ _ _ hq, stF_n _ _ _ hq, stF_n _ _ _ hq, stF_n _ _ _ hq, stF_n _ _ _ hq], rdi (by decide) (rdi (by decide) (rdi (by decide) (rdi (by decide) (rdi (by decide) (stF_s _ _ _ _))))), rdi (by decide) (rdi (by decide) (rdi (by decide) (rdi (by decide) (stF_s _ _ _ _)))), rdi (by decide) (rdi (by decide) (rdi (by decide) (stF_s _ _ _ _))), rdi (by decide) (rdi (by decide) (stF_s _ _ _ _)), rdi (by decide) (stF_s _ _ _ _), stF_s _ _ _ _⟩

set_option maxRecDepth 100000 in
set_option maxHeartbeats 4000000 in
theorem x_askWants (l : Launch) (z : Zv) (d : Nat) {g : Gm} {f : Fm} {a b c : Nat} {K : Nat → Int} {D M : Int} (hA : AL g a) (hB : BL g b) (hK : BK g f b K) (hO : KO K D M) (hD : D ≤ 1000000) (hab : b + 10 ≤ a) (ha : a + 2 < 195) (hc8 : c < 8) : PM l z (d + 3) mX0_askWants [.ref a, .ref b, .int (iI ((c : Nat) : Int))] g f 0 0 (fun r g' f' => g = g' ∧ (∀ q', q' ≠ a + 1 → q' ≠ a + 2 → f' q' = f q') ∧ r = some (.int (iI (wantK K (K 42) (K (5 * c + 3)) c)))) := by
  have hf8 := hO.f hc8
  have hdy := hO.dy
  have he := eK_r hO (day := K 42) (had := K (5 * c + 3)) (oth := -1) hc8 (by omega) (by omega) (by omega)
  refine PM.of (by decide +kernel) (Nat.le_of_ble_eq_true rfl) ?_
  have loop : ∀ (q : Nat), LawAt g f q (lawK K (K 81).toNat) → ¬ K 81 = -1 → ∀ m k : Nat, m = k → k ≤ (lawK K (K 81).toNat).length → ∀ f1 : Fm, (∀ x, x ≠ a + 1 → x ≠ a + 2 → f1 x = f x) → (∀ k, k < 8 → f1 (a + 1) k = (eK K (K 42) (K (5 * c + 3)) c (-1)) k) → wantsL (eK K (K 42) (K (5 * c + 3)) c (-1)) (K (5 * c)) (lawK K (K 81).toNat) = wantsL (eK K (K 42) (K (5 * c + 3)) c (-1)) (K (5 * c)) ((lawK K (K 81).toNat).take k) → PW l z (d + 3) mX0_askWants 0 0 (fun r g' f' => g = g' ∧ (∀ q', q' ≠ a + 1 → q' ≠ a + 2 → f' q' = f q') ∧ r = some (.int (iI (wantK K (K 42) (K (5 * c + 3)) c)))) 46 [(4, (.int (iI (((k : Nat) : Int) - 1)))), (0, (.ref a)), (1, (.ref b)), (2, (.int (iI (((c : Nat) : Int))))), (3, (.ref (q + 2)))] [] g f1 0 0 := by
    intro q hL h81 m
    have hq195 := hL.1
    obtain ⟨hc0, hc12⟩ : 0 < (lawK K (K 81).toNat).length ∧ (lawK K (K 81).toNat).length ≤ 12 := ⟨hL.2.2.2.2.2.2.1, hL.2.2.2.2.2.2.2.1⟩
    induction m using Nat.strongRecOn with
    | _ m ih =>
      intro k hm hk f1 hfr1 hw1 hW
      have hK1 : BK g f1 b K := hK.mem (fun x hx => hfr1 x (by omega) (by omega))
      have hL1 : LawAt g f1 q (lawK K (K 81).toNat) := hL.mem (gx.rf g) (fun x h1 h2 => hfr1 x (by omega) (by omega))
      obtain ⟨n1, hn4, hn, hlw⟩ := hL1.2.2.2.2.2.2.2.2.2
      refine r_iload (pc := 46) 0 dX0_askWants_46 rfl ?_
      refine r_if_lt (pc := 48) (tgt := 100) dX0_askWants_48 (by decide) (by omega) (fun c_48 => ?_) (fun c_48 => ?_)
      · refine r_aload_n (pc := 100) 2 dX0_askWants_100 rfl rfl ?_
        refine r_iconst (pc := 101) dX0_askWants_101 ?_
        refine r_iload_n (pc := 102) 3 dX0_askWants_102 rfl rfl ?_
        refine r_callV (pc := 103) (As := [(.int (iI (0))), (.int (iI (((c : Nat) : Int))))]) (S := []) dX0_askWants_103 cv_X0_26 hB.k rfl (Nat.le_of_ble_eq_true rfl) (x_tr (w := 0) (c := c) l z _ hB (by decide) (by omega) (hK1.tr (w := 0) (by decide) (by omega))) (Nat.zero_le _) (Nat.zero_le _) (fun r_103 g_103 f_103 q_103 => ?_)
        obtain ⟨rfl, rfl, rfl⟩ := q_103
        exact r_iret (pc := 106) dX0_askWants_106 rfl rfl ⟨rfl, hfr1, by rw [wantK, if_neg h81, hW, show k = 0 by omega]; rfl⟩
      · obtain ⟨cl, hget, s1, s2, hcl, hss, hsn⟩ := lwc_get (k := k - 1) hlw (by omega)
        refine r_aload_n (pc := 51) 4 dX0_askWants_51 rfl rfl ?_
        refine r_iload (pc := 52) 0 dX0_askWants_52 rfl ?_
        refine r_eqI (y := ((k - 1 : Nat) : Int)) (by omega) ?_
        refine r_iconst (pc := 54) dX0_askWants_54 ?_
        refine r_callV (pc := 55) (As := [(.int (iI (((k - 1 : Nat) : Int)))), (.int (iI (0)))]) (S := []) dX0_askWants_55 cv_X0_40 hL1.k rfl (Nat.le_of_ble_eq_true rfl) (x_mark (k := k - 1) (w := 0) l z _ hL1 (by omega) (by decide) hcl.1) (Nat.zero_le _) (Nat.zero_le _) (fun r_55 g_55 f_55 q_55 => ?_)
        obtain ⟨rfl, rfl, rfl⟩ := q_55
        refine r_iconst (pc := 58) dX0_askWants_58 ?_
        refine r_icmp_ne (pc := 59) (tgt := 94) dX0_askWants_59 (by decide) (b01_r) (by omega) (fun c_59 => ?_) (fun c_59 => ?_)
        · refine r_iincv (pc := 94) (y := ((k - 1 : Nat) : Int) - 1) (L2 := [(4, (.int (iI (((k - 1 : Nat) : Int) - 1)))), (0, (.ref a)), (1, (.ref b)), (2, (.int (iI (((c : Nat) : Int))))), (3, (.ref (q + 2)))]) 0 dX0_askWants_94 rfl (by omega) (by decide) rfl ?_
          refine r_goto (pc := 97) (tgt := 46) dX0_askWants_97 (by decide) ?_
          refine r_sub (L2 := [(4, (.int (iI (((k - 1 : Nat) : Int) - 1)))), (0, (.ref a)), (1, (.ref b)), (2, (.int (iI (((c : Nat) : Int))))), (3, (.ref (q + 2)))]) [0, 1, 2, 3, 4] rfl ?_
          exact ih (k - 1) (by omega) (k - 1) rfl (by omega) _ hfr1 hw1 (by rw [hW, show k = k - 1 + 1 by omega, wantsL_take hget, Nat.add_sub_cancel]; exact wstep_f (fun hh => c_59 (b01_t hh)))
        · refine r_aload_n (pc := 62) 1 dX0_askWants_62 rfl rfl ?_
          refine r_aload_n (pc := 63) 4 dX0_askWants_63 rfl rfl ?_
          refine r_iload (pc := 64) 0 dX0_askWants_64 rfl ?_
          refine r_eqI (y := ((k - 1 : Nat) : Int)) (by omega) ?_
          refine r_callV (pc := 66) (As := [(.ref (q + 2)), (.int (iI (((k - 1 : Nat) : Int))))]) (S := []) dX0_askWants_66 cv_X0_43 hA.k rfl (Nat.le_of_ble_eq_true rfl) (x_told (e := (eK K (K 42) (K (5 * c + 3)) c (-1))) l z _ hL1 hn hA ha hn4 (by omega) hc12 hsn hcl hw1 he) (Nat.zero_le _) (Nat.zero_le _) (fun r_66 g_66 f_66 q_66 => ?_)
          obtain ⟨rfl, hF_66, rfl⟩ := q_66
          rcases hcv : clV (eK K (K 42) (K (5 * c + 3)) c (-1)) cl with _ | v
          · refine r_eqJ (y := 1000000001) rfl ?_
            refine r_lstore (pc := 69) (L2 := [(5, (.long (lI (1000000001)))), (4, (.int (iI (((k : Nat) : Int) - 1)))), (0, (.ref a)), (1, (.ref b)), (2, (.int (iI (((c : Nat) : Int))))), (3, (.ref (q + 2)))]) dX0_askWants_69 (by decide) rfl ?_
            refine r_lload (pc := 71) 0 dX0_askWants_71 rfl ?_
            refine r_ldc2 (pc := 73) (x := 1000000001) dX0_askWants_73 kc_X0_47 (by decide) ?_
            refine r_lcmp (pc := 76) (w := cmpZ (1000000001) (1000000001)) dX0_askWants_76  (cmp_z (by omega) (by omega)) ?_
            refine r_if_eq (pc := 77) (tgt := 94) dX0_askWants_77 (by decide) (cmpZ_r) (fun c_77 => ?_) (fun c_77 => ?_)
            · replace c_77 := cmpZ_eq.mp c_77
              refine r_iincv (pc := 94) (y := ((k - 1 : Nat) : Int) - 1) (L2 := [(4, (.int (iI (((k - 1 : Nat) : Int) - 1)))), (5, (.long (lI (1000000001)))), (0, (.ref a)), (1, (.ref b)), (2, (.int (iI (((c : Nat) : Int))))), (3, (.ref (q + 2)))]) 1 dX0_askWants_94 rfl (by omega) (by decide) rfl ?_
              refine r_goto (pc := 97) (tgt := 46) dX0_askWants_97 (by decide) ?_
              refine r_sub (L2 := [(4, (.int (iI (((k - 1 : Nat) : Int) - 1)))), (0, (.ref a)), (1, (.ref b)), (2, (.int (iI (((c : Nat) : Int))))), (3, (.ref (q + 2)))]) [0, 2, 3, 4, 5] rfl ?_
              exact ih (k - 1) (by omega) (k - 1) rfl (by omega) _ (fun x h1 h2 => by rw [hF_66 x h2]; exact hfr1 x h1 h2) (fun k hk => by rw [hF_66 (a + 1) (by omega)]; exact hw1 k hk) (by rw [hW, show k = k - 1 + 1 by omega, wantsL_take hget, Nat.add_sub_cancel]; exact wstep_n hcv)
            · replace c_77 := (not_congr cmpZ_eq).mp c_77
              exfalso; omega
          · refine r_eqJ (y := v) rfl ?_
            have hvr := clV_r he hcl hcv
            refine r_lstore (pc := 69) (L2 := [(5, (.long (lI (v)))), (4, (.int (iI (((k : Nat) : Int) - 1)))), (0, (.ref a)), (1, (.ref b)), (2, (.int (iI (((c : Nat) : Int))))), (3, (.ref (q + 2)))]) dX0_askWants_69 (by decide) rfl ?_
            refine r_lload (pc := 71) 0 dX0_askWants_71 rfl ?_
            refine r_ldc2 (pc := 73) (x := 1000000001) dX0_askWants_73 kc_X0_47 (by decide) ?_
            refine r_lcmp (pc := 76) (w := cmpZ (v) (1000000001)) dX0_askWants_76  (cmp_z (by omega) (by omega)) ?_
            refine r_if_eq (pc := 77) (tgt := 94) dX0_askWants_77 (by decide) (cmpZ_r) (fun c_77 => ?_) (fun c_77 => ?_)
            · replace c_77 := cmpZ_eq.mp c_77
              exfalso; omega
            · replace c_77 := (not_congr cmpZ_eq).mp c_77
              refine r_lconst (pc := 80) (x := 0) dX0_askWants_80 (by decide) ?_
              refine r_ldc2 (pc := 81) (x := 40) dX0_askWants_81 kc_X0_49 (by decide) ?_
              refine r_lload (pc := 84) 0 dX0_askWants_84 rfl ?_
              refine r_callS (pc := 86) (As := [(.long (lI (40))), (.long (lI (v)))]) (S := [(.long (lI (0)))]) dX0_askWants_86 cs_X0_51 rfl (Nat.le_of_ble_eq_true rfl) (c_minL l z _ (by omega) (by omega)) (Nat.zero_le _) (Nat.zero_le _) (fun r_86 g_86 f_86 q_86 => ?_)
              obtain ⟨rfl, rfl, rfl⟩ := q_86
              refine r_callS (pc := 89) (As := [(.long (lI (0))), (.long (lI (min (40) (v))))]) (S := []) dX0_askWants_89 cs_X0_57 rfl (Nat.le_of_ble_eq_true rfl) (c_maxL l z _ (by omega) (by omega)) (Nat.zero_le _) (Nat.zero_le _) (fun r_89 g_89 f_89 q_89 => ?_)
              obtain ⟨rfl, rfl, rfl⟩ := q_89
              refine r_l2i (pc := 92) dX0_askWants_92 ?_
              exact r_iret (pc := 93) dX0_askWants_93 rfl rfl ⟨rfl, fun x h1 h2 => by rw [hF_66 x h2]; exact hfr1 x h1 h2, by rw [wantK, if_neg h81, hW, show k = k - 1 + 1 by omega, wantsL_take hget, wstep_v (Decidable.byContradiction fun hh => by rw [b01_f hh] at c_59; omega) hcv, cl40_m]⟩
  refine r_aload_n (pc := 0) 1 dX0_askWants_0 rfl rfl ?_
  refine r_callV (pc := 1) (As := []) (S := []) dX0_askWants_1 cv_X0_20 hB.k rfl (Nat.le_of_ble_eq_true rfl) (x_inForce l z _ hB hK hO) (Nat.zero_le _) (Nat.zero_le _) (fun r_1 g_1 f_1 q_1 => ?_)
  obtain ⟨rfl, rfl, ⟨h81, rfl⟩ | ⟨q, h81, rfl, hL⟩⟩ := q_1
  · refine r_astore_nN (pc := 4) (L2 := [(3, .null), (0, (.ref a)), (1, (.ref b)), (2, (.int (iI (((c : Nat) : Int)))))]) dX0_askWants_4 rfl (by decide) rfl ?_
    refine r_aload_nN (pc := 5) 0 dX0_askWants_5 rfl rfl ?_
    refine r_ifnonnullN (pc := 6) dX0_askWants_6 ?_
    refine r_aload_n (pc := 9) 2 dX0_askWants_9 rfl rfl ?_
    refine r_iconst (pc := 10) dX0_askWants_10 ?_
    refine r_iload_n (pc := 11) 3 dX0_askWants_11 rfl rfl ?_
    refine r_callV (pc := 12) (As := [(.int (iI (0))), (.int (iI (((c : Nat) : Int))))]) (S := []) dX0_askWants_12 cv_X0_26 hB.k rfl (Nat.le_of_ble_eq_true rfl) (x_tr (w := 0) (c := c) l z _ hB (by decide) (by omega) (hK.tr (w := 0) (by decide) (by omega))) (Nat.zero_le _) (Nat.zero_le _) (fun r_12 g_12 f_12 q_12 => ?_)
    obtain ⟨rfl, rfl, rfl⟩ := q_12
    exact r_iret (pc := 15) dX0_askWants_15 rfl rfl ⟨rfl, fun _ _ _ => rfl, by rw [wantK, if_pos h81]; rfl⟩
  · have hq195 := hL.1
    refine r_astore_n (pc := 4) (L2 := [(3, (.ref (q + 2))), (0, (.ref a)), (1, (.ref b)), (2, (.int (iI (((c : Nat) : Int)))))]) dX0_askWants_4 rfl (by decide) rfl ?_
    refine r_aload_n (pc := 5) 0 dX0_askWants_5 rfl rfl ?_
    refine r_ifnonnull (pc := 6) (tgt := 16) dX0_askWants_6 (by decide) ?_
    refine r_aload_n (pc := 16) 1 dX0_askWants_16 rfl rfl ?_
    refine r_aload_n (pc := 17) 2 dX0_askWants_17 rfl rfl ?_
    refine r_iload_n (pc := 18) 3 dX0_askWants_18 rfl rfl ?_
    refine r_callV (pc := 19) (As := [(.ref b), (.int (iI (((c : Nat) : Int))))]) (S := []) dX0_askWants_19 cv_X0_30 hA.k rfl (Nat.le_of_ble_eq_true rfl) (x_meet l z _ hA hB hK hab hc8) (Nat.zero_le _) (Nat.zero_le _) (fun r_19 g_19 f_19 q_19 => ?_)
    obtain ⟨rfl, rfl, hm_fr, hm0, hm1, hm2, hm3, hm4, hm5⟩ := q_19
    have hK_19 : BK g f_19 b K := hK.mem (fun x hx => hm_fr x (by omega))
    refine r_aload_n (pc := 22) 1 dX0_askWants_22 rfl rfl ?_
    refine r_getR (pc := 23) (b := (a + 1)) dX0_askWants_23 fl_X0_13 rfl hA.k hA.r0 ?_
    refine r_bipush (pc := 26) dX0_askWants_26 (by decide) ?_
    refine r_iconst (pc := 28) dX0_askWants_28 ?_
    refine r_iastv (pc := 29) (i := 6) dX0_askWants_29 hA.a0 (by decide) (by decide) rfl ?_
    refine r_aload_n (pc := 30) 1 dX0_askWants_30 rfl rfl ?_
    refine r_getR (pc := 31) (b := (a + 1)) dX0_askWants_31 fl_X0_13 rfl hA.k hA.r0 ?_
    refine r_bipush (pc := 34) dX0_askWants_34 (by decide) ?_
    refine r_iconst (pc := 36) dX0_askWants_36 ?_
    refine r_iastv (pc := 37) (i := 7) dX0_askWants_37 hA.a0 (by decide) (by decide) rfl ?_
    refine r_aload_n (pc := 38) 0 dX0_askWants_38 rfl rfl ?_
    refine r_getIv (pc := 39) (x := (((lawK K (K 81).toNat).length : Nat) : Int)) dX0_askWants_39 fl_X0_34 rfl hL.k (rdn (by omega) (rdn (by omega) (by rw [hm_fr _ (by omega)]; exact hL.cn))) ?_
    refine r_iconst (pc := 42) dX0_askWants_42 ?_
    refine r_isub (pc := 43) dX0_askWants_43 ?_
    refine r_istore (pc := 44) (L2 := [(4, (.int (iI (((((lawK K (K 81).toNat).length : Nat) : Int)) - (1))))), (3, (.ref (q + 2))), (0, (.ref a)), (1, (.ref b)), (2, (.int (iI (((c : Nat) : Int)))))]) dX0_askWants_44 (by decide) rfl ?_
    have hq195 := hL.1
    refine r_sub (L2 := [(4, (.int (iI (((((lawK K (K 81).toNat).length : Nat) : Int)) - (1))))), (0, (.ref a)), (1, (.ref b)), (2, (.int (iI (((c : Nat) : Int))))), (3, (.ref (q + 2)))]) [0, 2, 3, 4, 1] rfl ?_
    exact loop q hL h81 _ (lawK K (K 81).toNat).length rfl (Nat.le_refl _) _ (fun x h1 h2 => by rw [stF_n _ _ _ h1, stF_n _ _ _ h1]; exact hm_fr x h1) (fun k hk => by
      rcases (show k = 0 ∨ k = 1 ∨ k = 2 ∨ k = 3 ∨ k = 4 ∨ k = 5 ∨ k = 6 ∨ k = 7 by omega) with rfl | rfl | rfl | rfl | rfl | rfl | rfl | rfl
      · exact rdi (by decide) (rdi (by decide) hm0)
      · exact rdi (by decide) (rdi (by decide) hm1)
      · exact rdi (by decide) (rdi (by decide) hm2)
      · exact rdi (by decide) (rdi (by decide) hm3)
      · exact rdi (by decide) (rdi (by decide) hm4)
      · exact rdi (by decide) (rdi (by decide) hm5)
      · exact rdi (by decide) (stF_s _ _ _ _)
      · exact stF_s _ _ _ _) (by rw [List.take_length])

set_option maxRecDepth 100000 in
set_option maxHeartbeats 4000000 in
theorem x_askWaits (l : Launch) (z : Zv) (d : Nat) {g : Gm} {f : Fm} {a b c o : Nat} {K : Nat → Int} {D M : Int} (hA : AL g a) (hB : BL g b) (hK : BK g f b K) (hO : KO K D M) (hD : D ≤ 1000000) (hab : b + 10 ≤ a) (ha : a + 2 < 195) (hc8 : c < 8) (ho8 : o < 8) : PM l z (d + 3) mX0_askWaits [.ref a, .ref b, .int (iI ((c : Nat) : Int)), .int (iI ((o : Nat) : Int))] g f 0 0 (fun r g' f' => g = g' ∧ (∀ q', q' ≠ a + 1 → q' ≠ a + 2 → f' q' = f q') ∧ r = some (.int (iI (b01 (waitK K (K 42) (K (5 * c + 3)) c o = true))))) := by
  have hf8 := hO.f hc8
  have hdy := hO.dy
  have he := eK_r hO (day := K 42) (had := K (5 * c + 3)) (oth := ((o : Nat) : Int)) hc8 (by omega) (by omega) (by omega)
  refine PM.of (by decide +kernel) (Nat.le_of_ble_eq_true rfl) ?_
  have loop : ∀ (q : Nat), LawAt g f q (lawK K (K 81).toNat) → ¬ K 81 = -1 → ∀ m i : Nat, m = (lawK K (K 81).toNat).length - i → i ≤ (lawK K (K 81).toNat).length → ∀ f1 : Fm, (∀ x, x ≠ a + 1 → x ≠ a + 2 → f1 x = f x) → (∀ k, k < 8 → f1 (a + 1) k = (eK K (K 42) (K (5 * c + 3)) c ((o : Nat) : Int)) k) → waitsL (eK K (K 42) (K (5 * c + 3)) c ((o : Nat) : Int)) (lawK K (K 81).toNat) = waitsL (eK K (K 42) (K (5 * c + 3)) c ((o : Nat) : Int)) ((lawK K (K 81).toNat).drop i) → PW l z (d + 3) mX0_askWaits 0 0 (fun r g' f' => g = g' ∧ (∀ q', q' ≠ a + 1 → q' ≠ a + 2 → f' q' = f q') ∧ r = some (.int (iI (b01 (waitK K (K 42) (K (5 * c + 3)) c o = true))))) 43 [(5, (.int (iI (((i : Nat) : Int))))), (0, (.ref a)), (1, (.ref b)), (2, (.int (iI (((c : Nat) : Int))))), (3, (.int (iI (((o : Nat) : Int))))), (4, (.ref (q + 2)))] [] g f1 0 0 := by
    intro q hL h81 m
    have hq195 := hL.1
    obtain ⟨hc0, hc12⟩ : 0 < (lawK K (K 81).toNat).length ∧ (lawK K (K 81).toNat).length ≤ 12 := ⟨hL.2.2.2.2.2.2.1, hL.2.2.2.2.2.2.2.1⟩
    induction m using Nat.strongRecOn with
    | _ m ih =>
      intro i hm hi f1 hfr1 hw1 hW
      have hK1 : BK g f1 b K := hK.mem (fun x hx => hfr1 x (by omega) (by omega))
      have hL1 : LawAt g f1 q (lawK K (K 81).toNat) := hL.mem (gx.rf g) (fun x h1 h2 => hfr1 x (by omega) (by omega))
      obtain ⟨n1, hn4, hn, hlw⟩ := hL1.2.2.2.2.2.2.2.2.2
      refine r_iload (pc := 43) 0 dX0_askWaits_43 rfl ?_
      refine r_aload (pc := 45) 5 dX0_askWaits_45 rfl ?_
      refine r_getIv (pc := 47) (x := (((lawK K (K 81).toNat).length : Nat) : Int)) dX0_askWaits_47 fl_X0_34 rfl hL1.k (hL1.cn) ?_
      refine r_icmp_ge (pc := 50) (tgt := 87) dX0_askWaits_50 (by decide) (by omega) (by omega) (fun c_50 => ?_) (fun c_50 => ?_)
      · refine r_iconst (pc := 87) dX0_askWaits_87 ?_
        exact r_iret (pc := 88) dX0_askWaits_88 rfl rfl ⟨rfl, hfr1, by rw [waitK, if_neg h81, hW, show i = (lawK K (K 81).toNat).length by omega, List.drop_length]; rfl⟩
      · obtain ⟨cl, hget, s1, s2, hcl, hss, hsn⟩ := lwc_get (k := i) hlw (by omega)
        refine r_aload (pc := 53) 5 dX0_askWaits_53 rfl ?_
        refine r_iload (pc := 55) 0 dX0_askWaits_55 rfl ?_
        refine r_iconst (pc := 57) dX0_askWaits_57 ?_
        refine r_callV (pc := 58) (As := [(.int (iI (((i : Nat) : Int)))), (.int (iI (0)))]) (S := []) dX0_askWaits_58 cv_X0_40 hL1.k rfl (Nat.le_of_ble_eq_true rfl) (x_mark (k := i) (w := 0) l z _ hL1 (by omega) (by decide) hcl.1) (Nat.zero_le _) (Nat.zero_le _) (fun r_58 g_58 f_58 q_58 => ?_)
        obtain ⟨rfl, rfl, rfl⟩ := q_58
        refine r_if_ne (pc := 61) (tgt := 81) dX0_askWaits_61 (by decide) (b01_r) (fun c_61 => ?_) (fun c_61 => ?_)
        · replace c_61 := b01_nz c_61
          refine r_iincv (pc := 81) (y := ((i + 1 : Nat) : Int)) (L2 := [(5, (.int (iI (((i + 1 : Nat) : Int))))), (0, (.ref a)), (1, (.ref b)), (2, (.int (iI (((c : Nat) : Int))))), (3, (.int (iI (((o : Nat) : Int))))), (4, (.ref (q + 2)))]) 0 dX0_askWaits_81 rfl (by omega) (by decide) rfl ?_
          refine r_goto (pc := 84) (tgt := 43) dX0_askWaits_84 (by decide) ?_
          refine r_sub (L2 := [(5, (.int (iI (((i + 1 : Nat) : Int))))), (0, (.ref a)), (1, (.ref b)), (2, (.int (iI (((c : Nat) : Int))))), (3, (.int (iI (((o : Nat) : Int))))), (4, (.ref (q + 2)))]) [0, 1, 2, 3, 4, 5] rfl ?_
          exact ih ((lawK K (K 81).toNat).length - (i + 1)) (by omega) (i + 1) rfl (by omega) _ hfr1 hw1 (by rw [hW, waitsL_drop hget]; simp [c_61])
        · replace c_61 := b01_z c_61
          refine r_aload_n (pc := 64) 1 dX0_askWaits_64 rfl rfl ?_
          refine r_aload (pc := 65) 5 dX0_askWaits_65 rfl ?_
          refine r_iload (pc := 67) 0 dX0_askWaits_67 rfl ?_
          refine r_callV (pc := 69) (As := [(.ref (q + 2)), (.int (iI (((i : Nat) : Int))))]) (S := []) dX0_askWaits_69 cv_X0_43 hA.k rfl (Nat.le_of_ble_eq_true rfl) (x_told (e := (eK K (K 42) (K (5 * c + 3)) c ((o : Nat) : Int))) l z _ hL1 hn hA ha hn4 (by omega) hc12 hsn hcl hw1 he) (Nat.zero_le _) (Nat.zero_le _) (fun r_69 g_69 f_69 q_69 => ?_)
          obtain ⟨rfl, hF_69, rfl⟩ := q_69
          rcases hcv : clV (eK K (K 42) (K (5 * c + 3)) c ((o : Nat) : Int)) cl with _ | v
          · refine r_eqJ (y := 1000000001) rfl ?_
            refine r_ldc2 (pc := 72) (x := 1000000001) dX0_askWaits_72 kc_X0_47 (by decide) ?_
            refine r_lcmp (pc := 75) (w := cmpZ (1000000001) (1000000001)) dX0_askWaits_75  (cmp_z (by omega) (by omega)) ?_
            refine r_if_eq (pc := 76) (tgt := 81) dX0_askWaits_76 (by decide) (cmpZ_r) (fun c_76 => ?_) (fun c_76 => ?_)
            · replace c_76 := cmpZ_eq.mp c_76
              refine r_iincv (pc := 81) (y := ((i + 1 : Nat) : Int)) (L2 := [(5, (.int (iI (((i + 1 : Nat) : Int))))), (0, (.ref a)), (1, (.ref b)), (2, (.int (iI (((c : Nat) : Int))))), (3, (.int (iI (((o : Nat) : Int))))), (4, (.ref (q + 2)))]) 0 dX0_askWaits_81 rfl (by omega) (by decide) rfl ?_
              refine r_goto (pc := 84) (tgt := 43) dX0_askWaits_84 (by decide) ?_
              refine r_sub (L2 := [(5, (.int (iI (((i + 1 : Nat) : Int))))), (0, (.ref a)), (1, (.ref b)), (2, (.int (iI (((c : Nat) : Int))))), (3, (.int (iI (((o : Nat) : Int))))), (4, (.ref (q + 2)))]) [0, 1, 2, 3, 4, 5] rfl ?_
              exact ih ((lawK K (K 81).toNat).length - (i + 1)) (by omega) (i + 1) rfl (by omega) _ (fun x h1 h2 => by rw [hF_69 x h2]; exact hfr1 x h1 h2) (fun k hk => by rw [hF_69 (a + 1) (by omega)]; exact hw1 k hk) (by rw [hW, waitsL_drop hget]; simp [hcv])
            · replace c_76 := (not_congr cmpZ_eq).mp c_76
              exfalso; omega
          · refine r_eqJ (y := v) rfl ?_
            have hvr := clV_r he hcl hcv
            refine r_ldc2 (pc := 72) (x := 1000000001) dX0_askWaits_72 kc_X0_47 (by decide) ?_
            refine r_lcmp (pc := 75) (w := cmpZ (v) (1000000001)) dX0_askWaits_75  (cmp_z (by omega) (by omega)) ?_
            refine r_if_eq (pc := 76) (tgt := 81) dX0_askWaits_76 (by decide) (cmpZ_r) (fun c_76 => ?_) (fun c_76 => ?_)
            · replace c_76 := cmpZ_eq.mp c_76
              exfalso; omega
            · replace c_76 := (not_congr cmpZ_eq).mp c_76
              refine r_iconst (pc := 79) dX0_askWaits_79 ?_
              exact r_iret (pc := 80) dX0_askWaits_80 rfl rfl ⟨rfl, fun x h1 h2 => by rw [hF_69 x h2]; exact hfr1 x h1 h2, by rw [waitK, if_neg h81, hW, waitsL_drop hget, b01_t (by simp [hcv, c_61])]⟩
  refine r_aload_n (pc := 0) 1 dX0_askWaits_0 rfl rfl ?_
  refine r_callV (pc := 1) (As := []) (S := []) dX0_askWaits_1 cv_X0_20 hB.k rfl (Nat.le_of_ble_eq_true rfl) (x_inForce l z _ hB hK hO) (Nat.zero_le _) (Nat.zero_le _) (fun r_1 g_1 f_1 q_1 => ?_)
  obtain ⟨rfl, rfl, ⟨h81, rfl⟩ | ⟨q, h81, rfl, hL⟩⟩ := q_1
  · refine r_astoreN (pc := 4) (L2 := [(4, .null), (0, (.ref a)), (1, (.ref b)), (2, (.int (iI (((c : Nat) : Int))))), (3, (.int (iI (((o : Nat) : Int)))))]) dX0_askWaits_4 (by decide) rfl ?_
    refine r_aloadN (pc := 6) 0 dX0_askWaits_6 rfl ?_
    refine r_ifnonnullN (pc := 8) dX0_askWaits_8 ?_
    refine r_iconst (pc := 11) dX0_askWaits_11 ?_
    exact r_iret (pc := 12) dX0_askWaits_12 rfl rfl ⟨rfl, fun _ _ _ => rfl, by rw [waitK, if_pos h81]; rfl⟩
  · have hq195 := hL.1
    refine r_astore (pc := 4) (L2 := [(4, (.ref (q + 2))), (0, (.ref a)), (1, (.ref b)), (2, (.int (iI (((c : Nat) : Int))))), (3, (.int (iI (((o : Nat) : Int)))))]) dX0_askWaits_4 (by decide) rfl ?_
    refine r_aload (pc := 6) 0 dX0_askWaits_6 rfl ?_
    refine r_ifnonnull (pc := 8) (tgt := 13) dX0_askWaits_8 (by decide) ?_
    refine r_aload_n (pc := 13) 1 dX0_askWaits_13 rfl rfl ?_
    refine r_aload_n (pc := 14) 2 dX0_askWaits_14 rfl rfl ?_
    refine r_iload_n (pc := 15) 3 dX0_askWaits_15 rfl rfl ?_
    refine r_callV (pc := 16) (As := [(.ref b), (.int (iI (((c : Nat) : Int))))]) (S := []) dX0_askWaits_16 cv_X0_30 hA.k rfl (Nat.le_of_ble_eq_true rfl) (x_meet l z _ hA hB hK hab hc8) (Nat.zero_le _) (Nat.zero_le _) (fun r_16 g_16 f_16 q_16 => ?_)
    obtain ⟨rfl, rfl, hm_fr, hm0, hm1, hm2, hm3, hm4, hm5⟩ := q_16
    have hK_16 : BK g f_16 b K := hK.mem (fun x hx => hm_fr x (by omega))
    refine r_aload_n (pc := 19) 1 dX0_askWaits_19 rfl rfl ?_
    refine r_getR (pc := 20) (b := (a + 1)) dX0_askWaits_20 fl_X0_13 rfl hA.k hA.r0 ?_
    refine r_bipush (pc := 23) dX0_askWaits_23 (by decide) ?_
    refine r_iload_n (pc := 25) 4 dX0_askWaits_25 rfl rfl ?_
    refine r_iastv (pc := 26) (i := 6) dX0_askWaits_26 hA.a0 (by decide) (by decide) rfl ?_
    refine r_aload_n (pc := 27) 1 dX0_askWaits_27 rfl rfl ?_
    refine r_getR (pc := 28) (b := (a + 1)) dX0_askWaits_28 fl_X0_13 rfl hA.k hA.r0 ?_
    refine r_bipush (pc := 31) dX0_askWaits_31 (by decide) ?_
    refine r_aload_n (pc := 33) 2 dX0_askWaits_33 rfl rfl ?_
    refine r_iconst (pc := 34) dX0_askWaits_34 ?_
    refine r_iload_n (pc := 35) 4 dX0_askWaits_35 rfl rfl ?_
    refine r_callV (pc := 36) (As := [(.int (iI (1))), (.int (iI (((o : Nat) : Int))))]) (S := [(.int (iI (7))), (.ref (a + 1))]) dX0_askWaits_36 cv_X0_26 hB.k rfl (Nat.le_of_ble_eq_true rfl) (x_tr (w := 1) (c := o) l z _ hB (by decide) (by omega) (rdn (by omega) (hK_16.tr (w := 1) (by decide) (by omega)))) (Nat.zero_le _) (Nat.zero_le _) (fun r_36 g_36 f_36 q_36 => ?_)
    obtain ⟨rfl, rfl, rfl⟩ := q_36
    refine r_iastv (pc := 39) (i := 7) dX0_askWaits_39 hA.a0 (by decide) (by decide) rfl ?_
    refine r_iconst (pc := 40) dX0_askWaits_40 ?_
    refine r_istore (pc := 41) (L2 := [(5, (.int (iI (0)))), (4, (.ref (q + 2))), (0, (.ref a)), (1, (.ref b)), (2, (.int (iI (((c : Nat) : Int))))), (3, (.int (iI (((o : Nat) : Int)))))]) dX0_askWaits_41 (by decide) rfl ?_
    have hq195 := hL.1
    refine r_sub (L2 := [(5, (.int (iI (0)))), (0, (.ref a)), (1, (.ref b)), (2, (.int (iI (((c : Nat) : Int))))), (3, (.int (iI (((o : Nat) : Int))))), (4, (.ref (q + 2)))]) [0, 2, 3, 4, 5, 1] rfl ?_
    exact loop q hL h81 (lawK K (K 81).toNat).length 0 rfl (Nat.zero_le _) _ (fun x h1 h2 => by rw [stF_n _ _ _ h1, stF_n _ _ _ h1]; exact hm_fr x h1) (fun k hk => by
      rcases (show k = 0 ∨ k = 1 ∨ k = 2 ∨ k = 3 ∨ k = 4 ∨ k = 5 ∨ k = 6 ∨ k = 7 by omega) with rfl | rfl | rfl | rfl | rfl | rfl | rfl | rfl
      · exact rdi (by decide) (rdi (by decide) hm0)
      · exact rdi (by decide) (rdi (by decide) hm1)
      · exact rdi (by decide) (rdi (by decide) hm2)
      · exact rdi (by decide) (rdi (by decide) hm3)
      · exact rdi (by decide) (rdi (by decide) hm4)
      · exact rdi (by decide) (rdi (by decide) hm5)
      · exact rdi (by decide) (stF_s _ _ _ _)
      · rw [stF_s]; unfold eK; rw [if_neg (by decide), if_neg (by decide), if_neg (by decide), if_neg (by decide), if_neg (by decide), if_neg (by decide), if_neg (by decide), if_neg (by omega)]; rfl) rfl

set_option maxRecDepth 100000 in
set_option maxHeartbeats 4000000 in
theorem m_goesBy (l : Launch) (z : Zv) (d : Nat) {g : Gm} {f : Fm} {n : Nat} {K : Nat → Int} {D0 M0 : Int} {od : Nat → Nat} {pH pB : Nat → Int} (hM : ML g) (hD : MD f n (ovK K) (waK K (K 42) (hdK K)) (wtK K (K 42) (hdK K) n) (bkK K)) (hO : KO K D0 M0) (h40 : f 166 40 = K 40) (h41 : f 166 41 = K 41) (hok : okO od n) (h184 : ∀ i, i < n → f 184 i = ((od i : Nat) : Int)) (h190 : ∀ c, c < n → f 190 c = pH c) (h191 : ∀ c, c < n → f 191 c = pB c) : PM l z (d + 3) mX11_goesBy [.ref 164] g f 0 0 (fun r g' f' => r = some (.int (iI (alK K n od n))) ∧ g = g' ∧ (∀ q, q ≠ 178 → q ≠ 189 → q ≠ 190 → q ≠ 191 → f' q = f q) ∧ (∀ q, q ≤ 1 → f' 178 q = ((bkK K q + swN (ovK K) (waK K (K 42) (hdK K)) q n : Nat) : Int)) ∧ ∀ c, c < n → f' 189 c = gcK K n od c ∧ f' 190 c = pH c + gcK K n od c ∧ f' 191 c = pB c + (((waK K (K 42) (hdK K)) c : Nat) : Int)) := by
  have hn8 := hD.n8
  have hp8 := pow8 hn8
  refine PM.of (by decide +kernel) (Nat.le_of_ble_eq_true rfl) ?_
  have loop : ∀ m i : Nat, m = n - i → i ≤ n → ∀ f1 : Fm, (∀ q, q ≠ 189 → q ≠ 190 → q ≠ 191 → f1 q = f q) → (∀ c, c < n → f1 190 c = (if (sO od i).testBit c = true then pH c + gcK K n od c else pH c) ∧ f1 191 c = (if (sO od i).testBit c = true then pB c + (((waK K (K 42) (hdK K)) c : Nat) : Int) else pB c)) → (∀ j, j < i → f1 189 (od j) = gsK K n od j) → PW l z (d + 3) mX11_goesBy 0 0 (fun r g' f' => r = some (.int (iI (alK K n od n))) ∧ g = g' ∧ (∀ q, q ≠ 178 → q ≠ 189 → q ≠ 190 → q ≠ 191 → f' q = f q) ∧ (∀ q, q ≤ 1 → f' 178 q = ((bkK K q + swN (ovK K) (waK K (K 42) (hdK K)) q n : Nat) : Int)) ∧ ∀ c, c < n → f' 189 c = gcK K n od c ∧ f' 190 c = pH c + gcK K n od c ∧ f' 191 c = pB c + (((waK K (K 42) (hdK K)) c : Nat) : Int)) 6 [(3, (.int (iI (((i : Nat) : Int))))), (2, (.int (iI (alK K n od i)))), (1, (.int (iI (((sO od i : Nat) : Int))))), (0, (.ref 164))] [] g f1 0 0 := by
    intro m
    induction m using Nat.strongRecOn with
    | _ m ih =>
      intro i hm hi f1 hF1 hR1 hG1
      have hD1 : MD f1 n (ovK K) (waK K (K 42) (hdK K)) (wtK K (K 42) (hdK K) n) (bkK K) := hD.mv (hF1 166 (by decide) (by decide) (by decide)) (hF1 176 (by decide) (by decide) (by decide)) (hF1 177 (by decide) (by decide) (by decide)) (hF1 178 (by decide) (by decide) (by decide))
      refine r_iload_n (pc := 6) 0 dX11_goesBy_6 rfl rfl ?_
      refine r_aload_n (pc := 7) 3 dX11_goesBy_7 rfl rfl ?_
      refine r_callV (pc := 8) (As := []) (S := [(.int (iI (((i : Nat) : Int))))]) dX11_goesBy_8 cv_X11_121 hM.k rfl (Nat.le_of_ble_eq_true rfl) (m_cust (v := ((n : Nat) : Int)) l z _ hM hD1.n) (Nat.zero_le _) (Nat.zero_le _) (fun r_8 g_8 f_8 q_8 => ?_)
      obtain ⟨rfl, rfl, rfl⟩ := q_8
      refine r_icmp_ge (pc := 11) (tgt := 93) dX11_goesBy_11 (by decide) (by omega) (by omega) (fun c_11 => ?_) (fun c_11 => ?_)
      · refine r_aload_n (pc := 93) 3 dX11_goesBy_93 rfl rfl ?_
        refine r_callV (pc := 94) (As := []) (S := []) dX11_goesBy_94 cv_X11_336 hM.k rfl (Nat.le_of_ble_eq_true rfl) (m_bakesAll l z (d + 1) hM hD1) (Nat.zero_le _) (Nat.zero_le _) (fun r_94 g_94 f_94 q_94 => ?_)
        obtain ⟨rfl, rfl, hb1, hb2⟩ := q_94
        refine r_iload_n (pc := 97) 1 dX11_goesBy_97 rfl rfl ?_
        have hin : i = n := by omega
        have hfull := bc_full n (sO_bc hok n (Nat.le_refl _))
        exact r_iret (pc := 98) dX11_goesBy_98 rfl rfl ⟨by rw [hin], rfl, fun q h0 h1 h2 h3 => (hb1 q h0).trans (hF1 q h1 h2 h3), hb2, fun c hc => ⟨by
          obtain ⟨j, hj, rfl⟩ := okO_sur hok hc
          rw [hb1 189 (by decide), gcK_at hok hj]; exact hG1 j (by omega), by rw [hb1 190 (by decide), (hR1 c hc).1, hin, if_pos (hfull c hc)], by rw [hb1 191 (by decide), (hR1 c hc).2, hin, if_pos (hfull c hc)]⟩⟩
      · have hod := hok i (by omega)
        have hsl := sO_lt hok i (by omega)
        refine r_aload_n (pc := 14) 3 dX11_goesBy_14 rfl rfl ?_
        refine r_getR (pc := 15) (b := 184) dX11_goesBy_15 fl_X11_76 rfl hM.k hM.r32 ?_
        refine r_iload_n (pc := 18) 0 dX11_goesBy_18 rfl rfl ?_
        refine r_ialdv (pc := 19) (w := ((od i : Nat) : Int)) dX11_goesBy_19 hM.a32 (by omega) (by decide) ((congrFun (hF1 184 (by decide) (by decide) (by decide)) _).trans (h184 i (by omega))) ?_
        refine r_istore (pc := 20) (L2 := [(4, (.int (iI (((od i : Nat) : Int))))), (3, (.int (iI (((i : Nat) : Int))))), (2, (.int (iI (alK K n od i)))), (1, (.int (iI (((sO od i : Nat) : Int))))), (0, (.ref 164))]) dX11_goesBy_20 (by decide) rfl ?_
        refine r_aload_n (pc := 22) 4 dX11_goesBy_22 rfl rfl ?_
        refine r_getR (pc := 23) (b := 189) dX11_goesBy_23 fl_X11_92 rfl hM.k hM.r37 ?_
        refine r_iload (pc := 26) 0 dX11_goesBy_26 rfl ?_
        refine r_aload_n (pc := 28) 4 dX11_goesBy_28 rfl rfl ?_
        refine r_iload_n (pc := 29) 3 dX11_goesBy_29 rfl rfl ?_
        refine r_iload (pc := 30) 0 dX11_goesBy_30 rfl ?_
        refine r_callV (pc := 32) (As := [(.int (iI (((sO od i : Nat) : Int)))), (.int (iI (((od i : Nat) : Int))))]) (S := [(.int (iI (((od i : Nat) : Int)))), (.ref 189)]) dX11_goesBy_32 cv_X11_299 hM.k rfl (Nat.le_of_ble_eq_true rfl) (m_getsOf (s := sO od i) (c := od i) (dz := K 40) (lp := K 41) l z d hM hD1 ((congrFun (hF1 166 (by decide) (by decide) (by decide)) 40).trans h40) ((congrFun (hF1 166 (by decide) (by decide) (by decide)) 41).trans h41) hO.dz hO.lp (by omega) hod.1) (Nat.zero_le _) (Nat.zero_le _) (fun r_32 g_32 f_32 q_32 => ?_)
        obtain ⟨rfl, rfl, rfl⟩ := q_32
        refine r_eqI (y := gsK K n od i) rfl ?_
        refine r_iastv (pc := 35) (i := od i) dX11_goesBy_35 hM.a37 (by omega) (by decide) rfl ?_
        refine r_iload_n (pc := 36) 3 dX11_goesBy_36 rfl rfl ?_
        refine r_iconst (pc := 37) dX11_goesBy_37 ?_
        refine r_iload (pc := 38) 0 dX11_goesBy_38 rfl ?_
        refine r_ishl (pc := 40) (w := ((2 ^ (od i) : Nat) : Int)) dX11_goesBy_40  (iI_shl1 (by omega)) ?_
        refine r_ior (pc := 41) (w := (((sO od i) ||| (2 ^ (od i)) : Nat) : Int)) dX11_goesBy_41  (iI_or _ _) ?_
        refine r_istore_n (pc := 42) (L2 := [(1, (.int (iI ((((sO od i) ||| (2 ^ (od i)) : Nat) : Int))))), (4, (.int (iI (((od i : Nat) : Int))))), (3, (.int (iI (((i : Nat) : Int))))), (2, (.int (iI (alK K n od i)))), (0, (.ref 164))]) dX11_goesBy_42 rfl (by decide) rfl ?_
        refine r_aload_n (pc := 43) 4 dX11_goesBy_43 rfl rfl ?_
        refine r_getR (pc := 44) (b := 190) dX11_goesBy_44 fl_X11_95 rfl hM.k hM.r38 ?_
        refine r_iload (pc := 47) 1 dX11_goesBy_47 rfl ?_
        refine r_dup2 (pc := 49) dX11_goesBy_49 rfl rfl ?_
        refine r_ialdv (pc := 50) (w := pH (od i)) dX11_goesBy_50 hM.a38 (by omega) (by decide) (rdn (by decide) ((hR1 (od i) hod.1).1.trans (if_neg hod.2))) ?_
        refine r_aload_n (pc := 51) 4 dX11_goesBy_51 rfl rfl ?_
        refine r_getR (pc := 52) (b := 189) dX11_goesBy_52 fl_X11_92 rfl hM.k hM.r37 ?_
        refine r_iload (pc := 55) 1 dX11_goesBy_55 rfl ?_
        refine r_ialdv (pc := 57) (w := gsK K n od i) dX11_goesBy_57 hM.a37 (by omega) (by decide) (stF_s _ _ _ _) ?_
        refine r_iadd (pc := 58) dX11_goesBy_58 ?_
        refine r_iastv (pc := 59) (i := od i) dX11_goesBy_59 hM.a38 (by omega) (by decide) rfl ?_
        refine r_aload_n (pc := 60) 4 dX11_goesBy_60 rfl rfl ?_
        refine r_getR (pc := 61) (b := 191) dX11_goesBy_61 fl_X11_98 rfl hM.k hM.r39 ?_
        refine r_iload (pc := 64) 1 dX11_goesBy_64 rfl ?_
        refine r_dup2 (pc := 66) dX11_goesBy_66 rfl rfl ?_
        refine r_ialdv (pc := 67) (w := pB (od i)) dX11_goesBy_67 hM.a39 (by omega) (by decide) (rdn (by decide) (rdn (by decide) ((hR1 (od i) hod.1).2.trans (if_neg hod.2)))) ?_
        refine r_aload_n (pc := 68) 4 dX11_goesBy_68 rfl rfl ?_
        refine r_getR (pc := 69) (b := 176) dX11_goesBy_69 fl_X11_52 rfl hM.k hM.r24 ?_
        refine r_iload (pc := 72) 1 dX11_goesBy_72 rfl ?_
        refine r_ialdv (pc := 74) (w := (((waK K (K 42) (hdK K)) (od i) : Nat) : Int)) dX11_goesBy_74 hM.a24 (by omega) (by decide) (rdn (by decide) (rdn (by decide) ((congrFun (hF1 176 (by decide) (by decide) (by decide)) _).trans (hD.2.2.2.1 _ hod.1).1))) ?_
        refine r_iadd (pc := 75) dX11_goesBy_75 ?_
        refine r_iastv (pc := 76) (i := od i) dX11_goesBy_76 hM.a39 (by omega) (by decide) rfl ?_
        refine r_iload_n (pc := 77) 3 dX11_goesBy_77 rfl rfl ?_
        refine r_aload_n (pc := 78) 4 dX11_goesBy_78 rfl rfl ?_
        refine r_getR (pc := 79) (b := 189) dX11_goesBy_79 fl_X11_92 rfl hM.k hM.r37 ?_
        refine r_iload (pc := 82) 1 dX11_goesBy_82 rfl ?_
        refine r_ialdv (pc := 84) (w := gsK K n od i) dX11_goesBy_84 hM.a37 (by omega) (by decide) (rdn (by decide) (rdn (by decide) (stF_s _ _ _ _))) ?_
        refine r_iadd (pc := 85) dX11_goesBy_85 ?_
        refine r_istore_n (pc := 86) (L2 := [(2, (.int (iI ((alK K n od i) + (gsK K n od i))))), (1, (.int (iI ((((sO od i) ||| (2 ^ (od i)) : Nat) : Int))))), (4, (.int (iI (((od i : Nat) : Int))))), (3, (.int (iI (((i : Nat) : Int))))), (0, (.ref 164))]) dX11_goesBy_86 rfl (by decide) rfl ?_
        refine r_iincv (pc := 87) (y := ((i + 1 : Nat) : Int)) (L2 := [(3, (.int (iI (((i + 1 : Nat) : Int))))), (2, (.int (iI ((alK K n od i) + (gsK K n od i))))), (1, (.int (iI ((((sO od i) ||| (2 ^ (od i)) : Nat) : Int))))), (4, (.int (iI (((od i : Nat) : Int))))), (0, (.ref 164))]) 3 dX11_goesBy_87 rfl (by omega) (by decide) rfl ?_
        refine r_goto (pc := 90) (tgt := 6) dX11_goesBy_90 (by decide) ?_
        refine r_sub (L2 := [(3, (.int (iI (((i + 1 : Nat) : Int))))), (2, (.int (iI (alK K n od (i + 1))))), (1, (.int (iI (((sO od (i + 1) : Nat) : Int))))), (0, (.ref 164))]) [0, 1, 2, 4] rfl ?_
        exact ih (n - (i + 1)) (by omega) (i + 1) (by omega) (by omega) _ (fun q h1 h2 h3 => by rw [stF_n _ _ _ h3, stF_n _ _ _ h2, stF_n _ _ _ h1]; exact hF1 q h1 h2 h3) (fun c hc => by
          have hbit : (sO od (i + 1)).testBit c = ((sO od i).testBit c || decide (od i = c)) := by rw [sO_s, Nat.testBit_or, Nat.testBit_two_pow]
          by_cases e : c = od i
          · subst e
            refine ⟨?_, ?_⟩
            · rw [if_pos (by rw [hbit]; simp)]; refine (rdn (by decide) (stF_s _ _ _ _)).trans ?_; rw [gcK_at hok (by omega)]
            · rw [if_pos (by rw [hbit]; simp)]; exact stF_s _ _ _ _
          · rw [show (sO od (i + 1)).testBit c = (sO od i).testBit c by rw [hbit, decide_eq_false (fun q => e q.symm)]; simp]
            exact ⟨rdn (by decide) (rdi e (rdn (by decide) (hR1 c hc).1)), rdi e (rdn (by decide) (rdn (by decide) (hR1 c hc).2))⟩) (fun j hj => by
          rcases Nat.lt_succ_iff_lt_or_eq.mp hj with h | h
          · exact rdn (by decide) (rdn (by decide) (rdi (okO_ne hok (by omega) h) (hG1 j h)))
          · subst h; exact rdn (by decide) (rdn (by decide) (stF_s _ _ _ _)))
  refine r_iconst (pc := 0) dX11_goesBy_0 ?_
  refine r_istore_n (pc := 1) (L2 := [(1, (.int (iI (0)))), (0, (.ref 164))]) dX11_goesBy_1 rfl (by decide) rfl ?_
  refine r_iconst (pc := 2) dX11_goesBy_2 ?_
  refine r_istore_n (pc := 3) (L2 := [(2, (.int (iI (0)))), (1, (.int (iI (0)))), (0, (.ref 164))]) dX11_goesBy_3 rfl (by decide) rfl ?_
  refine r_iconst (pc := 4) dX11_goesBy_4 ?_
  refine r_istore_n (pc := 5) (L2 := [(3, (.int (iI (0)))), (2, (.int (iI (0)))), (1, (.int (iI (0)))), (0, (.ref 164))]) dX11_goesBy_5 rfl (by decide) rfl ?_
  refine r_sub (L2 := [(3, (.int (iI (((0 : Nat) : Int))))), (2, (.int (iI (alK K n od 0)))), (1, (.int (iI (((sO od 0 : Nat) : Int))))), (0, (.ref 164))]) [0, 1, 2, 3] rfl ?_
  exact loop n 0 (by omega) (by omega) f (fun _ _ _ _ => rfl) (fun c hc => ⟨by rw [show sO od 0 = 0 from rfl, if_neg (by simp)]; exact h190 c hc, by rw [show sO od 0 = 0 from rfl, if_neg (by simp)]; exact h191 c hc⟩) (fun j hj => absurd hj (by omega))

set_option maxRecDepth 100000 in
set_option maxHeartbeats 4000000 in
theorem m_canBe (l : Launch) (z : Zv) (d : Nat) {g : Gm} {f : Fm} {n b0 b1 : Nat} {pH pB : Nat → Int} (hM : ML g) (h77 : f 166 77 = ((n : Nat) : Int)) (hn8 : n ≤ 8) (hp : ∀ c, c < n → f 190 c = pH c ∧ f 191 c = pB c ∧ (-1000000000 ≤ pH c ∧ pH c ≤ 1000000000) ∧ (-1000000000 ≤ pB c ∧ pB c ≤ 1000000000)) (hb : f 178 0 = ((b0 : Nat) : Int) ∧ f 178 1 = ((b1 : Nat) : Int)) (hbr : b0 ≤ 2000000 ∧ b1 ≤ 2000000) : PM l z (d + 1) mX11_canBe [.ref 164] g f 0 0 (fun r g' f' => (∃ bb : Bool, r = some (.int (iI (b01 (bb = true)))) ∧ (bb = true ↔ ((∀ c, c < n → pH c ≤ 9999 ∧ pB c ≤ 999999) ∧ b0 ≤ 999999 ∧ b1 ≤ 999999))) ∧ g = g' ∧ f = f') := by
  refine PM.of (by decide +kernel) (Nat.le_of_ble_eq_true rfl) ?_
  have loop : ∀ m c : Nat, m = n - c → c ≤ n → (∀ q, q < c → pH q ≤ 9999 ∧ pB q ≤ 999999) → PW l z (d + 1) mX11_canBe 0 0 (fun r g' f' => (∃ bb : Bool, r = some (.int (iI (b01 (bb = true)))) ∧ (bb = true ↔ ((∀ c, c < n → pH c ≤ 9999 ∧ pB c ≤ 999999) ∧ b0 ≤ 999999 ∧ b1 ≤ 999999))) ∧ g = g' ∧ f = f') 2 [(1, (.int (iI (((c : Nat) : Int))))), (0, (.ref 164))] [] g f 0 0 := by
    intro m
    induction m using Nat.strongRecOn with
    | _ m ih =>
      intro c hm hc0 hc1
      refine r_iload_n (pc := 2) 0 dX11_canBe_2 rfl rfl ?_
      refine r_aload_n (pc := 3) 1 dX11_canBe_3 rfl rfl ?_
      refine r_callV (pc := 4) (As := []) (S := [(.int (iI (((c : Nat) : Int))))]) dX11_canBe_4 cv_X11_121 hM.k rfl (Nat.le_of_ble_eq_true rfl) (m_cust (v := ((n : Nat) : Int)) l z _ hM h77) (Nat.zero_le _) (Nat.zero_le _) (fun r_4 g_4 f_4 q_4 => ?_)
      obtain ⟨rfl, rfl, rfl⟩ := q_4
      refine r_icmp_ge (pc := 7) (tgt := 41) dX11_canBe_7 (by decide) (by omega) (by omega) (fun c_7 => ?_) (fun c_7 => ?_)
      · refine r_aload_n (pc := 41) 1 dX11_canBe_41 rfl rfl ?_
        refine r_getR (pc := 42) (b := 178) dX11_canBe_42 fl_X11_58 rfl hM.k hM.r26 ?_
        refine r_iconst (pc := 45) dX11_canBe_45 ?_
        refine r_ialdv (pc := 46) (w := ((b0 : Nat) : Int)) dX11_canBe_46 hM.a26 (by decide) (by decide) (hb.1) ?_
        refine r_ldc (pc := 47) (x := 999999) dX11_canBe_47 kc_X11_125 (by decide) ?_
        refine r_icmp_gt (pc := 49) (tgt := 67) dX11_canBe_49 (by decide) (by omega) (by omega) (fun c_49 => ?_) (fun c_49 => ?_)
        · refine r_iconst (pc := 67) dX11_canBe_67 ?_
          exact r_iret (pc := 68) dX11_canBe_68 rfl rfl ⟨⟨false, by rw [b01_f (by decide)], ⟨fun h => absurd h (by decide), fun h => absurd h (fun h => by have := h.2; omega)⟩⟩, rfl, rfl⟩
        · refine r_aload_n (pc := 52) 1 dX11_canBe_52 rfl rfl ?_
          refine r_getR (pc := 53) (b := 178) dX11_canBe_53 fl_X11_58 rfl hM.k hM.r26 ?_
          refine r_iconst (pc := 56) dX11_canBe_56 ?_
          refine r_ialdv (pc := 57) (w := ((b1 : Nat) : Int)) dX11_canBe_57 hM.a26 (by decide) (by decide) (hb.2) ?_
          refine r_ldc (pc := 58) (x := 999999) dX11_canBe_58 kc_X11_125 (by decide) ?_
          refine r_icmp_gt (pc := 60) (tgt := 67) dX11_canBe_60 (by decide) (by omega) (by omega) (fun c_60 => ?_) (fun c_60 => ?_)
          · refine r_iconst (pc := 67) dX11_canBe_67 ?_
            exact r_iret (pc := 68) dX11_canBe_68 rfl rfl ⟨⟨false, by rw [b01_f (by decide)], ⟨fun h => absurd h (by decide), fun h => absurd h (fun h => by have := h.2; omega)⟩⟩, rfl, rfl⟩
          · refine r_iconst (pc := 63) dX11_canBe_63 ?_
            refine r_goto (pc := 64) (tgt := 68) dX11_canBe_64 (by decide) ?_
            exact r_iret (pc := 68) dX11_canBe_68 rfl rfl ⟨⟨true, by rw [b01_t rfl], ⟨fun _ => ⟨fun q hq => hc1 q (by omega), by omega, by omega⟩, fun _ => rfl⟩⟩, rfl, rfl⟩
      · have hpc := hp c (by omega)
        refine r_aload_n (pc := 10) 1 dX11_canBe_10 rfl rfl ?_
        refine r_getR (pc := 11) (b := 190) dX11_canBe_11 fl_X11_95 rfl hM.k hM.r38 ?_
        refine r_iload_n (pc := 14) 0 dX11_canBe_14 rfl rfl ?_
        refine r_ialdv (pc := 15) (w := pH c) dX11_canBe_15 hM.a38 (by omega) (by decide) ((hp c (by omega)).1) ?_
        refine r_sipush (pc := 16) dX11_canBe_16 (by decide) ?_
        refine r_icmp_gt (pc := 19) (tgt := 33) dX11_canBe_19 (by decide) (by omega) (by omega) (fun c_19 => ?_) (fun c_19 => ?_)
        · refine r_iconst (pc := 33) dX11_canBe_33 ?_
          exact r_iret (pc := 34) dX11_canBe_34 rfl rfl ⟨⟨false, by rw [b01_f (by decide)], ⟨fun h => absurd h (by decide), fun h => absurd h (fun h => by have := h.1 c (by omega); omega)⟩⟩, rfl, rfl⟩
        · refine r_aload_n (pc := 22) 1 dX11_canBe_22 rfl rfl ?_
          refine r_getR (pc := 23) (b := 191) dX11_canBe_23 fl_X11_98 rfl hM.k hM.r39 ?_
          refine r_iload_n (pc := 26) 0 dX11_canBe_26 rfl rfl ?_
          refine r_ialdv (pc := 27) (w := pB c) dX11_canBe_27 hM.a39 (by omega) (by decide) ((hp c (by omega)).2.1) ?_
          refine r_ldc (pc := 28) (x := 999999) dX11_canBe_28 kc_X11_125 (by decide) ?_
          refine r_icmp_le (pc := 30) (tgt := 35) dX11_canBe_30 (by decide) (by omega) (by omega) (fun c_30 => ?_) (fun c_30 => ?_)
          · refine r_iincv (pc := 35) (y := ((c + 1 : Nat) : Int)) (L2 := [(1, (.int (iI (((c + 1 : Nat) : Int))))), (0, (.ref 164))]) 0 dX11_canBe_35 rfl (by omega) (by decide) rfl ?_
            refine r_goto (pc := 38) (tgt := 2) dX11_canBe_38 (by decide) ?_
            refine r_sub (L2 := [(1, (.int (iI (((c + 1 : Nat) : Int))))), (0, (.ref 164))]) [0, 1] rfl ?_
            exact ih (n - (c + 1)) (by omega) (c + 1) (by omega) (by omega) (fun q hq => by rcases Nat.lt_succ_iff_lt_or_eq.mp hq with h | h; exact hc1 q h; subst h; exact ⟨by omega, by omega⟩)
          · refine r_iconst (pc := 33) dX11_canBe_33 ?_
            exact r_iret (pc := 34) dX11_canBe_34 rfl rfl ⟨⟨false, by rw [b01_f (by decide)], ⟨fun h => absurd h (by decide), fun h => absurd h (fun h => by have := h.1 c (by omega); omega)⟩⟩, rfl, rfl⟩
  refine r_iconst (pc := 0) dX11_canBe_0 ?_
  refine r_istore_n (pc := 1) (L2 := [(1, (.int (iI (0)))), (0, (.ref 164))]) dX11_canBe_1 rfl (by decide) rfl ?_
  refine r_sub (L2 := [(1, (.int (iI (((0 : Nat) : Int))))), (0, (.ref 164))]) [0, 1] rfl ?_
  exact loop n 0 (by omega) (by omega) (fun q hq => absurd hq (by omega))

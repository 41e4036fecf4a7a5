/-! The class's parser. CF: what it leaves; CP: it stands at the token j, with lv parts, s steps. -/
def CF (b t : Nat) (f0 f : Fm) : Prop := (∀ a, a ≠ b → a ≠ b + 2 → a ≠ b + 3 → f a = f0 a) ∧ f b 4 = ((t : Nat) : Int)
def CP (b t : Nat) (f0 f : Fm) (j lv s : Nat) (dy : Int) : Prop := CF b t f0 f ∧ f b 9 = ((pl (f0 (b + 1)) t j : Nat) : Int) ∧ f b 10 = ((tkQ (f0 (b + 1)) t (j + 1) : Nat) : Int) ∧ f b 8 = kj (f0 (b + 1)) t j ∧ (kj (f0 (b + 1)) t j = 257 → f b 11 = vj (f0 (b + 1)) t j) ∧ f b 6 = ((lv : Nat) : Int) ∧ f b 5 = ((s : Nat) : Int) ∧ f b 7 = dy ∧ f b 3 = -1 ∧ (j ≤ tkQ (f0 (b + 1)) t j ∧ s ≤ j + 1 ∧ lv ≤ 50 ∧ (dy = 0 ∨ dy = 1))
section CPS
variable {b t : Nat} {f0 f : Fm} {j lv s : Nat} {dy : Int}
theorem CP.cf (h : CP b t f0 f j lv s dy) : CF b t f0 f := h.1
theorem CP.o (h : CP b t f0 f j lv s dy) {a : Nat} (h1 : a ≠ b) (h2 : a ≠ b + 2) (h3 : a ≠ b + 3) : f a = f0 a := h.1.1 a h1 h2 h3
theorem CP.xt (h : CP b t f0 f j lv s dy) : f b 4 = ((t : Nat) : Int) := h.1.2
theorem CP.p (h : CP b t f0 f j lv s dy) : f b 9 = ((pl (f0 (b + 1)) t j : Nat) : Int) := h.2.1
theorem CP.q (h : CP b t f0 f j lv s dy) : f b 10 = ((tkQ (f0 (b + 1)) t (j + 1) : Nat) : Int) := h.2.2.1
theorem CP.k (h : CP b t f0 f j lv s dy) : f b 8 = kj (f0 (b + 1)) t j := h.2.2.2.1
theorem CP.n (h : CP b t f0 f j lv s dy) (h2 : kj (f0 (b + 1)) t j = 257) : f b 11 = vj (f0 (b + 1)) t j := h.2.2.2.2.1 h2
theorem CP.xl (h : CP b t f0 f j lv s dy) : f b 6 = ((lv : Nat) : Int) := h.2.2.2.2.2.1
theorem CP.xs (h : CP b t f0 f j lv s dy) : f b 5 = ((s : Nat) : Int) := h.2.2.2.2.2.2.1
theorem CP.xd (h : CP b t f0 f j lv s dy) : f b 7 = dy := h.2.2.2.2.2.2.2.1
theorem CP.ft (h : CP b t f0 f j lv s dy) : f b 3 = -1 := h.2.2.2.2.2.2.2.2.1
theorem CP.r (h : CP b t f0 f j lv s dy) : j ≤ tkQ (f0 (b + 1)) t j ∧ s ≤ j + 1 ∧ lv ≤ 50 ∧ (dy = 0 ∨ dy = 1) := h.2.2.2.2.2.2.2.2.2
theorem CP.b1 (h : CP b t f0 f j lv s dy) : f (b + 1) = f0 (b + 1) := h.o (by omega) (by omega) (by omega)
theorem CP.j4 (h : CP b t f0 f j lv s dy) (ht : t ≤ 400) : j ≤ 400 ∧ s ≤ 401 := by
  have h1 := h.r
  have h2 := tkQ_r (B := f0 (b + 1)) (t := t) j
  omega
theorem CF.st (h : CF b t f0 f) {a i : Nat} {x : Int} (ha : a = b ∧ i ≠ 4 ∨ a = b + 2 ∨ a = b + 3) : CF b t f0 (stF f a i x) := by
  refine ⟨fun q h1 h2 h3 => ?_, ?_⟩
  · rw [stF_n _ _ _ (by omega)]; exact h.1 q h1 h2 h3
  · rcases ha with ⟨rfl, hi⟩ | rfl | rfl
    · exact rdi (by omega) h.2
    · exact rdn (by omega) h.2
    · exact rdn (by omega) h.2
/-- one part more -/
theorem CP.part (h : CP b t f0 f j lv s dy) (hl : lv < 50) : CP b t f0 (stF f b 6 ((lv + 1 : Nat) : Int)) j (lv + 1) s dy :=
  ⟨h.cf.st (Or.inl ⟨rfl, by decide⟩), rdi (by decide) h.p, rdi (by decide) h.q, rdi (by decide) h.k, fun q => rdi (by decide) (h.n q), stF_s _ _ _ _, rdi (by decide) h.xs, rdi (by decide) h.xd, rdi (by decide) h.ft, h.r.1, h.r.2.1, by omega, h.r.2.2.2⟩
theorem CP.day (h : CP b t f0 f j lv s dy) {x : Int} (hx : x = 0 ∨ x = 1) : CP b t f0 (stF f b 7 x) j lv s x :=
  ⟨h.cf.st (Or.inl ⟨rfl, by decide⟩), rdi (by decide) h.p, rdi (by decide) h.q, rdi (by decide) h.k, fun q => rdi (by decide) (h.n q), rdi (by decide) h.xl, rdi (by decide) h.xs, stF_s _ _ _ _, rdi (by decide) h.ft, h.r.1, h.r.2.1, h.r.2.2.1, hx⟩
/-- a step more -/
theorem CP.step (h : CP b t f0 f j lv s dy) {x : Int} (hs : s ≤ j) : CP b t f0 (stF (stF f (b + 2) s x) b 5 ((s + 1 : Nat) : Int)) j lv (s + 1) dy :=
  ⟨(h.cf.st (Or.inr (Or.inl rfl))).st (Or.inl ⟨rfl, by decide⟩), rdi (by decide) (rdn (by omega) h.p), rdi (by decide) (rdn (by omega) h.q), rdi (by decide) (rdn (by omega) h.k), fun q => rdi (by decide) (rdn (by omega) (h.n q)), rdi (by decide) (rdn (by omega) h.xl), stF_s _ _ _ _, rdi (by decide) (rdn (by omega) h.xd), rdi (by decide) (rdn (by omega) h.ft), h.r.1, by omega, h.r.2.2.1, h.r.2.2.2⟩
/-- a step is mended, or a mark put -/
theorem CP.fix (h : CP b t f0 f j lv s dy) {a i : Nat} {x : Int} (ha : a = b + 2 ∨ a = b + 3) : CP b t f0 (stF f a i x) j lv s dy :=
  ⟨h.cf.st (by omega), rdn (by omega) h.p, rdn (by omega) h.q, rdn (by omega) h.k, fun q => rdn (by omega) (h.n q), rdn (by omega) h.xl, rdn (by omega) h.xs, rdn (by omega) h.xd, rdn (by omega) h.ft, h.r⟩
/-- on to the next token -/
theorem CP.next (h : CP b t f0 f j lv s dy) (hby : ∀ i, 0 ≤ f0 (b + 1) i ∧ f0 (b + 1) i ≤ 255) (hk : ¬ kj (f0 (b + 1)) t j = 256) : CP b t f0 (advF f b t (tkQ (f0 (b + 1)) t (j + 1))) (j + 1) lv s dy := by
  have hb := h.b1
  have hq := kc_j (t := t) hby j
  have hr := h.r
  have hn := q_next (B := f0 (b + 1)) (t := t) (j := j) (by omega) hr.1
  unfold advF tkF
  rw [hb]
  refine ⟨(((h.cf.st (Or.inl ⟨rfl, by decide⟩)).st (Or.inl ⟨rfl, by decide⟩)).st (Or.inl ⟨rfl, by decide⟩)).st (Or.inl ⟨rfl, by decide⟩), rdi (by decide) (rdi (by decide) (rdi (by decide) (stF_s _ _ _ _))), rdi (by decide) (rdi (by decide) (stF_s _ _ _ _)), rdi (by decide) (stF_s _ _ _ _), fun q => ?_, rdi (by decide) (rdi (by decide) (rdi (by decide) (rdi (by decide) h.xl))), rdi (by decide) (rdi (by decide) (rdi (by decide) (rdi (by decide) h.xs))), rdi (by decide) (rdi (by decide) (rdi (by decide) (rdi (by decide) h.xd))), rdi (by decide) (rdi (by decide) (rdi (by decide) (rdi (by decide) h.ft))), hn, by omega, hr.2.2.1, hr.2.2.2⟩
  rw [stF_s]
  have h3 := kj_257 hby q
  have e1 : tkP (f0 (b + 1)) t (tkQ (f0 (b + 1)) t (j + 1)) = pl (f0 (b + 1)) t (j + 1) := rfl
  rw [e1, tkN, if_neg h3.1, if_neg h3.2.1, if_pos h3.2.2, vj, if_pos q]
theorem advF_o {q a : Nat} (h : a ≠ b) : advF f b t q a = f a := by
  unfold advF tkF
  rw [stF_n _ _ _ h, stF_n _ _ _ h, stF_n _ _ _ h, stF_n _ _ _ h]
end CPS
theorem CP.adv (l : Launch) (z : Zv) {D : Nat} (hD : 6 ≤ D) {g : Gm} {b t : Nat} {f0 f : Fm} {j lv s : Nat} {dy : Int} (hT : TL g b) (ht4 : t ≤ 400) (hby : ∀ i, 0 ≤ f0 (b + 1) i ∧ f0 (b + 1) i ≤ 255) (h : CP b t f0 f j lv s dy) (hk : ¬ kj (f0 (b + 1)) t j = 256) : PM l z D mX8_advance [(.ref b)] g f 0 0 (fun r g' f' => r = none ∧ g = g' ∧ CP b t f0 f' (j + 1) lv s dy ∧ f' (b + 2) = f (b + 2) ∧ f' (b + 3) = f (b + 3)) := by
  obtain ⟨d, rfl⟩ : ∃ d, D = d + 6 := ⟨D - 6, by omega⟩
  refine PM.mono (x_advance l z d hT h.q h.xt (tkQ_r _) ht4 (fun i => by rw [h.b1]; exact hby i)) (fun r g' f' hq => ?_)
  obtain ⟨h1, h2, rfl⟩ := hq
  exact ⟨h1, h2, h.next hby hk, advF_o (by omega), advF_o (by omega)⟩
/-- the end of a reader -/
def cpo (cd : (Nat → Int) → Term → Nat → Nat → Prop) (b t : Nat) (f0 f : Fm) (g : Gm) (j lv s : Nat) (dy : Int) (R : PR) : Po := fun r g' f' => g = g' ∧ match R with
  | .error x => r = some (.int (iI 0)) ∧ f' b 3 = ((pl (f0 (b + 1)) t x : Nat) : Int) ∧ CF b t f0 f'
  | .ok q => r = some (.int (iI 1)) ∧ ∃ s' : Nat, CP b t f0 f' q.2.1 q.2.2 s' (dyO dy q.1) ∧ cd (f' (b + 2)) q.1 s s' ∧ (∀ i, i < s → f' (b + 2) i = f (b + 2) i) ∧ f' (b + 3) = f (b + 3) ∧ q.2.2 = lv + lvs q.1 ∧ s' + j ≤ s + q.2.1
section CPO
variable {cd : (Nat → Int) → Term → Nat → Nat → Prop} {b t : Nat} {f0 f f' : Fm} {g g' : Gm} {j lv s : Nat} {dy : Int} {R : PR} {r : Option Value}
theorem cpo_or (h : cpo cd b t f0 f g j lv s dy R r g' f') : g = g' ∧ ((∃ x, R = .error x ∧ r = some (.int (iI 0)) ∧ f' b 3 = ((pl (f0 (b + 1)) t x : Nat) : Int) ∧ CF b t f0 f') ∨ (∃ tr j1 l1 s', R = .ok (tr, j1, l1) ∧ r = some (.int (iI 1)) ∧ CP b t f0 f' j1 l1 s' (dyO dy tr) ∧ cd (f' (b + 2)) tr s s' ∧ (∀ i, i < s → f' (b + 2) i = f (b + 2) i) ∧ f' (b + 3) = f (b + 3) ∧ l1 = lv + lvs tr ∧ s' + j ≤ s + j1)) := by
  obtain ⟨h1, h2⟩ := h
  refine ⟨h1, ?_⟩
  match R, h2 with
  | .error x, h2 => exact Or.inl ⟨x, rfl, h2.1, h2.2.1, h2.2.2⟩
  | .ok (tr, j1, l1), h2 => obtain ⟨h3, s', h4, h5, h6, h7, h8, h9⟩ := h2; exact Or.inr ⟨tr, j1, l1, s', rfl, h3, h4, h5, h6, h7, h8, h9⟩
theorem cpo_e {x : Nat} (hR : R = .error x) (hx : f' b 3 = ((pl (f0 (b + 1)) t x : Nat) : Int)) (hF : CF b t f0 f') : cpo cd b t f0 f g j lv s dy R (some (.int (iI 0))) g f' := by
  subst hR; exact ⟨rfl, rfl, hx, hF⟩
theorem cpo_k {tr : Term} {j1 l1 s' : Nat} {dy' : Int} (hR : R = .ok (tr, j1, l1)) (hC : CP b t f0 f' j1 l1 s' dy') (hd : dy' = dyO dy tr) (hc : cd (f' (b + 2)) tr s s') (hl : ∀ i, i < s → f' (b + 2) i = f (b + 2) i) (hm : f' (b + 3) = f (b + 3)) (hv : l1 = lv + lvs tr) (hj : s' + j ≤ s + j1) : cpo cd b t f0 f g j lv s dy R (some (.int (iI 1))) g f' := by
  subst hR; subst hd; exact ⟨rfl, rfl, s', hC, hc, hl, hm, hv, hj⟩
end CPO
theorem dyO_2 {dy : Int} {a b c : Term} (h : hasDay c = (hasDay a || hasDay b)) : dyO (dyO dy a) b = dyO dy c := by
  unfold dyO
  rw [h]
  cases hasDay a <;> cases hasDay b <;> rfl

set_option maxRecDepth 100000 in
set_option maxHeartbeats 4000000 in
theorem x_fail (l : Launch) (z : Zv) (d : Nat) {g : Gm} {b t : Nat} {f0 f : Fm} {j lv s : Nat} {dy : Int} (hT : TL g b) (hC : CP b t f0 f j lv s dy) : PM l z d mX8_fail [(.ref b)] g f 0 0 (fun r g' f' => r = some (.int (iI 0)) ∧ g = g' ∧ f' b 3 = ((pl (f0 (b + 1)) t j : Nat) : Int) ∧ CF b t f0 f') := by
  refine PM.of (by decide +kernel) (Nat.le_of_ble_eq_true rfl) ?_
  refine r_aload_n (pc := 0) 0 dX8_fail_0 rfl rfl ?_
  refine r_aload_n (pc := 1) 0 dX8_fail_1 rfl rfl ?_
  refine r_getIv (pc := 2) (x := ((pl (f0 (b + 1)) t j : Nat) : Int)) dX8_fail_2 fl_X8_108 rfl hT.k (hC.p) ?_
  refine r_putI (pc := 5) dX8_fail_5 fl_X8_23 rfl rfl hT.k ?_
  refine r_iconst (pc := 8) dX8_fail_8 ?_
  exact r_iret (pc := 9) dX8_fail_9 rfl rfl ⟨rfl, rfl, stF_s _ _ _ _, hC.cf.st (Or.inl ⟨rfl, by decide⟩)⟩

theorem or16 {a w : Nat} (h : a < 16) : a ||| w * 16 = a + w * 16 := by
  have := Nat.two_pow_add_eq_or_of_lt (i := 4) (b := a) (by omega) w
  rw [show w * 16 = 2 ^ 4 * w by omega, Nat.or_comm, ← this]; omega

set_option maxRecDepth 100000 in
set_option maxHeartbeats 4000000 in
theorem x_write (l : Launch) (z : Zv) (d : Nat) {g : Gm} {b t : Nat} {f0 f : Fm} {j lv s kk w : Nat} {dy : Int} (hT : TL g b) (ht4 : t ≤ 400) (hC : CP b t f0 f j lv s dy) (hk : kk < 16) (hw : w ≤ 1001) (hs : s ≤ j) : PM l z d mX8_write [(.ref b), (.int (iI (((kk : Nat) : Int)))), (.int (iI (((w : Nat) : Int))))] g f 0 0 (fun r g' f' => r = some (.int (iI ((s : Nat) : Int))) ∧ g = g' ∧ CP b t f0 f' j lv (s + 1) dy ∧ f' (b + 2) s = ((kk + 16 * w : Nat) : Int) ∧ (∀ i, i ≠ s → f' (b + 2) i = f (b + 2) i) ∧ f' (b + 3) = f (b + 3)) := by
  refine PM.of (by decide +kernel) (Nat.le_of_ble_eq_true rfl) ?_
  have hs4 := hC.j4 ht4
  have hlt : s ≤ j := hs
  refine r_aload_n (pc := 0) 0 dX8_write_0 rfl rfl ?_
  refine r_getIv (pc := 1) (x := ((s : Nat) : Int)) dX8_write_1 fl_X8_30 rfl hT.k (hC.xs) ?_
  refine r_sipush (pc := 4) dX8_write_4 (by decide) ?_
  refine r_icmp_lt (pc := 7) (tgt := 12) dX8_write_7 (by decide) (by omega) (by omega) (fun c_7 => ?_) (fun c_7 => ?_)
  · refine r_aload_n (pc := 12) 0 dX8_write_12 rfl rfl ?_
    refine r_getR (pc := 13) (b := (b + 2)) dX8_write_13 fl_X8_15 rfl hT.k hT.r1 ?_
    refine r_aload_n (pc := 16) 0 dX8_write_16 rfl rfl ?_
    refine r_getIv (pc := 17) (x := ((s : Nat) : Int)) dX8_write_17 fl_X8_30 rfl hT.k (hC.xs) ?_
    refine r_iload_n (pc := 20) 1 dX8_write_20 rfl rfl ?_
    refine r_iload_n (pc := 21) 2 dX8_write_21 rfl rfl ?_
    refine r_iconst (pc := 22) dX8_write_22 ?_
    refine r_ishl (pc := 23) (w := ((w * 16 : Nat) : Int)) dX8_write_23  (iI_shl (k := 4) (by decide) (by omega)) ?_
    refine r_ior (pc := 24) (w := ((kk + 16 * w : Nat) : Int)) dX8_write_24  (by rw [iI_or, or16 hk]; congr 1; omega) ?_
    refine r_iastv (pc := 25) (i := s) dX8_write_25 hT.a1 (by omega) (by decide) rfl ?_
    refine r_aload_n (pc := 26) 0 dX8_write_26 rfl rfl ?_
    refine r_dup (pc := 27) dX8_write_27 rfl ?_
    refine r_getIv (pc := 28) (x := ((s : Nat) : Int)) dX8_write_28 fl_X8_30 rfl hT.k (rdn (by omega) (hC.xs)) ?_
    refine r_iconst (pc := 31) dX8_write_31 ?_
    refine r_iadd (pc := 32) dX8_write_32 ?_
    refine r_eqI (y := ((s + 1 : Nat) : Int)) (Int.natCast_add _ _ |>.symm) ?_
    refine r_putI (pc := 33) dX8_write_33 fl_X8_30 rfl rfl hT.k ?_
    refine r_aload_n (pc := 36) 0 dX8_write_36 rfl rfl ?_
    refine r_getIv (pc := 37) (x := ((s + 1 : Nat) : Int)) dX8_write_37 fl_X8_30 rfl hT.k (stF_s _ _ _ _) ?_
    refine r_iconst (pc := 40) dX8_write_40 ?_
    refine r_isub (pc := 41) dX8_write_41 ?_
    refine r_eqI (y := ((s : Nat) : Int)) (by omega) ?_
    exact r_iret (pc := 42) dX8_write_42 rfl rfl ⟨rfl, rfl, hC.step hs, rdn (by omega) (stF_s _ _ _ _), fun i hi => rdn (by omega) (rdi hi rfl), by rw [stF_n _ _ _ (by omega), stF_n _ _ _ (by omega)]⟩
  · exfalso; omega

set_option maxRecDepth 100000 in
set_option maxHeartbeats 4000000 in
theorem x_aim (l : Launch) (z : Zv) (d : Nat) {g : Gm} {b t : Nat} {f0 f : Fm} {j lv s q kk : Nat} {dy : Int} (hT : TL g b) (ht4 : t ≤ 400) (hC : CP b t f0 f j lv s dy) (hk : kk < 16) (hkk : f (b + 2) q = ((kk : Nat) : Int)) (hq : q < s) : PM l z d mX8_aimHere [(.ref b), (.int (iI (((q : Nat) : Int))))] g f 0 0 (fun r g' f' => r = none ∧ g = g' ∧ CP b t f0 f' j lv s dy ∧ f' (b + 2) q = ((kk + 16 * s : Nat) : Int) ∧ (∀ i, i ≠ q → f' (b + 2) i = f (b + 2) i) ∧ f' (b + 3) = f (b + 3)) := by
  refine PM.of (by decide +kernel) (Nat.le_of_ble_eq_true rfl) ?_
  have hs4 := hC.j4 ht4
  refine r_iload_n (pc := 0) 1 dX8_aimHere_0 rfl rfl ?_
  refine r_if_lt (pc := 1) (tgt := 27) dX8_aimHere_1 (by decide) (by omega) (fun c_1 => ?_) (fun c_1 => ?_)
  · exfalso; omega
  · refine r_iload_n (pc := 4) 1 dX8_aimHere_4 rfl rfl ?_
    refine r_aload_n (pc := 5) 0 dX8_aimHere_5 rfl rfl ?_
    refine r_getIv (pc := 6) (x := ((s : Nat) : Int)) dX8_aimHere_6 fl_X8_30 rfl hT.k (hC.xs) ?_
    refine r_icmp_ge (pc := 9) (tgt := 27) dX8_aimHere_9 (by decide) (by omega) (by omega) (fun c_9 => ?_) (fun c_9 => ?_)
    · exfalso; omega
    · refine r_aload_n (pc := 12) 0 dX8_aimHere_12 rfl rfl ?_
      refine r_getR (pc := 13) (b := (b + 2)) dX8_aimHere_13 fl_X8_15 rfl hT.k hT.r1 ?_
      refine r_iload_n (pc := 16) 1 dX8_aimHere_16 rfl rfl ?_
      refine r_dup2 (pc := 17) dX8_aimHere_17 rfl rfl ?_
      refine r_ialdv (pc := 18) (w := ((kk : Nat) : Int)) dX8_aimHere_18 hT.a1 (by omega) (by decide) (hkk) ?_
      refine r_aload_n (pc := 19) 0 dX8_aimHere_19 rfl rfl ?_
      refine r_getIv (pc := 20) (x := ((s : Nat) : Int)) dX8_aimHere_20 fl_X8_30 rfl hT.k (hC.xs) ?_
      refine r_iconst (pc := 23) dX8_aimHere_23 ?_
      refine r_ishl (pc := 24) (w := ((s * 16 : Nat) : Int)) dX8_aimHere_24  (iI_shl (k := 4) (by decide) (by omega)) ?_
      refine r_ior (pc := 25) (w := ((kk + 16 * s : Nat) : Int)) dX8_aimHere_25  (by rw [iI_or, or16 hk]; congr 1; omega) ?_
      refine r_iastv (pc := 26) (i := q) dX8_aimHere_26 hT.a1 (by omega) (by decide) rfl ?_
      exact r_vret (pc := 27) dX8_aimHere_27 rfl ⟨rfl, rfl, hC.fix (Or.inl rfl), stF_s _ _ _ _, fun i hi => rdi hi rfl, by rw [stF_n _ _ _ (by omega)]⟩

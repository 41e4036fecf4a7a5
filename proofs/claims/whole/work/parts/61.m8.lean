/-! The model's evaluator: it reads the kept tokens once more. -/
def ET (f0 : Fm) (c v e : Nat → Int) (base T : Nat) : Prop := f0 164 19 = ((base + T : Nat) : Int) ∧ (∀ j, j < T → f0 166 (88 + (base + j)) = c j) ∧ (∀ j, j < T → min (f0 166 (2488 + (base + j))) 1001 = v j ∧ 0 ≤ f0 166 (2488 + (base + j))) ∧ (∀ j, T ≤ j → c j = 0) ∧ (T ≤ 400 ∧ base ≤ 2000) ∧ (∀ k, k < 8 → f0 175 k = e k) ∧ (∀ k, k < 8 → -1000000000 ≤ e k ∧ e k ≤ 1000000000) ∧ ∀ j, 0 ≤ c j ∧ c j ≤ 355
def EG (f0 f : Fm) (base T j : Nat) (bk : Bool) : Prop := (∀ a, a ≠ 164 → f a = f0 a) ∧ (∀ i, i ≠ 18 → i ≠ 20 → f 164 i = f0 164 i) ∧ f 164 18 = ((base + j : Nat) : Int) ∧ f 164 20 = b01 (bk = true) ∧ j ≤ T + 1
section EGS
variable {f0 f : Fm} {c v e : Nat → Int} {base T j : Nat} {bk : Bool}
theorem ET.xe (h : ET f0 c v e base T) : f0 164 19 = ((base + T : Nat) : Int) := h.1
theorem ET.xc (h : ET f0 c v e base T) {i : Nat} (hi : i < T) : f0 166 (88 + (base + i)) = c i := h.2.1 i hi
theorem ET.xv (h : ET f0 c v e base T) {i : Nat} (hi : i < T) : min (f0 166 (2488 + (base + i))) 1001 = v i ∧ 0 ≤ f0 166 (2488 + (base + i)) := h.2.2.1 i hi
theorem ET.c0 (h : ET f0 c v e base T) {i : Nat} (hi : T ≤ i) : c i = 0 := h.2.2.2.1 i hi
theorem ET.r (h : ET f0 c v e base T) : T ≤ 400 ∧ base ≤ 2000 := h.2.2.2.2.1
theorem ET.w (h : ET f0 c v e base T) {k : Nat} (hk : k < 8) : f0 175 k = e k := h.2.2.2.2.2.1 k hk
theorem ET.er (h : ET f0 c v e base T) : ∀ k, k < 8 → -1000000000 ≤ e k ∧ e k ≤ 1000000000 := h.2.2.2.2.2.2.1
theorem ET.cr (h : ET f0 c v e base T) (i : Nat) : 0 ≤ c i ∧ c i ≤ 355 := h.2.2.2.2.2.2.2 i
theorem ET.lt (h : ET f0 c v e base T) {i : Nat} (hc : ¬ c i = 0) : i + 1 ≤ T := by
  rcases (show i + 1 ≤ T ∨ T ≤ i by omega) with q | q
  · exact q
  · exact absurd (h.c0 q) hc
theorem EG.o (h : EG f0 f base T j bk) {a : Nat} (ha : a ≠ 164) : f a = f0 a := h.1 a ha
theorem EG.xg (h : EG f0 f base T j bk) : f 164 18 = ((base + j : Nat) : Int) := h.2.2.1
theorem EG.xb (h : EG f0 f base T j bk) : f 164 20 = b01 (bk = true) := h.2.2.2.1
theorem EG.r (h : EG f0 f base T j bk) : j ≤ T + 1 := h.2.2.2.2
theorem EG.xe (h : EG f0 f base T j bk) (hE : ET f0 c v e base T) : f 164 19 = ((base + T : Nat) : Int) := by rw [h.2.1 19 (by decide) (by decide)]; exact hE.xe
theorem EG.next (h : EG f0 f base T j bk) (hj : j + 1 ≤ T + 1) : EG f0 (stF f 164 18 ((base + j + 1 : Nat) : Int)) base T (j + 1) bk :=
  ⟨fun a ha => by rw [stF_n _ _ _ ha]; exact h.1 a ha, fun i h1 h2 => by rw [stF_i _ _ _ h1]; exact h.2.1 i h1 h2, stF_s _ _ _ _, rdi (by decide) h.xb, hj⟩
theorem EG.br (h : EG f0 f base T j bk) {b : Bool} {x : Int} (hx : x = b01 (b = true)) : EG f0 (stF f 164 20 x) base T j b :=
  ⟨fun a ha => by rw [stF_n _ _ _ ha]; exact h.1 a ha, fun i h1 h2 => by rw [stF_i _ _ _ h2]; exact h.2.1 i h1 h2, rdi (by decide) h.xg, by rw [stF_s]; exact hx, h.r⟩
end EGS
/-- value and broken flag of a SUM, asked live or not, broken before or not -/
def mS (e : Nat → Int) (lb bk : Bool) (t : Term) : Int × Bool := if lb = false then (0, bk) else if bk = true then (0, true) else match evS e t with
  | some x => (x, false)
  | none => (0, true)
def mT (e : Nat → Int) (lb bk : Bool) (t : Term) : Bool := if lb = false then bk else if bk = true then true else (evT e t).isNone
def bdB (lb bk : Bool) (x : Int) : Bool := bk || (lb && decide (x < -1000000000 ∨ 1000000000 < x))
def bdV (lb bk : Bool) (x : Int) : Int × Bool := (if bdB lb bk x = true then 0 else x, bdB lb bk x)
theorem mS_f (e : Nat → Int) (bk : Bool) (t : Term) : mS e false bk t = (0, bk) := rfl
theorem mS_b (e : Nat → Int) (t : Term) : mS e true true t = (0, true) := rfl
theorem mS_s {e : Nat → Int} {t : Term} {x : Int} (h : evS e t = some x) : mS e true false t = (x, false) := by unfold mS; rw [h]; rfl
theorem mS_n {e : Nat → Int} {t : Term} (h : evS e t = none) : mS e true false t = (0, true) := by unfold mS; rw [h]; rfl
theorem bnd_o2 {x : Int} (h : ¬ (x < -1000000000 ∨ 1000000000 < x)) : bnd x = some x := if_pos (by omega)
theorem mS_op {e : Nat → Int} {lb bk : Bool} {a b t : Term} {op : Int → Int → Int} (ht : ∀ x y, evS e a = some x → evS e b = some y → evS e t = bnd (op x y)) (h1 : evS e a = none → evS e t = none) (h2 : evS e b = none → evS e t = none) (h0 : op 0 0 = 0) : bdV lb (mS e lb (mS e lb bk a).2 b).2 (op (mS e lb bk a).1 (mS e lb (mS e lb bk a).2 b).1) = mS e lb bk t := by
  cases lb with
  | false => simp only [mS_f, h0]; unfold bdV bdB; cases bk <;> simp
  | true =>
    cases bk with
    | true => simp only [mS_b, h0]; unfold bdV bdB; simp
    | false =>
      rcases ha : evS e a with _ | x
      · rw [mS_n ha, mS_n (h1 ha)]; simp only [mS_b, h0]; unfold bdV bdB; simp
      · rw [mS_s ha]
        dsimp only
        rcases hb : evS e b with _ | y
        · rw [mS_n hb, mS_n (h2 hb)]; unfold bdV bdB; simp
        · rw [mS_s hb]
          dsimp only
          by_cases hr : op x y < -1000000000 ∨ 1000000000 < op x y
          · rw [mS_n (by rw [ht x y ha hb]; exact bnd_n hr)]; unfold bdV bdB; simp [hr]
          · rw [mS_s (by rw [ht x y ha hb]; exact bnd_o2 hr)]; unfold bdV bdB; simp [hr]

set_option maxRecDepth 100000 in
set_option maxHeartbeats 4000000 in
theorem m_codeAt (l : Launch) (z : Zv) (d : Nat) {g : Gm} {f0 : Fm} {c v e : Nat → Int} {base T : Nat} (hM : ML g) (hE : ET f0 c v e base T) {f : Fm} {j : Nat} {bk : Bool} (hG : EG f0 f base T j bk) : PM l z d mX11_codeAt [.ref 164, .int (iI ((base + j : Nat) : Int))] g f 0 0 (rdQ (.int (iI (c j))) g f) := by
  refine PM.of (by decide +kernel) (Nat.le_of_ble_eq_true rfl) ?_
  have hr := hE.r
  have hj := hG.r
  refine r_iload_n (pc := 0) 1 dX11_codeAt_0 rfl rfl ?_
  refine r_aload_n (pc := 1) 0 dX11_codeAt_1 rfl rfl ?_
  refine r_getIv (pc := 2) (x := ((base + T : Nat) : Int)) dX11_codeAt_2 fl_X11_225 rfl hM.k (hG.xe hE) ?_
  refine r_icmp_ge (pc := 5) (tgt := 20) dX11_codeAt_5 (by decide) (by omega) (by omega) (fun c_5 => ?_) (fun c_5 => ?_)
  · refine r_iconst (pc := 20) dX11_codeAt_20 ?_
    exact r_iret (pc := 21) dX11_codeAt_21 rfl rfl ⟨by rw [hE.c0 (by omega)], rfl, rfl⟩
  · refine r_aload_n (pc := 8) 0 dX11_codeAt_8 rfl rfl ?_
    refine r_getR (pc := 9) (b := 166) dX11_codeAt_9 fl_X11_17 rfl hM.k hM.r2 ?_
    refine r_bipush (pc := 12) dX11_codeAt_12 (by decide) ?_
    refine r_iload_n (pc := 14) 1 dX11_codeAt_14 rfl rfl ?_
    refine r_iadd (pc := 15) dX11_codeAt_15 ?_
    refine r_eqI (y := ((88 + (base + j) : Nat) : Int)) (Int.natCast_add _ _ |>.symm) ?_
    refine r_ialdv (pc := 16) (w := c j) dX11_codeAt_16 hM.a2 (by omega) (by decide) (by rw [hG.o (by decide)]; exact hE.xc (by omega)) ?_
    refine r_goto (pc := 17) (tgt := 21) dX11_codeAt_17 (by decide) ?_
    exact r_iret (pc := 21) dX11_codeAt_21 rfl rfl ⟨rfl, rfl, rfl⟩

set_option maxRecDepth 100000 in
set_option maxHeartbeats 4000000 in
theorem m_pass (l : Launch) (z : Zv) (d : Nat) {g : Gm} {f0 : Fm} {c v e : Nat → Int} {base T : Nat} (hM : ML g) (hE : ET f0 c v e base T) {f : Fm} {j : Nat} {bk : Bool} (hG : EG f0 f base T j bk) {x : Int} (hx : 0 < x) (hx2 : x ≤ 1000) : PM l z (d + 1) mX11_passes0 [.ref 164, .int (iI x)] g f 0 0 (fun r g' f' => g = g' ∧ ((c j = x ∧ r = some (.int (iI 1)) ∧ EG f0 f' base T (j + 1) bk) ∨ (¬ c j = x ∧ r = some (.int (iI 0)) ∧ f = f'))) := by
  refine PM.of (by decide +kernel) (Nat.le_of_ble_eq_true rfl) ?_
  refine r_aload_n (pc := 0) 0 dX11_passes0_0 rfl rfl ?_
  refine r_aload_n (pc := 1) 0 dX11_passes0_1 rfl rfl ?_
  refine r_getIv (pc := 2) (x := ((base + j : Nat) : Int)) dX11_passes0_2 fl_X11_228 rfl hM.k (hG.xg) ?_
  refine r_callV (pc := 5) (As := [(.int (iI (((base + j : Nat) : Int))))]) (S := []) dX11_passes0_5 cv_X11_231 hM.k rfl (Nat.le_of_ble_eq_true rfl) (m_codeAt (j := j) l z _ hM hE hG) (Nat.zero_le _) (Nat.zero_le _) (fun r_5 g_5 f_5 q_5 => ?_)
  obtain ⟨rfl, rfl, rfl⟩ := q_5
  have hcr_5 := hE.cr j
  refine r_iload_n (pc := 8) 1 dX11_passes0_8 rfl rfl ?_
  refine r_icmp_ne (pc := 9) (tgt := 16) dX11_passes0_9 (by decide) (by omega) (by omega) (fun c_9 => ?_) (fun c_9 => ?_)
  · refine r_iconst (pc := 16) dX11_passes0_16 ?_
    refine r_istore_n (pc := 17) (L2 := [(2, (.int (iI (0)))), (0, (.ref 164)), (1, (.int (iI (x))))]) dX11_passes0_17 rfl (by decide) rfl ?_
    refine r_iload_n (pc := 18) 0 dX11_passes0_18 rfl rfl ?_
    refine r_if_eq (pc := 19) (tgt := 32) dX11_passes0_19 (by decide) (by omega) (fun c_19 => ?_) (fun c_19 => ?_)
    · refine r_iload_n (pc := 32) 0 dX11_passes0_32 rfl rfl ?_
      exact r_iret (pc := 33) dX11_passes0_33 rfl rfl ⟨rfl, Or.inr ⟨c_9, rfl, rfl⟩⟩
    · exact absurd c_19 (by decide)
  · refine r_iconst (pc := 12) dX11_passes0_12 ?_
    refine r_goto (pc := 13) (tgt := 17) dX11_passes0_13 (by decide) ?_
    refine r_istore_n (pc := 17) (L2 := [(2, (.int (iI (1)))), (0, (.ref 164)), (1, (.int (iI (x))))]) dX11_passes0_17 rfl (by decide) rfl ?_
    refine r_iload_n (pc := 18) 0 dX11_passes0_18 rfl rfl ?_
    refine r_if_eq (pc := 19) (tgt := 32) dX11_passes0_19 (by decide) (by omega) (fun c_19 => ?_) (fun c_19 => ?_)
    · exact absurd c_19 (by decide)
    · refine r_aload_n (pc := 22) 1 dX11_passes0_22 rfl rfl ?_
      refine r_dup (pc := 23) dX11_passes0_23 rfl ?_
      refine r_getIv (pc := 24) (x := ((base + j : Nat) : Int)) dX11_passes0_24 fl_X11_228 rfl hM.k (hG.xg) ?_
      refine r_iconst (pc := 27) dX11_passes0_27 ?_
      refine r_iadd (pc := 28) dX11_passes0_28 ?_
      refine r_eqI (y := ((base + j + 1 : Nat) : Int)) (Int.natCast_add _ _ |>.symm) ?_
      refine r_putI (pc := 29) dX11_passes0_29 fl_X11_228 rfl rfl hM.k ?_
      refine r_iload_n (pc := 32) 0 dX11_passes0_32 rfl rfl ?_
      exact r_iret (pc := 33) dX11_passes0_33 rfl rfl ⟨rfl, Or.inl ⟨c_9, rfl, hG.next (by have := hE.lt (i := j) (by omega); omega)⟩⟩

set_option maxRecDepth 100000 in
set_option maxHeartbeats 4000000 in
theorem m_bounded (l : Launch) (z : Zv) (d : Nat) {g : Gm} {f0 : Fm} {c v e : Nat → Int} {base T : Nat} (hM : ML g) (hE : ET f0 c v e base T) {f : Fm} {j : Nat} {bk : Bool} (hG : EG f0 f base T j bk) {x : Int} {lb : Bool} (hv : -2000000000000000000 ≤ x ∧ x ≤ 2000000000000000000) : PM l z d mX11_bounded [.ref 164, .long (lI x), .int (iI (b01 (lb = true)))] g f 0 0 (fun r g' f' => g = g' ∧ r = some (.long (lI (bdV lb bk x).1)) ∧ EG f0 f' base T j (bdV lb bk x).2) := by
  refine PM.of (by decide +kernel) (Nat.le_of_ble_eq_true rfl) ?_
  refine r_iload_n (pc := 0) 2 dX11_bounded_0 rfl rfl ?_
  refine r_if_eq (pc := 1) (tgt := 25) dX11_bounded_1 (by decide) (b01_r) (fun c_1 => ?_) (fun c_1 => ?_)
  · replace c_1 := b01_z c_1
    have hb0 : bdB lb bk x = bk := by unfold bdB; rw [Bool.eq_false_iff.mpr c_1]; simp
    refine r_aload_n (pc := 25) 0 dX11_bounded_25 rfl rfl ?_
    refine r_getIv (pc := 26) (x := b01 (bk = true)) dX11_bounded_26 fl_X11_238 rfl hM.k (hG.xb) ?_
    refine r_if_eq (pc := 29) (tgt := 36) dX11_bounded_29 (by decide) (b01_r) (fun c_29 => ?_) (fun c_29 => ?_)
    · replace c_29 := b01_z c_29
      refine r_lload_n (pc := 36) 1 dX11_bounded_36 rfl rfl ?_
      exact r_lret (pc := 37) dX11_bounded_37 rfl ⟨rfl, by unfold bdV; rw [hb0]; rw [if_neg c_29], by unfold bdV; rw [hb0]; exact hG⟩
    · replace c_29 := b01_nz c_29
      refine r_lconst (pc := 32) (x := 0) dX11_bounded_32 (by decide) ?_
      refine r_goto (pc := 33) (tgt := 37) dX11_bounded_33 (by decide) ?_
      exact r_lret (pc := 37) dX11_bounded_37 rfl ⟨rfl, by unfold bdV; rw [hb0]; rw [if_pos c_29], by unfold bdV; rw [hb0]; exact hG⟩
  · replace c_1 := b01_nz c_1
    refine r_lload_n (pc := 4) 1 dX11_bounded_4 rfl rfl ?_
    refine r_ldc2 (pc := 5) (x := 1000000000) dX11_bounded_5 kc_X11_234 (by decide) ?_
    refine r_lcmp (pc := 8) (w := cmpZ (x) (1000000000)) dX11_bounded_8  (cmp_z (by omega) (by omega)) ?_
    refine r_if_gt (pc := 9) (tgt := 20) dX11_bounded_9 (by decide) (cmpZ_r) (fun c_9 => ?_) (fun c_9 => ?_)
    · replace c_9 := cmpZ_gt.mp c_9
      refine r_aload_n (pc := 20) 0 dX11_bounded_20 rfl rfl ?_
      refine r_iconst (pc := 21) dX11_bounded_21 ?_
      refine r_putB (pc := 22) dX11_bounded_22 fl_X11_238 rfl rfl (by omega) hM.k ?_
      have hlb : lb = true := c_1
      have hb1 : bdB lb bk x = true := by unfold bdB; rw [hlb]; simp; right; omega
      refine r_aload_n (pc := 25) 0 dX11_bounded_25 rfl rfl ?_
      refine r_getIv (pc := 26) (x := 1) dX11_bounded_26 fl_X11_238 rfl hM.k (stF_s _ _ _ _) ?_
      refine r_if_eq (pc := 29) (tgt := 36) dX11_bounded_29 (by decide) (by omega) (fun c_29 => ?_) (fun c_29 => ?_)
      · exact absurd c_29 (by decide)
      · refine r_lconst (pc := 32) (x := 0) dX11_bounded_32 (by decide) ?_
        refine r_goto (pc := 33) (tgt := 37) dX11_bounded_33 (by decide) ?_
        exact r_lret (pc := 37) dX11_bounded_37 rfl ⟨rfl, by unfold bdV; rw [hb1]; rfl, by unfold bdV; rw [hb1]; exact hG.br rfl⟩
    · replace c_9 := cmpZ_le.mp c_9
      refine r_lload_n (pc := 12) 1 dX11_bounded_12 rfl rfl ?_
      refine r_ldc2 (pc := 13) (x := -1000000000) dX11_bounded_13 kc_X11_236 (by decide) ?_
      refine r_lcmp (pc := 16) (w := cmpZ (x) (-1000000000)) dX11_bounded_16  (cmp_z (by omega) (by omega)) ?_
      refine r_if_ge (pc := 17) (tgt := 25) dX11_bounded_17 (by decide) (cmpZ_r) (fun c_17 => ?_) (fun c_17 => ?_)
      · replace c_17 := cmpZ_ge.mp c_17
        have hb0 : bdB lb bk x = bk := by unfold bdB; rw [decide_eq_false (by omega)]; simp
        refine r_aload_n (pc := 25) 0 dX11_bounded_25 rfl rfl ?_
        refine r_getIv (pc := 26) (x := b01 (bk = true)) dX11_bounded_26 fl_X11_238 rfl hM.k (hG.xb) ?_
        refine r_if_eq (pc := 29) (tgt := 36) dX11_bounded_29 (by decide) (b01_r) (fun c_29 => ?_) (fun c_29 => ?_)
        · replace c_29 := b01_z c_29
          refine r_lload_n (pc := 36) 1 dX11_bounded_36 rfl rfl ?_
          exact r_lret (pc := 37) dX11_bounded_37 rfl ⟨rfl, by unfold bdV; rw [hb0]; rw [if_neg c_29], by unfold bdV; rw [hb0]; exact hG⟩
        · replace c_29 := b01_nz c_29
          refine r_lconst (pc := 32) (x := 0) dX11_bounded_32 (by decide) ?_
          refine r_goto (pc := 33) (tgt := 37) dX11_bounded_33 (by decide) ?_
          exact r_lret (pc := 37) dX11_bounded_37 rfl ⟨rfl, by unfold bdV; rw [hb0]; rw [if_pos c_29], by unfold bdV; rw [hb0]; exact hG⟩
      · replace c_17 := cmpZ_lt.mp c_17
        refine r_aload_n (pc := 20) 0 dX11_bounded_20 rfl rfl ?_
        refine r_iconst (pc := 21) dX11_bounded_21 ?_
        refine r_putB (pc := 22) dX11_bounded_22 fl_X11_238 rfl rfl (by omega) hM.k ?_
        have hlb : lb = true := c_1
        have hb1 : bdB lb bk x = true := by unfold bdB; rw [hlb]; simp; right; omega
        refine r_aload_n (pc := 25) 0 dX11_bounded_25 rfl rfl ?_
        refine r_getIv (pc := 26) (x := 1) dX11_bounded_26 fl_X11_238 rfl hM.k (stF_s _ _ _ _) ?_
        refine r_if_eq (pc := 29) (tgt := 36) dX11_bounded_29 (by decide) (by omega) (fun c_29 => ?_) (fun c_29 => ?_)
        · exact absurd c_29 (by decide)
        · refine r_lconst (pc := 32) (x := 0) dX11_bounded_32 (by decide) ?_
          refine r_goto (pc := 33) (tgt := 37) dX11_bounded_33 (by decide) ?_
          exact r_lret (pc := 37) dX11_bounded_37 rfl ⟨rfl, by unfold bdV; rw [hb1]; rfl, by unfold bdV; rw [hb1]; exact hG.br rfl⟩

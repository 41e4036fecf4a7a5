/-! The model's parser. MF: what it never touches; MG: it stands at the token j; MX: a fault at the token x. -/
def MF (f0 f : Fm) : Prop := (∀ a, a ≠ 164 → f a = f0 a) ∧ ∀ i, i ≠ 15 → i ≠ 16 → i ≠ 17 → f 164 i = f0 164 i
def MG (T : Nat) (f0 f : Fm) (j lv : Nat) : Prop := MF f0 f ∧ f 164 15 = ((j : Nat) : Int) ∧ f 164 16 = ((lv : Nat) : Int) ∧ f 164 17 = -1 ∧ j ≤ T ∧ lv ≤ 50
def MX (p : Nat → Nat) (f0 f : Fm) (x : Nat) : Prop := MF f0 f ∧ f 164 17 = ((p x : Nat) : Int)
def MT (f0 : Fm) (c v : Nat → Int) (p : Nat → Nat) (T : Nat) : Prop := (∀ j, j ≤ T → f0 172 j = c j) ∧ (∀ j, j ≤ T → f0 174 j = ((p j : Nat) : Int)) ∧ (∀ j, j ≤ T → min (f0 173 j) 1001 = v j ∧ -2147483648 ≤ f0 173 j ∧ f0 173 j ≤ 2147483647) ∧ c T = 0 ∧ T ≤ 400 ∧ (∀ j, 0 ≤ c j ∧ c j ≤ 355) ∧ (∀ j, p j ≤ 400)
section MGS
variable {T : Nat} {c v : Nat → Int} {p : Nat → Nat} {f0 f : Fm} {j lv x : Nat}
theorem MG.mf (h : MG T f0 f j lv) : MF f0 f := h.1
theorem MG.xj (h : MG T f0 f j lv) : f 164 15 = ((j : Nat) : Int) := h.2.1
theorem MG.xl (h : MG T f0 f j lv) : f 164 16 = ((lv : Nat) : Int) := h.2.2.1
theorem MG.xb (h : MG T f0 f j lv) : f 164 17 = -1 := h.2.2.2.1
theorem MG.r (h : MG T f0 f j lv) : j ≤ T ∧ lv ≤ 50 := h.2.2.2.2
theorem MG.o (h : MG T f0 f j lv) {a : Nat} (ha : a ≠ 164) : f a = f0 a := h.1.1 a ha
theorem MG.xc (h : MG T f0 f j lv) (hT : MT f0 c v p T) {i : Nat} (hi : i ≤ T) : f 172 i = c i := by rw [h.o (by decide)]; exact hT.1 i hi
theorem MG.xp (h : MG T f0 f j lv) (hT : MT f0 c v p T) {i : Nat} (hi : i ≤ T) : f 174 i = ((p i : Nat) : Int) := by rw [h.o (by decide)]; exact hT.2.1 i hi
theorem MT.xv (hT : MT f0 c v p T) {i : Nat} (hi : i ≤ T) : min (f0 173 i) 1001 = v i ∧ -2147483648 ≤ f0 173 i ∧ f0 173 i ≤ 2147483647 := hT.2.2.1 i hi
theorem MT.e (hT : MT f0 c v p T) : c T = 0 := hT.2.2.2.1
theorem MT.t4 (hT : MT f0 c v p T) : T ≤ 400 := hT.2.2.2.2.1
theorem MT.xr (hT : MT f0 c v p T) (i : Nat) : 0 ≤ c i ∧ c i ≤ 355 := hT.2.2.2.2.2.1 i
theorem MT.pr (hT : MT f0 c v p T) (i : Nat) : p i ≤ 400 := hT.2.2.2.2.2.2 i
theorem MT.lt (hT : MT f0 c v p T) (hj : j ≤ T) (hc : ¬ c j = 0) : j + 1 ≤ T := by
  have := hT.e
  rcases (show j = T ∨ j + 1 ≤ T by omega) with rfl | h
  · exact absurd this hc
  · exact h
theorem MF.st (h : MF f0 f) {i : Nat} {y : Int} (hi : i = 15 ∨ i = 16 ∨ i = 17) : MF f0 (stF f 164 i y) := by
  refine ⟨fun a ha => by rw [stF_n _ _ _ ha]; exact h.1 a ha, fun k h1 h2 h3 => ?_⟩
  rw [stF_i _ _ _ (by omega)]; exact h.2 k h1 h2 h3
theorem MG.next (h : MG T f0 f j lv) (hj : j + 1 ≤ T) : MG T f0 (stF f 164 15 ((j + 1 : Nat) : Int)) (j + 1) lv :=
  ⟨h.1.st (Or.inl rfl), stF_s _ _ _ _, rdi (by decide) h.xl, rdi (by decide) h.xb, hj, h.r.2⟩
theorem MG.bad (h : MG T f0 f j lv) : MX p f0 (stF f 164 17 ((p x : Nat) : Int)) x := ⟨h.1.st (Or.inr (Or.inr rfl)), stF_s _ _ _ _⟩
theorem MX.leaf (h : MX p f0 f x) {y : Int} : MX p f0 (stF f 164 16 y) x := ⟨h.1.st (Or.inr (Or.inl rfl)), rdi (by decide) h.2⟩
theorem MG.leaf (h : MG T f0 f j lv) (hj : j + 1 ≤ T) (hl : lv < 50) : MG T f0 (stF (stF f 164 16 ((lv + 1 : Nat) : Int)) 164 15 ((j + 1 : Nat) : Int)) (j + 1) (lv + 1) :=
  ⟨(h.1.st (Or.inr (Or.inl rfl))).st (Or.inl rfl), stF_s _ _ _ _, rdi (by decide) (stF_s _ _ _ _), rdi (by decide) (rdi (by decide) h.xb), hj, by omega⟩
end MGS
def mpo (T : Nat) (p : Nat → Nat) (f0 : Fm) (g : Gm) (j : Nat) (R : PR) : Po := fun r g' f' => r = none ∧ g = g' ∧ ((∃ x, R = .error x ∧ MX p f0 f' x) ∨ (∃ tr j1 l1, R = .ok (tr, j1, l1) ∧ MG T f0 f' j1 l1 ∧ j ≤ j1))
def RdM (l : Launch) (z : Zv) (g : Gm) (T : Nat) (p : Nat → Nat) (f0 : Fm) (k : PMd) (F : Nat → Nat → PR) (H dp : Nat) : Prop := (∀ D, H ≤ D → ∀ f j lv, MG T f0 f j lv → PM l z D k [.ref 164, .int (iI (dp : Int))] g f 0 0 (mpo T p f0 g j (F j lv))) ∧ (∀ D, H ≤ D → ∀ f x, MX p f0 f x → PM l z D k [.ref 164, .int (iI (dp : Int))] g f 0 0 (fun r g' f' => r = none ∧ g = g' ∧ f = f'))
theorem RdM.up {l : Launch} {z : Zv} {g : Gm} {T : Nat} {p : Nat → Nat} {f0 : Fm} {k : PMd} {F : Nat → Nat → PR} {H H' dp : Nat} (h : RdM l z g T p f0 k F H dp) (hH : H ≤ H') : RdM l z g T p f0 k F H' dp := ⟨fun D hD => h.1 D (by omega), fun D hD => h.2 D (by omega)⟩

set_option maxRecDepth 100000 in
set_option maxHeartbeats 4000000 in
theorem m_sign (l : Launch) (z : Zv) (d : Nat) {g : Gm} {f : Fm} (x : Int) : PM l z d mX11_sign [(.int (iI (x)))] g f 0 0 (rdQ (.int (iI (100 + x))) g f) := by
  refine PM.of (by decide +kernel) (Nat.le_of_ble_eq_true rfl) ?_
  refine r_bipush (pc := 0) dX11_sign_0 (by decide) ?_
  refine r_iload_n (pc := 2) 0 dX11_sign_2 rfl rfl ?_
  refine r_iadd (pc := 3) dX11_sign_3 ?_
  exact r_iret (pc := 4) dX11_sign_4 rfl rfl ⟨rfl, rfl, rfl⟩

set_option maxRecDepth 100000 in
set_option maxHeartbeats 4000000 in
theorem m_fineG (l : Launch) (z : Zv) (d : Nat) {g : Gm} {T : Nat} {f0 : Fm} (hM : ML g) {f : Fm} {j lv : Nat} (hG : MG T f0 f j lv) : PM l z d mX11_fine [(.ref 164)] g f 0 0 (rdQ (.int (iI 1)) g f) := by
  refine PM.of (by decide +kernel) (Nat.le_of_ble_eq_true rfl) ?_
  refine r_aload_n (pc := 0) 0 dX11_fine_0 rfl rfl ?_
  refine r_getIv (pc := 1) (x := -1) dX11_fine_1 fl_X11_169 rfl hM.k (hG.xb) ?_
  refine r_iconst (pc := 4) dX11_fine_4 ?_
  refine r_icmp_ne (pc := 5) (tgt := 12) dX11_fine_5 (by decide) (by omega) (by omega) (fun c_5 => ?_) (fun c_5 => ?_)
  · exact absurd c_5 (by decide)
  · refine r_iconst (pc := 8) dX11_fine_8 ?_
    refine r_goto (pc := 9) (tgt := 13) dX11_fine_9 (by decide) ?_
    exact r_iret (pc := 13) dX11_fine_13 rfl rfl ⟨rfl, rfl, rfl⟩

set_option maxRecDepth 100000 in
set_option maxHeartbeats 4000000 in
theorem m_fineX (l : Launch) (z : Zv) (d : Nat) {g : Gm} {T : Nat} {c v : Nat → Int} {p : Nat → Nat} {f0 : Fm} (hM : ML g) (hT : MT f0 c v p T) {f : Fm} {x : Nat} (hX : MX p f0 f x) : PM l z d mX11_fine [(.ref 164)] g f 0 0 (rdQ (.int (iI 0)) g f) := by
  refine PM.of (by decide +kernel) (Nat.le_of_ble_eq_true rfl) ?_
  have hp := hT.pr x
  refine r_aload_n (pc := 0) 0 dX11_fine_0 rfl rfl ?_
  refine r_getIv (pc := 1) (x := ((p x : Nat) : Int)) dX11_fine_1 fl_X11_169 rfl hM.k (hX.2) ?_
  refine r_iconst (pc := 4) dX11_fine_4 ?_
  refine r_icmp_ne (pc := 5) (tgt := 12) dX11_fine_5 (by decide) (by omega) (by omega) (fun c_5 => ?_) (fun c_5 => ?_)
  · refine r_iconst (pc := 12) dX11_fine_12 ?_
    exact r_iret (pc := 13) dX11_fine_13 rfl rfl ⟨rfl, rfl, rfl⟩
  · exfalso; omega

set_option maxRecDepth 100000 in
set_option maxHeartbeats 4000000 in
theorem m_faults (l : Launch) (z : Zv) (d : Nat) {g : Gm} {T : Nat} {c v : Nat → Int} {p : Nat → Nat} {f0 : Fm} (hM : ML g) (hT : MT f0 c v p T) {f : Fm} {j lv : Nat} (hG : MG T f0 f j lv) : PM l z (d + 1) mX11_faults [(.ref 164)] g f 0 0 (fun r g' f' => r = none ∧ g = g' ∧ MX p f0 f' j) := by
  refine PM.of (by decide +kernel) (Nat.le_of_ble_eq_true rfl) ?_
  have hr := hG.r
  have ht4 := hT.t4
  refine r_aload_n (pc := 0) 0 dX11_faults_0 rfl rfl ?_
  refine r_callV (pc := 1) (As := []) (S := []) dX11_faults_1 cv_X11_172 hM.k rfl (Nat.le_of_ble_eq_true rfl) (m_fineG l z _ hM hG) (Nat.zero_le _) (Nat.zero_le _) (fun r_1 g_1 f_1 q_1 => ?_)
  obtain ⟨rfl, rfl, rfl⟩ := q_1
  refine r_if_eq (pc := 4) (tgt := 20) dX11_faults_4 (by decide) (by omega) (fun c_4 => ?_) (fun c_4 => ?_)
  · exact absurd c_4 (by decide)
  · refine r_aload_n (pc := 7) 0 dX11_faults_7 rfl rfl ?_
    refine r_aload_n (pc := 8) 0 dX11_faults_8 rfl rfl ?_
    refine r_getR (pc := 9) (b := 174) dX11_faults_9 fl_X11_46 rfl hM.k hM.r13 ?_
    refine r_aload_n (pc := 12) 0 dX11_faults_12 rfl rfl ?_
    refine r_getIv (pc := 13) (x := ((j : Nat) : Int)) dX11_faults_13 fl_X11_176 rfl hM.k (hG.xj) ?_
    refine r_ialdv (pc := 16) (w := ((p j : Nat) : Int)) dX11_faults_16 hM.a13 (by omega) (by decide) (hG.xp hT (by have := hG.r; omega)) ?_
    refine r_putI (pc := 17) dX11_faults_17 fl_X11_169 rfl rfl hM.k ?_
    exact r_vret (pc := 20) dX11_faults_20 rfl ⟨rfl, rfl, hG.bad⟩

set_option maxRecDepth 100000 in
set_option maxHeartbeats 4000000 in
theorem m_faultsX (l : Launch) (z : Zv) (d : Nat) {g : Gm} {T : Nat} {c v : Nat → Int} {p : Nat → Nat} {f0 : Fm} (hM : ML g) (hT : MT f0 c v p T) {f : Fm} {x : Nat} (hX : MX p f0 f x) : PM l z (d + 1) mX11_faults [(.ref 164)] g f 0 0 (fun r g' f' => r = none ∧ g = g' ∧ f = f') := by
  refine PM.of (by decide +kernel) (Nat.le_of_ble_eq_true rfl) ?_
  refine r_aload_n (pc := 0) 0 dX11_faults_0 rfl rfl ?_
  refine r_callV (pc := 1) (As := []) (S := []) dX11_faults_1 cv_X11_172 hM.k rfl (Nat.le_of_ble_eq_true rfl) (m_fineX l z _ hM hT hX) (Nat.zero_le _) (Nat.zero_le _) (fun r_1 g_1 f_1 q_1 => ?_)
  obtain ⟨rfl, rfl, rfl⟩ := q_1
  refine r_if_eq (pc := 4) (tgt := 20) dX11_faults_4 (by decide) (by omega) (fun c_4 => ?_) (fun c_4 => ?_)
  · exact r_vret (pc := 20) dX11_faults_20 rfl ⟨rfl, rfl, rfl⟩
  · exact absurd c_4 (by decide)

set_option maxRecDepth 100000 in
set_option maxHeartbeats 4000000 in
theorem m_take (l : Launch) (z : Zv) (d : Nat) {g : Gm} {T : Nat} {c v : Nat → Int} {p : Nat → Nat} {f0 : Fm} (hM : ML g) (hT : MT f0 c v p T) {f : Fm} {j lv : Nat} (hG : MG T f0 f j lv) {x : Int} (hx : 0 < x) (hx2 : x ≤ 1000) : PM l z (d + 1) mX11_takes0 [(.ref 164), (.int (iI (x)))] g f 0 0 (fun r g' f' => g = g' ∧ ((c j = x ∧ r = some (.int (iI 1)) ∧ MG T f0 f' (j + 1) lv ∧ j + 1 ≤ T) ∨ (¬ c j = x ∧ r = some (.int (iI 0)) ∧ f = f'))) := by
  refine PM.of (by decide +kernel) (Nat.le_of_ble_eq_true rfl) ?_
  have hr := hG.r
  have ht4 := hT.t4
  have hcr := hT.xr j
  refine r_aload_n (pc := 0) 0 dX11_takes0_0 rfl rfl ?_
  refine r_callV (pc := 1) (As := []) (S := []) dX11_takes0_1 cv_X11_172 hM.k rfl (Nat.le_of_ble_eq_true rfl) (m_fineG l z _ hM hG) (Nat.zero_le _) (Nat.zero_le _) (fun r_1 g_1 f_1 q_1 => ?_)
  obtain ⟨rfl, rfl, rfl⟩ := q_1
  refine r_if_eq (pc := 4) (tgt := 24) dX11_takes0_4 (by decide) (by omega) (fun c_4 => ?_) (fun c_4 => ?_)
  · exact absurd c_4 (by decide)
  · refine r_aload_n (pc := 7) 0 dX11_takes0_7 rfl rfl ?_
    refine r_getR (pc := 8) (b := 172) dX11_takes0_8 fl_X11_40 rfl hM.k hM.r11 ?_
    refine r_aload_n (pc := 11) 0 dX11_takes0_11 rfl rfl ?_
    refine r_getIv (pc := 12) (x := ((j : Nat) : Int)) dX11_takes0_12 fl_X11_176 rfl hM.k (hG.xj) ?_
    refine r_ialdv (pc := 15) (w := c j) dX11_takes0_15 hM.a11 (by omega) (by decide) (hG.xc hT (by have := hG.r; omega)) ?_
    refine r_iload_n (pc := 16) 1 dX11_takes0_16 rfl rfl ?_
    refine r_icmp_ne (pc := 17) (tgt := 24) dX11_takes0_17 (by decide) (by omega) (by omega) (fun c_17 => ?_) (fun c_17 => ?_)
    · refine r_iconst (pc := 24) dX11_takes0_24 ?_
      refine r_istore_n (pc := 25) (L2 := [(2, (.int (iI (0)))), (0, (.ref 164)), (1, (.int (iI (x))))]) dX11_takes0_25 rfl (by decide) rfl ?_
      refine r_iload_n (pc := 26) 0 dX11_takes0_26 rfl rfl ?_
      refine r_if_eq (pc := 27) (tgt := 40) dX11_takes0_27 (by decide) (by omega) (fun c_27 => ?_) (fun c_27 => ?_)
      · refine r_iload_n (pc := 40) 0 dX11_takes0_40 rfl rfl ?_
        exact r_iret (pc := 41) dX11_takes0_41 rfl rfl ⟨rfl, Or.inr ⟨c_17, rfl, rfl⟩⟩
      · exact absurd c_27 (by decide)
    · refine r_iconst (pc := 20) dX11_takes0_20 ?_
      refine r_goto (pc := 21) (tgt := 25) dX11_takes0_21 (by decide) ?_
      refine r_istore_n (pc := 25) (L2 := [(2, (.int (iI (1)))), (0, (.ref 164)), (1, (.int (iI (x))))]) dX11_takes0_25 rfl (by decide) rfl ?_
      refine r_iload_n (pc := 26) 0 dX11_takes0_26 rfl rfl ?_
      refine r_if_eq (pc := 27) (tgt := 40) dX11_takes0_27 (by decide) (by omega) (fun c_27 => ?_) (fun c_27 => ?_)
      · exact absurd c_27 (by decide)
      · refine r_aload_n (pc := 30) 1 dX11_takes0_30 rfl rfl ?_
        refine r_dup (pc := 31) dX11_takes0_31 rfl ?_
        refine r_getIv (pc := 32) (x := ((j : Nat) : Int)) dX11_takes0_32 fl_X11_176 rfl hM.k (hG.xj) ?_
        refine r_iconst (pc := 35) dX11_takes0_35 ?_
        refine r_iadd (pc := 36) dX11_takes0_36 ?_
        refine r_eqI (y := ((j + 1 : Nat) : Int)) (Int.natCast_add _ _ |>.symm) ?_
        refine r_putI (pc := 37) dX11_takes0_37 fl_X11_176 rfl rfl hM.k ?_
        refine r_iload_n (pc := 40) 0 dX11_takes0_40 rfl rfl ?_
        exact r_iret (pc := 41) dX11_takes0_41 rfl rfl ⟨rfl, Or.inl ⟨c_17, rfl, hG.next (hT.lt hr.1 (by omega)), hT.lt hr.1 (by omega)⟩⟩

set_option maxRecDepth 100000 in
set_option maxHeartbeats 4000000 in
theorem m_takeX (l : Launch) (z : Zv) (d : Nat) {g : Gm} {T : Nat} {c v : Nat → Int} {p : Nat → Nat} {f0 : Fm} (hM : ML g) (hT : MT f0 c v p T) {f : Fm} {x : Nat} (hX : MX p f0 f x) {x0 : Int} : PM l z (d + 1) mX11_takes0 [(.ref 164), (.int (iI (x0)))] g f 0 0 (rdQ (.int (iI 0)) g f) := by
  refine PM.of (by decide +kernel) (Nat.le_of_ble_eq_true rfl) ?_
  refine r_aload_n (pc := 0) 0 dX11_takes0_0 rfl rfl ?_
  refine r_callV (pc := 1) (As := []) (S := []) dX11_takes0_1 cv_X11_172 hM.k rfl (Nat.le_of_ble_eq_true rfl) (m_fineX l z _ hM hT hX) (Nat.zero_le _) (Nat.zero_le _) (fun r_1 g_1 f_1 q_1 => ?_)
  obtain ⟨rfl, rfl, rfl⟩ := q_1
  refine r_if_eq (pc := 4) (tgt := 24) dX11_takes0_4 (by decide) (by omega) (fun c_4 => ?_) (fun c_4 => ?_)
  · refine r_iconst (pc := 24) dX11_takes0_24 ?_
    refine r_istore_n (pc := 25) (L2 := [(2, (.int (iI (0)))), (0, (.ref 164)), (1, (.int (iI (x0))))]) dX11_takes0_25 rfl (by decide) rfl ?_
    refine r_iload_n (pc := 26) 0 dX11_takes0_26 rfl rfl ?_
    refine r_if_eq (pc := 27) (tgt := 40) dX11_takes0_27 (by decide) (by omega) (fun c_27 => ?_) (fun c_27 => ?_)
    · refine r_iload_n (pc := 40) 0 dX11_takes0_40 rfl rfl ?_
      exact r_iret (pc := 41) dX11_takes0_41 rfl rfl ⟨rfl, rfl, rfl⟩
    · exact absurd c_27 (by decide)
  · exact absurd c_4 (by decide)

set_option maxRecDepth 100000 in
set_option maxHeartbeats 4000000 in
theorem m_must (l : Launch) (z : Zv) (d : Nat) {g : Gm} {T : Nat} {c v : Nat → Int} {p : Nat → Nat} {f0 : Fm} (hM : ML g) (hT : MT f0 c v p T) {f : Fm} {j lv : Nat} (hG : MG T f0 f j lv) {x : Int} (hx : 0 < x) (hx2 : x ≤ 1000) : PM l z (d + 2) mX11_must [(.ref 164), (.int (iI (x)))] g f 0 0 (fun r g' f' => r = none ∧ g = g' ∧ ((c j = x ∧ MG T f0 f' (j + 1) lv ∧ j + 1 ≤ T) ∨ (¬ c j = x ∧ MX p f0 f' j))) := by
  refine PM.of (by decide +kernel) (Nat.le_of_ble_eq_true rfl) ?_
  refine r_aload_n (pc := 0) 0 dX11_must_0 rfl rfl ?_
  refine r_iload_n (pc := 1) 1 dX11_must_1 rfl rfl ?_
  refine r_callV (pc := 2) (As := [(.int (iI (x)))]) (S := []) dX11_must_2 cv_X11_179 hM.k rfl (Nat.le_of_ble_eq_true rfl) (m_take l z _ hM hT hG hx hx2) (Nat.zero_le _) (Nat.zero_le _) (fun r_2 g_2 f_2 q_2 => ?_)
  obtain ⟨rfl, ⟨hc, rfl, hG2, hj⟩ | ⟨hc, rfl, rfl⟩⟩ := q_2
  · refine r_if_ne (pc := 5) (tgt := 12) dX11_must_5 (by decide) (by omega) (fun c_5 => ?_) (fun c_5 => ?_)
    · exact r_vret (pc := 12) dX11_must_12 rfl ⟨rfl, rfl, Or.inl ⟨hc, hG2, hj⟩⟩
    · exact absurd c_5 (by decide)
  · refine r_if_ne (pc := 5) (tgt := 12) dX11_must_5 (by decide) (by omega) (fun c_5 => ?_) (fun c_5 => ?_)
    · exact absurd c_5 (by decide)
    · refine r_aload_n (pc := 8) 0 dX11_must_8 rfl rfl ?_
      refine r_callV (pc := 9) (As := []) (S := []) dX11_must_9 cv_X11_182 hM.k rfl (Nat.le_of_ble_eq_true rfl) (m_faults l z _ hM hT hG) (Nat.zero_le _) (Nat.zero_le _) (fun r_9 g_9 f_9 q_9 => ?_)
      obtain ⟨rfl, rfl, hX⟩ := q_9
      exact r_vret (pc := 12) dX11_must_12 rfl ⟨rfl, rfl, Or.inr ⟨hc, hX⟩⟩

set_option maxRecDepth 100000 in
set_option maxHeartbeats 4000000 in
theorem m_mustX (l : Launch) (z : Zv) (d : Nat) {g : Gm} {T : Nat} {c v : Nat → Int} {p : Nat → Nat} {f0 : Fm} (hM : ML g) (hT : MT f0 c v p T) {f : Fm} {x : Nat} (hX : MX p f0 f x) {x0 : Int} : PM l z (d + 2) mX11_must [(.ref 164), (.int (iI (x0)))] g f 0 0 (fun r g' f' => r = none ∧ g = g' ∧ f = f') := by
  refine PM.of (by decide +kernel) (Nat.le_of_ble_eq_true rfl) ?_
  refine r_aload_n (pc := 0) 0 dX11_must_0 rfl rfl ?_
  refine r_iload_n (pc := 1) 1 dX11_must_1 rfl rfl ?_
  refine r_callV (pc := 2) (As := [(.int (iI (x0)))]) (S := []) dX11_must_2 cv_X11_179 hM.k rfl (Nat.le_of_ble_eq_true rfl) (m_takeX l z _ hM hT hX) (Nat.zero_le _) (Nat.zero_le _) (fun r_2 g_2 f_2 q_2 => ?_)
  obtain ⟨rfl, rfl, rfl⟩ := q_2
  refine r_if_ne (pc := 5) (tgt := 12) dX11_must_5 (by decide) (by omega) (fun c_5 => ?_) (fun c_5 => ?_)
  · exact absurd c_5 (by decide)
  · refine r_aload_n (pc := 8) 0 dX11_must_8 rfl rfl ?_
    refine r_callV (pc := 9) (As := []) (S := []) dX11_must_9 cv_X11_182 hM.k rfl (Nat.le_of_ble_eq_true rfl) (m_faultsX l z _ hM hT hX) (Nat.zero_le _) (Nat.zero_le _) (fun r_9 g_9 f_9 q_9 => ?_)
    obtain ⟨rfl, rfl, rfl⟩ := q_9
    exact r_vret (pc := 12) dX11_must_12 rfl ⟨rfl, rfl, rfl⟩

set_option maxRecDepth 100000 in
set_option maxHeartbeats 4000000 in
theorem m_fineL (l : Launch) (z : Zv) (d : Nat) {g : Gm} {f : Fm} (hM : ML g) (hb : f 164 17 = -1) : PM l z d mX11_fine [(.ref 164)] g f 0 0 (rdQ (.int (iI 1)) g f) := by
  refine PM.of (by decide +kernel) (Nat.le_of_ble_eq_true rfl) ?_
  refine r_aload_n (pc := 0) 0 dX11_fine_0 rfl rfl ?_
  refine r_getIv (pc := 1) (x := -1) dX11_fine_1 fl_X11_169 rfl hM.k (hb) ?_
  refine r_iconst (pc := 4) dX11_fine_4 ?_
  refine r_icmp_ne (pc := 5) (tgt := 12) dX11_fine_5 (by decide) (by omega) (by omega) (fun c_5 => ?_) (fun c_5 => ?_)
  · exact absurd c_5 (by decide)
  · refine r_iconst (pc := 8) dX11_fine_8 ?_
    refine r_goto (pc := 9) (tgt := 13) dX11_fine_9 (by decide) ?_
    exact r_iret (pc := 13) dX11_fine_13 rfl rfl ⟨rfl, rfl, rfl⟩

set_option maxRecDepth 100000 in
set_option maxHeartbeats 4000000 in
theorem m_leaf (l : Launch) (z : Zv) (d : Nat) {g : Gm} {T : Nat} {c v : Nat → Int} {p : Nat → Nat} {f0 : Fm} (hM : ML g) (hT : MT f0 c v p T) {f : Fm} {j lv : Nat} (hG : MG T f0 f j lv) (hj : j + 1 ≤ T) : PM l z (d + 2) mX11_leaf [(.ref 164)] g f 0 0 (fun r g' f' => r = none ∧ g = g' ∧ ((lv < 50 ∧ MG T f0 f' (j + 1) (lv + 1)) ∨ (lv = 50 ∧ MX p f0 f' j))) := by
  refine PM.of (by decide +kernel) (Nat.le_of_ble_eq_true rfl) ?_
  have hr := hG.r
  have ht4 := hT.t4
  refine r_aload_n (pc := 0) 0 dX11_leaf_0 rfl rfl ?_
  refine r_getIv (pc := 1) (x := ((lv : Nat) : Int)) dX11_leaf_1 fl_X11_185 rfl hM.k (hG.xl) ?_
  refine r_bipush (pc := 4) dX11_leaf_4 (by decide) ?_
  refine r_icmp_ne (pc := 6) (tgt := 13) dX11_leaf_6 (by decide) (by omega) (by omega) (fun c_6 => ?_) (fun c_6 => ?_)
  · refine r_aload_n (pc := 13) 0 dX11_leaf_13 rfl rfl ?_
    refine r_dup (pc := 14) dX11_leaf_14 rfl ?_
    refine r_getIv (pc := 15) (x := ((lv : Nat) : Int)) dX11_leaf_15 fl_X11_185 rfl hM.k (hG.xl) ?_
    refine r_iconst (pc := 18) dX11_leaf_18 ?_
    refine r_iadd (pc := 19) dX11_leaf_19 ?_
    refine r_eqI (y := ((lv + 1 : Nat) : Int)) (Int.natCast_add _ _ |>.symm) ?_
    refine r_putI (pc := 20) dX11_leaf_20 fl_X11_185 rfl rfl hM.k ?_
    refine r_aload_n (pc := 23) 0 dX11_leaf_23 rfl rfl ?_
    refine r_callV (pc := 24) (As := []) (S := []) dX11_leaf_24 cv_X11_172 hM.k rfl (Nat.le_of_ble_eq_true rfl) (m_fineL l z _ hM (rdi (by decide) hG.xb)) (Nat.zero_le _) (Nat.zero_le _) (fun r_24 g_24 f_24 q_24 => ?_)
    obtain ⟨rfl, rfl, rfl⟩ := q_24
    refine r_if_eq (pc := 27) (tgt := 40) dX11_leaf_27 (by decide) (by omega) (fun c_27 => ?_) (fun c_27 => ?_)
    · exact absurd c_27 (by decide)
    · refine r_aload_n (pc := 30) 0 dX11_leaf_30 rfl rfl ?_
      refine r_dup (pc := 31) dX11_leaf_31 rfl ?_
      refine r_getIv (pc := 32) (x := ((j : Nat) : Int)) dX11_leaf_32 fl_X11_176 rfl hM.k (rdi (by decide) (hG.xj)) ?_
      refine r_iconst (pc := 35) dX11_leaf_35 ?_
      refine r_iadd (pc := 36) dX11_leaf_36 ?_
      refine r_eqI (y := ((j + 1 : Nat) : Int)) (Int.natCast_add _ _ |>.symm) ?_
      refine r_putI (pc := 37) dX11_leaf_37 fl_X11_176 rfl rfl hM.k ?_
      exact r_vret (pc := 40) dX11_leaf_40 rfl ⟨rfl, rfl, Or.inl ⟨by omega, hG.leaf hj (by omega)⟩⟩
  · refine r_aload_n (pc := 9) 0 dX11_leaf_9 rfl rfl ?_
    refine r_callV (pc := 10) (As := []) (S := []) dX11_leaf_10 cv_X11_182 hM.k rfl (Nat.le_of_ble_eq_true rfl) (m_faults l z _ hM hT hG) (Nat.zero_le _) (Nat.zero_le _) (fun r_10 g_10 f_10 q_10 => ?_)
    obtain ⟨rfl, rfl, hX⟩ := q_10
    refine r_aload_n (pc := 13) 0 dX11_leaf_13 rfl rfl ?_
    refine r_dup (pc := 14) dX11_leaf_14 rfl ?_
    refine r_getIv (pc := 15) (x := f_10 164 16) dX11_leaf_15 fl_X11_185 rfl hM.k (rfl) ?_
    refine r_iconst (pc := 18) dX11_leaf_18 ?_
    refine r_iadd (pc := 19) dX11_leaf_19 ?_
    refine r_putI (pc := 20) dX11_leaf_20 fl_X11_185 rfl rfl hM.k ?_
    refine r_aload_n (pc := 23) 0 dX11_leaf_23 rfl rfl ?_
    refine r_callV (pc := 24) (As := []) (S := []) dX11_leaf_24 cv_X11_172 hM.k rfl (Nat.le_of_ble_eq_true rfl) (m_fineX l z _ hM hT hX.leaf) (Nat.zero_le _) (Nat.zero_le _) (fun r_24 g_24 f_24 q_24 => ?_)
    obtain ⟨rfl, rfl, rfl⟩ := q_24
    refine r_if_eq (pc := 27) (tgt := 40) dX11_leaf_27 (by decide) (by omega) (fun c_27 => ?_) (fun c_27 => ?_)
    · exact r_vret (pc := 40) dX11_leaf_40 rfl ⟨rfl, rfl, Or.inr ⟨by omega, hX.leaf⟩⟩
    · exact absurd c_27 (by decide)

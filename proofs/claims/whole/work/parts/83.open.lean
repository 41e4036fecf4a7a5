/-- both are made: the bond holds -/
def InitOK (l : Launch) (z : Zv) (Inv : Gm → Fm → Prop) : Prop := PM l z 300 mX10_init [.ref 64] (nwG g00 9 0) (nwF f00 64) 99 8103 (fun r g1 f1 => r = none ∧ gnx g1 = 164 ∧ PM l z 300 mX11_init [.ref 164] (nwG g1 10 0) (nwF f1 164) 30 106549 (fun r' g2 f2 => r' = none ∧ Inv g2 f2))
theorem initOK (l : Launch) (z : Zv) {Inv : Gm → Fm → Prop} (h : Inv gX2 fX2) : InitOK l z Inv := by
  refine PM.mono (i_9 l z 298 (by unfold isK; decide +kernel)) (fun r g f hq => ?_)
  obtain ⟨rfl, rfl, rfl⟩ := hq
  refine ⟨rfl, by decide +kernel, PM.mono (i_10 l z 300 (by unfold isK; decide +kernel)) (fun r g f hq => ?_)⟩
  obtain ⟨rfl, rfl, rfl⟩ := hq
  exact ⟨rfl, h⟩
set_option maxRecDepth 100000 in
set_option maxHeartbeats 4000000 in
theorem law_walk (l : Launch) (z : Zv) (b N : Nat) (X : Nat → Int) (hX : ∀ j, inR (X j)) (hN : N ≤ 3072) (Inv : Gm → Fm → Prop) (hO : Ops l z Inv) (hI : InitOK l z Inv) : LW l z b N X 0 [(0, (.ref 62))] [] g00 f00 600000 7302250 := by
  refine w_new (pc := 0) (c := 9) dL_law_0 (by decide) cw_L_7 (by decide) (by decide) ?_
  refine w_dup (pc := 3) dL_law_3 rfl ?_
  refine w_callI (pc := 4) (As := []) (S := [.ref (gnx g00)]) dL_law_4 ci_L_9 rfl (by decide) (by decide) hI (by decide) (by decide) (fun r_4 g_4 f_4 q_4 => ?_)
  obtain ⟨rfl, h4, hm⟩ := q_4
  refine w_astore_n (pc := 7) (L2 := [(1, (.ref 64)), (0, (.ref 62))]) dL_law_7 rfl (by decide) rfl ?_
  refine w_new (pc := 8) (c := 10) dL_law_8 (by decide) cw_L_10 (by decide) (by decide) ?_
  rw [h4]
  refine w_dup (pc := 11) dL_law_11 rfl ?_
  refine w_callI (pc := 12) (As := []) (S := [.ref 164]) dL_law_12 ci_L_12 rfl (by decide) (by decide) hm (by decide) (by decide) (fun r_12 g_12 f_12 q_12 => ?_)
  obtain ⟨rfl, hI2⟩ := q_12
  refine w_astore_n (pc := 15) (L2 := [(2, (.ref 164)), (1, (.ref 64)), (0, (.ref 62))]) dL_law_15 rfl (by decide) rfl ?_
  refine w_iconst (pc := 16) dL_law_16 ?_
  refine w_istore_n (pc := 17) (L2 := [(3, (.int (iI 0))), (2, (.ref 164)), (1, (.ref 64)), (0, (.ref 62))]) dL_law_17 rfl (by decide) rfl ?_
  exact w_room (by decide) (by decide) (law_loop l z b N X hX hN Inv hO (N + 1) 0 (by omega) (by omega) g_12 f_12 hI2)
theorem whole_open (Inv : Gm → Fm → Prop) {p : Program} {e : Env} {s : State} {m : MethodId} {below : List Frame} {meth : Method} {c : Code} (l : Launch) (hO : ∀ z, Ops l z Inv) (hI : ∀ z, InitOK l z Inv) {b L : Nat} {xs : Nat → Int32} (hL : L ≤ 3072) (C0 : lw_At p s m meth c b L xs) : W p l e room_1 s m #[Value.ref b] below meth c s.heap [] 0 0 (lw_Z below #[Value.ref b] s) (entryFrame m ([Value.ref b] : List Value).toArray 4) := by
  obtain ⟨hx, hb, hr, hml, hown, hts, hX, hbl, hlocks, hgv⟩ := C0
  obtain ⟨z, hSt, hsz, h62⟩ := St_start hts hgv
  have hX2 : va_X b L (fun j => iI ((xs j).toInt)) s s.heap := by
    have e1 : (fun j => iI ((xs j).toInt)) = xs := by funext j; exact iI_of _
    rw [e1]; exact hX
  have hl := lv_entry ([.ref b]) (n := 4) (Nat.le_of_ble_eq_true rfl)
  rw [lg_entry_eq]
  have hl2 : lv_has ((lg_sl ([Value.ref b]) ++ List.replicate (4 - (lg_sl ([Value.ref b])).length) Slot.unset).toArray) 4 (([(0, Value.ref 62)] : List (Nat × Value)).map fun q => (q.1, zsh z q.2)) := by
    have e0 : zsh z (.ref 62) = .ref b := by simp [zsh, zad, h62]
    simp only [List.map_cons, List.map_nil, e0]
    exact hl
  have hH : zH z g00 f00 s.heap := ⟨by rw [hsz]; rfl, Nat.le_refl _, fun k q h => by simp [zws, gnx, g00] at h⟩
  have hR : ∀ j, inR ((xs j).toInt) := fun j => ⟨Int32.le_toInt (xs j), Int32.toInt_le (xs j)⟩
  exact law_walk l z b L _ hR hL Inv (hO z) (hI z) p e s m _ below meth c s.heap [] 0 0 _ ⟨hx, hb, hml, hown, fun w hw => hts w (List.mem_filter.mp hw).1, hr, hlocks, rfl, hSt, hX2, hbl, hsz, h62⟩ (by rw [hsz]; exact Nat.le_refl _) hl2 hH va_S.rf (by decide) (by decide)

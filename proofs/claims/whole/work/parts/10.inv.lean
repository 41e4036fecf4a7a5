theorem obj_inst : Cond.instanceMethod objectInit ∈ tblG := mg 126 (by decide +kernel) rfl
theorem obj_code : Cond.code objectInit ⟨#[0xb1]⟩ 1 none ∈ tblG := mg 127 (by decide +kernel) rfl
def CLb (own : String) (i : Nat) (k' : PMd) (n : Nat) : Prop := Cond.methodLink own i k'.1 ∈ tblG ∧ Cond.initialized k'.1.cls ∈ tblG ∧ Cond.code k'.1 k'.2.1 k'.2.2.1 k'.2.2.2 ∈ tblG ∧
  (k'.1.cls ≠ "java/lang/invoke/MethodHandle" ∧ k'.1.cls ≠ "java/lang/invoke/VarHandle" ∧ (parseMethodDescriptor k'.1.desc).map (fun d => d.parameters.length) = some n) ∧ k'.2.2.1 ≤ 40
def CV (own : String) (i c : Nat) (k' : PMd) (n : Nat) : Prop := c < 11 ∧ k'.1.cls = RR c ∧ CLb own i k' n ∧ Cond.instanceMethod k'.1 ∈ tblG ∧ Cond.selects (RR c) k'.1 k'.1 ∈ tblG
def CS (own : String) (i : Nat) (k' : PMd) (n : Nat) : Prop := CLb own i k' n ∧ Cond.static k'.1 ∈ tblG
def CI (own : String) (i : Nat) (k' : PMd) (n : Nat) : Prop := CLb own i k' n ∧ k'.1.name = "<init>" ∧ k'.2.2.2 = none ∧ Cond.instanceMethod k'.1 ∈ tblG
def CIN (own : String) (i : Nat) (k' : PMd) (n : Nat) : Prop := Cond.methodLinkNest own i k'.1 "ThirteenthLoaf" ∈ nestW ∧ Cond.initialized k'.1.cls ∈ tblG ∧ Cond.code k'.1 k'.2.1 k'.2.2.1 none ∈ tblG ∧
  (k'.1.cls ≠ "java/lang/invoke/MethodHandle" ∧ k'.1.cls ≠ "java/lang/invoke/VarHandle" ∧ (parseMethodDescriptor k'.1.desc).map (fun d => d.parameters.length) = some n) ∧ k'.2.2.1 ≤ 40 ∧ k'.1.name = "<init>" ∧ k'.2.2.2 = none ∧ Cond.instanceMethod k'.1 ∈ tblG
theorem kws_good {k' : PMd} (h : Cond.code k'.1 k'.2.1 k'.2.2.1 k'.2.2.2 ∈ tblG) : GoodIn tblG (kws k') := by
  intro w hw
  have hm : w ∈ tblG := by
    rcases List.mem_cons.mp hw with rfl | h2
    · exact h
    · exact h2
  exact ⟨hm, good_of_word (List.mem_filter.mp hm).2⟩
theorem zblind {z : Zv} {av : List Value} {g : Gm} {f : Fm} : FrameBlind (zPc z av g f) := by
  intro a U fr mk h
  obtain ⟨h1, h2, h3⟩ := h
  exact ⟨h1, h2, h3.same rfl rfl⟩
section INV
variable {l : Launch} {z : Zv} {d : Nat} {k : PMd} {mc ms : Nat} {post : Po} {pc : Nat} {L : List (Nat × Value)} {S : List Value} {g : Gm} {f : Fm} {cb sb : Nat}
theorem z_call {p : Program} {e : Env} {R : Room} {s : State} {m : MethodId} {args : Array Value} {below : List Frame} {meth : Method} {c : Code} {H : Heap} {locs : List Loc} {cells slots mc' ms' : Nat} {Q : State → Prop} {ls : Array Slot} {st0 rest : List Value} {post' : Po} {av : Array Value}
    (hr : va_Run p l e R s m args below meth c H locs cells slots mc' ms' (F0 m pc ls st0) rest (zQc z post' av) (zA z)) (hS : va_S (zA z) s.heap H locs)
    (kk : ∀ r g' f' H1 locs1, post' r g' f' → zH z g' f' H1 → va_S (zA z) s.heap H1 locs1 → W p l e R s m args below meth c H1 locs1 (cells + mc') (slots + ms') Q (F0 m (pc + 3) ls ((r.map (zsh z)).toList ++ rest))) : W p l e R s m args below meth c H locs cells slots Q (F0 m pc ls st0) := by
  intro T hT X
  obtain ⟨v, st₀, t, T', L', h0, X', hL, e1, e2, ⟨⟨r, g', f', hv, hp, hH'⟩, hF⟩, st⟩ := hr T hT X
  have hv2 : v = r.map (zsh z) := by injection hv
  subst hv2
  have hS2 : va_S (zA z) s.heap T'.heap (locs ++ L') := by
    rw [e1]
    refine ⟨Nat.le_trans hS.1 (by rw [← h0]; exact hF.1), fun q q1 q2 => ?_, fun q hq => ?_⟩
    · rw [hF.2 q (by rw [h0]; exact Nat.lt_of_lt_of_le q1 hS.1) q2, h0]
      exact hS.2.1 q q1 q2
    · rcases List.mem_append.mp hq with h | h
      · exact hS.2.2 q h
      · exact hL q h
  obtain ⟨t2, a1, b1⟩ := kk r g' f' T'.heap (locs ++ L') hp (by rw [e1]; exact hH') hS2 T' rfl X'
  exact ⟨t2, st t2 a1, b1⟩
theorem z_pre {s : State} {H : Heap} {locs : List Loc} (hSt : St z s) (hH : zH z g f H) (hS : va_S (zA z) s.heap H locs) (av : List Value) : ∀ U : State, U.heap = H → s.WarmedH U.vm → zPc z av g f (av.map (zsh z)).toArray U := by
  intro U hU hW
  exact ⟨rfl, by rw [hU]; exact hH, hSt.move (locs := locs) (by rw [hU]; exact hS) hW⟩
theorem map_rev (h : Value → Value) (As S : List Value) : (As.reverse ++ S).map h = (As.map h).reverse ++ S.map h := by simp
theorem catsum (S : List Value) : ((S.map (zsh z)).map fun v => v.category).sum = (S.map fun v => v.category).sum := by
  rw [List.map_map]
  congr 1
  apply List.map_congr_left
  intro v _
  exact zcat z v
theorem zlist (r : Option Value) (S : List Value) : (r.map (zsh z)).toList ++ S.map (zsh z) = (r.toList ++ S).map (zsh z) := by cases r <;> rfl
theorem r_callV {k' : PMd} {i a c mc' ms' : Nat} {As S0 : List Value} {post' : Po} (hd : decode k.2.1 pc = .ok (.invokevirtual i, 3)) (hL : CV k.1.cls i c k' As.length) (hK : isK g a c) (hst : As.reverse ++ .ref a :: S = S0) (hrs : (S.map fun v => v.category).sum ≤ 8) (hm : PM l z d k' (.ref a :: As) g f mc' ms' post') (hc1 : mc' ≤ cb) (hs1 : ms' ≤ sb)
    (h : ∀ r g' f', post' r g' f' → PW l z (d + 1) k mc ms post (pc + 3) L (r.toList ++ S) g' f' (cb - mc') (sb - ms')) : PW l z (d + 1) k mc ms post pc L S0 g f cb sb := by
  subst hst
  intro p e s m args below meth c0 H locs cells slots ls B hz hl hH hS hc hs
  obtain ⟨h1, h2, ⟨h3, h4, h5, h6, h7⟩, h8, h9⟩ := hL
  obtain ⟨k1, k2, k3⟩ := hK
  have hts := B.2.2.2.2.1
  have hSt := B.2.2.2.2.2.2.2.2
  have cw : CallW (zR (d + 1) mc ms) s args k.1.cls (RR c) i k'.1 k'.2.1 k'.2.2.1 k'.2.2.2 (kws k') (zR d mc' ms') mc' ms' As.length :=
    ⟨callB_of As.length hts (kws_good h5) rfl rfl rfl (hts _ h4) (hts _ h3) h6 ⟨Nat.le_refl _, by show 8 + (k'.2.2.1 + 11) + 64 * (d + 1) ≤ 64 * (d + 1 + 1); omega⟩, hts _ h8, hts _ h9⟩
  have hrecv := va_recv hSt.K hH.in_ (vwCl_at c h1) (show (zws z g f)[a - 64]? = some (zad z a, .inr (c, _)) by rw [zws_at k2 k3, zpic_obj k1 h1])
  rw [map_rev]
  refine z_call (va_runV (As := As.map (zsh z)) (rest := S.map (zsh z)) ⟨B.1, B.2.1, B.2.2.1, B.2.2.2.1, hts⟩ hm cw ⟨zblind, hrecv, z_pre hSt hH hS (.ref a :: As)⟩ rfl (by rw [List.length_map]) hl.1 rfl (lv_room (by rw [catsum]; exact hrs)) hd ⟨by show cells + mc' ≤ mc; omega, by show slots + ms' ≤ ms; omega⟩) hS ?_
  intro r g' f' H1 locs1 hp hH1 hS1
  rw [zlist]
  exact h r g' f' hp p e s m args below meth c0 H1 locs1 _ _ ls B hz hl hH1 hS1 (by omega) (by omega)
theorem r_callS {k' : PMd} {i mc' ms' : Nat} {As S0 : List Value} {post' : Po} (hd : decode k.2.1 pc = .ok (.invokestatic i, 3)) (hL : CS k.1.cls i k' As.length) (hst : As.reverse ++ S = S0) (hrs : (S.map fun v => v.category).sum ≤ 8) (hm : PM l z d k' As g f mc' ms' post') (hc1 : mc' ≤ cb) (hs1 : ms' ≤ sb)
    (h : ∀ r g' f', post' r g' f' → PW l z (d + 1) k mc ms post (pc + 3) L (r.toList ++ S) g' f' (cb - mc') (sb - ms')) : PW l z (d + 1) k mc ms post pc L S0 g f cb sb := by
  subst hst
  intro p e s m args below meth c0 H locs cells slots ls B hz hl hH hS hc hs
  obtain ⟨⟨h3, h4, h5, h6, h7⟩, h8⟩ := hL
  have hts := B.2.2.2.2.1
  have hSt := B.2.2.2.2.2.2.2.2
  have cw : CallB (zR (d + 1) mc ms) s args k.1.cls i k'.1 k'.2.1 k'.2.2.1 k'.2.2.2 (kws k') (zR d mc' ms') mc' ms' As.length :=
    callB_of As.length hts (kws_good h5) rfl rfl rfl (hts _ h4) (hts _ h3) h6 ⟨Nat.le_refl _, by show 8 + (k'.2.2.1 + 11) + 64 * (d + 1) ≤ 64 * (d + 1 + 1); omega⟩
  rw [map_rev]
  refine z_call (va_runS (As := As.map (zsh z)) (rest := S.map (zsh z)) ⟨B.1, B.2.1, B.2.2.1, B.2.2.2.1, hts⟩ hm ⟨cw, hts _ h8⟩ ⟨zblind, z_pre hSt hH hS As⟩ rfl (by rw [List.length_map]) hl.1 rfl (lv_room (by rw [catsum]; exact hrs)) hd ⟨by show cells + mc' ≤ mc; omega, by show slots + ms' ≤ ms; omega⟩) hS ?_
  intro r g' f' H1 locs1 hp hH1 hS1
  rw [zlist]
  exact h r g' f' hp p e s m args below meth c0 H1 locs1 _ _ ls B hz hl hH1 hS1 (by omega) (by omega)
theorem r_callI {k' : PMd} {i a mc' ms' : Nat} {As S0 : List Value} {post' : Po} (hd : decode k.2.1 pc = .ok (.invokespecial i, 3)) (hL : CI k.1.cls i k' As.length) (hst : As.reverse ++ .ref a :: S = S0) (hrs : (S.map fun v => v.category).sum ≤ 8) (hm : PM l z d k' (.ref a :: As) g f mc' ms' post') (hc1 : mc' ≤ cb) (hs1 : ms' ≤ sb)
    (h : ∀ r g' f', post' r g' f' → PW l z (d + 1) k mc ms post (pc + 3) L (r.toList ++ S) g' f' (cb - mc') (sb - ms')) : PW l z (d + 1) k mc ms post pc L S0 g f cb sb := by
  subst hst
  intro p e s m args below meth c0 H locs cells slots ls B hz hl hH hS hc hs
  obtain ⟨⟨h3, h4, h5, h6, h7⟩, h8, h9, h10⟩ := hL
  have hts := B.2.2.2.2.1
  have hSt := B.2.2.2.2.2.2.2.2
  have cw : CallB (zR (d + 1) mc ms) s args k.1.cls i k'.1 k'.2.1 k'.2.2.1 none (kws k') (zR d mc' ms') mc' ms' As.length :=
    callB_of (ws' := tblG) As.length hts (kws_good h5) (by rw [kws, h9]) rfl rfl (hts _ h4) (hts _ h3) h6 ⟨Nat.le_refl _, by show 8 + (k'.2.2.1 + 11) + 64 * (d + 1) ≤ 64 * (d + 1 + 1); omega⟩
  rw [map_rev]
  refine z_call (va_runI (As := As.map (zsh z)) (rest := S.map (zsh z)) ⟨B.1, B.2.1, B.2.2.1, B.2.2.2.1, hts⟩ hm ⟨cw, h8, hts _ h10⟩ ⟨zblind, z_pre hSt hH hS (.ref a :: As)⟩ rfl (by rw [List.length_map]) hl.1 rfl (lv_room (by rw [catsum]; exact hrs)) hd ⟨by show cells + mc' ≤ mc; omega, by show slots + ms' ≤ ms; omega⟩) hS ?_
  intro r g' f' H1 locs1 hp hH1 hS1
  rw [zlist]
  exact h r g' f' hp p e s m args below meth c0 H1 locs1 _ _ ls B hz hl hH1 hS1 (by omega) (by omega)
theorem r_callIN {k' : PMd} {i a mc' ms' : Nat} {As S0 : List Value} {post' : Po} (hd : decode k.2.1 pc = .ok (.invokespecial i, 3)) (hL : CIN k.1.cls i k' As.length) (hst : As.reverse ++ .ref a :: S = S0) (hrs : (S.map fun v => v.category).sum ≤ 8) (hm : PM l z d k' (.ref a :: As) g f mc' ms' post') (hc1 : mc' ≤ cb) (hs1 : ms' ≤ sb)
    (h : ∀ r g' f', post' r g' f' → PW l z (d + 1) k mc ms post (pc + 3) L (r.toList ++ S) g' f' (cb - mc') (sb - ms')) : PW l z (d + 1) k mc ms post pc L S0 g f cb sb := by
  subst hst
  intro p e s m args below meth c0 H locs cells slots ls B hz hl hH hS hc hs
  obtain ⟨h3, h4, h5, h6, h7, h8, h9, h10⟩ := hL
  have hts := B.2.2.2.2.1
  have hSt := B.2.2.2.2.2.2.2.2
  have cw : va_CN (zR (d + 1) mc ms) s args k.1.cls i k'.1 "ThirteenthLoaf" k'.2.1 k'.2.2.1 none (kws k') (zR d mc' ms') mc' ms' As.length :=
    va_cnB (ws' := tblG) As.length hts (kws_good (by rw [h9]; exact h5)) (by rw [kws, h9]) rfl rfl (hSt.2.1 _ h3) (hts _ h4) h6 ⟨Nat.le_refl _, by show 8 + (k'.2.2.1 + 11) + 64 * (d + 1) ≤ 64 * (d + 1 + 1); omega⟩
  rw [map_rev]
  refine z_call (va_runIN (As := As.map (zsh z)) (rest := S.map (zsh z)) ⟨B.1, B.2.1, B.2.2.1, B.2.2.2.1, hts⟩ hm ⟨cw, h8, hts _ h10⟩ ⟨zblind, z_pre hSt hH hS (.ref a :: As)⟩ rfl (by rw [List.length_map]) hl.1 rfl (lv_room (by rw [catsum]; exact hrs)) hd ⟨by show cells + mc' ≤ mc; omega, by show slots + ms' ≤ ms; omega⟩) hS ?_
  intro r g' f' H1 locs1 hp hH1 hS1
  rw [zlist]
  exact h r g' f' hp p e s m args below meth c0 H1 locs1 _ _ ls B hz hl hH1 hS1 (by omega) (by omega)
theorem r_objInit {i a : Nat} (hd : decode k.2.1 pc = .ok (.invokespecial i, 3)) (hw : Cond.methodLink k.1.cls i objectInit ∈ tblG) (hrs : (S.map fun v => v.category).sum ≤ 8) (h : PW l z d k mc ms post (pc + 3) L S g f cb sb) : PW l z d k mc ms post pc L (.ref a :: S) g f cb sb := by
  intro p e s m args below meth c0 H locs cells slots ls B hz hl hH hS hc hs
  have hts := B.2.2.2.2.1
  have h0 : 2 * (F0 m pc ls ((Value.ref a :: S).map (zsh z))).monitorRoom + ((S.map (zsh z)).map fun v => v.category).sum ≤ 8 := lv_room (by rw [catsum]; exact hrs)
  exact W.objInit B.1 B.2.1 B.2.2.2.1 (hts _ hw) (hts _ obj_inst) (hts _ obj_code) rfl (hl.1.trans B.2.2.1.symm) rfl hd (by show 1 ≤ d + 1; omega) (by show _ ≤ 64 * (d + 1); omega) (h p e s m args below meth c0 H locs cells slots ls B hz hl hH hS hc hs)
end INV

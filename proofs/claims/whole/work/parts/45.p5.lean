/-- old cells stay as they are -/
def gx (g g' : Gm) : Prop := gext g g' ∧ (∀ a, a < gnx g → grm g' a = grm g a) ∧ (∀ a, a < gnx g → glm g' a = glm g a)
theorem gx.rf (g : Gm) : gx g g := ⟨gext.rf g, fun _ _ => rfl, fun _ _ => rfl⟩
theorem gx.tr {g g' g'' : Gm} (h : gx g g') (k : gx g' g'') : gx g g'' := ⟨h.1.tr k.1, fun a ha => (k.2.1 a (Nat.lt_of_lt_of_le ha h.1.1)).trans (h.2.1 a ha), fun a ha => (k.2.2 a (Nat.lt_of_lt_of_le ha h.1.1)).trans (h.2.2 a ha)⟩
theorem gx.nw (g : Gm) (c n : Nat) : gx g (nwG g c n) := ⟨(gext.rf g).nw c n, fun a ha => by
  have hne : ¬ a = g.1 := Nat.ne_of_lt ha
  funext i; simp [grm, nwG, hne], fun a ha => by
  have hne : ¬ a = g.1 := Nat.ne_of_lt ha
  funext i; simp [glm, nwG, hne]⟩
theorem gx.stn {g g' : Gm} {a : Nat} (j : Nat) (x : Option Nat) (h : gx g g') (ha : gnx g ≤ a) : gx g (stR g' a j x) := ⟨h.1.st a j x, fun q hq => by
  have hne : ¬ q = a := by omega
  have := h.2.1 q hq
  funext i
  rw [← this]
  simp [grm, stR, hne], h.2.2⟩

theorem AL.gx {g g' : Gm} {b : Nat} (h : AL g b) (e : gx g g') : AL g' b := ⟨h.k.ext e.1, (congrFun (e.2.1 b h.k.2.2) 0).trans h.r0, h.a0.ext e.1, (congrFun (e.2.1 b h.k.2.2) 1).trans h.r1, h.a1.ext e.1⟩
theorem SL.gx {g g' : Gm} {b : Nat} (h : SL g b) (e : gx g g') : SL g' b := ⟨h.k.ext e.1, (congrFun (e.2.1 b h.k.2.2) 0).trans h.r0, h.a0.ext e.1, (congrFun (e.2.1 b h.k.2.2) 1).trans h.r1, h.a1.ext e.1⟩
theorem BL.gx {g g' : Gm} {b : Nat} (h : BL g b) (e : gx g g') : BL g' b := ⟨h.k.ext e.1, (congrFun (e.2.1 b h.k.2.2) 0).trans h.r0, h.a0.ext e.1, (congrFun (e.2.1 b h.k.2.2) 1).trans h.r1, h.a1.ext e.1, (congrFun (e.2.1 b h.k.2.2) 2).trans h.r2, h.a2.ext e.1, (congrFun (e.2.1 b h.k.2.2) 3).trans h.r3, h.o3.gx e, (congrFun (e.2.1 b h.k.2.2) 4).trans h.r4, h.o4.gx e⟩
theorem DL.gx {g g' : Gm} {b : Nat} (h : DL g b) (e : gx g g') : DL g' b := ⟨h.k.ext e.1, (congrFun (e.2.1 b h.k.2.2) 0).trans h.r0, h.o0.gx e, (congrFun (e.2.1 b h.k.2.2) 1).trans h.r1, h.a1.ext e.1, (congrFun (e.2.1 b h.k.2.2) 2).trans h.r2, h.a2.ext e.1, (congrFun (e.2.1 b h.k.2.2) 3).trans h.r3, h.a3.ext e.1, (congrFun (e.2.1 b h.k.2.2) 4).trans h.r4, h.a4.ext e.1, (congrFun (e.2.1 b h.k.2.2) 5).trans h.r5, h.a5.ext e.1, (congrFun (e.2.1 b h.k.2.2) 6).trans h.r6, h.a6.ext e.1, (congrFun (e.2.1 b h.k.2.2) 7).trans h.r7, h.a7.ext e.1, (congrFun (e.2.1 b h.k.2.2) 8).trans h.r8, h.a8.ext e.1⟩
theorem OL.gx {g g' : Gm} {b : Nat} (h : OL g b) (e : gx g g') : OL g' b := ⟨h.k.ext e.1, (congrFun (e.2.1 b h.k.2.2) 0).trans h.r0, h.a0.ext e.1, (congrFun (e.2.1 b h.k.2.2) 1).trans h.r1, h.a1.ext e.1, (congrFun (e.2.1 b h.k.2.2) 2).trans h.r2, h.a2.ext e.1⟩
theorem EL.gx {g g' : Gm} {b : Nat} (h : EL g b) (e : gx g g') : EL g' b := ⟨h.k.ext e.1, (congrFun (e.2.1 b h.k.2.2) 0).trans h.r0, h.a0.ext e.1, (congrFun (e.2.1 b h.k.2.2) 1).trans h.r1, h.a1.ext e.1, (congrFun (e.2.1 b h.k.2.2) 2).trans h.r2, h.a2.ext e.1, (congrFun (e.2.1 b h.k.2.2) 3).trans h.r3, h.a3.ext e.1⟩
theorem TL.gx {g g' : Gm} {b : Nat} (h : TL g b) (e : gx g g') : TL g' b := ⟨h.k.ext e.1, (congrFun (e.2.1 b h.k.2.2) 0).trans h.r0, h.a0.ext e.1, (congrFun (e.2.1 b h.k.2.2) 1).trans h.r1, h.a1.ext e.1, (congrFun (e.2.1 b h.k.2.2) 2).trans h.r2, h.a2.ext e.1⟩
theorem YL.gx {g g' : Gm} {b : Nat} (h : YL g b) (e : gx g g') : YL g' b := ⟨h.k.ext e.1, (congrFun (e.2.1 b h.k.2.2) 0).trans h.r0, h.a0.ext e.1, (congrFun (e.2.1 b h.k.2.2) 1).trans h.r1, h.a1.ext e.1, (congrFun (e.2.1 b h.k.2.2) 2).trans h.r2, h.a2.ext e.1, (congrFun (e.2.1 b h.k.2.2) 3).trans h.r3, h.a3.ext e.1, (congrFun (e.2.1 b h.k.2.2) 4).trans h.r4, h.a4.ext e.1, (congrFun (e.2.1 b h.k.2.2) 5).trans h.r5, h.a5.ext e.1⟩
theorem XL.gx {g g' : Gm} (h : XL g) (e : gx g g') : XL g' := ⟨h.k.ext e.1, (congrFun (e.2.1 64 h.k.2.2) 0).trans h.r0, h.o0.gx e, (congrFun (e.2.1 64 h.k.2.2) 1).trans h.r1, h.o1.gx e, (congrFun (e.2.1 64 h.k.2.2) 2).trans h.r2, h.a2.ext e.1, (congrFun (e.2.1 64 h.k.2.2) 3).trans h.r3, h.a3.ext e.1, (congrFun (e.2.1 64 h.k.2.2) 4).trans h.r4, h.o4.gx e, (congrFun (e.2.1 64 h.k.2.2) 5).trans h.r5, h.o5.gx e, (congrFun (e.2.1 64 h.k.2.2) 6).trans h.r6, h.o6.gx e, (congrFun (e.2.1 64 h.k.2.2) 7).trans h.r7, h.o7.gx e, (congrFun (e.2.1 64 h.k.2.2) 8).trans h.r8, h.o8.gx e, (congrFun (e.2.1 64 h.k.2.2) 9).trans h.r9, h.o9.gx e, (congrFun (e.2.1 64 h.k.2.2) 10).trans h.r10, h.o10.gx e, (congrFun (e.2.1 64 h.k.2.2) 11).trans h.r11, h.o11.gx e, (congrFun (e.2.1 64 h.k.2.2) 12).trans h.r12, h.a12.ext e.1, (congrFun (e.2.1 64 h.k.2.2) 13).trans h.r13, h.a13.ext e.1, (congrFun (e.2.1 64 h.k.2.2) 14).trans h.r14, h.a14.ext e.1, (congrFun (e.2.1 85 h.a2.2.2.1) 0).trans h.e0, (congrFun (e.2.1 85 h.a2.2.2.1) 1).trans h.e1, h.i0.gx e, h.i1.gx e⟩
theorem ML.gx {g g' : Gm} (h : ML g) (e : gx g g') : ML g' := ⟨h.k.ext e.1, (congrFun (e.2.1 164 h.k.2.2) 1).trans h.r1, h.a1.ext e.1, (congrFun (e.2.1 164 h.k.2.2) 2).trans h.r2, h.a2.ext e.1, (congrFun (e.2.1 164 h.k.2.2) 3).trans h.r3, h.a3.ext e.1, (congrFun (e.2.1 164 h.k.2.2) 4).trans h.r4, h.a4.ext e.1, (congrFun (e.2.1 164 h.k.2.2) 6).trans h.r6, h.a6.ext e.1, (congrFun (e.2.1 164 h.k.2.2) 7).trans h.r7, h.a7.ext e.1, (congrFun (e.2.1 164 h.k.2.2) 8).trans h.r8, h.a8.ext e.1, (congrFun (e.2.1 164 h.k.2.2) 11).trans h.r11, h.a11.ext e.1, (congrFun (e.2.1 164 h.k.2.2) 12).trans h.r12, h.a12.ext e.1, (congrFun (e.2.1 164 h.k.2.2) 13).trans h.r13, h.a13.ext e.1, (congrFun (e.2.1 164 h.k.2.2) 21).trans h.r21, h.a21.ext e.1, (congrFun (e.2.1 164 h.k.2.2) 24).trans h.r24, h.a24.ext e.1, (congrFun (e.2.1 164 h.k.2.2) 25).trans h.r25, h.a25.ext e.1, (congrFun (e.2.1 164 h.k.2.2) 26).trans h.r26, h.a26.ext e.1, (congrFun (e.2.1 164 h.k.2.2) 27).trans h.r27, h.a27.ext e.1, (congrFun (e.2.1 164 h.k.2.2) 28).trans h.r28, h.a28.ext e.1, (congrFun (e.2.1 164 h.k.2.2) 29).trans h.r29, h.a29.ext e.1, (congrFun (e.2.1 164 h.k.2.2) 30).trans h.r30, h.a30.ext e.1, (congrFun (e.2.1 164 h.k.2.2) 31).trans h.r31, h.a31.ext e.1, (congrFun (e.2.1 164 h.k.2.2) 32).trans h.r32, h.a32.ext e.1, (congrFun (e.2.1 164 h.k.2.2) 33).trans h.r33, h.a33.ext e.1, (congrFun (e.2.1 164 h.k.2.2) 34).trans h.r34, h.a34.ext e.1, (congrFun (e.2.1 164 h.k.2.2) 35).trans h.r35, h.a35.ext e.1, (congrFun (e.2.1 164 h.k.2.2) 36).trans h.r36, h.a36.ext e.1, (congrFun (e.2.1 164 h.k.2.2) 37).trans h.r37, h.a37.ext e.1, (congrFun (e.2.1 164 h.k.2.2) 38).trans h.r38, h.a38.ext e.1, (congrFun (e.2.1 164 h.k.2.2) 39).trans h.r39, h.a39.ext e.1, (congrFun (e.2.1 164 h.k.2.2) 40).trans h.r40, h.a40.ext e.1, (congrFun (e.2.1 164 h.k.2.2) 41).trans h.r41, h.a41.ext e.1, (congrFun (e.2.1 164 h.k.2.2) 42).trans h.r42, h.a42.ext e.1⟩
section CLONE
variable {l : Launch} {z : Zv} {d : Nat} {k : PMd} {mc ms : Nat} {post : Po} {pc : Nat} {L : List (Nat × Value)} {S : List Value} {g : Gm} {f : Fm} {cb sb : Nat}
theorem zpic_cl {c n a : Nat} : ∀ b, b < gnx g → zpic z (nwG g c n) (clF f a (gnx g)) b = zpic z g f b := by
  intro b hb
  rw [← zpic_nw (z := z) (f := f) (c := c) (n := n) b hb]
  have hne : ¬ b = gnx g := Nat.ne_of_lt hb
  have h6 : ∀ i, clF f a (gnx g) b i = nwF f (gnx g) b i := fun i => by simp [nwF, clF, hne]
  have h2 : ∀ c', zfv z (nwG g c n) (clF f a (gnx g)) b c' = zfv z (nwG g c n) (nwF f (gnx g)) b c' := fun c' => by funext i; simp [zfv, h6]
  have h3 : zcon z (nwG g c n) (clF f a (gnx g)) b = zcon z (nwG g c n) (nwF f (gnx g)) b := by simp only [zcon, h6]
  simp only [zpic, h2, h3]
/-- int[].clone() -/
theorem r_clone {i a n : Nat} (hd : decode k.2.1 pc = .ok (.invokevirtual i, 3)) (hw : Cond.methodLink k.1.cls i ⟨"[I", "clone", "()Ljava/lang/Object;"⟩ ∈ tblG) (hA : isA g a 11 n) (h1 : 1 ≤ cb) (h2 : n ≤ sb) (hrs : (S.map fun v => v.category).sum ≤ 8) (h : PW l z d k mc ms post (pc + 3) L (.ref (gnx g) :: S) (nwG g 11 n) (clF f a (gnx g)) (cb - 1) (sb - n)) : PW l z d k mc ms post pc L (.ref a :: S) g f cb sb := by
  intro p e s m args below meth c0 H locs cells slots ls B hz hl hH hS hc hs
  obtain ⟨a1, a2, a3, a4⟩ := hA
  have hSt := B.2.2.2.2.2.2.2.2
  have K := hSt.K
  have hts := B.2.2.2.2.1
  have hc1 : H[zad z a]? = some (vp_cell (z.2.1 11) (n, .inl (fun i => iI (f a i)))) := zH_cell hH a2 a3 (zpic_i (f := f) a1 a4 (Or.inl rfl))
  have hnm := va_nm_int (K.2 0 _ rfl).2
  obtain ⟨cq, tq, f1, f2, f3⟩ := Cond.castable_spec (va_Nw.use (A := args) rfl (hSt.2.1 _ cl_cast))
  cases hnm.symm.trans f1
  intro T hT X
  obtain ⟨-, kA, hkA, comp, hkind⟩ := State.isArrayOf_alike X.warmed.alike ((K.2 0 _ rfl).1 0 (fun _ => .null))
  obtain ⟨-, kS, hkS, compS, hkindS⟩ := (K.2 0 _ rfl).1 0 (fun _ => .null)
  have hsz : (vp_cell (z.2.1 11) (n, .inl (fun i => iI (f a i)))).slots.size = n := arrV_size _ _ _
  obtain ⟨vm', X', st⟩ := X.cloneArray B.1 B.2.2.2.1 (hts _ hw) (hts _ cl_same) (hts _ cl_nat) (hts _ cl_inst) (hts _ cl_sel) (a := zad z a) (cell := vp_cell (z.2.1 11) (n, .inl (fun i => iI (f a i)))) (by rw [hT]; exact hc1) (fun q hq => by cases hq) (fun hq => by cases hq) hnm f2 f3
    (fun i v hv => by
      have hk' : T.vm.classes[z.2.1 11]? = some kA := hkA
      have hfit : fits .int v = true := va_fit (cA := z.2.1 11) (n := n) (F := fun i => .int (iI (f a i))) (fun i _ => rfl) i v hv
      show State.fitsSlot T (z.2.1 11) _ i v = true
      simpa [State.fitsSlot, State.slotType?, hk', hkind] using hfit)
    (g := F0 m pc ls (.ref (zad z a) :: S.map (zsh z))) rfl (hl.1.trans B.2.2.1.symm) (rest := S.map (zsh z)) rfl (by rw [B.2.1]; exact hd) (by show 1 ≤ d + 1; omega) (by show 2 * 0 + _ + 14 ≤ 64 * (d + 1); have h6 := catsum (z := z) S; omega) (by show cells + 1 ≤ mc; omega) (by rw [hsz]; show slots + n ≤ ms; omega) (hloader := Vm.clonesLoader_of_array hkS hkindS)
  rw [hsz] at X'
  generalize hH1 : H.push (vp_cell (z.2.1 11) (n, .inl (fun i => iI (f a i)))) = H1
  have z1 : H1.size = H.size + 1 := by rw [← hH1, Array.size_push]
  have e1 : H1[H.size]? = some (vp_cell (z.2.1 11) (n, .inl (fun i => iI (f a i)))) := by rw [← hH1, Array.getElem?_push_size]
  have o1 : ∀ q : Nat, q < H.size → H1[q]? = H[q]? := fun q hq => by rw [← hH1, Array.getElem?_push, if_neg (Nat.ne_of_lt hq)]
  have hkd : gkd (nwG g 11 n) (gnx g) = 11 := by simp [gkd, nwG, gnx]
  have hln : gln (nwG g 11 n) (gnx g) = n := by simp [gln, nwG, gnx]
  have hH2 : zH z (nwG g 11 n) (clF f a (gnx g)) H1 := by
    refine zH_push hH rfl ?_ z1 o1 zpic_cl
    rw [zH_top hH] at e1
    rw [zpic_i hkd hln (Or.inl rfl)]
    show H1[zad z (gnx g)]? = some (vp_cell _ _)
    rw [e1]
    have : (fun i => iI (clF f a (gnx g) (gnx g) i)) = (fun i => iI (f a i)) := by funext i; simp [clF]
    rw [this]
  have hSS : va_S (zA z) s.heap H1 locs := ⟨Nat.le_trans hS.1 (by omega), fun x h1 h2 => (o1 x (Nat.lt_of_lt_of_le h1 hS.1)).trans (hS.2.1 x h1 h2), hS.2.2⟩
  obtain ⟨t, b1, b2⟩ := h p e s m args below meth c0 H1 locs (cells + 1) (slots + n) ls B hz hl hH2 hSS (by omega) (by omega) ((T.setVm vm').pushCell (vp_cell (z.2.1 11) (n, .inl (fun i => iI (f a i))))) (by rw [← hH1, ← hT]; rfl) X'
  refine ⟨t, st t ?_, b2⟩
  rw [hT]
  rw [List.map_cons] at b1
  have e5 : zsh z (.ref (gnx g)) = .ref H.size := by rw [zH_top hH]; rfl
  rw [e5] at b1
  exact b1
theorem r_castI {i a n : Nat} (hd : decode k.2.1 pc = .ok (.checkcast i, 3)) (hw : Cond.classLink k.1.cls i "[I" ∈ tblG) (hA : isA g a 11 n) (h : PW l z d k mc ms post (pc + 3) L (.ref a :: S) g f cb sb) : PW l z d k mc ms post pc L (.ref a :: S) g f cb sb := by
  intro p e s m args below meth c0 H locs cells slots ls B hz hl hH hS hc hs
  obtain ⟨a1, a2, a3, a4⟩ := hA
  have K := B.2.2.2.2.2.2.2.2.K
  have hts := B.2.2.2.2.1
  have hq := zws_at (z := z) (f := f) a2 a3
  rw [zpic_i (f := f) a1 a4 (Or.inl rfl)] at hq
  exact va_castA B.1 B.2.1 B.2.2.2.1 (hts _ hw) hH.in_ (a - 64) hq (va_nm_int (K.2 0 _ rfl).2) hd (h p e s m args below meth c0 H locs cells slots ls B hz hl hH hS hc hs)
end CLONE
set_option maxRecDepth 100000 in
set_option maxHeartbeats 4000000 in
theorem s_copyOf (l : Launch) (z : Zv) (d : Nat) {g : Gm} {f : Fm} {a n m : Nat} (hA : isA g a 11 n) (hm : m ≤ n) (hn : n ≤ 1000000) : PM l z (d + 1) mJ7_copyOf_59c91 [.ref a, .int (iI ((m : Nat) : Int))] g f 1 m (fun r g' f' => r = some (.ref (gnx g)) ∧ nwG g 11 m = g' ∧ (∀ i, i < m → f' (gnx g) i = f a i) ∧ ∀ b, b ≠ gnx g → f' b = f b) := by
  have h64 : 64 ≤ gnx g := Nat.le_of_lt (Nat.lt_of_le_of_lt hA.2.1 hA.2.2.1)
  have hlt : a < gnx g := hA.2.2.1
  refine PM.ofF (by decide +kernel) (Nat.le_of_ble_eq_true rfl) ?_
  refine r_iload_n (pc := 0) 1 dJ7_copyOf_59c91_0 rfl rfl ?_
  refine r_aload_n (pc := 1) 0 dJ7_copyOf_59c91_1 rfl rfl ?_
  refine r_alen (pc := 2) (n := n) dJ7_copyOf_59c91_2 hA (by decide) ?_
  refine r_icmp_ne (pc := 3) (tgt := 14) dJ7_copyOf_59c91_3 (by decide) (by omega) (by omega) (fun c_3 => ?_) (fun c_3 => ?_)
  · refine r_iload_n (pc := 14) 1 dJ7_copyOf_59c91_14 rfl rfl ?_
    refine r_newa (pc := 15) (c := 11) (n := m) dJ7_copyOf_59c91_15 (Or.inl ⟨rfl, rfl⟩) ak_int (by omega) (by omega) (by omega) ?_
    refine r_astore_n (pc := 17) (L2 := [(2, (.ref (gnx g))), (0, (.ref a)), (1, .int (iI ((m : Nat) : Int)))]) dJ7_copyOf_59c91_17 rfl (by decide) rfl ?_
    refine r_aload_n (pc := 18) 1 dJ7_copyOf_59c91_18 rfl rfl ?_
    refine r_iconst (pc := 19) dJ7_copyOf_59c91_19 ?_
    refine r_aload_n (pc := 20) 0 dJ7_copyOf_59c91_20 rfl rfl ?_
    refine r_iconst (pc := 21) dJ7_copyOf_59c91_21 ?_
    refine r_aload_n (pc := 22) 1 dJ7_copyOf_59c91_22 rfl rfl ?_
    refine r_alen (pc := 23) (n := n) dJ7_copyOf_59c91_23 (hA.nw 11 m) (by decide) ?_
    refine r_iload_n (pc := 24) 2 dJ7_copyOf_59c91_24 rfl rfl ?_
    refine r_callS (pc := 25) (As := [.int (iI ((n : Nat) : Int)), .int (iI ((m : Nat) : Int))]) (S := [.int (iI 0), .ref (gnx g), .int (iI 0), .ref a]) dJ7_copyOf_59c91_25 cs_J7_304 rfl (Nat.le_of_ble_eq_true rfl) (c_min l z _ _ _ _ _ (by omega) (by omega)) (Nat.zero_le _) (Nat.zero_le _) (fun r_25 g_25 f_25 q_25 => ?_)
    obtain ⟨rfl, rfl, rfl⟩ := q_25
    refine r_acopyI (pc := 28) dJ7_copyOf_59c91_28 ac_J7_150 (hA.nw 11 m) (isA_new 11 m rfl h64) (by omega) (by omega) (by omega) (by omega) (Nat.le_of_ble_eq_true rfl) ?_
    refine r_aload_n (pc := 31) 0 dJ7_copyOf_59c91_31 rfl rfl ?_
    refine r_aret (pc := 32) dJ7_copyOf_59c91_32 rfl (by simp) ⟨rfl, rfl, fun i hi => ?_, fun b hb => ?_⟩
    · have e1 : (min (n : Int) (m : Int)).toNat = m := by omega
      have hne : ¬ a = gnx g := Nat.ne_of_lt hlt
      simp [cpF, e1, hi, nwF, hne]
    · funext i
      simp [cpF, hb, nwF]
  · obtain rfl : m = n := by omega
    refine r_aload_n (pc := 6) 0 dJ7_copyOf_59c91_6 rfl rfl ?_
    refine r_clone (pc := 7) dJ7_copyOf_59c91_7 cl_link hA (by omega) (by omega) (Nat.le_of_ble_eq_true rfl) ?_
    refine r_castI (pc := 10) dJ7_copyOf_59c91_10 cl_chk (isA_new 11 m rfl h64) ?_
    refine r_aret (pc := 13) dJ7_copyOf_59c91_13 rfl (by simp) ⟨rfl, rfl, fun i hi => ?_, fun b hb => ?_⟩
    · simp [clF]
    · funext i
      simp [clF, hb]

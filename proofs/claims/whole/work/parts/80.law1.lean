/-! THE CLAIM OUT OF ONE WALK OF THE LAW'S BODY. Your part is whole_start (and what it stands on); all else here is the same for every law, but numbers. -/
def R_law : String := "ThirteenthLoafLaw"
def lw_P (b : Addr) (xs : List Int32) (args : Array Value) (s : State) : Prop := args = #[.ref b] ∧ s.IntsAt b xs ∧ xs.length ≤ 3072 ∧ (Jvm.Cond.and given_1 narrow_1).before args s = true
def lw_Q (_ : Array Value) (s : State) (o : Outcome) (t : State) : Prop := o = .returned (some (.int 1)) ∧ Framed s o t [] 600000 7302250
def lw_Z (below : List Frame) (a : Array Value) (s : State) : State → Prop := fun t => ∃ o, t.status = .running ∧ Ended t below o ∧ lw_Q a s o t
/-- the law's own end, with 1 on the stack, nothing written that was there before, its room as the claim has it -/
theorem lw_ret {p : Program} {l : Launch} {e : Env} {s : State} {m : MethodId} {below : List Frame} {meth : Method} {c : Code} {b : Nat} (hx : p.tables.exec = Jvm.exec) (hb : c.code = code) (hr : meth.sig.returnType = ret) (hlocks : meth.locks = false) {pc : Nat} {H : Heap} {ls : Array Slot} (hdg : decode code pc = .ok (.ireturn, 1)) : W p l e room_1 s m #[Value.ref b] below meth c H [] 600000 7302250 (lw_Z below #[Value.ref b] s) (F0 m pc ls [.int 1]) := by
  intro T hT X
  obtain ⟨fs, hret, hrun, hended, hW, hframe⟩ := X.leave (v := some (.int 1)) (hlocks := hlocks) (fun h => by rw [hr] at h; cases h)
  have hmeth' : T.vm.method? m = some meth := X.method'
  refine ⟨T.setFrames fs, ?_, .returned (some (.int 1)), hrun, hended, rfl, ⟨_, rfl⟩, hW, hframe⟩
  jvm_step X.here [X.here.top, hx, hb, hdg, hmeth', hr, ret, narrow_b1]
  (try refine ⟨rfl, ?_⟩); (try refine ⟨rfl, ?_⟩)
  first | (intro acts; rw [hret _ acts rfl rfl rfl]) | rw [hret _ _ rfl rfl rfl]
  exact Steps.refl _
/-- what holds at the law's entry: the machine, the code, the tables' words (any of lw_tbl by 'hts w (by decide +kernel)'), the script of L ints xs at the cell b, what the Statement gives of the start (any of its parts by flat_of_before) -/
def lw_At (p : Program) (s : State) (m : MethodId) (meth : Method) (c : Code) (b L : Nat) (xs : Nat → Int32) : Prop :=
  p.tables.exec = Jvm.exec ∧ c.code = code ∧ meth.sig.returnType = ret ∧ c.maxLocals = 4 ∧ s.vm.findClass R_law = some m.cls ∧ (∀ w ∈ lw_tbl, w.before #[Value.ref b] s = true) ∧ va_X b L xs s s.heap ∧ b < s.heap.size ∧ meth.locks = false ∧ (Jvm.Cond.and given_1 narrow_1).before #[Value.ref b] s = true

def lFix (z : Zv) (b N : Nat) (X : Nat → Int) (p : Program) (s : State) (m : MethodId) (args : Array Value) (meth : Method) (c : Code) : Prop :=
  p.tables.exec = Jvm.exec ∧ c.code = code ∧ c.maxLocals = 4 ∧ s.vm.findClass R_law = some m.cls ∧ (∀ w ∈ tblG, w.before args s = true) ∧ meth.sig.returnType = ret ∧ meth.locks = false ∧ args = #[Value.ref b] ∧ St z s ∧ va_X b N (fun j => iI (X j)) s s.heap ∧ b < s.heap.size ∧ z.2.2.1 = s.heap.size ∧ z.2.2.2 62 = b
def LW (l : Launch) (z : Zv) (b N : Nat) (X : Nat → Int) (pc : Nat) (L : List (Nat × Value)) (S : List Value) (g : Gm) (f : Fm) (cb sb : Nat) : Prop :=
  ∀ (p : Program) (e : Env) (s : State) (m : MethodId) (args : Array Value) (below : List Frame) (meth : Method) (c : Code) (H : Heap) (locs : List Loc) (cells slots : Nat) (ls : Array Slot),
    lFix z b N X p s m args meth c → z.2.2.1 ≤ s.heap.size → lv_has ls 4 (L.map fun q => (q.1, zsh z q.2)) → zH z g f H → va_S (zA z) s.heap H locs → cells + cb ≤ 600000 → slots + sb ≤ 7302250 →
    W p l e room_1 s m args below meth c H locs cells slots (lw_Z below args s) (F0 m pc ls (S.map (zsh z)))
section LAWR
variable {l : Launch} {z : Zv} {b N : Nat} {X : Nat → Int} {pc : Nat} {L : List (Nat × Value)} {S : List Value} {g : Gm} {f : Fm} {cb sb : Nat}

theorem w_iconst {n : Int} (hd : decode code pc = .ok (.iconst n, 1)) (h : LW l z b N X (pc + 1) L (.int (iI n) :: S) g f cb sb) : LW l z b N X pc L S g f cb sb := by
  intro p e s m args below meth c H locs cells slots ls B hz hl hH hS hc hs
  exact lv_iconst B.1 B.2.1 hd rfl (h p e s m args below meth c H locs cells slots ls B hz hl hH hS hc hs)
theorem w_bipush {n : Int} (hd : decode code pc = .ok (.bipush n, 2)) (hv : (Int8.ofInt n).toInt32 = iI n) (h : LW l z b N X (pc + 2) L (.int (iI n) :: S) g f cb sb) : LW l z b N X pc L S g f cb sb := by
  intro p e s m args below meth c H locs cells slots ls B hz hl hH hS hc hs
  exact lv_bipush B.1 B.2.1 hd hv (h p e s m args below meth c H locs cells slots ls B hz hl hH hS hc hs)
theorem w_iload_n {q : Fin 4} {i : Nat} {x : Int} (j : Nat) (hd : decode code pc = .ok (.iload_n q, 1)) (hi : (q : Nat) = i) (hj : L[j]? = some (i, (.int (iI x)))) (h : LW l z b N X (pc + 1) L ((.int (iI x)) :: S) g f cb sb) : LW l z b N X pc L S g f cb sb := by
  intro p e s m args below meth c H locs cells slots ls B hz hl hH hS hc hs
  exact lv_iload_n B.1 B.2.1 hd hi (lv_at hl j (by rw [List.getElem?_map, hj]; rfl)) (h p e s m args below meth c H locs cells slots ls B hz hl hH hS hc hs)
theorem w_aload_n {q : Fin 4} {i : Nat} {x : Nat} (j : Nat) (hd : decode code pc = .ok (.aload_n q, 1)) (hi : (q : Nat) = i) (hj : L[j]? = some (i, (.ref x))) (h : LW l z b N X (pc + 1) L ((.ref x) :: S) g f cb sb) : LW l z b N X pc L S g f cb sb := by
  intro p e s m args below meth c H locs cells slots ls B hz hl hH hS hc hs
  exact lv_aload_n B.1 B.2.1 hd hi (lv_at hl j (by rw [List.getElem?_map, hj]; rfl)) (h p e s m args below meth c H locs cells slots ls B hz hl hH hS hc hs)
theorem w_istore_n {q : Fin 4} {i : Nat} {x : Int} {L2 : List (Nat × Value)} (hd : decode code pc = .ok (.istore_n q, 1)) (hi : (q : Nat) = i) (hn : i < 4) (hL : stL i (.int (iI x)) L = L2) (h : LW l z b N X (pc + 1) L2 S g f cb sb) : LW l z b N X pc L ((.int (iI x)) :: S) g f cb sb := by
  intro p e s m args below meth c H locs cells slots ls B hz hl hH hS hc hs
  subst hL
  exact lv_istore_n B.1 B.2.1 hd hi hl hn (stL_map z i (.int (iI x)) L).symm (fun ls2 hl2 => h p e s m args below meth c H locs cells slots ls2 B hz hl2 hH hS hc hs)
theorem w_astore_n {q : Fin 4} {i : Nat} {x : Nat} {L2 : List (Nat × Value)} (hd : decode code pc = .ok (.astore_n q, 1)) (hi : (q : Nat) = i) (hn : i < 4) (hL : stL i (.ref x) L = L2) (h : LW l z b N X (pc + 1) L2 S g f cb sb) : LW l z b N X pc L ((.ref x) :: S) g f cb sb := by
  intro p e s m args below meth c H locs cells slots ls B hz hl hH hS hc hs
  subst hL
  exact lv_astore_n B.1 B.2.1 hd hi hl hn (stL_map z i (.ref x) L).symm (fun ls2 hl2 => h p e s m args below meth c H locs cells slots ls2 B hz hl2 hH hS hc hs)
theorem w_iinc {i : Nat} {n x : Int} {L2 : List (Nat × Value)} (j : Nat) (hd : decode code pc = .ok (.iinc i n, 3)) (hj : L[j]? = some (i, .int (iI x))) (hn : i < 4) (hL : stL i (.int (iI (x + n))) L = L2) (h : LW l z b N X (pc + 3) L2 S g f cb sb) : LW l z b N X pc L S g f cb sb := by
  intro p e s m args below meth c H locs cells slots ls B hz hl hH hS hc hs
  subst hL
  exact lv_iinc B.1 B.2.1 hd hl (k := j) (by rw [List.getElem?_map, hj]; rfl) (iI_add x n) hn (stL_map z i (.int (iI (x + n))) L).symm (fun ls2 hl2 => h p e s m args below meth c H locs cells slots ls2 B hz hl2 hH hS hc hs)
theorem w_iincv {i : Nat} {n x y : Int} {L2 : List (Nat × Value)} (j : Nat) (hd : decode code pc = .ok (.iinc i n, 3)) (hj : L[j]? = some (i, .int (iI x))) (hv : x + n = y) (hn : i < 4) (hL : stL i (.int (iI y)) L = L2) (h : LW l z b N X (pc + 3) L2 S g f cb sb) : LW l z b N X pc L S g f cb sb := by
  subst hv; exact w_iinc j hd hj hn hL h
theorem w_iadd {x y : Int} (hd : decode code pc = .ok (.iadd, 1)) (h : LW l z b N X (pc + 1) L (.int (iI (x + y)) :: S) g f cb sb) : LW l z b N X pc L (.int (iI y) :: .int (iI x) :: S) g f cb sb := by
  intro p e s m args below meth c H locs cells slots ls B hz hl hH hS hc hs
  refine lv_iadd B.1 B.2.1 hd ?_
  rw [iI_add]
  exact h p e s m args below meth c H locs cells slots ls B hz hl hH hS hc hs
theorem w_isub {x y : Int} (hd : decode code pc = .ok (.isub, 1)) (h : LW l z b N X (pc + 1) L (.int (iI (x - y)) :: S) g f cb sb) : LW l z b N X pc L (.int (iI y) :: .int (iI x) :: S) g f cb sb := by
  intro p e s m args below meth c H locs cells slots ls B hz hl hH hS hc hs
  refine lv_isub B.1 B.2.1 hd ?_
  rw [iI_sub]
  exact h p e s m args below meth c H locs cells slots ls B hz hl hH hS hc hs
theorem w_iand {x y w : Int} (hd : decode code pc = .ok (.iand, 1)) (hv : iI x &&& iI y = iI w) (h : LW l z b N X (pc + 1) L (.int (iI w) :: S) g f cb sb) : LW l z b N X pc L (.int (iI y) :: .int (iI x) :: S) g f cb sb := by
  intro p e s m args below meth c H locs cells slots ls B hz hl hH hS hc hs
  refine lv_iand B.1 B.2.1 hd ?_
  rw [hv]
  exact h p e s m args below meth c H locs cells slots ls B hz hl hH hS hc hs
theorem w_dup {v : Value} (hd : decode code pc = .ok (.dup, 1)) (hv : v.category = 1) (h : LW l z b N X (pc + 1) L (v :: v :: S) g f cb sb) : LW l z b N X pc L (v :: S) g f cb sb := by
  intro p e s m args below meth c H locs cells slots ls B hz hl hH hS hc hs
  exact lv_dup B.1 B.2.1 hd (by rw [zcat]; exact hv) (h p e s m args below meth c H locs cells slots ls B hz hl hH hS hc hs)
theorem w_goto {off : Int} {tgt : Nat} (hd : decode code pc = .ok (.goto off, 3)) (ht : (pc : Int) + off = (tgt : Int)) (h : LW l z b N X tgt L S g f cb sb) : LW l z b N X pc L S g f cb sb := by
  intro p e s m args below meth c H locs cells slots ls B hz hl hH hS hc hs
  exact lv_goto B.1 B.2.1 hd ht (h p e s m args below meth c H locs cells slots ls B hz hl hH hS hc hs)
theorem w_icmp_gt {x y : Int} {off : Int} {tgt : Nat} (hd : decode code pc = .ok (.if_icmp .gt off, 3)) (ht : (pc : Int) + off = (tgt : Int)) (hx : -2147483648 ≤ x ∧ x ≤ 2147483647) (hy : -2147483648 ≤ y ∧ y ≤ 2147483647) (kt : y < x → LW l z b N X tgt L S g f cb sb) (kf : x ≤ y → LW l z b N X (pc + 3) L S g f cb sb) : LW l z b N X pc L (.int (iI y) :: .int (iI x) :: S) g f cb sb := by
  intro p e s m args below meth c H locs cells slots ls B hz hl hH hS hc hs
  exact lv_icmp_gt B.1 B.2.1 hd ht (fun q => kt ((iI_lt hy hx).mp q) p e s m args below meth c H locs cells slots ls B hz hl hH hS hc hs) (fun q => kf (Int.not_lt.mp (fun q2 => q ((iI_lt hy hx).mpr q2))) p e s m args below meth c H locs cells slots ls B hz hl hH hS hc hs)
theorem w_icmp_eq {x y : Int} {off : Int} {tgt : Nat} (hd : decode code pc = .ok (.if_icmp .eq off, 3)) (ht : (pc : Int) + off = (tgt : Int)) (hx : -2147483648 ≤ x ∧ x ≤ 2147483647) (hy : -2147483648 ≤ y ∧ y ≤ 2147483647) (kt : x = y → LW l z b N X tgt L S g f cb sb) (kf : ¬ x = y → LW l z b N X (pc + 3) L S g f cb sb) : LW l z b N X pc L (.int (iI y) :: .int (iI x) :: S) g f cb sb := by
  intro p e s m args below meth c H locs cells slots ls B hz hl hH hS hc hs
  exact lv_icmp_eq B.1 B.2.1 hd ht (fun q => kt ((iI_eq hx hy).mp q) p e s m args below meth c H locs cells slots ls B hz hl hH hS hc hs) (fun q => kf (fun q2 => q ((iI_eq hx hy).mpr q2)) p e s m args below meth c H locs cells slots ls B hz hl hH hS hc hs)
theorem w_if_eq {x : Int} {off : Int} {tgt : Nat} (hd : decode code pc = .ok (.ifCond .eq off, 3)) (ht : (pc : Int) + off = (tgt : Int)) (hx : -2147483648 ≤ x ∧ x ≤ 2147483647) (kt : x = 0 → LW l z b N X tgt L S g f cb sb) (kf : ¬ x = 0 → LW l z b N X (pc + 3) L S g f cb sb) : LW l z b N X pc L (.int (iI x) :: S) g f cb sb := by
  intro p e s m args below meth c H locs cells slots ls B hz hl hH hS hc hs
  have h0 : (-2147483648 : Int) ≤ 0 ∧ (0 : Int) ≤ 2147483647 := by decide
  exact lv_if_eq B.1 B.2.1 hd ht (fun q => kt ((iI_eq hx h0).mp q) p e s m args below meth c H locs cells slots ls B hz hl hH hS hc hs) (fun q => kf (fun q2 => q ((iI_eq hx h0).mpr q2)) p e s m args below meth c H locs cells slots ls B hz hl hH hS hc hs)
theorem w_lcmp {x y w : Int} (hd : decode code pc = .ok (.lcmp, 1)) (hv : lg_cmp (lI x) (lI y) = iI w) (h : LW l z b N X (pc + 1) L (.int (iI w) :: S) g f cb sb) : LW l z b N X pc L (.long (lI y) :: .long (lI x) :: S) g f cb sb := by
  intro p e s m args below meth c H locs cells slots ls B hz hl hH hS hc hs
  refine W.lcmp B.1 B.2.1 hd ?_
  rw [hv]
  exact h p e s m args below meth c H locs cells slots ls B hz hl hH hS hc hs
theorem w_tsw {dflt lo hi : Int} {offs : Array Int} {len : Nat} {x : Int} {off : Int} {tgt : Nat} (hd : decode code pc = .ok (.tableswitch dflt lo hi offs, len)) (hx : -2147483648 ≤ x ∧ x ≤ 2147483647) (h1 : lo ≤ x) (h2 : x ≤ hi) (ho : offs[(x - lo).toNat]? = some off) (ht : (pc : Int) + off = (tgt : Int)) (h : LW l z b N X tgt L S g f cb sb) : LW l z b N X pc L (.int (iI x) :: S) g f cb sb := by
  intro p e s m args below meth c H locs cells slots ls B hz hl hH hS hc hs
  exact lv_tableIn B.1 B.2.1 hd (by rw [iI_toInt hx]; omega) (by rw [iI_toInt hx]; omega) (by rw [iI_toInt hx]; exact ho) ht (h p e s m args below meth c H locs cells slots ls B hz hl hH hS hc hs)
theorem w_tswD {dflt lo hi : Int} {offs : Array Int} {len : Nat} {x : Int} {tgt : Nat} (hd : decode code pc = .ok (.tableswitch dflt lo hi offs, len)) (hx : -2147483648 ≤ x ∧ x ≤ 2147483647) (h1 : x < lo ∨ hi < x) (ht : (pc : Int) + dflt = (tgt : Int)) (h : LW l z b N X tgt L S g f cb sb) : LW l z b N X pc L (.int (iI x) :: S) g f cb sb := by
  intro p e s m args below meth c H locs cells slots ls B hz hl hH hS hc hs
  exact lv_tableOut B.1 B.2.1 hd (by rw [iI_toInt hx]; exact h1) ht (h p e s m args below meth c H locs cells slots ls B hz hl hH hS hc hs)
theorem w_sub {L2 : List (Nat × Value)} (ks : List Nat) (hL : lv_pick L ks = L2) (h : LW l z b N X pc L2 S g f cb sb) : LW l z b N X pc L S g f cb sb := by
  intro p e s m args below meth c H locs cells slots ls B hz hl hH hS hc hs
  subst hL
  refine h p e s m args below meth c H locs cells slots ls B hz (lv_sub hl ks ?_) hH hS hc hs
  simp only [lv_pick, List.getElem?_map, List.map_filterMap]
theorem w_eqI {x y : Int} (hv : x = y) (h : LW l z b N X pc L (.int (iI y) :: S) g f cb sb) : LW l z b N X pc L (.int (iI x) :: S) g f cb sb := by
  subst hv; exact h
theorem w_room {cb2 sb2 : Nat} (h1 : cb2 ≤ cb) (h2 : sb2 ≤ sb) (h : LW l z b N X pc L S g f cb2 sb2) : LW l z b N X pc L S g f cb sb := by
  intro p e s m args below meth c H locs cells slots ls B hz hl hH hS hc hs
  exact h p e s m args below meth c H locs cells slots ls B hz hl hH hS (by omega) (by omega)
theorem w_slen (hd : decode code pc = .ok (.arraylength, 1)) (h : LW l z b N X (pc + 1) L (.int (iI (N : Int)) :: S) g f cb sb) : LW l z b N X pc L (.ref 62 :: S) g f cb sb := by
  intro p e s m args below meth c H locs cells slots ls B hz hl hH hS hc hs
  obtain ⟨B1, B2, B3, B4, B5, B6, B7, B8, B9, B10, B11, B12, B13⟩ := id B
  have e0 : zsh z (.ref 62) = .ref b := by simp [zsh, zad, B13]
  have h2 := h p e s m args below meth c H locs cells slots ls B hz hl hH hS hc hs
  rw [List.map_cons, e0]
  refine va_slen B1 B2 B10 B11 (by rw [zA, B12]; exact Nat.not_le.mpr B11) hS hd ?_
  rw [show Int32.ofNat N = iI (N : Int) from (iI_nat N).symm]
  exact h2
theorem w_sld {x : Int} (hd : decode code pc = .ok (.iaload, 1)) (hx : 0 ≤ x ∧ x < N) (hN : N ≤ 3072) (h : LW l z b N X (pc + 1) L (.int (iI (X x.toNat)) :: S) g f cb sb) : LW l z b N X pc L (.int (iI x) :: .ref 62 :: S) g f cb sb := by
  intro p e s m args below meth c H locs cells slots ls B hz hl hH hS hc hs
  obtain ⟨B1, B2, B3, B4, B5, B6, B7, B8, B9, B10, B11, B12, B13⟩ := id B
  have e0 : zsh z (.ref 62) = .ref b := by simp [zsh, zad, B13]
  have h2 := h p e s m args below meth c H locs cells slots ls B hz hl hH hS hc hs
  show W p l e room_1 s m args below meth c H locs cells slots (lw_Z below args s) (F0 m pc ls (.int (iI x) :: zsh z (.ref 62) :: S.map (zsh z)))
  rw [e0]
  refine va_sld B1 B2 B10 B11 (by rw [zA, B12]; exact Nat.not_le.mpr B11) hS (iI_in hx (by omega)) hd ?_
  rw [iI_cl (by omega)]
  exact h2
theorem w_ret1 (hd : decode code pc = .ok (.ireturn, 1)) : LW l z b N X pc L [.int (iI 1)] g f cb sb := by
  intro p e s m args below meth c H locs cells slots ls B hz hl hH hS hc hs
  obtain ⟨B1, B2, B3, B4, B5, B6, B7, B8, B9, B10, B11, B12, B13⟩ := B
  subst B8
  refine va_forget (fun q hq => ?_) (W.widen (k := 600000) (n := 7302250) (by omega) (by omega) (lw_ret B1 B2 B6 B7 hd))
  have h1 := hS.2.2 q hq
  rw [zA, B12] at h1
  exact h1
theorem w_callV {k' : PMd} {i a c d mc' ms' : Nat} {As S0 : List Value} {post' : Po} (hd : decode code pc = .ok (.invokevirtual i, 3)) (hL : CV R_law i c k' As.length) (hK : isK g a c) (hst : As.reverse ++ .ref a :: S = S0) (hrs : (S.map fun v => v.category).sum ≤ 8) (hd3 : d ≤ 1000) (hm : PM l z d k' (.ref a :: As) g f mc' ms' post') (hc1 : mc' ≤ cb) (hs1 : ms' ≤ sb)
    (h : ∀ r g' f', post' r g' f' → LW l z b N X (pc + 3) L (r.toList ++ S) g' f' (cb - mc') (sb - ms')) : LW l z b N X pc L S0 g f cb sb := by
  subst hst
  intro p e s m args below meth c0 H locs cells slots ls B hz hl hH hS hc hs
  obtain ⟨h1, h2, ⟨h3, h4, h5, h6, h7⟩, h8, h9⟩ := hL
  obtain ⟨k1, k2, k3⟩ := hK
  have hts := B.2.2.2.2.1
  have hSt := B.2.2.2.2.2.2.2.2.1
  have cw : CallW room_1 s args R_law (RR c) i k'.1 k'.2.1 k'.2.2.1 k'.2.2.2 (kws k') (zR d mc' ms') mc' ms' As.length :=
    ⟨callB_of As.length hts (kws_good h5) rfl rfl rfl (hts _ h4) (hts _ h3) h6 ⟨by show d + 1 + 1 ≤ 2048; omega, by show 8 + (k'.2.2.1 + 11) + 64 * (d + 1) ≤ 84000; omega⟩, hts _ h8, hts _ h9⟩
  have hrecv := va_recv hSt.K hH.in_ (vwCl_at c h1) (show (zws z g f)[a - 64]? = some (zad z a, .inr (c, _)) by rw [zws_at k2 k3, zpic_obj k1 h1])
  rw [map_rev]
  refine z_call (va_runV (As := As.map (zsh z)) (rest := S.map (zsh z)) ⟨B.1, B.2.1, B.2.2.1, B.2.2.2.1, hts⟩ hm cw ⟨zblind, hrecv, z_pre hSt hH hS (.ref a :: As)⟩ rfl (by rw [List.length_map]) hl.1 rfl (lv_room (by rw [catsum]; exact hrs)) hd ⟨by show cells + mc' ≤ 600000; omega, by show slots + ms' ≤ 7302250; omega⟩) hS ?_
  intro r g' f' H1 locs1 hp hH1 hS1
  rw [zlist]
  exact h r g' f' hp p e s m args below meth c0 H1 locs1 _ _ ls B hz hl hH1 hS1 (by omega) (by omega)
theorem w_callI {k' : PMd} {i a d mc' ms' : Nat} {As S0 : List Value} {post' : Po} (hd : decode code pc = .ok (.invokespecial i, 3)) (hL : CI R_law i k' As.length) (hst : As.reverse ++ .ref a :: S = S0) (hrs : (S.map fun v => v.category).sum ≤ 8) (hd3 : d ≤ 1000) (hm : PM l z d k' (.ref a :: As) g f mc' ms' post') (hc1 : mc' ≤ cb) (hs1 : ms' ≤ sb)
    (h : ∀ r g' f', post' r g' f' → LW l z b N X (pc + 3) L (r.toList ++ S) g' f' (cb - mc') (sb - ms')) : LW l z b N X pc L S0 g f cb sb := by
  subst hst
  intro p e s m args below meth c0 H locs cells slots ls B hz hl hH hS hc hs
  obtain ⟨⟨h3, h4, h5, h6, h7⟩, h8, h9, h10⟩ := hL
  have hts := B.2.2.2.2.1
  have hSt := B.2.2.2.2.2.2.2.2.1
  have cw : CallB room_1 s args R_law i k'.1 k'.2.1 k'.2.2.1 none (kws k') (zR d mc' ms') mc' ms' As.length :=
    callB_of (ws' := tblG) As.length hts (kws_good h5) (by rw [kws, h9]) rfl rfl (hts _ h4) (hts _ h3) h6 ⟨by show d + 1 + 1 ≤ 2048; omega, by show 8 + (k'.2.2.1 + 11) + 64 * (d + 1) ≤ 84000; omega⟩
  rw [map_rev]
  refine z_call (va_runI (As := As.map (zsh z)) (rest := S.map (zsh z)) ⟨B.1, B.2.1, B.2.2.1, B.2.2.2.1, hts⟩ hm ⟨cw, h8, hts _ h10⟩ ⟨zblind, z_pre hSt hH hS (.ref a :: As)⟩ rfl (by rw [List.length_map]) hl.1 rfl (lv_room (by rw [catsum]; exact hrs)) hd ⟨by show cells + mc' ≤ 600000; omega, by show slots + ms' ≤ 7302250; omega⟩) hS ?_
  intro r g' f' H1 locs1 hp hH1 hS1
  rw [zlist]
  exact h r g' f' hp p e s m args below meth c0 H1 locs1 _ _ ls B hz hl hH1 hS1 (by omega) (by omega)
theorem w_new {i c : Nat} (hd : decode code pc = .ok (.new i, 3)) (hc11 : c < 11) (hw : Cond.classLink R_law i (RR c) ∈ tblG ∧ Cond.instantiable (RR c) (nF c) ∈ tblG ∧ Cond.initialized (RR c) ∈ tblG) (h1 : 1 ≤ cb) (h2 : nF c ≤ sb) (h : LW l z b N X (pc + 3) L (.ref (gnx g) :: S) (nwG g c 0) (nwF f (gnx g)) (cb - 1) (sb - nF c)) : LW l z b N X pc L S g f cb sb := by
  intro p e s m args below meth c0 H locs cells slots ls B hz hl hH hS hc hs
  have K := B.2.2.2.2.2.2.2.2.1.K
  have hts := B.2.2.2.2.1
  have hKn := K.1 c _ (vwCl_at c hc11)
  refine W.newcK B.1 B.2.1 B.2.2.2.1 (hts _ hw.1) (hts _ hw.2.1) (hts _ hw.2.2) rfl hd (by show cells + 1 ≤ 600000; omega) (by show slots + nF c ≤ 7302250; omega) hKn.2.1 rfl fun H1 kC hkC e1 z1 o1 => ?_
  have hkd : gkd (nwG g c 0) (gnx g) = c := by simp [gkd, nwG, gnx]
  have hH1 : zH z (nwG g c 0) (nwF f (gnx g)) H1 := by
    refine zH_push hH rfl ?_ z1 o1 zpic_nw
    rw [zpic_obj hkd hc11]
    refine ⟨_, vwCl_at c hc11, ?_⟩
    rw [zH_top hH] at e1
    refine (u_born (tyT c) hts (uin c hc11) hKn hkC e1 (tyT_ok c hc11)).to (fun i hi => ?_)
    simp only [vp_V, List.getD_eq_getElem?_getD]
    rw [zfs_at hi]
    simp only [Option.getD_some]
    rcases tyT_k c hc11 i hi with ⟨ht, hr⟩ | ⟨ht, hr⟩ | ⟨⟨n, ht⟩, hr⟩ | ⟨⟨n, ht⟩, hr⟩ <;> rw [ht] <;> simp [zfv, hr, nwF, grm, nwG, gnx, zor] <;> rfl
  have hSS : va_S (zA z) s.heap H1 locs := ⟨Nat.le_trans hS.1 (by omega), fun x h1 h2 => (o1 x (Nat.lt_of_lt_of_le h1 hS.1)).trans (hS.2.1 x h1 h2), hS.2.2⟩
  have h9 := h p e s m args below meth c0 H1 locs (cells + 1) (slots + nF c) ls B hz hl hH1 hSS (by omega) (by omega)
  rw [zH_top hH]
  exact h9
end LAWR

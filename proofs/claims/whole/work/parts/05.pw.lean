def isNest : Cond → Bool
  | .methodLinkNest _ _ _ _ => true
  | .fieldLinkNest _ _ _ _ _ _ => true
  | .castable _ _ => true
  | _ => false
def nestW : List Cond := lw_tbl.filter isNest
def snm : Nat → String := fun j => match j with
  | 0 => "MOST_TRAIT"
  | 1 => "LEAST_TERM"
  | 2 => "MOST_TERM"
  | _ => "TOLD_ROW"
def sct : Nat → List Int := fun j => match j with
  | 0 => [40, 9, 1, 9999, 999999]
  | 1 => [2, 0, 0, 0, 0]
  | 2 => [20, 9, 9999, 999999, 999999]
  | _ => [0, 1, 2, 3, 4, 5, 6, 7]
def stx : Nat → String := fun i => ["wants", "waits", "if", "or", "and", "not", "who", "base", "rank", "oven", "had", "day", "other", "theirs"].getD i ""
def sidx : Nat → Nat := fun i => [128, 134, 136, 138, 140, 142, 144, 146, 148, 150, 152, 154, 156, 158].getD i 0
def schr : List (List Int) := [[119, 97, 110, 116, 115], [119, 97, 105, 116, 115], [105, 102], [111, 114], [97, 110, 100], [110, 111, 116], [119, 104, 111], [98, 97, 115, 101], [114, 97, 110, 107], [111, 118, 101, 110], [104, 97, 100], [100, 97, 121], [111, 116, 104, 101, 114], [116, 104, 101, 105, 114, 115]]
def slen : List Nat := schr.map List.length
def sbyt : List (List Int32) := schr.map (fun l => l.map iI)
def St (z : Zv) (U : State) : Prop := va_K z.1 vwCl (ztys z) U ∧ (∀ w ∈ nestW, va_Nw w U) ∧ va_AO "ThirteenthLoaf$Law" U ∧ va_AO "ThirteenthLoaf$Bakery" U ∧
  (∀ j, j < 4 → va_Z "ThirteenthLoaf" (snm j) "[I" (.ref (z.2.2.2 j)) (zA z) U U.heap ∧ va_T .int (z.2.2.2 j) (sct j).length (fun i => .int (iI ((sct j).getD i 0))) (zA z) U U.heap) ∧
  vk_S 14 slen sbyt (fun i => z.2.2.2 (4 + i)) (fun i => z.2.2.2 (18 + i)) (zA z) U U.heap ∧ (∀ i, i < 14 → vk_R "ThirteenthLoaf$Tape" (sidx i) (stx i) (z.2.2.2 (4 + i)) U) ∧
  va_Z "java/lang/String" "COMPACT_STRINGS" "Z" (.int 1) (zA z) U U.heap ∧
  (va_Z "jdk/internal/util/Preconditions" "SIOOBE_FORMATTER" "Ljava/util/function/BiFunction;" .null (zA z) U U.heap ∨ va_Z "jdk/internal/util/Preconditions" "SIOOBE_FORMATTER" "Ljava/util/function/BiFunction;" (.ref (z.2.2.2 63)) (zA z) U U.heap)
theorem nest_warm {s U : State} (hW : s.WarmedH U.vm) {w : Cond} (hw : w ∈ nestW) (h : va_Nw w s) : va_Nw w U := by
  have h1 := (List.mem_filter.mp hw).2
  cases w <;> first | exact va_Nw.warmM hW h | exact va_Nw.warmF hW h | exact va_Nw.warmC hW h | exact absurd h1 (by simp [isNest])
theorem St.move {z : Zv} {s U : State} {locs : List Loc} (h : St z s) (hS : va_S (zA z) s.heap U.heap locs) (hW : s.WarmedH U.vm) : St z U := by
  obtain ⟨h1, h2, h3, h4, h5, h6, h7, h8, h9⟩ := h
  refine ⟨va_K.moved hW.alike h1, fun w hw => nest_warm hW hw (h2 w hw), va_AO.moved hW.alike h3, va_AO.moved hW.alike h4, fun j hj => ?_, (h6.moved hW.alike).kept hS.2.1, fun i hi => (h7 i hi).warm hW, (h8.moved hW.alike).kept hS.2.1, h9.imp (fun q => (q.moved hW.alike).kept hS.2.1) (fun q => (q.moved hW.alike).kept hS.2.1)⟩
  obtain ⟨a, b⟩ := h5 j hj
  exact ⟨(a.moved hW.alike).kept hS.2.1, (b.moved hW.alike).kept hS.2.1⟩
theorem St.same {z : Zv} {s U : State} (h : St z s) (hh : U.heap = s.heap) (hv : U.vm = s.vm) : St z U := by
  obtain ⟨h1, h2, h3, h4, h5, h6, h7, h8, h9⟩ := h
  have hA : s.vm.Alike U.vm := by rw [hv]; exact Vm.Alike.refl _
  refine ⟨va_K.moved hA h1, fun w hw => ?_, va_AO.moved hA h3, va_AO.moved hA h4, fun j hj => ?_, by rw [hh]; exact h6.moved hA, fun i hi => (h7 i hi).same hv, by rw [hh]; exact h8.moved hA, by rw [hh]; exact h9.imp (fun q => q.moved hA) (fun q => q.moved hA)⟩
  · have h11 := (List.mem_filter.mp hw).2
    have h10 := h2 w hw
    cases w <;> first | exact va_Nw.same rfl hv.symm h10 | exact absurd h11 (by simp [isNest])
  · obtain ⟨a, b⟩ := h5 j hj
    rw [hh]
    exact ⟨a.moved hA, b.moved hA⟩
def zFix (z : Zv) (k : PMd) (p : Program) (s : State) (m : MethodId) (args : Array Value) (meth : Method) (c : Code) : Prop :=
  p.tables.exec = Jvm.exec ∧ c.code = k.2.1 ∧ c.maxLocals = k.2.2.1 ∧ s.vm.findClass k.1.cls = some m.cls ∧ (∀ w ∈ tblG, w.before args s = true) ∧ meth.sig.returnType = k.2.2.2 ∧ meth.locks = false ∧ meth.name = k.1.name ∧ St z s
abbrev Po : Type := Option Value → Gm → Fm → Prop
def zQc (z : Zv) (post : Po) : Array Value → State → Outcome → State → Prop := fun _ st o t =>
  (∃ r g f, o = .returned (r.map (zsh z)) ∧ post r g f ∧ zH z g f t.heap) ∧ va_F (zA z) st t
def PW (l : Launch) (z : Zv) (d : Nat) (k : PMd) (mc ms : Nat) (post : Po) (pc : Nat) (L : List (Nat × Value)) (S : List Value) (g : Gm) (f : Fm) (cb sb : Nat) : Prop :=
  ∀ (p : Program) (e : Env) (s : State) (m : MethodId) (args : Array Value) (below : List Frame) (meth : Method) (c : Code) (H : Heap) (locs : List Loc) (cells slots : Nat) (ls : Array Slot),
    zFix z k p s m args meth c → z.2.2.1 ≤ s.heap.size → lv_has ls k.2.2.1 (L.map fun q => (q.1, zsh z q.2)) → zH z g f H → va_S (zA z) s.heap H locs → cells + cb ≤ mc → slots + sb ≤ ms →
    W p l e (zR d mc ms) s m args below meth c H locs cells slots (MQ below (zQc z post) args s mc ms (zA z)) (F0 m pc ls (S.map (zsh z)))
def zPc (z : Zv) (av : List Value) (g : Gm) (f : Fm) : Array Value → State → Prop := va_Pc (av.map (zsh z)) (fun U => zH z g f U.heap ∧ St z U)
def kws (k : PMd) : List Cond := .code k.1 k.2.1 k.2.2.1 k.2.2.2 :: tblG
def PM (l : Launch) (z : Zv) (d : Nat) (k : PMd) (av : List Value) (g : Gm) (f : Fm) (mc ms : Nat) (post : Po) : Prop :=
  Met l k.1 (kws k) (zR d mc ms) (zPc z av g f) (zQc z post) mc ms (zA z)
theorem lv_args_map (z : Zv) : ∀ (vs : List Value) (i : Nat), lv_args i (vs.map (zsh z)) = (lv_args i vs).map fun q => (q.1, zsh z q.2)
  | [], i => rfl
  | v :: vs, i => by
    simp only [List.map_cons, lv_args, zcat]
    rw [lv_args_map z vs]
theorem lg_sl_len (z : Zv) : ∀ vs : List Value, (lg_sl (vs.map (zsh z))).length = (lg_sl vs).length
  | [] => rfl
  | v :: vs => by
    have ih := lg_sl_len z vs
    simp only [lg_sl, List.map_cons, List.flatMap_cons, List.length_append, zcat] at ih ⊢
    rw [ih]
    congr 1
    split <;> rfl
/-- the contract of a method out of its walk -/
theorem PM.of {l : Launch} {z : Zv} {d : Nat} {k : PMd} {av : List Value} {g : Gm} {f : Fm} {mc ms : Nat} {post : Po} (hy : plainName k.1.cls = true) (hn : (lg_sl av).length ≤ k.2.2.1) (h : PW l z d k mc ms post 0 (lv_args 0 av) [] g f mc ms) : PM l z d k av g f mc ms post := by
  refine Met.ofW (cc := k.2.1) (maxL := k.2.2.1) (ret := k.2.2.2) hy rfl ?_
  intro p e s m args below meth c s₁ B hml hv
  obtain ⟨rfl, hH, hSt⟩ := hv
  have hts := atoms_spec (ws := kws k) B.pre
  have hl := lv_entry (av.map (zsh z)) (n := k.2.2.1) (by rw [lg_sl_len]; exact hn)
  rw [lg_entry_eq]
  rw [lv_args_map] at hl
  exact h p e s m _ below meth c s.heap [] 0 0 _ ⟨B.exec, B.bytes, hml, findClass_of_methodNamed B.named, fun w hw => hts w (List.mem_cons_of_mem _ hw), B.returns, B.notSynchronized, (name_of_methodNamed B.named B.method).1, hSt⟩ (by rw [hH.1]; omega) hl hH va_S.rf (by omega) (by omega)
/-- a weaker end -/
theorem PM.mono {l : Launch} {z : Zv} {d : Nat} {k : PMd} {av : List Value} {g : Gm} {f : Fm} {mc ms : Nat} {post post' : Po} (h : PM l z d k av g f mc ms post) (hp : ∀ r g f, post r g f → post' r g f) : PM l z d k av g f mc ms post' := by
  intro p e ha hc hk s m args below hf happ hP hK
  obtain ⟨k2, o, h1, h2, h3, ⟨⟨r, g, f, e1, e2, e3⟩, e4⟩, h5⟩ := h p e ha hc hk s m args below hf happ hP hK
  exact ⟨k2, o, h1, h2, h3, ⟨⟨r, g, f, e1, hp r g f e2, e3⟩, e4⟩, h5⟩

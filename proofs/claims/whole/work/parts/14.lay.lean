-- written by gen_lay.py: the layout of each object of the program
section LAYR
variable {l : Launch} {z : Zv} {d : Nat} {k : PMd} {mc ms : Nat} {post : Po} {pc : Nat} {L : List (Nat × Value)} {S : List Value} {g : Gm} {f : Fm} {cb sb : Nat}
theorem r_getIv {i a c j : Nat} {x : Int} (hd : decode k.2.1 pc = .ok (.getfield i, 3)) (hF : FL k.1.cls i c j) (hR : isR c j = false) (hK : isK g a c) (hv : f a j = x) (h : PW l z d k mc ms post (pc + 3) L (.int (iI x) :: S) g f cb sb) : PW l z d k mc ms post pc L (.ref a :: S) g f cb sb := by
  subst hv; exact r_getI hd hF hR hK h
theorem r_ialdv {a n : Nat} {x w : Int} (hd : decode k.2.1 pc = .ok (.iaload, 1)) (hA : isA g a 11 n) (hx : 0 ≤ x ∧ x < n) (hn : n ≤ 2147483647) (hv : f a x.toNat = w) (h : PW l z d k mc ms post (pc + 1) L (.int (iI w) :: S) g f cb sb) : PW l z d k mc ms post pc L (.int (iI x) :: .ref a :: S) g f cb sb := by
  subst hv; exact r_iald hd hA hx hn h
theorem r_iastv {a n i : Nat} {x v : Int} (hd : decode k.2.1 pc = .ok (.iastore, 1)) (hA : isA g a 11 n) (hx : 0 ≤ x ∧ x < n) (hn : n ≤ 2147483647) (hi : x.toNat = i) (h : PW l z d k mc ms post (pc + 1) L S g (stF f a i v) cb sb) : PW l z d k mc ms post pc L (.int (iI v) :: .int (iI x) :: .ref a :: S) g f cb sb := by
  subst hi; exact r_iast hd hA hx hn h
theorem r_zaldv {a n : Nat} {x w : Int} (hd : decode k.2.1 pc = .ok (.baload, 1)) (hA : isA g a 13 n) (hx : 0 ≤ x ∧ x < n) (hn : n ≤ 2147483647) (hv : f a x.toNat = w) (h : PW l z d k mc ms post (pc + 1) L (.int (iI w) :: S) g f cb sb) : PW l z d k mc ms post pc L (.int (iI x) :: .ref a :: S) g f cb sb := by
  subst hv; exact r_zald hd hA hx hn h
theorem r_baldv {a n : Nat} {x w : Int} (hd : decode k.2.1 pc = .ok (.baload, 1)) (hA : isA g a 14 n) (hx : 0 ≤ x ∧ x < n) (hn : n ≤ 2147483647) (hv : f a x.toNat = w) (h : PW l z d k mc ms post (pc + 1) L (.int (iI w) :: S) g f cb sb) : PW l z d k mc ms post pc L (.int (iI x) :: .ref a :: S) g f cb sb := by
  subst hv; exact r_bald hd hA hx hn h
theorem PM.ofF {av : List Value} (hy : plainFor k.1 = true) (hn : (lg_sl av).length ≤ k.2.2.1) (h : PW l z d k mc ms post 0 (lv_args 0 av) [] g f mc ms) : PM l z d k av g f mc ms post := by
  refine va_MetF (cc := k.2.1) (maxL := k.2.2.1) (ret := k.2.2.2) hy rfl ?_
  intro p e s m args below meth c s₁ B hml hv
  obtain ⟨rfl, hH, hSt⟩ := hv
  have hts := atoms_spec (ws := kws k) B.pre
  have hl := lv_entry (av.map (zsh z)) (n := k.2.2.1) (by rw [lg_sl_len]; exact hn)
  rw [lg_entry_eq]
  rw [lv_args_map] at hl
  exact h p e s m _ below meth c s.heap [] 0 0 _ ⟨B.exec, B.bytes, hml, findClass_of_methodNamed B.named, fun w hw => hts w (List.mem_cons_of_mem _ hw), B.returns, B.notSynchronized, (name_of_methodNamed B.named B.method).1, hSt⟩ (by rw [hH.1]; omega) hl hH va_S.rf (by omega) (by omega)
theorem r_eqI {x y : Int} (hv : x = y) (h : PW l z d k mc ms post pc L (.int (iI y) :: S) g f cb sb) : PW l z d k mc ms post pc L (.int (iI x) :: S) g f cb sb := by
  subst hv; exact h
theorem r_iincv {i : Nat} {n x y : Int} {L2 : List (Nat × Value)} (j : Nat) (hd : decode k.2.1 pc = .ok (.iinc i n, 3)) (hj : L[j]? = some (i, .int (iI x))) (hv : x + n = y) (hn : i < k.2.2.1) (hL : stL i (.int (iI y)) L = L2) (h : PW l z d k mc ms post (pc + 3) L2 S g f cb sb) : PW l z d k mc ms post pc L S g f cb sb := by
  subst hv; exact r_iinc j hd hj hn hL h
/-- the same room, one frame more -/
theorem PW.at {L2 : List (Nat × Value)} {S2 : List Value} {f2 : Fm} (hL : L = L2) (hS : S = S2) (hf : f = f2) (h : PW l z d k mc ms post pc L2 S2 g f2 cb sb) : PW l z d k mc ms post pc L S g f cb sb := by
  subst hL; subst hS; subst hf; exact h
end LAYR
def AL (g : Gm) (b : Nat) : Prop := isK g b 0 ∧ grm g b 0 = some (b + 1) ∧ isA g (b + 1) 11 8 ∧ grm g b 1 = some (b + 2) ∧ isA g (b + 2) 11 64
theorem AL.k {g : Gm} {b : Nat} (h : AL g b) : isK g b 0 := h.1
theorem AL.r0 {g : Gm} {b : Nat} (h : AL g b) : grm g b 0 = some (b + 1) := h.2.1
theorem AL.a0 {g : Gm} {b : Nat} (h : AL g b) : isA g (b + 1) 11 8 := h.2.2.1
theorem AL.r1 {g : Gm} {b : Nat} (h : AL g b) : grm g b 1 = some (b + 2) := h.2.2.2.1
theorem AL.a1 {g : Gm} {b : Nat} (h : AL g b) : isA g (b + 2) 11 64 := h.2.2.2.2
def SL (g : Gm) (b : Nat) : Prop := isK g b 5 ∧ grm g b 0 = some (b + 1) ∧ isA g (b + 1) 11 8 ∧ grm g b 1 = some (b + 2) ∧ isA g (b + 2) 11 8
theorem SL.k {g : Gm} {b : Nat} (h : SL g b) : isK g b 5 := h.1
theorem SL.r0 {g : Gm} {b : Nat} (h : SL g b) : grm g b 0 = some (b + 1) := h.2.1
theorem SL.a0 {g : Gm} {b : Nat} (h : SL g b) : isA g (b + 1) 11 8 := h.2.2.1
theorem SL.r1 {g : Gm} {b : Nat} (h : SL g b) : grm g b 1 = some (b + 2) := h.2.2.2.1
theorem SL.a1 {g : Gm} {b : Nat} (h : SL g b) : isA g (b + 2) 11 8 := h.2.2.2.2
def BL (g : Gm) (b : Nat) : Prop := isK g b 1 ∧ grm g b 0 = some (b + 1) ∧ isA g (b + 1) 11 40 ∧ grm g b 1 = some (b + 2) ∧ isA g (b + 2) 11 5 ∧ grm g b 2 = some (b + 3) ∧ isA g (b + 3) 15 6 ∧ grm g b 3 = some (b + 4) ∧ SL g (b + 4) ∧ grm g b 4 = some (b + 7) ∧ SL g (b + 7)
theorem BL.k {g : Gm} {b : Nat} (h : BL g b) : isK g b 1 := h.1
theorem BL.r0 {g : Gm} {b : Nat} (h : BL g b) : grm g b 0 = some (b + 1) := h.2.1
theorem BL.a0 {g : Gm} {b : Nat} (h : BL g b) : isA g (b + 1) 11 40 := h.2.2.1
theorem BL.r1 {g : Gm} {b : Nat} (h : BL g b) : grm g b 1 = some (b + 2) := h.2.2.2.1
theorem BL.a1 {g : Gm} {b : Nat} (h : BL g b) : isA g (b + 2) 11 5 := h.2.2.2.2.1
theorem BL.r2 {g : Gm} {b : Nat} (h : BL g b) : grm g b 2 = some (b + 3) := h.2.2.2.2.2.1
theorem BL.a2 {g : Gm} {b : Nat} (h : BL g b) : isA g (b + 3) 15 6 := h.2.2.2.2.2.2.1
theorem BL.r3 {g : Gm} {b : Nat} (h : BL g b) : grm g b 3 = some (b + 4) := h.2.2.2.2.2.2.2.1
theorem BL.o3 {g : Gm} {b : Nat} (h : BL g b) : SL g (b + 4) := h.2.2.2.2.2.2.2.2.1
theorem BL.r4 {g : Gm} {b : Nat} (h : BL g b) : grm g b 4 = some (b + 7) := h.2.2.2.2.2.2.2.2.2.1
theorem BL.o4 {g : Gm} {b : Nat} (h : BL g b) : SL g (b + 7) := h.2.2.2.2.2.2.2.2.2.2
def DL (g : Gm) (b : Nat) : Prop := isK g b 2 ∧ grm g b 0 = some (b + 1) ∧ AL g (b + 1) ∧ grm g b 1 = some (b + 4) ∧ isA g (b + 4) 11 8 ∧ grm g b 2 = some (b + 5) ∧ isA g (b + 5) 11 8 ∧ grm g b 3 = some (b + 6) ∧ isA g (b + 6) 11 8 ∧ grm g b 4 = some (b + 7) ∧ isA g (b + 7) 11 256 ∧ grm g b 5 = some (b + 8) ∧ isA g (b + 8) 11 256 ∧ grm g b 6 = some (b + 9) ∧ isA g (b + 9) 11 256 ∧ grm g b 7 = some (b + 10) ∧ isA g (b + 10) 11 256 ∧ grm g b 8 = some (b + 11) ∧ isA g (b + 11) 11 256
theorem DL.k {g : Gm} {b : Nat} (h : DL g b) : isK g b 2 := h.1
theorem DL.r0 {g : Gm} {b : Nat} (h : DL g b) : grm g b 0 = some (b + 1) := h.2.1
theorem DL.o0 {g : Gm} {b : Nat} (h : DL g b) : AL g (b + 1) := h.2.2.1
theorem DL.r1 {g : Gm} {b : Nat} (h : DL g b) : grm g b 1 = some (b + 4) := h.2.2.2.1
theorem DL.a1 {g : Gm} {b : Nat} (h : DL g b) : isA g (b + 4) 11 8 := h.2.2.2.2.1
theorem DL.r2 {g : Gm} {b : Nat} (h : DL g b) : grm g b 2 = some (b + 5) := h.2.2.2.2.2.1
theorem DL.a2 {g : Gm} {b : Nat} (h : DL g b) : isA g (b + 5) 11 8 := h.2.2.2.2.2.2.1
theorem DL.r3 {g : Gm} {b : Nat} (h : DL g b) : grm g b 3 = some (b + 6) := h.2.2.2.2.2.2.2.1
theorem DL.a3 {g : Gm} {b : Nat} (h : DL g b) : isA g (b + 6) 11 8 := h.2.2.2.2.2.2.2.2.1
theorem DL.r4 {g : Gm} {b : Nat} (h : DL g b) : grm g b 4 = some (b + 7) := h.2.2.2.2.2.2.2.2.2.1
theorem DL.a4 {g : Gm} {b : Nat} (h : DL g b) : isA g (b + 7) 11 256 := h.2.2.2.2.2.2.2.2.2.2.1
theorem DL.r5 {g : Gm} {b : Nat} (h : DL g b) : grm g b 5 = some (b + 8) := h.2.2.2.2.2.2.2.2.2.2.2.1
theorem DL.a5 {g : Gm} {b : Nat} (h : DL g b) : isA g (b + 8) 11 256 := h.2.2.2.2.2.2.2.2.2.2.2.2.1
theorem DL.r6 {g : Gm} {b : Nat} (h : DL g b) : grm g b 6 = some (b + 9) := h.2.2.2.2.2.2.2.2.2.2.2.2.2.1
theorem DL.a6 {g : Gm} {b : Nat} (h : DL g b) : isA g (b + 9) 11 256 := h.2.2.2.2.2.2.2.2.2.2.2.2.2.2.1
theorem DL.r7 {g : Gm} {b : Nat} (h : DL g b) : grm g b 7 = some (b + 10) := h.2.2.2.2.2.2.2.2.2.2.2.2.2.2.2.1
theorem DL.a7 {g : Gm} {b : Nat} (h : DL g b) : isA g (b + 10) 11 256 := h.2.2.2.2.2.2.2.2.2.2.2.2.2.2.2.2.1
theorem DL.r8 {g : Gm} {b : Nat} (h : DL g b) : grm g b 8 = some (b + 11) := h.2.2.2.2.2.2.2.2.2.2.2.2.2.2.2.2.2.1
theorem DL.a8 {g : Gm} {b : Nat} (h : DL g b) : isA g (b + 11) 11 256 := h.2.2.2.2.2.2.2.2.2.2.2.2.2.2.2.2.2.2
def OL (g : Gm) (b : Nat) : Prop := isK g b 4 ∧ grm g b 0 = some (b + 1) ∧ isA g (b + 1) 11 8 ∧ grm g b 1 = some (b + 2) ∧ isA g (b + 2) 11 8 ∧ grm g b 2 = some (b + 3) ∧ isA g (b + 3) 11 8
theorem OL.k {g : Gm} {b : Nat} (h : OL g b) : isK g b 4 := h.1
theorem OL.r0 {g : Gm} {b : Nat} (h : OL g b) : grm g b 0 = some (b + 1) := h.2.1
theorem OL.a0 {g : Gm} {b : Nat} (h : OL g b) : isA g (b + 1) 11 8 := h.2.2.1
theorem OL.r1 {g : Gm} {b : Nat} (h : OL g b) : grm g b 1 = some (b + 2) := h.2.2.2.1
theorem OL.a1 {g : Gm} {b : Nat} (h : OL g b) : isA g (b + 2) 11 8 := h.2.2.2.2.1
theorem OL.r2 {g : Gm} {b : Nat} (h : OL g b) : grm g b 2 = some (b + 3) := h.2.2.2.2.2.1
theorem OL.a2 {g : Gm} {b : Nat} (h : OL g b) : isA g (b + 3) 11 8 := h.2.2.2.2.2.2
def EL (g : Gm) (b : Nat) : Prop := isK g b 6 ∧ grm g b 0 = some (b + 1) ∧ isA g (b + 1) 11 168 ∧ grm g b 1 = some (b + 2) ∧ isA g (b + 2) 11 256 ∧ grm g b 2 = some (b + 3) ∧ isA g (b + 3) 11 256 ∧ grm g b 3 = some (b + 4) ∧ isA g (b + 4) 11 8
theorem EL.k {g : Gm} {b : Nat} (h : EL g b) : isK g b 6 := h.1
theorem EL.r0 {g : Gm} {b : Nat} (h : EL g b) : grm g b 0 = some (b + 1) := h.2.1
theorem EL.a0 {g : Gm} {b : Nat} (h : EL g b) : isA g (b + 1) 11 168 := h.2.2.1
theorem EL.r1 {g : Gm} {b : Nat} (h : EL g b) : grm g b 1 = some (b + 2) := h.2.2.2.1
theorem EL.a1 {g : Gm} {b : Nat} (h : EL g b) : isA g (b + 2) 11 256 := h.2.2.2.2.1
theorem EL.r2 {g : Gm} {b : Nat} (h : EL g b) : grm g b 2 = some (b + 3) := h.2.2.2.2.2.1
theorem EL.a2 {g : Gm} {b : Nat} (h : EL g b) : isA g (b + 3) 11 256 := h.2.2.2.2.2.2.1
theorem EL.r3 {g : Gm} {b : Nat} (h : EL g b) : grm g b 3 = some (b + 4) := h.2.2.2.2.2.2.2.1
theorem EL.a3 {g : Gm} {b : Nat} (h : EL g b) : isA g (b + 4) 11 8 := h.2.2.2.2.2.2.2.2
def TL (g : Gm) (b : Nat) : Prop := isK g b 7 ∧ grm g b 0 = some (b + 1) ∧ isA g (b + 1) 11 400 ∧ grm g b 1 = some (b + 2) ∧ isA g (b + 2) 11 512 ∧ grm g b 2 = some (b + 3) ∧ isA g (b + 3) 11 48
theorem TL.k {g : Gm} {b : Nat} (h : TL g b) : isK g b 7 := h.1
theorem TL.r0 {g : Gm} {b : Nat} (h : TL g b) : grm g b 0 = some (b + 1) := h.2.1
theorem TL.a0 {g : Gm} {b : Nat} (h : TL g b) : isA g (b + 1) 11 400 := h.2.2.1
theorem TL.r1 {g : Gm} {b : Nat} (h : TL g b) : grm g b 1 = some (b + 2) := h.2.2.2.1
theorem TL.a1 {g : Gm} {b : Nat} (h : TL g b) : isA g (b + 2) 11 512 := h.2.2.2.2.1
theorem TL.r2 {g : Gm} {b : Nat} (h : TL g b) : grm g b 2 = some (b + 3) := h.2.2.2.2.2.1
theorem TL.a2 {g : Gm} {b : Nat} (h : TL g b) : isA g (b + 3) 11 48 := h.2.2.2.2.2.2
def YL (g : Gm) (b : Nat) : Prop := isK g b 8 ∧ grm g b 0 = some (b + 1) ∧ isA g (b + 1) 11 30 ∧ grm g b 1 = some (b + 2) ∧ isA g (b + 2) 12 120 ∧ grm g b 2 = some (b + 3) ∧ isA g (b + 3) 12 124 ∧ grm g b 3 = some (b + 4) ∧ isA g (b + 4) 12 1024 ∧ grm g b 4 = some (b + 5) ∧ isA g (b + 5) 11 256 ∧ grm g b 5 = some (b + 6) ∧ isA g (b + 6) 11 256
theorem YL.k {g : Gm} {b : Nat} (h : YL g b) : isK g b 8 := h.1
theorem YL.r0 {g : Gm} {b : Nat} (h : YL g b) : grm g b 0 = some (b + 1) := h.2.1
theorem YL.a0 {g : Gm} {b : Nat} (h : YL g b) : isA g (b + 1) 11 30 := h.2.2.1
theorem YL.r1 {g : Gm} {b : Nat} (h : YL g b) : grm g b 1 = some (b + 2) := h.2.2.2.1
theorem YL.a1 {g : Gm} {b : Nat} (h : YL g b) : isA g (b + 2) 12 120 := h.2.2.2.2.1
theorem YL.r2 {g : Gm} {b : Nat} (h : YL g b) : grm g b 2 = some (b + 3) := h.2.2.2.2.2.1
theorem YL.a2 {g : Gm} {b : Nat} (h : YL g b) : isA g (b + 3) 12 124 := h.2.2.2.2.2.2.1
theorem YL.r3 {g : Gm} {b : Nat} (h : YL g b) : grm g b 3 = some (b + 4) := h.2.2.2.2.2.2.2.1
theorem YL.a3 {g : Gm} {b : Nat} (h : YL g b) : isA g (b + 4) 12 1024 := h.2.2.2.2.2.2.2.2.1
theorem YL.r4 {g : Gm} {b : Nat} (h : YL g b) : grm g b 4 = some (b + 5) := h.2.2.2.2.2.2.2.2.2.1
theorem YL.a4 {g : Gm} {b : Nat} (h : YL g b) : isA g (b + 5) 11 256 := h.2.2.2.2.2.2.2.2.2.2.1
theorem YL.r5 {g : Gm} {b : Nat} (h : YL g b) : grm g b 5 = some (b + 6) := h.2.2.2.2.2.2.2.2.2.2.2.1
theorem YL.a5 {g : Gm} {b : Nat} (h : YL g b) : isA g (b + 6) 11 256 := h.2.2.2.2.2.2.2.2.2.2.2.2
def XL (g : Gm) : Prop := isK g 64 9 ∧ grm g 64 0 = some 65 ∧ BL g 65 ∧ grm g 64 1 = some 75 ∧ BL g 75 ∧ grm g 64 2 = some 85 ∧ isA g 85 16 2 ∧ grm g 64 3 = some 106 ∧ isA g 106 13 2 ∧ grm g 64 4 = some 107 ∧ TL g 107 ∧ grm g 64 5 = some 111 ∧ DL g 111 ∧ grm g 64 6 = some 123 ∧ DL g 123 ∧ grm g 64 7 = some 135 ∧ EL g 135 ∧ grm g 64 8 = some 140 ∧ EL g 140 ∧ grm g 64 9 = some 145 ∧ EL g 145 ∧ grm g 64 10 = some 150 ∧ YL g 150 ∧ grm g 64 11 = some 157 ∧ OL g 157 ∧ grm g 64 12 = some 161 ∧ isA g 161 11 5 ∧ grm g 64 13 = some 162 ∧ isA g 162 11 8 ∧ grm g 64 14 = some 163 ∧ isA g 163 11 8 ∧ grm g 85 0 = some 86 ∧ grm g 85 1 = some 96 ∧ BL g 86 ∧ BL g 96
theorem XL.k {g : Gm} (h : XL g) : isK g 64 9 := h.1
theorem XL.r0 {g : Gm} (h : XL g) : grm g 64 0 = some 65 := h.2.1
theorem XL.o0 {g : Gm} (h : XL g) : BL g 65 := h.2.2.1
theorem XL.r1 {g : Gm} (h : XL g) : grm g 64 1 = some 75 := h.2.2.2.1
theorem XL.o1 {g : Gm} (h : XL g) : BL g 75 := h.2.2.2.2.1
theorem XL.r2 {g : Gm} (h : XL g) : grm g 64 2 = some 85 := h.2.2.2.2.2.1
theorem XL.a2 {g : Gm} (h : XL g) : isA g 85 16 2 := h.2.2.2.2.2.2.1
theorem XL.r3 {g : Gm} (h : XL g) : grm g 64 3 = some 106 := h.2.2.2.2.2.2.2.1
theorem XL.a3 {g : Gm} (h : XL g) : isA g 106 13 2 := h.2.2.2.2.2.2.2.2.1
theorem XL.r4 {g : Gm} (h : XL g) : grm g 64 4 = some 107 := h.2.2.2.2.2.2.2.2.2.1
theorem XL.o4 {g : Gm} (h : XL g) : TL g 107 := h.2.2.2.2.2.2.2.2.2.2.1
theorem XL.r5 {g : Gm} (h : XL g) : grm g 64 5 = some 111 := h.2.2.2.2.2.2.2.2.2.2.2.1
theorem XL.o5 {g : Gm} (h : XL g) : DL g 111 := h.2.2.2.2.2.2.2.2.2.2.2.2.1
theorem XL.r6 {g : Gm} (h : XL g) : grm g 64 6 = some 123 := h.2.2.2.2.2.2.2.2.2.2.2.2.2.1
theorem XL.o6 {g : Gm} (h : XL g) : DL g 123 := h.2.2.2.2.2.2.2.2.2.2.2.2.2.2.1
theorem XL.r7 {g : Gm} (h : XL g) : grm g 64 7 = some 135 := h.2.2.2.2.2.2.2.2.2.2.2.2.2.2.2.1
theorem XL.o7 {g : Gm} (h : XL g) : EL g 135 := h.2.2.2.2.2.2.2.2.2.2.2.2.2.2.2.2.1
theorem XL.r8 {g : Gm} (h : XL g) : grm g 64 8 = some 140 := h.2.2.2.2.2.2.2.2.2.2.2.2.2.2.2.2.2.1
theorem XL.o8 {g : Gm} (h : XL g) : EL g 140 := h.2.2.2.2.2.2.2.2.2.2.2.2.2.2.2.2.2.2.1
theorem XL.r9 {g : Gm} (h : XL g) : grm g 64 9 = some 145 := h.2.2.2.2.2.2.2.2.2.2.2.2.2.2.2.2.2.2.2.1
theorem XL.o9 {g : Gm} (h : XL g) : EL g 145 := h.2.2.2.2.2.2.2.2.2.2.2.2.2.2.2.2.2.2.2.2.1
theorem XL.r10 {g : Gm} (h : XL g) : grm g 64 10 = some 150 := h.2.2.2.2.2.2.2.2.2.2.2.2.2.2.2.2.2.2.2.2.2.1
theorem XL.o10 {g : Gm} (h : XL g) : YL g 150 := h.2.2.2.2.2.2.2.2.2.2.2.2.2.2.2.2.2.2.2.2.2.2.1
theorem XL.r11 {g : Gm} (h : XL g) : grm g 64 11 = some 157 := h.2.2.2.2.2.2.2.2.2.2.2.2.2.2.2.2.2.2.2.2.2.2.2.1
theorem XL.o11 {g : Gm} (h : XL g) : OL g 157 := h.2.2.2.2.2.2.2.2.2.2.2.2.2.2.2.2.2.2.2.2.2.2.2.2.1
theorem XL.r12 {g : Gm} (h : XL g) : grm g 64 12 = some 161 := h.2.2.2.2.2.2.2.2.2.2.2.2.2.2.2.2.2.2.2.2.2.2.2.2.2.1
theorem XL.a12 {g : Gm} (h : XL g) : isA g 161 11 5 := h.2.2.2.2.2.2.2.2.2.2.2.2.2.2.2.2.2.2.2.2.2.2.2.2.2.2.1
theorem XL.r13 {g : Gm} (h : XL g) : grm g 64 13 = some 162 := h.2.2.2.2.2.2.2.2.2.2.2.2.2.2.2.2.2.2.2.2.2.2.2.2.2.2.2.1
theorem XL.a13 {g : Gm} (h : XL g) : isA g 162 11 8 := h.2.2.2.2.2.2.2.2.2.2.2.2.2.2.2.2.2.2.2.2.2.2.2.2.2.2.2.2.1
theorem XL.r14 {g : Gm} (h : XL g) : grm g 64 14 = some 163 := h.2.2.2.2.2.2.2.2.2.2.2.2.2.2.2.2.2.2.2.2.2.2.2.2.2.2.2.2.2.1
theorem XL.a14 {g : Gm} (h : XL g) : isA g 163 11 8 := h.2.2.2.2.2.2.2.2.2.2.2.2.2.2.2.2.2.2.2.2.2.2.2.2.2.2.2.2.2.2.1
theorem XL.e0 {g : Gm} (h : XL g) : grm g 85 0 = some 86 := h.2.2.2.2.2.2.2.2.2.2.2.2.2.2.2.2.2.2.2.2.2.2.2.2.2.2.2.2.2.2.2.1
theorem XL.e1 {g : Gm} (h : XL g) : grm g 85 1 = some 96 := h.2.2.2.2.2.2.2.2.2.2.2.2.2.2.2.2.2.2.2.2.2.2.2.2.2.2.2.2.2.2.2.2.1
theorem XL.i0 {g : Gm} (h : XL g) : BL g 86 := h.2.2.2.2.2.2.2.2.2.2.2.2.2.2.2.2.2.2.2.2.2.2.2.2.2.2.2.2.2.2.2.2.2.1
theorem XL.i1 {g : Gm} (h : XL g) : BL g 96 := h.2.2.2.2.2.2.2.2.2.2.2.2.2.2.2.2.2.2.2.2.2.2.2.2.2.2.2.2.2.2.2.2.2.2
def ML (g : Gm) : Prop := isK g 164 10 ∧ grm g 164 1 = some 165 ∧ isA g 165 11 7 ∧ grm g 164 2 = some 166 ∧ isA g 166 11 4888 ∧ grm g 164 3 = some 167 ∧ isA g 167 11 9776 ∧ grm g 164 4 = some 168 ∧ isA g 168 13 2 ∧ grm g 164 6 = some 169 ∧ isA g 169 14 66 ∧ grm g 164 7 = some 170 ∧ isA g 170 14 400 ∧ grm g 164 8 = some 171 ∧ isA g 171 11 5 ∧ grm g 164 11 = some 172 ∧ isA g 172 11 401 ∧ grm g 164 12 = some 173 ∧ isA g 173 11 401 ∧ grm g 164 13 = some 174 ∧ isA g 174 11 401 ∧ grm g 164 21 = some 175 ∧ isA g 175 11 8 ∧ grm g 164 24 = some 176 ∧ isA g 176 11 8 ∧ grm g 164 25 = some 177 ∧ isA g 177 11 8 ∧ grm g 164 26 = some 178 ∧ isA g 178 11 2 ∧ grm g 164 27 = some 179 ∧ isA g 179 11 8 ∧ grm g 164 28 = some 180 ∧ isA g 180 11 256 ∧ grm g 164 29 = some 181 ∧ isA g 181 11 256 ∧ grm g 164 30 = some 182 ∧ isA g 182 11 256 ∧ grm g 164 31 = some 183 ∧ isA g 183 11 256 ∧ grm g 164 32 = some 184 ∧ isA g 184 11 8 ∧ grm g 164 33 = some 185 ∧ isA g 185 13 7680 ∧ grm g 164 34 = some 186 ∧ isA g 186 13 65536 ∧ grm g 164 35 = some 187 ∧ isA g 187 13 7936 ∧ grm g 164 36 = some 188 ∧ isA g 188 13 7936 ∧ grm g 164 37 = some 189 ∧ isA g 189 11 8 ∧ grm g 164 38 = some 190 ∧ isA g 190 11 8 ∧ grm g 164 39 = some 191 ∧ isA g 191 11 8 ∧ grm g 164 40 = some 192 ∧ isA g 192 11 8 ∧ grm g 164 41 = some 193 ∧ isA g 193 11 8 ∧ grm g 164 42 = some 194 ∧ isA g 194 11 8
theorem ML.k {g : Gm} (h : ML g) : isK g 164 10 := h.1
theorem ML.r1 {g : Gm} (h : ML g) : grm g 164 1 = some 165 := h.2.1
theorem ML.a1 {g : Gm} (h : ML g) : isA g 165 11 7 := h.2.2.1
theorem ML.r2 {g : Gm} (h : ML g) : grm g 164 2 = some 166 := h.2.2.2.1
theorem ML.a2 {g : Gm} (h : ML g) : isA g 166 11 4888 := h.2.2.2.2.1
theorem ML.r3 {g : Gm} (h : ML g) : grm g 164 3 = some 167 := h.2.2.2.2.2.1
theorem ML.a3 {g : Gm} (h : ML g) : isA g 167 11 9776 := h.2.2.2.2.2.2.1
theorem ML.r4 {g : Gm} (h : ML g) : grm g 164 4 = some 168 := h.2.2.2.2.2.2.2.1
theorem ML.a4 {g : Gm} (h : ML g) : isA g 168 13 2 := h.2.2.2.2.2.2.2.2.1
theorem ML.r6 {g : Gm} (h : ML g) : grm g 164 6 = some 169 := h.2.2.2.2.2.2.2.2.2.1
theorem ML.a6 {g : Gm} (h : ML g) : isA g 169 14 66 := h.2.2.2.2.2.2.2.2.2.2.1
theorem ML.r7 {g : Gm} (h : ML g) : grm g 164 7 = some 170 := h.2.2.2.2.2.2.2.2.2.2.2.1
theorem ML.a7 {g : Gm} (h : ML g) : isA g 170 14 400 := h.2.2.2.2.2.2.2.2.2.2.2.2.1
theorem ML.r8 {g : Gm} (h : ML g) : grm g 164 8 = some 171 := h.2.2.2.2.2.2.2.2.2.2.2.2.2.1
theorem ML.a8 {g : Gm} (h : ML g) : isA g 171 11 5 := h.2.2.2.2.2.2.2.2.2.2.2.2.2.2.1
theorem ML.r11 {g : Gm} (h : ML g) : grm g 164 11 = some 172 := h.2.2.2.2.2.2.2.2.2.2.2.2.2.2.2.1
theorem ML.a11 {g : Gm} (h : ML g) : isA g 172 11 401 := h.2.2.2.2.2.2.2.2.2.2.2.2.2.2.2.2.1
theorem ML.r12 {g : Gm} (h : ML g) : grm g 164 12 = some 173 := h.2.2.2.2.2.2.2.2.2.2.2.2.2.2.2.2.2.1
theorem ML.a12 {g : Gm} (h : ML g) : isA g 173 11 401 := h.2.2.2.2.2.2.2.2.2.2.2.2.2.2.2.2.2.2.1
theorem ML.r13 {g : Gm} (h : ML g) : grm g 164 13 = some 174 := h.2.2.2.2.2.2.2.2.2.2.2.2.2.2.2.2.2.2.2.1
theorem ML.a13 {g : Gm} (h : ML g) : isA g 174 11 401 := h.2.2.2.2.2.2.2.2.2.2.2.2.2.2.2.2.2.2.2.2.1
theorem ML.r21 {g : Gm} (h : ML g) : grm g 164 21 = some 175 := h.2.2.2.2.2.2.2.2.2.2.2.2.2.2.2.2.2.2.2.2.2.1
theorem ML.a21 {g : Gm} (h : ML g) : isA g 175 11 8 := h.2.2.2.2.2.2.2.2.2.2.2.2.2.2.2.2.2.2.2.2.2.2.1
theorem ML.r24 {g : Gm} (h : ML g) : grm g 164 24 = some 176 := h.2.2.2.2.2.2.2.2.2.2.2.2.2.2.2.2.2.2.2.2.2.2.2.1
theorem ML.a24 {g : Gm} (h : ML g) : isA g 176 11 8 := h.2.2.2.2.2.2.2.2.2.2.2.2.2.2.2.2.2.2.2.2.2.2.2.2.1
theorem ML.r25 {g : Gm} (h : ML g) : grm g 164 25 = some 177 := h.2.2.2.2.2.2.2.2.2.2.2.2.2.2.2.2.2.2.2.2.2.2.2.2.2.1
theorem ML.a25 {g : Gm} (h : ML g) : isA g 177 11 8 := h.2.2.2.2.2.2.2.2.2.2.2.2.2.2.2.2.2.2.2.2.2.2.2.2.2.2.1
theorem ML.r26 {g : Gm} (h : ML g) : grm g 164 26 = some 178 := h.2.2.2.2.2.2.2.2.2.2.2.2.2.2.2.2.2.2.2.2.2.2.2.2.2.2.2.1
theorem ML.a26 {g : Gm} (h : ML g) : isA g 178 11 2 := h.2.2.2.2.2.2.2.2.2.2.2.2.2.2.2.2.2.2.2.2.2.2.2.2.2.2.2.2.1
theorem ML.r27 {g : Gm} (h : ML g) : grm g 164 27 = some 179 := h.2.2.2.2.2.2.2.2.2.2.2.2.2.2.2.2.2.2.2.2.2.2.2.2.2.2.2.2.2.1
theorem ML.a27 {g : Gm} (h : ML g) : isA g 179 11 8 := h.2.2.2.2.2.2.2.2.2.2.2.2.2.2.2.2.2.2.2.2.2.2.2.2.2.2.2.2.2.2.1
theorem ML.r28 {g : Gm} (h : ML g) : grm g 164 28 = some 180 := h.2.2.2.2.2.2.2.2.2.2.2.2.2.2.2.2.2.2.2.2.2.2.2.2.2.2.2.2.2.2.2.1
theorem ML.a28 {g : Gm} (h : ML g) : isA g 180 11 256 := h.2.2.2.2.2.2.2.2.2.2.2.2.2.2.2.2.2.2.2.2.2.2.2.2.2.2.2.2.2.2.2.2.1
theorem ML.r29 {g : Gm} (h : ML g) : grm g 164 29 = some 181 := h.2.2.2.2.2.2.2.2.2.2.2.2.2.2.2.2.2.2.2.2.2.2.2.2.2.2.2.2.2.2.2.2.2.1
theorem ML.a29 {g : Gm} (h : ML g) : isA g 181 11 256 := h.2.2.2.2.2.2.2.2.2.2.2.2.2.2.2.2.2.2.2.2.2.2.2.2.2.2.2.2.2.2.2.2.2.2.1
theorem ML.r30 {g : Gm} (h : ML g) : grm g 164 30 = some 182 := h.2.2.2.2.2.2.2.2.2.2.2.2.2.2.2.2.2.2.2.2.2.2.2.2.2.2.2.2.2.2.2.2.2.2.2.1
theorem ML.a30 {g : Gm} (h : ML g) : isA g 182 11 256 := h.2.2.2.2.2.2.2.2.2.2.2.2.2.2.2.2.2.2.2.2.2.2.2.2.2.2.2.2.2.2.2.2.2.2.2.2.1
theorem ML.r31 {g : Gm} (h : ML g) : grm g 164 31 = some 183 := h.2.2.2.2.2.2.2.2.2.2.2.2.2.2.2.2.2.2.2.2.2.2.2.2.2.2.2.2.2.2.2.2.2.2.2.2.2.1
theorem ML.a31 {g : Gm} (h : ML g) : isA g 183 11 256 := h.2.2.2.2.2.2.2.2.2.2.2.2.2.2.2.2.2.2.2.2.2.2.2.2.2.2.2.2.2.2.2.2.2.2.2.2.2.2.1
theorem ML.r32 {g : Gm} (h : ML g) : grm g 164 32 = some 184 := h.2.2.2.2.2.2.2.2.2.2.2.2.2.2.2.2.2.2.2.2.2.2.2.2.2.2.2.2.2.2.2.2.2.2.2.2.2.2.2.1
theorem ML.a32 {g : Gm} (h : ML g) : isA g 184 11 8 := h.2.2.2.2.2.2.2.2.2.2.2.2.2.2.2.2.2.2.2.2.2.2.2.2.2.2.2.2.2.2.2.2.2.2.2.2.2.2.2.2.1
theorem ML.r33 {g : Gm} (h : ML g) : grm g 164 33 = some 185 := h.2.2.2.2.2.2.2.2.2.2.2.2.2.2.2.2.2.2.2.2.2.2.2.2.2.2.2.2.2.2.2.2.2.2.2.2.2.2.2.2.2.1
theorem ML.a33 {g : Gm} (h : ML g) : isA g 185 13 7680 := h.2.2.2.2.2.2.2.2.2.2.2.2.2.2.2.2.2.2.2.2.2.2.2.2.2.2.2.2.2.2.2.2.2.2.2.2.2.2.2.2.2.2.1
theorem ML.r34 {g : Gm} (h : ML g) : grm g 164 34 = some 186 := h.2.2.2.2.2.2.2.2.2.2.2.2.2.2.2.2.2.2.2.2.2.2.2.2.2.2.2.2.2.2.2.2.2.2.2.2.2.2.2.2.2.2.2.1
theorem ML.a34 {g : Gm} (h : ML g) : isA g 186 13 65536 := h.2.2.2.2.2.2.2.2.2.2.2.2.2.2.2.2.2.2.2.2.2.2.2.2.2.2.2.2.2.2.2.2.2.2.2.2.2.2.2.2.2.2.2.2.1
theorem ML.r35 {g : Gm} (h : ML g) : grm g 164 35 = some 187 := h.2.2.2.2.2.2.2.2.2.2.2.2.2.2.2.2.2.2.2.2.2.2.2.2.2.2.2.2.2.2.2.2.2.2.2.2.2.2.2.2.2.2.2.2.2.1
theorem ML.a35 {g : Gm} (h : ML g) : isA g 187 13 7936 := h.2.2.2.2.2.2.2.2.2.2.2.2.2.2.2.2.2.2.2.2.2.2.2.2.2.2.2.2.2.2.2.2.2.2.2.2.2.2.2.2.2.2.2.2.2.2.1
theorem ML.r36 {g : Gm} (h : ML g) : grm g 164 36 = some 188 := h.2.2.2.2.2.2.2.2.2.2.2.2.2.2.2.2.2.2.2.2.2.2.2.2.2.2.2.2.2.2.2.2.2.2.2.2.2.2.2.2.2.2.2.2.2.2.2.1
theorem ML.a36 {g : Gm} (h : ML g) : isA g 188 13 7936 := h.2.2.2.2.2.2.2.2.2.2.2.2.2.2.2.2.2.2.2.2.2.2.2.2.2.2.2.2.2.2.2.2.2.2.2.2.2.2.2.2.2.2.2.2.2.2.2.2.1
theorem ML.r37 {g : Gm} (h : ML g) : grm g 164 37 = some 189 := h.2.2.2.2.2.2.2.2.2.2.2.2.2.2.2.2.2.2.2.2.2.2.2.2.2.2.2.2.2.2.2.2.2.2.2.2.2.2.2.2.2.2.2.2.2.2.2.2.2.1
theorem ML.a37 {g : Gm} (h : ML g) : isA g 189 11 8 := h.2.2.2.2.2.2.2.2.2.2.2.2.2.2.2.2.2.2.2.2.2.2.2.2.2.2.2.2.2.2.2.2.2.2.2.2.2.2.2.2.2.2.2.2.2.2.2.2.2.2.1
theorem ML.r38 {g : Gm} (h : ML g) : grm g 164 38 = some 190 := h.2.2.2.2.2.2.2.2.2.2.2.2.2.2.2.2.2.2.2.2.2.2.2.2.2.2.2.2.2.2.2.2.2.2.2.2.2.2.2.2.2.2.2.2.2.2.2.2.2.2.2.1
theorem ML.a38 {g : Gm} (h : ML g) : isA g 190 11 8 := h.2.2.2.2.2.2.2.2.2.2.2.2.2.2.2.2.2.2.2.2.2.2.2.2.2.2.2.2.2.2.2.2.2.2.2.2.2.2.2.2.2.2.2.2.2.2.2.2.2.2.2.2.1
theorem ML.r39 {g : Gm} (h : ML g) : grm g 164 39 = some 191 := h.2.2.2.2.2.2.2.2.2.2.2.2.2.2.2.2.2.2.2.2.2.2.2.2.2.2.2.2.2.2.2.2.2.2.2.2.2.2.2.2.2.2.2.2.2.2.2.2.2.2.2.2.2.1
theorem ML.a39 {g : Gm} (h : ML g) : isA g 191 11 8 := h.2.2.2.2.2.2.2.2.2.2.2.2.2.2.2.2.2.2.2.2.2.2.2.2.2.2.2.2.2.2.2.2.2.2.2.2.2.2.2.2.2.2.2.2.2.2.2.2.2.2.2.2.2.2.1
theorem ML.r40 {g : Gm} (h : ML g) : grm g 164 40 = some 192 := h.2.2.2.2.2.2.2.2.2.2.2.2.2.2.2.2.2.2.2.2.2.2.2.2.2.2.2.2.2.2.2.2.2.2.2.2.2.2.2.2.2.2.2.2.2.2.2.2.2.2.2.2.2.2.2.1
theorem ML.a40 {g : Gm} (h : ML g) : isA g 192 11 8 := h.2.2.2.2.2.2.2.2.2.2.2.2.2.2.2.2.2.2.2.2.2.2.2.2.2.2.2.2.2.2.2.2.2.2.2.2.2.2.2.2.2.2.2.2.2.2.2.2.2.2.2.2.2.2.2.2.1
theorem ML.r41 {g : Gm} (h : ML g) : grm g 164 41 = some 193 := h.2.2.2.2.2.2.2.2.2.2.2.2.2.2.2.2.2.2.2.2.2.2.2.2.2.2.2.2.2.2.2.2.2.2.2.2.2.2.2.2.2.2.2.2.2.2.2.2.2.2.2.2.2.2.2.2.2.1
theorem ML.a41 {g : Gm} (h : ML g) : isA g 193 11 8 := h.2.2.2.2.2.2.2.2.2.2.2.2.2.2.2.2.2.2.2.2.2.2.2.2.2.2.2.2.2.2.2.2.2.2.2.2.2.2.2.2.2.2.2.2.2.2.2.2.2.2.2.2.2.2.2.2.2.2.1
theorem ML.r42 {g : Gm} (h : ML g) : grm g 164 42 = some 194 := h.2.2.2.2.2.2.2.2.2.2.2.2.2.2.2.2.2.2.2.2.2.2.2.2.2.2.2.2.2.2.2.2.2.2.2.2.2.2.2.2.2.2.2.2.2.2.2.2.2.2.2.2.2.2.2.2.2.2.2.1
theorem ML.a42 {g : Gm} (h : ML g) : isA g 194 11 8 := h.2.2.2.2.2.2.2.2.2.2.2.2.2.2.2.2.2.2.2.2.2.2.2.2.2.2.2.2.2.2.2.2.2.2.2.2.2.2.2.2.2.2.2.2.2.2.2.2.2.2.2.2.2.2.2.2.2.2.2.2

def stL (i : Nat) (v : Value) (L : List (Nat × Value)) : List (Nat × Value) := (i, v) :: L.filter (fun q => !(q.1 == i) && !(q.1 + 1 == i && q.2.category == 2))
def stL2 (i : Nat) (v : Value) (L : List (Nat × Value)) : List (Nat × Value) := (i, v) :: L.filter (fun q => !(q.1 == i) && (!(q.1 == i + 1) && !(q.1 + 1 == i && q.2.category == 2)))
theorem stL_map (z : Zv) (i : Nat) (v : Value) (L : List (Nat × Value)) : (stL i v L).map (fun q => (q.1, zsh z q.2)) = (i, zsh z v) :: (L.map (fun q => (q.1, zsh z q.2))).filter (fun q => !(q.1 == i) && !(q.1 + 1 == i && q.2.category == 2)) := by
  simp only [stL, List.map_cons, List.filter_map]
  congr 2
  apply List.filter_congr
  intro q _
  simp [zcat]
theorem stL2_map (z : Zv) (i : Nat) (v : Value) (L : List (Nat × Value)) : (stL2 i v L).map (fun q => (q.1, zsh z q.2)) = (i, zsh z v) :: (L.map (fun q => (q.1, zsh z q.2))).filter (fun q => !(q.1 == i) && (!(q.1 == i + 1) && !(q.1 + 1 == i && q.2.category == 2))) := by
  simp only [stL2, List.map_cons, List.filter_map]
  congr 2
  apply List.filter_congr
  intro q _
  simp [zcat]
theorem lI_add (x y : Int) : lI x + lI y = lI (x + y) := by simp [lI, Int64.ofInt_add]
theorem lI_sub (x y : Int) : lI x - lI y = lI (x - y) := by simp [lI, Int64.ofInt_sub]
theorem lI_mul (x y : Int) : lI x * lI y = lI (x * y) := by simp [lI, Int64.ofInt_mul]
theorem lI_i (x : Int) : (lI x).toInt32 = iI x := by simp [lI, iI]
section RULES
variable {l : Launch} {z : Zv} {d : Nat} {k : PMd} {mc ms : Nat} {post : Po} {pc : Nat} {L : List (Nat × Value)} {S : List Value} {g : Gm} {f : Fm} {cb sb : Nat}
theorem r_iconst {n : Int} (hd : decode k.2.1 pc = .ok (.iconst n, 1)) (h : PW l z d k mc ms post (pc + 1) L (.int (iI n) :: S) g f cb sb) : PW l z d k mc ms post pc L S g f cb sb := by
  intro p e s m args below meth c H locs cells slots ls B hz hl hH hS hc hs
  exact lv_iconst B.1 B.2.1 hd rfl (h p e s m args below meth c H locs cells slots ls B hz hl hH hS hc hs)
theorem r_bipush {n : Int} (hd : decode k.2.1 pc = .ok (.bipush n, 2)) (hv : (Int8.ofInt n).toInt32 = iI n) (h : PW l z d k mc ms post (pc + 2) L (.int (iI n) :: S) g f cb sb) : PW l z d k mc ms post pc L S g f cb sb := by
  intro p e s m args below meth c H locs cells slots ls B hz hl hH hS hc hs
  exact lv_bipush B.1 B.2.1 hd hv (h p e s m args below meth c H locs cells slots ls B hz hl hH hS hc hs)
theorem r_sipush {n : Int} (hd : decode k.2.1 pc = .ok (.sipush n, 3)) (hv : (Int16.ofInt n).toInt32 = iI n) (h : PW l z d k mc ms post (pc + 3) L (.int (iI n) :: S) g f cb sb) : PW l z d k mc ms post pc L S g f cb sb := by
  intro p e s m args below meth c H locs cells slots ls B hz hl hH hS hc hs
  exact lv_sipush B.1 B.2.1 hd hv (h p e s m args below meth c H locs cells slots ls B hz hl hH hS hc hs)
theorem r_lconst {n : Fin 2} {x : Int} (hd : decode k.2.1 pc = .ok (.lconst n, 1)) (hv : Int64.ofNat (n : Nat) = lI x) (h : PW l z d k mc ms post (pc + 1) L (.long (lI x) :: S) g f cb sb) : PW l z d k mc ms post pc L S g f cb sb := by
  intro p e s m args below meth c H locs cells slots ls B hz hl hH hS hc hs
  exact lv_lconst B.1 B.2.1 hd hv (h p e s m args below meth c H locs cells slots ls B hz hl hH hS hc hs)
theorem r_null  (hd : decode k.2.1 pc = .ok (.aconst_null, 1)) (h : PW l z d k mc ms post (pc + 1) L (.null :: S) g f cb sb) : PW l z d k mc ms post pc L S g f cb sb := by
  intro p e s m args below meth c H locs cells slots ls B hz hl hH hS hc hs
  exact lv_null B.1 B.2.1 hd (h p e s m args below meth c H locs cells slots ls B hz hl hH hS hc hs)
theorem r_ldc {i : Nat} {v : Int32} {x : Int} (hd : decode k.2.1 pc = .ok (.ldc i, 2)) (hw : Cond.constant k.1.cls i v ∈ tblG) (hv : v = iI x) (h : PW l z d k mc ms post (pc + 2) L (.int (iI x) :: S) g f cb sb) : PW l z d k mc ms post pc L S g f cb sb := by
  intro p e s m args below meth c H locs cells slots ls B hz hl hH hS hc hs
  subst hv
  exact lv_ldc B.1 B.2.1 B.2.2.2.1 (B.2.2.2.2.1 _ hw) hd (h p e s m args below meth c H locs cells slots ls B hz hl hH hS hc hs)
theorem r_ldcw {i : Nat} {v : Int32} {x : Int} (hd : decode k.2.1 pc = .ok (.ldc_w i, 3)) (hw : Cond.constant k.1.cls i v ∈ tblG) (hv : v = iI x) (h : PW l z d k mc ms post (pc + 3) L (.int (iI x) :: S) g f cb sb) : PW l z d k mc ms post pc L S g f cb sb := by
  intro p e s m args below meth c H locs cells slots ls B hz hl hH hS hc hs
  subst hv
  exact lv_ldcw B.1 B.2.1 B.2.2.2.1 (B.2.2.2.2.1 _ hw) hd (h p e s m args below meth c H locs cells slots ls B hz hl hH hS hc hs)
theorem r_ldc2 {i : Nat} {v : Int64} {x : Int} (hd : decode k.2.1 pc = .ok (.ldc2_w i, 3)) (hw : Cond.constantLong k.1.cls i v ∈ tblG) (hv : v = lI x) (h : PW l z d k mc ms post (pc + 3) L (.long (lI x) :: S) g f cb sb) : PW l z d k mc ms post pc L S g f cb sb := by
  intro p e s m args below meth c H locs cells slots ls B hz hl hH hS hc hs
  subst hv
  exact lv_ldc2 B.1 B.2.1 B.2.2.2.1 (B.2.2.2.2.1 _ hw) hd (h p e s m args below meth c H locs cells slots ls B hz hl hH hS hc hs)
theorem r_ldcS {i : Nat} (hd : decode k.2.1 pc = .ok (.ldc (sidx i), 2)) (hk : k.1.cls = "ThirteenthLoaf$Tape") (hi : i < 14) (h : PW l z d k mc ms post (pc + 2) L (.ref (4 + i) :: S) g f cb sb) : PW l z d k mc ms post pc L S g f cb sb := by
  intro p e s m args below meth c H locs cells slots ls B hz hl hH hS hc hs
  have e0 : zsh z (.ref (4 + i)) = .ref (z.2.2.2 (4 + i)) := by simp [zsh, zad, show 4 + i < 64 by omega]
  have h2 := h p e s m args below meth c H locs cells slots ls B hz hl hH hS hc hs
  rw [List.map_cons, e0] at h2
  have ho := B.2.2.2.1
  rw [hk] at ho
  exact va_ldcS B.1 B.2.1 ho (B.2.2.2.2.2.2.2.2.2.2.2.2.2.2.1 i hi) hd h2
theorem r_iload_n {q : Fin 4} {i : Nat} {x : Int} (j : Nat) (hd : decode k.2.1 pc = .ok (.iload_n q, 1)) (hi : (q : Nat) = i) (hj : L[j]? = some (i, (.int (iI x)))) (h : PW l z d k mc ms post (pc + 1) L ((.int (iI x)) :: S) g f cb sb) : PW l z d k mc ms post pc L S g f cb sb := by
  intro p e s m args below meth c H locs cells slots ls B hz hl hH hS hc hs
  exact lv_iload_n B.1 B.2.1 hd hi (lv_at hl j (by rw [List.getElem?_map, hj]; rfl)) (h p e s m args below meth c H locs cells slots ls B hz hl hH hS hc hs)
theorem r_iload {i : Nat} {x : Int} (j : Nat) (hd : decode k.2.1 pc = .ok (.iload i, 2)) (hj : L[j]? = some (i, (.int (iI x)))) (h : PW l z d k mc ms post (pc + 2) L ((.int (iI x)) :: S) g f cb sb) : PW l z d k mc ms post pc L S g f cb sb := by
  intro p e s m args below meth c H locs cells slots ls B hz hl hH hS hc hs
  exact lv_iload B.1 B.2.1 hd (lv_at hl j (by rw [List.getElem?_map, hj]; rfl)) (h p e s m args below meth c H locs cells slots ls B hz hl hH hS hc hs)
theorem r_lload_n {q : Fin 4} {i : Nat} {x : Int} (j : Nat) (hd : decode k.2.1 pc = .ok (.lload_n q, 1)) (hi : (q : Nat) = i) (hj : L[j]? = some (i, (.long (lI x)))) (h : PW l z d k mc ms post (pc + 1) L ((.long (lI x)) :: S) g f cb sb) : PW l z d k mc ms post pc L S g f cb sb := by
  intro p e s m args below meth c H locs cells slots ls B hz hl hH hS hc hs
  exact lv_lload_n B.1 B.2.1 hd hi (lv_at hl j (by rw [List.getElem?_map, hj]; rfl)) (h p e s m args below meth c H locs cells slots ls B hz hl hH hS hc hs)
theorem r_lload {i : Nat} {x : Int} (j : Nat) (hd : decode k.2.1 pc = .ok (.lload i, 2)) (hj : L[j]? = some (i, (.long (lI x)))) (h : PW l z d k mc ms post (pc + 2) L ((.long (lI x)) :: S) g f cb sb) : PW l z d k mc ms post pc L S g f cb sb := by
  intro p e s m args below meth c H locs cells slots ls B hz hl hH hS hc hs
  exact lv_lload B.1 B.2.1 hd (lv_at hl j (by rw [List.getElem?_map, hj]; rfl)) (h p e s m args below meth c H locs cells slots ls B hz hl hH hS hc hs)
theorem r_aload_n {q : Fin 4} {i : Nat} {x : Nat} (j : Nat) (hd : decode k.2.1 pc = .ok (.aload_n q, 1)) (hi : (q : Nat) = i) (hj : L[j]? = some (i, (.ref x))) (h : PW l z d k mc ms post (pc + 1) L ((.ref x) :: S) g f cb sb) : PW l z d k mc ms post pc L S g f cb sb := by
  intro p e s m args below meth c H locs cells slots ls B hz hl hH hS hc hs
  exact lv_aload_n B.1 B.2.1 hd hi (lv_at hl j (by rw [List.getElem?_map, hj]; rfl)) (h p e s m args below meth c H locs cells slots ls B hz hl hH hS hc hs)
theorem r_aload {i : Nat} {x : Nat} (j : Nat) (hd : decode k.2.1 pc = .ok (.aload i, 2)) (hj : L[j]? = some (i, (.ref x))) (h : PW l z d k mc ms post (pc + 2) L ((.ref x) :: S) g f cb sb) : PW l z d k mc ms post pc L S g f cb sb := by
  intro p e s m args below meth c H locs cells slots ls B hz hl hH hS hc hs
  exact lv_aload B.1 B.2.1 hd (lv_at hl j (by rw [List.getElem?_map, hj]; rfl)) (h p e s m args below meth c H locs cells slots ls B hz hl hH hS hc hs)
theorem r_aload_nN {q : Fin 4} {i : Nat} (j : Nat) (hd : decode k.2.1 pc = .ok (.aload_n q, 1)) (hi : (q : Nat) = i) (hj : L[j]? = some (i, .null)) (h : PW l z d k mc ms post (pc + 1) L (.null :: S) g f cb sb) : PW l z d k mc ms post pc L S g f cb sb := by
  intro p e s m args below meth c H locs cells slots ls B hz hl hH hS hc hs
  exact lv_aload_nN B.1 B.2.1 hd hi (lv_at hl j (by rw [List.getElem?_map, hj]; rfl)) (h p e s m args below meth c H locs cells slots ls B hz hl hH hS hc hs)
theorem r_istore_n {q : Fin 4} {i : Nat} {x : Int} {L2 : List (Nat × Value)} (hd : decode k.2.1 pc = .ok (.istore_n q, 1)) (hi : (q : Nat) = i) (hn : i < k.2.2.1) (hL : stL i (.int (iI x)) L = L2) (h : PW l z d k mc ms post (pc + 1) L2 S g f cb sb) : PW l z d k mc ms post pc L ((.int (iI x)) :: S) g f cb sb := by
  intro p e s m args below meth c H locs cells slots ls B hz hl hH hS hc hs
  subst hL
  exact lv_istore_n B.1 B.2.1 hd hi hl hn (stL_map z i (.int (iI x)) L).symm (fun ls2 hl2 => h p e s m args below meth c H locs cells slots ls2 B hz hl2 hH hS hc hs)
theorem r_istore {i : Nat} {x : Int} {L2 : List (Nat × Value)} (hd : decode k.2.1 pc = .ok (.istore i, 2)) (hn : i < k.2.2.1) (hL : stL i (.int (iI x)) L = L2) (h : PW l z d k mc ms post (pc + 2) L2 S g f cb sb) : PW l z d k mc ms post pc L ((.int (iI x)) :: S) g f cb sb := by
  intro p e s m args below meth c H locs cells slots ls B hz hl hH hS hc hs
  subst hL
  exact lv_istore B.1 B.2.1 hd hl hn (stL_map z i (.int (iI x)) L).symm (fun ls2 hl2 => h p e s m args below meth c H locs cells slots ls2 B hz hl2 hH hS hc hs)
theorem r_lstore_n {q : Fin 4} {i : Nat} {x : Int} {L2 : List (Nat × Value)} (hd : decode k.2.1 pc = .ok (.lstore_n q, 1)) (hi : (q : Nat) = i) (hn : i + 1 < k.2.2.1) (hL : stL2 i (.long (lI x)) L = L2) (h : PW l z d k mc ms post (pc + 1) L2 S g f cb sb) : PW l z d k mc ms post pc L ((.long (lI x)) :: S) g f cb sb := by
  intro p e s m args below meth c H locs cells slots ls B hz hl hH hS hc hs
  subst hL
  exact lv_lstore_n B.1 B.2.1 hd hi hl hn (stL2_map z i (.long (lI x)) L).symm (fun ls2 hl2 => h p e s m args below meth c H locs cells slots ls2 B hz hl2 hH hS hc hs)
theorem r_lstore {i : Nat} {x : Int} {L2 : List (Nat × Value)} (hd : decode k.2.1 pc = .ok (.lstore i, 2)) (hn : i + 1 < k.2.2.1) (hL : stL2 i (.long (lI x)) L = L2) (h : PW l z d k mc ms post (pc + 2) L2 S g f cb sb) : PW l z d k mc ms post pc L ((.long (lI x)) :: S) g f cb sb := by
  intro p e s m args below meth c H locs cells slots ls B hz hl hH hS hc hs
  subst hL
  exact lv_lstore B.1 B.2.1 hd hl hn (stL2_map z i (.long (lI x)) L).symm (fun ls2 hl2 => h p e s m args below meth c H locs cells slots ls2 B hz hl2 hH hS hc hs)
theorem r_astore_n {q : Fin 4} {i : Nat} {x : Nat} {L2 : List (Nat × Value)} (hd : decode k.2.1 pc = .ok (.astore_n q, 1)) (hi : (q : Nat) = i) (hn : i < k.2.2.1) (hL : stL i (.ref x) L = L2) (h : PW l z d k mc ms post (pc + 1) L2 S g f cb sb) : PW l z d k mc ms post pc L ((.ref x) :: S) g f cb sb := by
  intro p e s m args below meth c H locs cells slots ls B hz hl hH hS hc hs
  subst hL
  exact lv_astore_n B.1 B.2.1 hd hi hl hn (stL_map z i (.ref x) L).symm (fun ls2 hl2 => h p e s m args below meth c H locs cells slots ls2 B hz hl2 hH hS hc hs)
theorem r_astore {i : Nat} {x : Nat} {L2 : List (Nat × Value)} (hd : decode k.2.1 pc = .ok (.astore i, 2)) (hn : i < k.2.2.1) (hL : stL i (.ref x) L = L2) (h : PW l z d k mc ms post (pc + 2) L2 S g f cb sb) : PW l z d k mc ms post pc L ((.ref x) :: S) g f cb sb := by
  intro p e s m args below meth c H locs cells slots ls B hz hl hH hS hc hs
  subst hL
  exact lv_astore B.1 B.2.1 hd hl hn (stL_map z i (.ref x) L).symm (fun ls2 hl2 => h p e s m args below meth c H locs cells slots ls2 B hz hl2 hH hS hc hs)
theorem r_astore_nN {q : Fin 4} {i : Nat} {L2 : List (Nat × Value)} (hd : decode k.2.1 pc = .ok (.astore_n q, 1)) (hi : (q : Nat) = i) (hn : i < k.2.2.1) (hL : stL i .null L = L2) (h : PW l z d k mc ms post (pc + 1) L2 S g f cb sb) : PW l z d k mc ms post pc L (.null :: S) g f cb sb := by
  intro p e s m args below meth c H locs cells slots ls B hz hl hH hS hc hs
  subst hL
  exact lv_astore_nN B.1 B.2.1 hd hi hl hn (stL_map z i .null L).symm (fun ls2 hl2 => h p e s m args below meth c H locs cells slots ls2 B hz hl2 hH hS hc hs)
theorem r_iinc {i : Nat} {n x : Int} {L2 : List (Nat × Value)} (j : Nat) (hd : decode k.2.1 pc = .ok (.iinc i n, 3)) (hj : L[j]? = some (i, .int (iI x))) (hn : i < k.2.2.1) (hL : stL i (.int (iI (x + n))) L = L2) (h : PW l z d k mc ms post (pc + 3) L2 S g f cb sb) : PW l z d k mc ms post pc L S g f cb sb := by
  intro p e s m args below meth c H locs cells slots ls B hz hl hH hS hc hs
  subst hL
  exact lv_iinc B.1 B.2.1 hd hl (k := j) (by rw [List.getElem?_map, hj]; rfl) (iI_add x n) hn (stL_map z i (.int (iI (x + n))) L).symm (fun ls2 hl2 => h p e s m args below meth c H locs cells slots ls2 B hz hl2 hH hS hc hs)
theorem r_iadd {x y : Int} (hd : decode k.2.1 pc = .ok (.iadd, 1)) (h : PW l z d k mc ms post (pc + 1) L (.int (iI (x + y)) :: S) g f cb sb) : PW l z d k mc ms post pc L (.int (iI y) :: .int (iI x) :: S) g f cb sb := by
  intro p e s m args below meth c H locs cells slots ls B hz hl hH hS hc hs
  refine lv_iadd B.1 B.2.1 hd ?_
  rw [iI_add]
  exact h p e s m args below meth c H locs cells slots ls B hz hl hH hS hc hs
theorem r_isub {x y : Int} (hd : decode k.2.1 pc = .ok (.isub, 1)) (h : PW l z d k mc ms post (pc + 1) L (.int (iI (x - y)) :: S) g f cb sb) : PW l z d k mc ms post pc L (.int (iI y) :: .int (iI x) :: S) g f cb sb := by
  intro p e s m args below meth c H locs cells slots ls B hz hl hH hS hc hs
  refine lv_isub B.1 B.2.1 hd ?_
  rw [iI_sub]
  exact h p e s m args below meth c H locs cells slots ls B hz hl hH hS hc hs
theorem r_imul {x y : Int} (hd : decode k.2.1 pc = .ok (.imul, 1)) (h : PW l z d k mc ms post (pc + 1) L (.int (iI (x * y)) :: S) g f cb sb) : PW l z d k mc ms post pc L (.int (iI y) :: .int (iI x) :: S) g f cb sb := by
  intro p e s m args below meth c H locs cells slots ls B hz hl hH hS hc hs
  refine lv_imul B.1 B.2.1 hd ?_
  rw [iI_mul]
  exact h p e s m args below meth c H locs cells slots ls B hz hl hH hS hc hs
theorem r_ineg {x : Int} (hd : decode k.2.1 pc = .ok (.ineg, 1)) (h : PW l z d k mc ms post (pc + 1) L (.int (iI (-x)) :: S) g f cb sb) : PW l z d k mc ms post pc L (.int (iI x) :: S) g f cb sb := by
  intro p e s m args below meth c H locs cells slots ls B hz hl hH hS hc hs
  refine lv_ineg B.1 B.2.1 hd ?_
  rw [iI_neg]
  exact h p e s m args below meth c H locs cells slots ls B hz hl hH hS hc hs
theorem r_iand {x y w : Int} (hd : decode k.2.1 pc = .ok (.iand, 1)) (hv : iI x &&& iI y = iI w) (h : PW l z d k mc ms post (pc + 1) L (.int (iI w) :: S) g f cb sb) : PW l z d k mc ms post pc L (.int (iI y) :: .int (iI x) :: S) g f cb sb := by
  intro p e s m args below meth c H locs cells slots ls B hz hl hH hS hc hs
  refine lv_iand B.1 B.2.1 hd ?_
  rw [hv]
  exact h p e s m args below meth c H locs cells slots ls B hz hl hH hS hc hs
theorem r_ior {x y w : Int} (hd : decode k.2.1 pc = .ok (.ior, 1)) (hv : iI x ||| iI y = iI w) (h : PW l z d k mc ms post (pc + 1) L (.int (iI w) :: S) g f cb sb) : PW l z d k mc ms post pc L (.int (iI y) :: .int (iI x) :: S) g f cb sb := by
  intro p e s m args below meth c H locs cells slots ls B hz hl hH hS hc hs
  refine lv_ior B.1 B.2.1 hd ?_
  rw [hv]
  exact h p e s m args below meth c H locs cells slots ls B hz hl hH hS hc hs
theorem r_ixor {x y w : Int} (hd : decode k.2.1 pc = .ok (.ixor, 1)) (hv : iI x ^^^ iI y = iI w) (h : PW l z d k mc ms post (pc + 1) L (.int (iI w) :: S) g f cb sb) : PW l z d k mc ms post pc L (.int (iI y) :: .int (iI x) :: S) g f cb sb := by
  intro p e s m args below meth c H locs cells slots ls B hz hl hH hS hc hs
  refine lv_ixor B.1 B.2.1 hd ?_
  rw [hv]
  exact h p e s m args below meth c H locs cells slots ls B hz hl hH hS hc hs
theorem r_ishl {x y w : Int} (hd : decode k.2.1 pc = .ok (.ishl, 1)) (hv : iI x <<< (iI y &&& 31) = iI w) (h : PW l z d k mc ms post (pc + 1) L (.int (iI w) :: S) g f cb sb) : PW l z d k mc ms post pc L (.int (iI y) :: .int (iI x) :: S) g f cb sb := by
  intro p e s m args below meth c H locs cells slots ls B hz hl hH hS hc hs
  refine lv_ishl B.1 B.2.1 hd ?_
  rw [hv]
  exact h p e s m args below meth c H locs cells slots ls B hz hl hH hS hc hs
theorem r_ishr {x y w : Int} (hd : decode k.2.1 pc = .ok (.ishr, 1)) (hv : iI x >>> (iI y &&& 31) = iI w) (h : PW l z d k mc ms post (pc + 1) L (.int (iI w) :: S) g f cb sb) : PW l z d k mc ms post pc L (.int (iI y) :: .int (iI x) :: S) g f cb sb := by
  intro p e s m args below meth c H locs cells slots ls B hz hl hH hS hc hs
  refine lv_ishr B.1 B.2.1 hd ?_
  rw [hv]
  exact h p e s m args below meth c H locs cells slots ls B hz hl hH hS hc hs
theorem r_iushr {x y w : Int} (hd : decode k.2.1 pc = .ok (.iushr, 1)) (hv : ((iI x).toUInt32 >>> ((iI y).toUInt32 &&& Int32.toUInt32 31)).toInt32 = iI w) (h : PW l z d k mc ms post (pc + 1) L (.int (iI w) :: S) g f cb sb) : PW l z d k mc ms post pc L (.int (iI y) :: .int (iI x) :: S) g f cb sb := by
  intro p e s m args below meth c H locs cells slots ls B hz hl hH hS hc hs
  exact lv_iushr B.1 B.2.1 hd hv (h p e s m args below meth c H locs cells slots ls B hz hl hH hS hc hs)
theorem r_idiv {x y w : Int} (hd : decode k.2.1 pc = .ok (.idiv, 1)) (hne : ¬ iI y = 0) (hv : iI x / iI y = iI w) (h : PW l z d k mc ms post (pc + 1) L (.int (iI w) :: S) g f cb sb) : PW l z d k mc ms post pc L (.int (iI y) :: .int (iI x) :: S) g f cb sb := by
  intro p e s m args below meth c H locs cells slots ls B hz hl hH hS hc hs
  refine lv_idiv B.1 B.2.1 hd hne ?_
  rw [hv]
  exact h p e s m args below meth c H locs cells slots ls B hz hl hH hS hc hs
theorem r_irem {x y w : Int} (hd : decode k.2.1 pc = .ok (.irem, 1)) (hne : ¬ iI y = 0) (hv : iI x - iI x / iI y * iI y = iI w) (h : PW l z d k mc ms post (pc + 1) L (.int (iI w) :: S) g f cb sb) : PW l z d k mc ms post pc L (.int (iI y) :: .int (iI x) :: S) g f cb sb := by
  intro p e s m args below meth c H locs cells slots ls B hz hl hH hS hc hs
  refine lv_irem B.1 B.2.1 hd hne ?_
  rw [hv]
  exact h p e s m args below meth c H locs cells slots ls B hz hl hH hS hc hs
theorem r_ladd {x y : Int} (hd : decode k.2.1 pc = .ok (.ladd, 1)) (h : PW l z d k mc ms post (pc + 1) L (.long (lI (x + y)) :: S) g f cb sb) : PW l z d k mc ms post pc L (.long (lI y) :: .long (lI x) :: S) g f cb sb := by
  intro p e s m args below meth c H locs cells slots ls B hz hl hH hS hc hs
  refine lv_ladd B.1 B.2.1 hd ?_
  rw [lI_add]
  exact h p e s m args below meth c H locs cells slots ls B hz hl hH hS hc hs
theorem r_lsub {x y : Int} (hd : decode k.2.1 pc = .ok (.lsub, 1)) (h : PW l z d k mc ms post (pc + 1) L (.long (lI (x - y)) :: S) g f cb sb) : PW l z d k mc ms post pc L (.long (lI y) :: .long (lI x) :: S) g f cb sb := by
  intro p e s m args below meth c H locs cells slots ls B hz hl hH hS hc hs
  refine lv_lsub B.1 B.2.1 hd ?_
  rw [lI_sub]
  exact h p e s m args below meth c H locs cells slots ls B hz hl hH hS hc hs
theorem r_lmul {x y : Int} (hd : decode k.2.1 pc = .ok (.lmul, 1)) (h : PW l z d k mc ms post (pc + 1) L (.long (lI (x * y)) :: S) g f cb sb) : PW l z d k mc ms post pc L (.long (lI y) :: .long (lI x) :: S) g f cb sb := by
  intro p e s m args below meth c H locs cells slots ls B hz hl hH hS hc hs
  refine lv_lmul B.1 B.2.1 hd ?_
  rw [lI_mul]
  exact h p e s m args below meth c H locs cells slots ls B hz hl hH hS hc hs
theorem r_land {x y w : Int} (hd : decode k.2.1 pc = .ok (.land, 1)) (hv : lI x &&& lI y = lI w) (h : PW l z d k mc ms post (pc + 1) L (.long (lI w) :: S) g f cb sb) : PW l z d k mc ms post pc L (.long (lI y) :: .long (lI x) :: S) g f cb sb := by
  intro p e s m args below meth c H locs cells slots ls B hz hl hH hS hc hs
  refine lv_land B.1 B.2.1 hd ?_
  rw [hv]
  exact h p e s m args below meth c H locs cells slots ls B hz hl hH hS hc hs
theorem r_lor {x y w : Int} (hd : decode k.2.1 pc = .ok (.lor, 1)) (hv : lI x ||| lI y = lI w) (h : PW l z d k mc ms post (pc + 1) L (.long (lI w) :: S) g f cb sb) : PW l z d k mc ms post pc L (.long (lI y) :: .long (lI x) :: S) g f cb sb := by
  intro p e s m args below meth c H locs cells slots ls B hz hl hH hS hc hs
  refine lv_lor B.1 B.2.1 hd ?_
  rw [hv]
  exact h p e s m args below meth c H locs cells slots ls B hz hl hH hS hc hs
theorem r_lshl {x y w : Int} (hd : decode k.2.1 pc = .ok (.lshl, 1)) (hv : lI x <<< ((iI y).toInt64 &&& 63) = lI w) (h : PW l z d k mc ms post (pc + 1) L (.long (lI w) :: S) g f cb sb) : PW l z d k mc ms post pc L (.int (iI y) :: .long (lI x) :: S) g f cb sb := by
  intro p e s m args below meth c H locs cells slots ls B hz hl hH hS hc hs
  exact lv_lshl B.1 B.2.1 hd hv (h p e s m args below meth c H locs cells slots ls B hz hl hH hS hc hs)
theorem r_lshr {x y w : Int} (hd : decode k.2.1 pc = .ok (.lshr, 1)) (hv : lI x >>> ((iI y).toInt64 &&& 63) = lI w) (h : PW l z d k mc ms post (pc + 1) L (.long (lI w) :: S) g f cb sb) : PW l z d k mc ms post pc L (.int (iI y) :: .long (lI x) :: S) g f cb sb := by
  intro p e s m args below meth c H locs cells slots ls B hz hl hH hS hc hs
  exact lv_lshr B.1 B.2.1 hd hv (h p e s m args below meth c H locs cells slots ls B hz hl hH hS hc hs)
theorem r_ldiv {x y w : Int} (hd : decode k.2.1 pc = .ok (.ldiv, 1)) (hne : ¬ lI y = 0) (hv : lI x / lI y = lI w) (h : PW l z d k mc ms post (pc + 1) L (.long (lI w) :: S) g f cb sb) : PW l z d k mc ms post pc L (.long (lI y) :: .long (lI x) :: S) g f cb sb := by
  intro p e s m args below meth c H locs cells slots ls B hz hl hH hS hc hs
  refine lv_ldiv B.1 B.2.1 hd hne ?_
  rw [hv]
  exact h p e s m args below meth c H locs cells slots ls B hz hl hH hS hc hs
theorem r_lrem {x y w : Int} (hd : decode k.2.1 pc = .ok (.lrem, 1)) (hne : ¬ lI y = 0) (hv : lI x - lI x / lI y * lI y = lI w) (h : PW l z d k mc ms post (pc + 1) L (.long (lI w) :: S) g f cb sb) : PW l z d k mc ms post pc L (.long (lI y) :: .long (lI x) :: S) g f cb sb := by
  intro p e s m args below meth c H locs cells slots ls B hz hl hH hS hc hs
  refine lv_lrem B.1 B.2.1 hd hne ?_
  rw [hv]
  exact h p e s m args below meth c H locs cells slots ls B hz hl hH hS hc hs
theorem r_i2l {x : Int} (hd : decode k.2.1 pc = .ok (.i2l, 1)) (hv : (iI x).toInt64 = lI x) (h : PW l z d k mc ms post (pc + 1) L (.long (lI x) :: S) g f cb sb) : PW l z d k mc ms post pc L (.int (iI x) :: S) g f cb sb := by
  intro p e s m args below meth c H locs cells slots ls B hz hl hH hS hc hs
  exact lv_i2l B.1 B.2.1 hd hv (h p e s m args below meth c H locs cells slots ls B hz hl hH hS hc hs)
theorem r_l2i {x : Int} (hd : decode k.2.1 pc = .ok (.l2i, 1)) (h : PW l z d k mc ms post (pc + 1) L (.int (iI x) :: S) g f cb sb) : PW l z d k mc ms post pc L (.long (lI x) :: S) g f cb sb := by
  intro p e s m args below meth c H locs cells slots ls B hz hl hH hS hc hs
  exact lv_l2i B.1 B.2.1 hd (lI_i x) (h p e s m args below meth c H locs cells slots ls B hz hl hH hS hc hs)
theorem r_i2b {x w : Int} (hd : decode k.2.1 pc = .ok (.i2b, 1)) (hv : (iI x).toInt8.toInt32 = iI w) (h : PW l z d k mc ms post (pc + 1) L (.int (iI w) :: S) g f cb sb) : PW l z d k mc ms post pc L (.int (iI x) :: S) g f cb sb := by
  intro p e s m args below meth c H locs cells slots ls B hz hl hH hS hc hs
  exact lv_i2b B.1 B.2.1 hd hv (h p e s m args below meth c H locs cells slots ls B hz hl hH hS hc hs)
theorem r_i2c {x w : Int} (hd : decode k.2.1 pc = .ok (.i2c, 1)) (hv : ((iI x).toUInt32 % 65536).toInt32 = iI w) (h : PW l z d k mc ms post (pc + 1) L (.int (iI w) :: S) g f cb sb) : PW l z d k mc ms post pc L (.int (iI x) :: S) g f cb sb := by
  intro p e s m args below meth c H locs cells slots ls B hz hl hH hS hc hs
  exact lv_i2c B.1 B.2.1 hd hv (h p e s m args below meth c H locs cells slots ls B hz hl hH hS hc hs)
theorem r_lcmp {x y w : Int} (hd : decode k.2.1 pc = .ok (.lcmp, 1)) (hv : lg_cmp (lI x) (lI y) = iI w) (h : PW l z d k mc ms post (pc + 1) L (.int (iI w) :: S) g f cb sb) : PW l z d k mc ms post pc L (.long (lI y) :: .long (lI x) :: S) g f cb sb := by
  intro p e s m args below meth c H locs cells slots ls B hz hl hH hS hc hs
  refine W.lcmp B.1 B.2.1 hd ?_
  rw [hv]
  exact h p e s m args below meth c H locs cells slots ls B hz hl hH hS hc hs
theorem r_dup {v : Value} (hd : decode k.2.1 pc = .ok (.dup, 1)) (hv : v.category = 1) (h : PW l z d k mc ms post (pc + 1) L (v :: v :: S) g f cb sb) : PW l z d k mc ms post pc L (v :: S) g f cb sb := by
  intro p e s m args below meth c H locs cells slots ls B hz hl hH hS hc hs
  exact lv_dup B.1 B.2.1 hd (by rw [zcat]; exact hv) (h p e s m args below meth c H locs cells slots ls B hz hl hH hS hc hs)
theorem r_pop {v : Value} (hd : decode k.2.1 pc = .ok (.pop, 1)) (hv : v.category = 1) (h : PW l z d k mc ms post (pc + 1) L S g f cb sb) : PW l z d k mc ms post pc L (v :: S) g f cb sb := by
  intro p e s m args below meth c H locs cells slots ls B hz hl hH hS hc hs
  exact lv_pop B.1 B.2.1 hd (by rw [zcat]; exact hv) (h p e s m args below meth c H locs cells slots ls B hz hl hH hS hc hs)
theorem r_dup2 {v w : Value} (hd : decode k.2.1 pc = .ok (.dup2, 1)) (hv : v.category = 1) (hw : w.category = 1) (h : PW l z d k mc ms post (pc + 1) L (v :: w :: v :: w :: S) g f cb sb) : PW l z d k mc ms post pc L (v :: w :: S) g f cb sb := by
  intro p e s m args below meth c H locs cells slots ls B hz hl hH hS hc hs
  exact lv_dup2_11 B.1 B.2.1 hd (by rw [zcat]; exact hv) (by rw [zcat]; exact hw) (h p e s m args below meth c H locs cells slots ls B hz hl hH hS hc hs)
theorem r_dup_x1 {v w : Value} (hd : decode k.2.1 pc = .ok (.dup_x1, 1)) (hv : v.category = 1) (hw : w.category = 1) (h : PW l z d k mc ms post (pc + 1) L (v :: w :: v :: S) g f cb sb) : PW l z d k mc ms post pc L (v :: w :: S) g f cb sb := by
  intro p e s m args below meth c H locs cells slots ls B hz hl hH hS hc hs
  exact lv_dup_x1 B.1 B.2.1 hd (by rw [zcat]; exact hv) (by rw [zcat]; exact hw) (h p e s m args below meth c H locs cells slots ls B hz hl hH hS hc hs)
theorem r_dup_x2 {v w u : Value} (hd : decode k.2.1 pc = .ok (.dup_x2, 1)) (hv : v.category = 1) (hw : w.category = 1) (hu : u.category = 1) (h : PW l z d k mc ms post (pc + 1) L (v :: w :: u :: v :: S) g f cb sb) : PW l z d k mc ms post pc L (v :: w :: u :: S) g f cb sb := by
  intro p e s m args below meth c H locs cells slots ls B hz hl hH hS hc hs
  exact lv_dup_x2 B.1 B.2.1 hd (by rw [zcat]; exact hv) (by rw [zcat]; exact hw) (by rw [zcat]; exact hu) (h p e s m args below meth c H locs cells slots ls B hz hl hH hS hc hs)
theorem r_icmp_eq {x y : Int} {off : Int} {tgt : Nat} (hd : decode k.2.1 pc = .ok (.if_icmp .eq off, 3)) (ht : (pc : Int) + off = (tgt : Int)) (hx : -2147483648 ≤ x ∧ x ≤ 2147483647) (hy : -2147483648 ≤ y ∧ y ≤ 2147483647) (kt : x = y → PW l z d k mc ms post tgt L S g f cb sb) (kf : ¬ x = y → PW l z d k mc ms post (pc + 3) L S g f cb sb) : PW l z d k mc ms post pc L (.int (iI y) :: .int (iI x) :: S) g f cb sb := by
  intro p e s m args below meth c H locs cells slots ls B hz hl hH hS hc hs
  exact lv_icmp_eq B.1 B.2.1 hd ht (fun q => kt ((iI_eq hx hy).mp q) p e s m args below meth c H locs cells slots ls B hz hl hH hS hc hs) (fun q => kf (fun q2 => q ((iI_eq hx hy).mpr q2)) p e s m args below meth c H locs cells slots ls B hz hl hH hS hc hs)
theorem r_if_eq {x : Int} {off : Int} {tgt : Nat} (hd : decode k.2.1 pc = .ok (.ifCond .eq off, 3)) (ht : (pc : Int) + off = (tgt : Int)) (hx : -2147483648 ≤ x ∧ x ≤ 2147483647) (kt : x = 0 → PW l z d k mc ms post tgt L S g f cb sb) (kf : ¬ x = 0 → PW l z d k mc ms post (pc + 3) L S g f cb sb) : PW l z d k mc ms post pc L (.int (iI x) :: S) g f cb sb := by
  intro p e s m args below meth c H locs cells slots ls B hz hl hH hS hc hs
  have h0 : (-2147483648 : Int) ≤ 0 ∧ (0 : Int) ≤ 2147483647 := by decide
  exact lv_if_eq B.1 B.2.1 hd ht (fun q => kt ((iI_eq hx h0).mp q) p e s m args below meth c H locs cells slots ls B hz hl hH hS hc hs) (fun q => kf (fun q2 => q ((iI_eq hx h0).mpr q2)) p e s m args below meth c H locs cells slots ls B hz hl hH hS hc hs)
theorem r_icmp_ne {x y : Int} {off : Int} {tgt : Nat} (hd : decode k.2.1 pc = .ok (.if_icmp .ne off, 3)) (ht : (pc : Int) + off = (tgt : Int)) (hx : -2147483648 ≤ x ∧ x ≤ 2147483647) (hy : -2147483648 ≤ y ∧ y ≤ 2147483647) (kt : ¬ x = y → PW l z d k mc ms post tgt L S g f cb sb) (kf : x = y → PW l z d k mc ms post (pc + 3) L S g f cb sb) : PW l z d k mc ms post pc L (.int (iI y) :: .int (iI x) :: S) g f cb sb := by
  intro p e s m args below meth c H locs cells slots ls B hz hl hH hS hc hs
  exact lv_icmp_ne B.1 B.2.1 hd ht (fun q => kt (fun q2 => q ((iI_eq hx hy).mpr q2)) p e s m args below meth c H locs cells slots ls B hz hl hH hS hc hs) (fun q => kf ((iI_eq hx hy).mp q) p e s m args below meth c H locs cells slots ls B hz hl hH hS hc hs)
theorem r_if_ne {x : Int} {off : Int} {tgt : Nat} (hd : decode k.2.1 pc = .ok (.ifCond .ne off, 3)) (ht : (pc : Int) + off = (tgt : Int)) (hx : -2147483648 ≤ x ∧ x ≤ 2147483647) (kt : ¬ x = 0 → PW l z d k mc ms post tgt L S g f cb sb) (kf : x = 0 → PW l z d k mc ms post (pc + 3) L S g f cb sb) : PW l z d k mc ms post pc L (.int (iI x) :: S) g f cb sb := by
  intro p e s m args below meth c H locs cells slots ls B hz hl hH hS hc hs
  have h0 : (-2147483648 : Int) ≤ 0 ∧ (0 : Int) ≤ 2147483647 := by decide
  exact lv_if_ne B.1 B.2.1 hd ht (fun q => kt (fun q2 => q ((iI_eq hx h0).mpr q2)) p e s m args below meth c H locs cells slots ls B hz hl hH hS hc hs) (fun q => kf ((iI_eq hx h0).mp q) p e s m args below meth c H locs cells slots ls B hz hl hH hS hc hs)
theorem r_icmp_lt {x y : Int} {off : Int} {tgt : Nat} (hd : decode k.2.1 pc = .ok (.if_icmp .lt off, 3)) (ht : (pc : Int) + off = (tgt : Int)) (hx : -2147483648 ≤ x ∧ x ≤ 2147483647) (hy : -2147483648 ≤ y ∧ y ≤ 2147483647) (kt : x < y → PW l z d k mc ms post tgt L S g f cb sb) (kf : y ≤ x → PW l z d k mc ms post (pc + 3) L S g f cb sb) : PW l z d k mc ms post pc L (.int (iI y) :: .int (iI x) :: S) g f cb sb := by
  intro p e s m args below meth c H locs cells slots ls B hz hl hH hS hc hs
  exact lv_icmp_lt B.1 B.2.1 hd ht (fun q => kt ((iI_lt hx hy).mp q) p e s m args below meth c H locs cells slots ls B hz hl hH hS hc hs) (fun q => kf (Int.not_lt.mp (fun q2 => q ((iI_lt hx hy).mpr q2))) p e s m args below meth c H locs cells slots ls B hz hl hH hS hc hs)
theorem r_if_lt {x : Int} {off : Int} {tgt : Nat} (hd : decode k.2.1 pc = .ok (.ifCond .lt off, 3)) (ht : (pc : Int) + off = (tgt : Int)) (hx : -2147483648 ≤ x ∧ x ≤ 2147483647) (kt : x < 0 → PW l z d k mc ms post tgt L S g f cb sb) (kf : 0 ≤ x → PW l z d k mc ms post (pc + 3) L S g f cb sb) : PW l z d k mc ms post pc L (.int (iI x) :: S) g f cb sb := by
  intro p e s m args below meth c H locs cells slots ls B hz hl hH hS hc hs
  have h0 : (-2147483648 : Int) ≤ 0 ∧ (0 : Int) ≤ 2147483647 := by decide
  exact lv_if_lt B.1 B.2.1 hd ht (fun q => kt ((iI_lt hx h0).mp q) p e s m args below meth c H locs cells slots ls B hz hl hH hS hc hs) (fun q => kf (Int.not_lt.mp (fun q2 => q ((iI_lt hx h0).mpr q2))) p e s m args below meth c H locs cells slots ls B hz hl hH hS hc hs)
theorem r_icmp_ge {x y : Int} {off : Int} {tgt : Nat} (hd : decode k.2.1 pc = .ok (.if_icmp .ge off, 3)) (ht : (pc : Int) + off = (tgt : Int)) (hx : -2147483648 ≤ x ∧ x ≤ 2147483647) (hy : -2147483648 ≤ y ∧ y ≤ 2147483647) (kt : y ≤ x → PW l z d k mc ms post tgt L S g f cb sb) (kf : x < y → PW l z d k mc ms post (pc + 3) L S g f cb sb) : PW l z d k mc ms post pc L (.int (iI y) :: .int (iI x) :: S) g f cb sb := by
  intro p e s m args below meth c H locs cells slots ls B hz hl hH hS hc hs
  exact lv_icmp_ge B.1 B.2.1 hd ht (fun q => kt ((iI_le hy hx).mp q) p e s m args below meth c H locs cells slots ls B hz hl hH hS hc hs) (fun q => kf (Int.not_le.mp (fun q2 => q ((iI_le hy hx).mpr q2))) p e s m args below meth c H locs cells slots ls B hz hl hH hS hc hs)
theorem r_if_ge {x : Int} {off : Int} {tgt : Nat} (hd : decode k.2.1 pc = .ok (.ifCond .ge off, 3)) (ht : (pc : Int) + off = (tgt : Int)) (hx : -2147483648 ≤ x ∧ x ≤ 2147483647) (kt : 0 ≤ x → PW l z d k mc ms post tgt L S g f cb sb) (kf : x < 0 → PW l z d k mc ms post (pc + 3) L S g f cb sb) : PW l z d k mc ms post pc L (.int (iI x) :: S) g f cb sb := by
  intro p e s m args below meth c H locs cells slots ls B hz hl hH hS hc hs
  have h0 : (-2147483648 : Int) ≤ 0 ∧ (0 : Int) ≤ 2147483647 := by decide
  exact lv_if_ge B.1 B.2.1 hd ht (fun q => kt ((iI_le h0 hx).mp q) p e s m args below meth c H locs cells slots ls B hz hl hH hS hc hs) (fun q => kf (Int.not_le.mp (fun q2 => q ((iI_le h0 hx).mpr q2))) p e s m args below meth c H locs cells slots ls B hz hl hH hS hc hs)
theorem r_icmp_gt {x y : Int} {off : Int} {tgt : Nat} (hd : decode k.2.1 pc = .ok (.if_icmp .gt off, 3)) (ht : (pc : Int) + off = (tgt : Int)) (hx : -2147483648 ≤ x ∧ x ≤ 2147483647) (hy : -2147483648 ≤ y ∧ y ≤ 2147483647) (kt : y < x → PW l z d k mc ms post tgt L S g f cb sb) (kf : x ≤ y → PW l z d k mc ms post (pc + 3) L S g f cb sb) : PW l z d k mc ms post pc L (.int (iI y) :: .int (iI x) :: S) g f cb sb := by
  intro p e s m args below meth c H locs cells slots ls B hz hl hH hS hc hs
  exact lv_icmp_gt B.1 B.2.1 hd ht (fun q => kt ((iI_lt hy hx).mp q) p e s m args below meth c H locs cells slots ls B hz hl hH hS hc hs) (fun q => kf (Int.not_lt.mp (fun q2 => q ((iI_lt hy hx).mpr q2))) p e s m args below meth c H locs cells slots ls B hz hl hH hS hc hs)
theorem r_if_gt {x : Int} {off : Int} {tgt : Nat} (hd : decode k.2.1 pc = .ok (.ifCond .gt off, 3)) (ht : (pc : Int) + off = (tgt : Int)) (hx : -2147483648 ≤ x ∧ x ≤ 2147483647) (kt : 0 < x → PW l z d k mc ms post tgt L S g f cb sb) (kf : x ≤ 0 → PW l z d k mc ms post (pc + 3) L S g f cb sb) : PW l z d k mc ms post pc L (.int (iI x) :: S) g f cb sb := by
  intro p e s m args below meth c H locs cells slots ls B hz hl hH hS hc hs
  have h0 : (-2147483648 : Int) ≤ 0 ∧ (0 : Int) ≤ 2147483647 := by decide
  exact lv_if_gt B.1 B.2.1 hd ht (fun q => kt ((iI_lt h0 hx).mp q) p e s m args below meth c H locs cells slots ls B hz hl hH hS hc hs) (fun q => kf (Int.not_lt.mp (fun q2 => q ((iI_lt h0 hx).mpr q2))) p e s m args below meth c H locs cells slots ls B hz hl hH hS hc hs)
theorem r_icmp_le {x y : Int} {off : Int} {tgt : Nat} (hd : decode k.2.1 pc = .ok (.if_icmp .le off, 3)) (ht : (pc : Int) + off = (tgt : Int)) (hx : -2147483648 ≤ x ∧ x ≤ 2147483647) (hy : -2147483648 ≤ y ∧ y ≤ 2147483647) (kt : x ≤ y → PW l z d k mc ms post tgt L S g f cb sb) (kf : y < x → PW l z d k mc ms post (pc + 3) L S g f cb sb) : PW l z d k mc ms post pc L (.int (iI y) :: .int (iI x) :: S) g f cb sb := by
  intro p e s m args below meth c H locs cells slots ls B hz hl hH hS hc hs
  exact lv_icmp_le B.1 B.2.1 hd ht (fun q => kt ((iI_le hx hy).mp q) p e s m args below meth c H locs cells slots ls B hz hl hH hS hc hs) (fun q => kf (Int.not_le.mp (fun q2 => q ((iI_le hx hy).mpr q2))) p e s m args below meth c H locs cells slots ls B hz hl hH hS hc hs)
theorem r_if_le {x : Int} {off : Int} {tgt : Nat} (hd : decode k.2.1 pc = .ok (.ifCond .le off, 3)) (ht : (pc : Int) + off = (tgt : Int)) (hx : -2147483648 ≤ x ∧ x ≤ 2147483647) (kt : x ≤ 0 → PW l z d k mc ms post tgt L S g f cb sb) (kf : 0 < x → PW l z d k mc ms post (pc + 3) L S g f cb sb) : PW l z d k mc ms post pc L (.int (iI x) :: S) g f cb sb := by
  intro p e s m args below meth c H locs cells slots ls B hz hl hH hS hc hs
  have h0 : (-2147483648 : Int) ≤ 0 ∧ (0 : Int) ≤ 2147483647 := by decide
  exact lv_if_le B.1 B.2.1 hd ht (fun q => kt ((iI_le hx h0).mp q) p e s m args below meth c H locs cells slots ls B hz hl hH hS hc hs) (fun q => kf (Int.not_le.mp (fun q2 => q ((iI_le hx h0).mpr q2))) p e s m args below meth c H locs cells slots ls B hz hl hH hS hc hs)
theorem r_goto {off : Int} {tgt : Nat} (hd : decode k.2.1 pc = .ok (.goto off, 3)) (ht : (pc : Int) + off = (tgt : Int)) (h : PW l z d k mc ms post tgt L S g f cb sb) : PW l z d k mc ms post pc L S g f cb sb := by
  intro p e s m args below meth c H locs cells slots ls B hz hl hH hS hc hs
  exact lv_goto B.1 B.2.1 hd ht (h p e s m args below meth c H locs cells slots ls B hz hl hH hS hc hs)
theorem r_ifnull {x : Nat} {off : Int} (hd : decode k.2.1 pc = .ok (.ifnull off, 3)) (h : PW l z d k mc ms post (pc + 3) L S g f cb sb) : PW l z d k mc ms post pc L (.ref x :: S) g f cb sb := by
  intro p e s m args below meth c H locs cells slots ls B hz hl hH hS hc hs
  exact lv_ifnull B.1 B.2.1 hd (h p e s m args below meth c H locs cells slots ls B hz hl hH hS hc hs)
theorem r_ifnullN {off : Int} {tgt : Nat} (hd : decode k.2.1 pc = .ok (.ifnull off, 3)) (ht : (pc : Int) + off = (tgt : Int)) (h : PW l z d k mc ms post tgt L S g f cb sb) : PW l z d k mc ms post pc L (.null :: S) g f cb sb := by
  intro p e s m args below meth c H locs cells slots ls B hz hl hH hS hc hs
  exact lv_ifnullN B.1 B.2.1 hd ht (h p e s m args below meth c H locs cells slots ls B hz hl hH hS hc hs)
theorem r_ifnonnull {x : Nat} {off : Int} {tgt : Nat} (hd : decode k.2.1 pc = .ok (.ifnonnull off, 3)) (ht : (pc : Int) + off = (tgt : Int)) (h : PW l z d k mc ms post tgt L S g f cb sb) : PW l z d k mc ms post pc L (.ref x :: S) g f cb sb := by
  intro p e s m args below meth c H locs cells slots ls B hz hl hH hS hc hs
  exact lv_ifnonnull B.1 B.2.1 hd ht (h p e s m args below meth c H locs cells slots ls B hz hl hH hS hc hs)
theorem r_ifnonnullN {off : Int} (hd : decode k.2.1 pc = .ok (.ifnonnull off, 3)) (h : PW l z d k mc ms post (pc + 3) L S g f cb sb) : PW l z d k mc ms post pc L (.null :: S) g f cb sb := by
  intro p e s m args below meth c H locs cells slots ls B hz hl hH hS hc hs
  exact lv_ifnonnullN B.1 B.2.1 hd (h p e s m args below meth c H locs cells slots ls B hz hl hH hS hc hs)
theorem r_tsw {dflt lo hi : Int} {offs : Array Int} {len : Nat} {x : Int} {off : Int} {tgt : Nat} (hd : decode k.2.1 pc = .ok (.tableswitch dflt lo hi offs, len)) (hx : -2147483648 ≤ x ∧ x ≤ 2147483647) (h1 : lo ≤ x) (h2 : x ≤ hi) (ho : offs[(x - lo).toNat]? = some off) (ht : (pc : Int) + off = (tgt : Int)) (h : PW l z d k mc ms post tgt L S g f cb sb) : PW l z d k mc ms post pc L (.int (iI x) :: S) g f cb sb := by
  intro p e s m args below meth c H locs cells slots ls B hz hl hH hS hc hs
  exact lv_tableIn B.1 B.2.1 hd (by rw [iI_toInt hx]; omega) (by rw [iI_toInt hx]; omega) (by rw [iI_toInt hx]; exact ho) ht (h p e s m args below meth c H locs cells slots ls B hz hl hH hS hc hs)
theorem r_tswD {dflt lo hi : Int} {offs : Array Int} {len : Nat} {x : Int} {tgt : Nat} (hd : decode k.2.1 pc = .ok (.tableswitch dflt lo hi offs, len)) (hx : -2147483648 ≤ x ∧ x ≤ 2147483647) (h1 : x < lo ∨ hi < x) (ht : (pc : Int) + dflt = (tgt : Int)) (h : PW l z d k mc ms post tgt L S g f cb sb) : PW l z d k mc ms post pc L (.int (iI x) :: S) g f cb sb := by
  intro p e s m args below meth c H locs cells slots ls B hz hl hH hS hc hs
  exact lv_tableOut B.1 B.2.1 hd (by rw [iI_toInt hx]; exact h1) ht (h p e s m args below meth c H locs cells slots ls B hz hl hH hS hc hs)
theorem r_sub {L2 : List (Nat × Value)} (ks : List Nat) (hL : lv_pick L ks = L2) (h : PW l z d k mc ms post pc L2 S g f cb sb) : PW l z d k mc ms post pc L S g f cb sb := by
  intro p e s m args below meth c H locs cells slots ls B hz hl hH hS hc hs
  subst hL
  refine h p e s m args below meth c H locs cells slots ls B hz (lv_sub hl ks ?_) hH hS hc hs
  simp only [lv_pick, List.getElem?_map, List.map_filterMap]
theorem r_room {cb2 sb2 : Nat} (h1 : cb2 ≤ cb) (h2 : sb2 ≤ sb) (h : PW l z d k mc ms post pc L S g f cb2 sb2) : PW l z d k mc ms post pc L S g f cb sb := by
  intro p e s m args below meth c H locs cells slots ls B hz hl hH hS hc hs
  exact h p e s m args below meth c H locs cells slots ls B hz hl hH hS (by omega) (by omega)
theorem r_iret {x : Int} {ty : FieldType} (hd : decode k.2.1 pc = .ok (.ireturn, 1)) (hr : k.2.2.2 = some ty) (hn : narrow ty (.int (iI x)) = .int (iI x)) (hp : post (some (.int (iI x))) g f) : PW l z d k mc ms post pc L [.int (iI x)] g f cb sb := by
  intro p e s m args below meth c H locs cells slots ls B hz hl hH hS hc hs
  refine W.widen (k := mc) (n := ms) (by omega) (by omega) ?_
  exact W.zret B.1 B.2.1 (B.2.2.2.2.2.1.trans hr) hn (fun t ht hw => ⟨⟨some (.int (iI x)), g, f, rfl, hp, by rw [ht]; exact hH⟩, hS.F ht⟩) hS.2.2 hd B.2.2.2.2.2.2.1
theorem r_lret {x : Int} (hd : decode k.2.1 pc = .ok (.lreturn, 1)) (hr : k.2.2.2 = some .long) (hp : post (some (.long (lI x))) g f) : PW l z d k mc ms post pc L [.long (lI x)] g f cb sb := by
  intro p e s m args below meth c H locs cells slots ls B hz hl hH hS hc hs
  refine W.widen (k := mc) (n := ms) (by omega) (by omega) ?_
  exact W.lret B.1 B.2.1 (B.2.2.2.2.2.1.trans hr) (fun t ht hw => ⟨⟨some (.long (lI x)), g, f, rfl, hp, by rw [ht]; exact hH⟩, hS.F ht⟩) hS.2.2 hd B.2.2.2.2.2.2.1
theorem r_vret  (hd : decode k.2.1 pc = .ok (.return_, 1)) (hr : k.2.2.2 = none) (hp : post none g f) : PW l z d k mc ms post pc L [] g f cb sb := by
  intro p e s m args below meth c H locs cells slots ls B hz hl hH hS hc hs
  refine W.widen (k := mc) (n := ms) (by omega) (by omega) ?_
  exact W.vret B.1 B.2.1 (B.2.2.2.2.2.1.trans hr) (fun t ht hw => ⟨⟨none, g, f, rfl, hp, by rw [ht]; exact hH⟩, hS.F ht⟩) hS.2.2 hd B.2.2.2.2.2.2.1
theorem r_aret {a : Nat} {rt : FieldType} (hd : decode k.2.1 pc = .ok (.areturn, 1)) (hr : k.2.2.2 = some rt) (hrt : (∃ n, rt = .object n) ∨ ∃ t, rt = .array t) (hp : post (some (.ref a)) g f) : PW l z d k mc ms post pc L [.ref a] g f cb sb := by
  intro p e s m args below meth c H locs cells slots ls B hz hl hH hS hc hs
  refine W.widen (k := mc) (n := ms) (by omega) (by omega) ?_
  exact W.aret B.1 B.2.1 (B.2.2.2.2.2.1.trans hr) hrt (Or.inr ⟨zad z a, rfl⟩) (fun t ht hw => ⟨⟨some (.ref a), g, f, rfl, hp, by rw [ht]; exact hH⟩, hS.F ht⟩) hS.2.2 hd B.2.2.2.2.2.2.1
theorem r_aretN {rt : FieldType} (hd : decode k.2.1 pc = .ok (.areturn, 1)) (hr : k.2.2.2 = some rt) (hrt : (∃ n, rt = .object n) ∨ ∃ t, rt = .array t) (hp : post (some .null) g f) : PW l z d k mc ms post pc L [.null] g f cb sb := by
  intro p e s m args below meth c H locs cells slots ls B hz hl hH hS hc hs
  refine W.widen (k := mc) (n := ms) (by omega) (by omega) ?_
  exact W.aret B.1 B.2.1 (B.2.2.2.2.2.1.trans hr) hrt (Or.inl rfl) (fun t ht hw => ⟨⟨some .null, g, f, rfl, hp, by rw [ht]; exact hH⟩, hS.F ht⟩) hS.2.2 hd B.2.2.2.2.2.2.1
end RULES

theorem ac_nat : Cond.native arraycopyName ∈ tblG := mg 761 (by decide +kernel) rfl
theorem ac_stat : Cond.static arraycopyName ∈ tblG := mg 760 (by decide +kernel) rfl
theorem ac_ini : Cond.initialized "java/lang/System" ∈ tblG := mg 117 (by decide +kernel) rfl
theorem cl_link : Cond.methodLink "java/util/Arrays" 316 ⟨"[I", "clone", "()Ljava/lang/Object;"⟩ ∈ tblG := mg 751 (by decide +kernel) rfl
theorem cl_same : Cond.sameMethod "[I" "java/lang/Object" "clone" "()Ljava/lang/Object;" ∈ tblG := mg 752 (by decide +kernel) rfl
theorem cl_nat : Cond.native ⟨"java/lang/Object", "clone", "()Ljava/lang/Object;"⟩ ∈ tblG := mg 753 (by decide +kernel) rfl
theorem cl_inst : Cond.instanceMethod ⟨"java/lang/Object", "clone", "()Ljava/lang/Object;"⟩ ∈ tblG := mg 754 (by decide +kernel) rfl
theorem cl_sel : Cond.selects "[I" ⟨"[I", "clone", "()Ljava/lang/Object;"⟩ ⟨"java/lang/Object", "clone", "()Ljava/lang/Object;"⟩ ∈ tblG := mg 755 (by decide +kernel) rfl
theorem cl_cast : Cond.castable "[I" "java/lang/Cloneable" ∈ nestW := List.mem_filter.mpr ⟨List.mem_of_getElem? (i := 756) (by decide +kernel), rfl⟩
theorem cl_chk : Cond.classLink "java/util/Arrays" 317 "[I" ∈ tblG := mg 757 (by decide +kernel) rfl
theorem st_cs : Cond.fieldLink "java/lang/String" 38 "java/lang/String" "COMPACT_STRINGS" "Z" ∈ tblG := mg 633 (by decide +kernel) rfl
theorem st_val : Cond.fieldLink "java/lang/String" 9 "java/lang/String" "value" "[B" ∈ tblG := mg 1658 (by decide +kernel) rfl
theorem st_cod : Cond.fieldLink "java/lang/String" 15 "java/lang/String" "coder" "B" ∈ tblG := mg 1659 (by decide +kernel) rfl
theorem st_sio : Cond.fieldLink "java/lang/String" 1053 "jdk/internal/util/Preconditions" "SIOOBE_FORMATTER" "Ljava/util/function/BiFunction;" ∈ tblG := mg 649 (by decide +kernel) rfl
def cpF (f : Fm) (a b sp dp n : Nat) : Fm := fun q i => if q = b ∧ dp ≤ i ∧ i < dp + n then f a (sp + (i - dp)) else f q i
def cpG (g : Gm) (a b sp dp n : Nat) : Gm := (g.1, g.2.1, g.2.2.1, fun q i => if q = b ∧ dp ≤ i ∧ i < dp + n then g.2.2.2.1 a (sp + (i - dp)) else g.2.2.2.1 q i, g.2.2.2.2)
/-- a new cell like an old one -/
def clG (g : Gm) (a : Nat) : Gm := nwG g (gkd g a) (gln g a)
def clF (f : Fm) (a b : Nat) : Fm := fun q i => if q = b then f a i else f q i
theorem iI_nn {x : Int} (h : 0 ≤ x ∧ x ≤ 2147483647) : ¬ iI x < 0 := by
  have h0 : (0 : Int32) = iI 0 := rfl
  rw [h0, iI_lt (by omega) (by omega)]; omega
section NAT
variable {l : Launch} {z : Zv} {d : Nat} {k : PMd} {mc ms : Nat} {post : Po} {pc : Nat} {L : List (Nat × Value)} {S : List Value} {g : Gm} {f : Fm} {cb sb : Nat}
theorem zpic_cpF {a b sp dp n : Nat} : ∀ q, q ≠ b → zpic z g (cpF f a b sp dp n) q = zpic z g f q := by
  intro q hq
  have h1 : ∀ i, cpF f a b sp dp n q i = f q i := fun i => by simp [cpF, hq]
  have h2 : ∀ c, zfv z g (cpF f a b sp dp n) q c = zfv z g f q c := fun c => by funext i; simp [zfv, h1]
  have h3 : zcon z g (cpF f a b sp dp n) q = zcon z g f q := by simp [zcon, h1]
  simp [zpic, h2, h3]
theorem zpic_cpG {a b sp dp n : Nat} : ∀ q, q ≠ b → zpic z (cpG g a b sp dp n) f q = zpic z g f q := by
  intro q hq
  have h0 : gkd (cpG g a b sp dp n) = gkd g := rfl
  have h1 : ∀ i, glm (cpG g a b sp dp n) q i = glm g q i := fun i => by simp [glm, cpG, hq]
  have h2 : ∀ c, zfv z (cpG g a b sp dp n) f q c = zfv z g f q c := fun c => rfl
  have h3 : zcon z (cpG g a b sp dp n) f q = zcon z g f q := by simp only [zcon, h1, h0]; rfl
  have h4 : gln (cpG g a b sp dp n) = gln g := rfl
  simp only [zpic, h0, h2, h3, h4]
theorem r_acopyI {i a b n0 n1 : Nat} {sp dp n : Int} (hd : decode k.2.1 pc = .ok (.invokestatic i, 3)) (hw : Cond.methodLink k.1.cls i arraycopyName ∈ tblG) (hA : isA g a 11 n0) (hB : isA g b 11 n1) (h1 : 0 ≤ sp ∧ 0 ≤ dp ∧ 0 ≤ n) (h2 : sp + n ≤ n0) (h3 : dp + n ≤ n1) (hn : n0 ≤ 2147483647 ∧ n1 ≤ 2147483647) (hrs : (S.map fun v => v.category).sum ≤ 8)
    (h : PW l z d k mc ms post (pc + 3) L S g (cpF f a b sp.toNat dp.toNat n.toNat) cb sb) : PW l z d k mc ms post pc L (.int (iI n) :: .int (iI dp) :: .ref b :: .int (iI sp) :: .ref a :: S) g f cb sb := by
  intro p e s m args below meth c0 H locs cells slots ls B hz hl hH hS hc hs
  obtain ⟨a1, a2, a3, a4⟩ := hA
  obtain ⟨b1, b2, b3, b4⟩ := hB
  have K := B.2.2.2.2.2.2.2.2.K
  have hts := B.2.2.2.2.1
  have csp := iI_cl (x := sp) (by omega)
  have cdp := iI_cl (x := dp) (by omega)
  have cn := iI_cl (x := n) (by omega)
  have tsp := iI_toInt (x := sp) (by omega)
  have tdp := iI_toInt (x := dp) (by omega)
  have tn := iI_toInt (x := n) (by omega)
  have hc0 : H[zad z a]? = some (vp_cell (z.2.1 11) (n0, .inl (fun i => iI (f a i)))) := zH_cell hH a2 a3 (zpic_i (f := f) a1 a4 (Or.inl rfl))
  have hc1 : H[zad z b]? = some (vp_cell (z.2.1 11) (n1, .inl (fun i => iI (f b i)))) := zH_cell hH b2 b3 (zpic_i (f := f) b1 b4 (Or.inl rfl))
  obtain ⟨-, k0, hk0, cm0, hkk0⟩ := (K.2 0 _ rfl).1 n0 (fun j => .int (iI (f a j)))
  obtain ⟨-, k1, hk1, cm1, hkk1⟩ := (K.2 0 _ rfl).1 n1 (fun j => .int (iI (f b j)))
  have hfin : ∀ (H1 : Heap) (locs1 : List Loc), H1[zad z b]? = some (vp_cell (z.2.1 11) (n1, .inl (va_cpy (fun i => iI (f a i)) (fun i => iI (f b i)) sp.toNat dp.toNat n.toNat))) → H1.size = H.size → (∀ q : Nat, q ≠ zad z b → H1[q]? = H[q]?) → (∀ q ∈ locs1, q.base = zad z b) → W p l e (zR d mc ms) s m args below meth c0 H1 (locs ++ locs1) cells slots (MQ below (zQc z post) args s mc ms (zA z)) (F0 m (pc + 3) ls (S.map (zsh z))) := by
    intro H1 locs1 e1 z1 oq hloc
    have hH1 : zH z g (cpF f a b sp.toNat dp.toNat n.toNat) H1 := by
      refine zH_store hH b2 b3 rfl ?_ z1 oq zpic_cpF
      rw [zpic_i b1 b4 (Or.inl rfl)]
      show H1[zad z b]? = some (vp_cell _ _)
      rw [e1]
      congr 4
      funext i
      by_cases hi : dp.toNat ≤ i ∧ i < dp.toNat + n.toNat
      · simp only [va_cpy, cpF, true_and]; rw [if_pos hi, if_pos hi]
      · simp only [va_cpy, cpF, true_and]; rw [if_neg hi, if_neg hi]
    refine h p e s m args below meth c0 H1 _ cells slots ls B hz hl hH1 ⟨by rw [z1]; exact hS.1, fun q g1 g2 => ?_, fun q hq => ?_⟩ hc hs
    · rw [oq q (fun e => g2 (by rw [e]; exact zad_A b2))]
      exact hS.2.1 q g1 g2
    · rcases List.mem_append.mp hq with h | h
      · exact hS.2.2 q h
      · rw [hloc q h]; exact zad_A b2
  intro T hT X
  obtain ⟨vm', X', step⟩ := X.arraycopy B.1 B.2.2.2.1 (hts _ hw) (hts _ ac_nat) (hts _ ac_stat) (hts _ ac_ini) (src := zad z a) (dst := zad z b) (cs := vp_cell (z.2.1 11) (n0, .inl (fun i => iI (f a i)))) (cd := vp_cell (z.2.1 11) (n1, .inl (fun i => iI (f b i)))) (srcPos := iI sp) (destPos := iI dp) (n := iI n) (by rw [hT]; exact hc0) (by rw [hT]; exact hc1)
    (fun _ h => by cases h) (fun _ h => by cases h) (fun h => by cases h) (fun h => by cases h) hk0 hk1 hkk0 hkk1 (by simp [refKind]) (iI_nn (by omega)) (iI_nn (by omega)) (iI_nn (by omega))
    (by rw [tsp, tn]; show ¬ _ > ((arrV _ n0 (fun j => .int (iI (f a j)))).slots.size : Int); rw [arrV_size]; omega)
    (by rw [tdp, tn]; show ¬ _ > ((arrV _ n1 (fun j => .int (iI (f b j)))).slots.size : Int); rw [arrV_size]; omega)
    (fun vm₁ _ i hi => by
      have e : (vp_cell (z.2.1 11) (n0, .inl (fun i => iI (f a i)))).slots.getD ((iI sp).toNatClampNeg + i) .null = .int (iI (f a ((iI sp).toNatClampNeg + i))) := by
        show (arrV _ n0 (fun j => .int (iI (f a j)))).slots.getD _ _ = _
        rw [Array.getD_eq_getD_getElem?, arrV_read _ _ (by rw [csp]; rw [cn] at hi; omega)]
        rfl
      rw [e]
      exact ⟨rfl, trivial⟩)
    (g := F0 m pc ls (.int (iI n) :: .int (iI dp) :: .ref (zad z b) :: .int (iI sp) :: .ref (zad z a) :: S.map (zsh z))) rfl (hl.1.trans B.2.2.1.symm) (rest := S.map (zsh z)) rfl (by rw [B.2.1]; exact hd) (by show 1 ≤ d + 1; omega) (by show 2 * 0 + _ + _ ≤ 64 * (d + 1); have h6 := catsum (z := z) S; have h5 : nativeFrameWords "java/lang/System" "arraycopy" 5 ≤ 30 := (by decide +kernel); omega)
  have e1 : copied (vp_cell (z.2.1 11) (n0, .inl (fun i => iI (f a i)))) (vp_cell (z.2.1 11) (n1, .inl (fun i => iI (f b i)))) (iI sp) (iI dp) (iI n) = vp_cell (z.2.1 11) (n1, .inl (va_cpy (fun i => iI (f a i)) (fun i => iI (f b i)) (iI sp).toNatClampNeg (iI dp).toNatClampNeg (iI n).toNatClampNeg)) := va_copied (fun z => Value.int z) (z.2.1 11) (z.2.1 11) (n0 := n0) (n1 := n1) (sp := (iI sp).toNatClampNeg) (dp := (iI dp).toNatClampNeg) (n := (iI n).toNatClampNeg) (fun i => iI (f a i)) (fun i => iI (f b i)) (by rw [csp, cn]; omega)
  rw [e1] at X' step
  rw [csp, cdp, cn] at X' step
  have hlt : zad z b < H.size := (Array.getElem?_eq_some_iff.mp hc1).1
  obtain ⟨t, q1, q2⟩ := hfin (H.setIfInBounds (zad z b) (vp_cell (z.2.1 11) (n1, .inl (va_cpy (fun i => iI (f a i)) (fun i => iI (f b i)) sp.toNat dp.toNat n.toNat)))) _ (by simp [Array.getElem?_setIfInBounds, hlt]) (by simp) (fun q hq => by simp [Array.getElem?_setIfInBounds, Ne.symm hq]) (fun q hq => by
      obtain ⟨y, -, hy⟩ := List.mem_map.mp hq
      rw [← hy]) _ (by rw [← hT]; rfl) X'
  exact ⟨t, step t q1, q2⟩
theorem r_getsN {i j : Nat} (hd : decode k.2.1 pc = .ok (.getstatic i, 3)) (hj : j < 4) (hw : Cond.fieldLinkNest k.1.cls i "ThirteenthLoaf" (snm j) "[I" "ThirteenthLoaf" ∈ nestW) (h : PW l z d k mc ms post (pc + 3) L (.ref j :: S) g f cb sb) : PW l z d k mc ms post pc L S g f cb sb := by
  intro p e s m args below meth c0 H locs cells slots ls B hz hl hH hS hc hs
  have h5 := B.2.2.2.2.2.2.2.2.2.2.2.2.1 j hj
  have e0 : zsh z (.ref j) = .ref (z.2.2.2 j) := by simp [zsh, zad, show j < 64 by omega]
  have h2 := h p e s m args below meth c0 H locs cells slots ls B hz hl hH hS hc hs
  rw [List.map_cons, e0] at h2
  exact va_getsN B.1 B.2.1 h5.1 hS B.2.2.2.1 (va_Nw.use rfl (B.2.2.2.2.2.2.2.2.2.1 _ hw)) (fun _ h => h) hd h2
theorem r_strCS (hd : decode k.2.1 pc = .ok (.getstatic 38, 3)) (hk : k.1.cls = "java/lang/String") (h : PW l z d k mc ms post (pc + 3) L (.int (iI 1) :: S) g f cb sb) : PW l z d k mc ms post pc L S g f cb sb := by
  intro p e s m args below meth c0 H locs cells slots ls B hz hl hH hS hc hs
  have ho := B.2.2.2.1
  rw [hk] at ho
  exact va_gets B.1 B.2.1 B.2.2.2.2.2.2.2.2.2.2.2.2.2.2.2.1 hS ho (B.2.2.2.2.1 _ st_cs) (fun _ h => h) hd (h p e s m args below meth c0 H locs cells slots ls B hz hl hH hS hc hs)
theorem r_strVal {i : Nat} (hd : decode k.2.1 pc = .ok (.getfield 9, 3)) (hk : k.1.cls = "java/lang/String") (hi : i < 14) (h : PW l z d k mc ms post (pc + 3) L (.ref (18 + i) :: S) g f cb sb) : PW l z d k mc ms post pc L (.ref (4 + i) :: S) g f cb sb := by
  intro p e s m args below meth c0 H locs cells slots ls B hz hl hH hS hc hs
  have ho := B.2.2.2.1
  rw [hk] at ho
  have h2 := h p e s m args below meth c0 H locs cells slots ls B hz hl hH hS hc hs
  have e0 : zsh z (.ref (18 + i)) = .ref (z.2.2.2 (18 + i)) := by simp [zsh, zad, show 18 + i < 64 by omega]
  have e1 : zsh z (.ref (4 + i)) = .ref (z.2.2.2 (4 + i)) := by simp [zsh, zad, show 4 + i < 64 by omega]
  rw [List.map_cons, e0] at h2
  rw [List.map_cons, e1]
  exact vk_getf B.1 B.2.1 (B.2.2.2.2.2.2.2.2.2.2.2.2.2.1.1 i hi).2.2.1 hS ho (B.2.2.2.2.1 _ st_val) (fun _ h => h) hd h2
theorem r_strCod {i : Nat} (hd : decode k.2.1 pc = .ok (.getfield 15, 3)) (hk : k.1.cls = "java/lang/String") (hi : i < 14) (h : PW l z d k mc ms post (pc + 3) L (.int (iI 0) :: S) g f cb sb) : PW l z d k mc ms post pc L (.ref (4 + i) :: S) g f cb sb := by
  intro p e s m args below meth c0 H locs cells slots ls B hz hl hH hS hc hs
  have ho := B.2.2.2.1
  rw [hk] at ho
  have h2 := h p e s m args below meth c0 H locs cells slots ls B hz hl hH hS hc hs
  have e1 : zsh z (.ref (4 + i)) = .ref (z.2.2.2 (4 + i)) := by simp [zsh, zad, show 4 + i < 64 by omega]
  rw [List.map_cons, e1]
  exact vk_getf B.1 B.2.1 (B.2.2.2.2.2.2.2.2.2.2.2.2.2.1.1 i hi).2.1 hS ho (B.2.2.2.2.1 _ st_cod) (fun _ h => h) hd h2
theorem r_strLen {i : Nat} (hd : decode k.2.1 pc = .ok (.arraylength, 1)) (hi : i < 14) (h : PW l z d k mc ms post (pc + 1) L (.int (iI ((schr.getD i []).length : Int)) :: S) g f cb sb) : PW l z d k mc ms post pc L (.ref (18 + i) :: S) g f cb sb := by
  intro p e s m args below meth c0 H locs cells slots ls B hz hl hH hS hc hs
  have h2 := h p e s m args below meth c0 H locs cells slots ls B hz hl hH hS hc hs
  have e1 : zsh z (.ref (18 + i)) = .ref (z.2.2.2 (18 + i)) := by simp [zsh, zad, show 18 + i < 64 by omega]
  rw [List.map_cons, e1]
  refine va_tlen B.1 B.2.1 (B.2.2.2.2.2.2.2.2.2.2.2.2.2.1.1 i hi).2.2.2 hS ?_ hd h2
  have h3 : ∀ i, i < 14 → slen.getD i 0 = (schr.getD i []).length := by decide
  rw [h3 i hi, iI_nat]
  rfl
theorem r_strBald {i : Nat} {x : Int} (hd : decode k.2.1 pc = .ok (.baload, 1)) (hi : i < 14) (hx : 0 ≤ x ∧ x < ((schr.getD i []).length : Int)) (h : PW l z d k mc ms post (pc + 1) L (.int (iI ((schr.getD i []).getD x.toNat 0)) :: S) g f cb sb) : PW l z d k mc ms post pc L (.int (iI x) :: .ref (18 + i) :: S) g f cb sb := by
  intro p e s m args below meth c0 H locs cells slots ls B hz hl hH hS hc hs
  have h2 := h p e s m args below meth c0 H locs cells slots ls B hz hl hH hS hc hs
  have e1 : zsh z (.ref (18 + i)) = .ref (z.2.2.2 (18 + i)) := by simp [zsh, zad, show 18 + i < 64 by omega]
  have h3 : ∀ i, i < 14 → slen.getD i 0 = (schr.getD i []).length ∧ (schr.getD i []).length ≤ 6 := by decide
  show W p l e (zR d mc ms) s m args below meth c0 H locs cells slots (MQ below (zQc z post) args s mc ms (zA z)) (F0 m pc ls (.int (iI x) :: zsh z (.ref (18 + i)) :: S.map (zsh z)))
  rw [e1]
  have h4 := h3 i hi
  refine va_tb B.1 B.2.1 (B.2.2.2.2.2.2.2.2.2.2.2.2.2.1.1 i hi).2.2.2 hS (by rw [h4.1]; exact iI_in hx (by omega)) (v := .int (iI ((schr.getD i []).getD x.toNat 0))) ?_ hd h2
  rw [iI_cl (by omega)]
  have h5 : sbyt.getD i [] = (schr.getD i []).map iI := by
    simp only [sbyt, List.getD_eq_getElem?_getD, List.getElem?_map]
    cases schr[i]? <;> rfl
  have h6 : x.toNat < (schr.getD i []).length := by omega
  rw [h5]
  simp only [List.getD_eq_getElem?_getD, List.getElem?_map] at h6 ⊢
  rw [List.getElem?_eq_getElem h6]
  rfl
theorem r_strSio (hd : decode k.2.1 pc = .ok (.getstatic 1053, 3)) (hk : k.1.cls = "java/lang/String") (h1 : PW l z d k mc ms post (pc + 3) L (.ref 63 :: S) g f cb sb) (h0 : PW l z d k mc ms post (pc + 3) L (.null :: S) g f cb sb) : PW l z d k mc ms post pc L S g f cb sb := by
  intro p e s m args below meth c0 H locs cells slots ls B hz hl hH hS hc hs
  have ho := B.2.2.2.1
  rw [hk] at ho
  rcases B.2.2.2.2.2.2.2.2.2.2.2.2.2.2.2.2 with hq | hq
  · exact va_gets B.1 B.2.1 hq hS ho (B.2.2.2.2.1 _ st_sio) (fun _ h => h) hd (h0 p e s m args below meth c0 H locs cells slots ls B hz hl hH hS hc hs)
  · exact va_gets B.1 B.2.1 hq hS ho (B.2.2.2.2.1 _ st_sio) (fun _ h => h) hd (h1 p e s m args below meth c0 H locs cells slots ls B hz hl hH hS hc hs)
end NAT

section NATJ
variable {l : Launch} {z : Zv} {d : Nat} {k : PMd} {mc ms : Nat} {post : Po} {pc : Nat} {L : List (Nat × Value)} {S : List Value} {g : Gm} {f : Fm} {cb sb : Nat}
theorem r_acopyJ {i a b n0 n1 : Nat} {sp dp n : Int} (hd : decode k.2.1 pc = .ok (.invokestatic i, 3)) (hw : Cond.methodLink k.1.cls i arraycopyName ∈ tblG) (hA : isA g a 12 n0) (hB : isA g b 12 n1) (h1 : 0 ≤ sp ∧ 0 ≤ dp ∧ 0 ≤ n) (h2 : sp + n ≤ n0) (h3 : dp + n ≤ n1) (hn : n0 ≤ 2147483647 ∧ n1 ≤ 2147483647) (hrs : (S.map fun v => v.category).sum ≤ 8)
    (h : PW l z d k mc ms post (pc + 3) L S (cpG g a b sp.toNat dp.toNat n.toNat) f cb sb) : PW l z d k mc ms post pc L (.int (iI n) :: .int (iI dp) :: .ref b :: .int (iI sp) :: .ref a :: S) g f cb sb := by
  intro p e s m args below meth c0 H locs cells slots ls B hz hl hH hS hc hs
  obtain ⟨a1, a2, a3, a4⟩ := hA
  obtain ⟨b1, b2, b3, b4⟩ := hB
  have K := B.2.2.2.2.2.2.2.2.K
  have hts := B.2.2.2.2.1
  have csp := iI_cl (x := sp) (by omega)
  have cdp := iI_cl (x := dp) (by omega)
  have cn := iI_cl (x := n) (by omega)
  have tsp := iI_toInt (x := sp) (by omega)
  have tdp := iI_toInt (x := dp) (by omega)
  have tn := iI_toInt (x := n) (by omega)
  have hc0 : H[zad z a]? = some (vp_cell (z.2.1 12) (n0, .inr (.inl (fun i => lI (glm g a i))))) := zH_cell hH a2 a3 (zpic_l (f := f) a1 a4)
  have hc1 : H[zad z b]? = some (vp_cell (z.2.1 12) (n1, .inr (.inl (fun i => lI (glm g b i))))) := zH_cell hH b2 b3 (zpic_l (f := f) b1 b4)
  obtain ⟨-, k0, hk0, cm0, hkk0⟩ := (K.2 1 _ rfl).1 n0 (fun j => .long (lI (glm g a j)))
  obtain ⟨-, k1, hk1, cm1, hkk1⟩ := (K.2 1 _ rfl).1 n1 (fun j => .long (lI (glm g b j)))
  have hfin : ∀ (H1 : Heap) (locs1 : List Loc), H1[zad z b]? = some (vp_cell (z.2.1 12) (n1, .inr (.inl (va_cpy (fun i => lI (glm g a i)) (fun i => lI (glm g b i)) sp.toNat dp.toNat n.toNat)))) → H1.size = H.size → (∀ q : Nat, q ≠ zad z b → H1[q]? = H[q]?) → (∀ q ∈ locs1, q.base = zad z b) → W p l e (zR d mc ms) s m args below meth c0 H1 (locs ++ locs1) cells slots (MQ below (zQc z post) args s mc ms (zA z)) (F0 m (pc + 3) ls (S.map (zsh z))) := by
    intro H1 locs1 e1 z1 oq hloc
    have hH1 : zH z (cpG g a b sp.toNat dp.toNat n.toNat) f H1 := by
      refine zH_store hH b2 b3 rfl ?_ z1 oq zpic_cpG
      rw [zpic_l (g := cpG g a b sp.toNat dp.toNat n.toNat) b1 b4]
      show H1[zad z b]? = some (vp_cell _ _)
      rw [e1]
      congr 5
      funext i
      by_cases hi : dp.toNat ≤ i ∧ i < dp.toNat + n.toNat
      · simp only [va_cpy, glm, cpG, true_and]; rw [if_pos hi, if_pos hi]
      · simp only [va_cpy, glm, cpG, true_and]; rw [if_neg hi, if_neg hi]
    refine h p e s m args below meth c0 H1 _ cells slots ls B hz hl hH1 ⟨by rw [z1]; exact hS.1, fun q g1 g2 => ?_, fun q hq => ?_⟩ hc hs
    · rw [oq q (fun e => g2 (by rw [e]; exact zad_A b2))]
      exact hS.2.1 q g1 g2
    · rcases List.mem_append.mp hq with h | h
      · exact hS.2.2 q h
      · rw [hloc q h]; exact zad_A b2
  intro T hT X
  obtain ⟨vm', X', step⟩ := X.arraycopy B.1 B.2.2.2.1 (hts _ hw) (hts _ ac_nat) (hts _ ac_stat) (hts _ ac_ini) (src := zad z a) (dst := zad z b) (cs := vp_cell (z.2.1 12) (n0, .inr (.inl (fun i => lI (glm g a i))))) (cd := vp_cell (z.2.1 12) (n1, .inr (.inl (fun i => lI (glm g b i))))) (srcPos := iI sp) (destPos := iI dp) (n := iI n) (by rw [hT]; exact hc0) (by rw [hT]; exact hc1)
    (fun _ h => by cases h) (fun _ h => by cases h) (fun h => by cases h) (fun h => by cases h) hk0 hk1 hkk0 hkk1 (by simp [refKind]) (iI_nn (by omega)) (iI_nn (by omega)) (iI_nn (by omega))
    (by rw [tsp, tn]; show ¬ _ > ((arrV _ n0 (fun j => .long (lI (glm g a j)))).slots.size : Int); rw [arrV_size]; omega)
    (by rw [tdp, tn]; show ¬ _ > ((arrV _ n1 (fun j => .long (lI (glm g b j)))).slots.size : Int); rw [arrV_size]; omega)
    (fun vm₁ _ i hi => by
      have e : (vp_cell (z.2.1 12) (n0, .inr (.inl (fun i => lI (glm g a i))))).slots.getD ((iI sp).toNatClampNeg + i) .null = .long (lI (glm g a ((iI sp).toNatClampNeg + i))) := by
        show (arrV _ n0 (fun j => .long (lI (glm g a j)))).slots.getD _ _ = _
        rw [Array.getD_eq_getD_getElem?, arrV_read _ _ (by rw [csp]; rw [cn] at hi; omega)]
        rfl
      rw [e]
      exact ⟨rfl, trivial⟩)
    (g := F0 m pc ls (.int (iI n) :: .int (iI dp) :: .ref (zad z b) :: .int (iI sp) :: .ref (zad z a) :: S.map (zsh z))) rfl (hl.1.trans B.2.2.1.symm) (rest := S.map (zsh z)) rfl (by rw [B.2.1]; exact hd) (by show 1 ≤ d + 1; omega) (by show 2 * 0 + _ + _ ≤ 64 * (d + 1); have h6 := catsum (z := z) S; have h5 : nativeFrameWords "java/lang/System" "arraycopy" 5 ≤ 30 := (by decide +kernel); omega)
  have e1 : copied (vp_cell (z.2.1 12) (n0, .inr (.inl (fun i => lI (glm g a i))))) (vp_cell (z.2.1 12) (n1, .inr (.inl (fun i => lI (glm g b i))))) (iI sp) (iI dp) (iI n) = vp_cell (z.2.1 12) (n1, .inr (.inl (va_cpy (fun i => lI (glm g a i)) (fun i => lI (glm g b i)) (iI sp).toNatClampNeg (iI dp).toNatClampNeg (iI n).toNatClampNeg))) := va_copied (fun z => Value.long z) (z.2.1 12) (z.2.1 12) (n0 := n0) (n1 := n1) (sp := (iI sp).toNatClampNeg) (dp := (iI dp).toNatClampNeg) (n := (iI n).toNatClampNeg) (fun i => lI (glm g a i)) (fun i => lI (glm g b i)) (by rw [csp, cn]; omega)
  rw [e1] at X' step
  rw [csp, cdp, cn] at X' step
  have hlt : zad z b < H.size := (Array.getElem?_eq_some_iff.mp hc1).1
  obtain ⟨t, q1, q2⟩ := hfin (H.setIfInBounds (zad z b) (vp_cell (z.2.1 12) (n1, .inr (.inl (va_cpy (fun i => lI (glm g a i)) (fun i => lI (glm g b i)) sp.toNat dp.toNat n.toNat))))) _ (by simp [Array.getElem?_setIfInBounds, hlt]) (by simp) (fun q hq => by simp [Array.getElem?_setIfInBounds, Ne.symm hq]) (fun q hq => by
      obtain ⟨y, -, hy⟩ := List.mem_map.mp hq
      rw [← hy]) _ (by rw [← hT]; rfl) X'
  exact ⟨t, step t q1, q2⟩
theorem r_alenJ {a n : Nat} (hd : decode k.2.1 pc = .ok (.arraylength, 1)) (hA : isA g a 12 n) (h : PW l z d k mc ms post (pc + 1) L (.int (iI (n : Int)) :: S) g f cb sb) : PW l z d k mc ms post pc L (.ref a :: S) g f cb sb := by
  intro p e s m args below meth c0 H locs cells slots ls B hz hl hH hS hc hs
  obtain ⟨k1, k2, k3, k4⟩ := hA
  have h2 := h p e s m args below meth c0 H locs cells slots ls B hz hl hH hS hc hs
  have e1 : Int32.ofNat n = iI (n : Int) := (iI_nat n).symm
  exact va_alen B.1 B.2.1 B.2.2.2.2.2.2.2.2.K hH.in_ (a - 64) 1 (by rw [zws_at k2 k3, zpic_l k1 k4]) (ty := .long) rfl e1 hd h2
end NATJ

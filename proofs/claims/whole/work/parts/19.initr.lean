section INITR
variable {l : Launch} {z : Zv} {d : Nat} {k : PMd} {mc ms : Nat} {post : Po} {pc : Nat} {L : List (Nat × Value)} {S : List Value} {g : Gm} {f : Fm} {cb sb : Nat}
theorem r_newv {i c a : Nat} (hd : decode k.2.1 pc = .ok (.new i, 3)) (ha : gnx g = a) (hc11 : c < 11) (hw : Cond.classLink k.1.cls i (RR c) ∈ tblG ∧ Cond.instantiable (RR c) (nF c) ∈ tblG ∧ Cond.initialized (RR c) ∈ tblG) (h1 : 1 ≤ cb) (h2 : nF c ≤ sb) (h : PW l z d k mc ms post (pc + 3) L (.ref a :: S) (nwG g c 0) (nwF f a) (cb - 1) (sb - nF c)) : PW l z d k mc ms post pc L S g f cb sb := by
  subst ha; exact r_new hd hc11 hw h1 h2 h
theorem r_newav {c n a : Nat} {at_ : ArrayType} (hd : decode k.2.1 pc = .ok (.newarray at_, 2)) (ha : gnx g = a) (hcc : c = 11 ∧ at_ = .int ∨ c = 12 ∧ at_ = .long ∨ c = 13 ∧ at_ = .boolean ∨ c = 14 ∧ at_ = .byte) (hw : Cond.arrayClass (newarray.typeOf at_) ∈ tblG) (hn : n ≤ 1000000) (h1 : 1 ≤ cb) (h2 : n ≤ sb) (h : PW l z d k mc ms post (pc + 2) L (.ref a :: S) (nwG g c n) (nwF f a) (cb - 1) (sb - n)) : PW l z d k mc ms post pc L (.int (iI (n : Int)) :: S) g f cb sb := by
  subst ha; exact r_newa hd hcc hw hn h1 h2 h
theorem r_anewv {i c n a : Nat} (hd : decode k.2.1 pc = .ok (.anewarray i, 3)) (ha : gnx g = a) (hcc : c = 15 ∧ Cond.classLink k.1.cls i "ThirteenthLoaf$Law" ∈ tblG ∨ c = 16 ∧ Cond.classLink k.1.cls i "ThirteenthLoaf$Bakery" ∈ tblG) (hn : n ≤ 1000000) (h1 : 1 ≤ cb) (h2 : n ≤ sb) (h : PW l z d k mc ms post (pc + 3) L (.ref a :: S) (nwG g c n) (nwF f a) (cb - 1) (sb - n)) : PW l z d k mc ms post pc L (.int (iI (n : Int)) :: S) g f cb sb := by
  subst ha
  intro p e s m args below meth c0 H locs cells slots ls B hz hl hH hS hc hs
  have hSt := B.2.2.2.2.2.2.2.2
  have K := hSt.K
  have hts := B.2.2.2.2.1
  have hcl : (iI (n : Int)).toNatClampNeg = n := by rw [iI_cl (by omega)]; rfl
  have key : ∀ C : String, (∃ t0 : Nat, (ztys z)[t0]? = some (z.2.1 c, .object C)) → Cond.classLink k.1.cls i C ∈ tblG → va_AO C s → (c = 15 ∨ c = 16) → W p l e (zR d mc ms) s m args below meth c0 H locs cells slots (MQ below (zQc z post) args s mc ms (zA z)) (F0 m pc ls ((Value.int (iI (n : Int)) :: S).map (zsh z))) := by
    intro C ⟨t0, ht0⟩ hlk hAO hk
    refine W.anew B.1 B.2.1 B.2.2.2.1 (hts _ hlk) (va_AO.use hAO) rfl hd rfl (iI_nn (by omega)) (by rw [hcl]; omega) (by show cells + 1 ≤ mc; omega) (by rw [hcl]; show slots + n ≤ ms; omega) fun cA kA comp f1 f2 f3 f4 => ?_
    rw [hcl]
    obtain ⟨kB, cmB, g1, g2, g3, g4⟩ := (K.2 t0 _ ht0).2
    have hcA : cA = z.2.1 c := Option.some.inj (f1.symm.trans g4)
    subst hcA
    generalize hH1 : H.push ({ cls := z.2.1 c, slots := Array.replicate n .null, vm := .none } : Cell) = H1
    have z1 : H1.size = H.size + 1 := by rw [← hH1, Array.size_push]
    have e1 : H1[H.size]? = some (arrV (z.2.1 c) n (fun _ => .null)) := by rw [← hH1, Array.getElem?_push_size, ← arrV_new]
    have o1 : ∀ q : Nat, q < H.size → H1[q]? = H[q]? := fun q hq => by rw [← hH1, Array.getElem?_push, if_neg (Nat.ne_of_lt hq)]
    have hkd : gkd (nwG g c n) (gnx g) = c := by simp [gkd, nwG, gnx]
    have hln : gln (nwG g c n) (gnx g) = n := by simp [gln, nwG, gnx]
    have hH2 : zH z (nwG g c n) (nwF f (gnx g)) H1 := by
      refine zH_push hH rfl ?_ z1 o1 zpic_nw
      rw [zH_top hH] at e1
      rw [zpic_q hkd hln hk]
      show H1[zad z (gnx g)]? = some (vp_cell _ _)
      rw [e1, vp_cell_q]; congr 2; funext i; simp [grm, nwG, gnx, va_rf]
    have hSS : va_S (zA z) s.heap H1 locs := ⟨Nat.le_trans hS.1 (by omega), fun x h1 h2 => (o1 x (Nat.lt_of_lt_of_le h1 hS.1)).trans (hS.2.1 x h1 h2), hS.2.2⟩
    have h9 := h p e s m args below meth c0 H1 locs (cells + 1) (slots + n) ls B hz hl hH2 hSS (by omega) (by omega)
    rw [zH_top hH]
    exact h9
  rcases hcc with ⟨rfl, hlk⟩ | ⟨rfl, hlk⟩
  · exact key _ ⟨4, rfl⟩ hlk hSt.2.2.1 (Or.inl rfl)
  · exact key _ ⟨5, rfl⟩ hlk hSt.2.2.2.1 (Or.inr rfl)
theorem r_bastv {a n i : Nat} {x v : Int} (hd : decode k.2.1 pc = .ok (.bastore, 1)) (hA : isA g a 14 n) (hx : 0 ≤ x ∧ x < n) (hn : n ≤ 2147483647) (hi : x.toNat = i) (hv : narrow .byte (.int (iI v)) = .int (iI v)) (h : PW l z d k mc ms post (pc + 1) L S g (stF f a i v) cb sb) : PW l z d k mc ms post pc L (.int (iI v) :: .int (iI x) :: .ref a :: S) g f cb sb := by
  subst hi; exact r_bast hd hA hx hn hv h
end INITR

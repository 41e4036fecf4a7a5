theorem tyT_k : ∀ c, c < 11 → ∀ i, i < nF c → (tyT c i = .int ∧ isR c i = false) ∨ (tyT c i = .boolean ∧ isR c i = false) ∨ ((∃ n, tyT c i = .object n) ∧ isR c i = true) ∨ ((∃ t, tyT c i = .array t) ∧ isR c i = true) := by
  intro c hc i hi
  have h : ∀ c, c < 11 → ∀ i, i < nF c → (tyT c i == .int || tyT c i == .boolean || isR c i) = true := by decide +kernel
  have h2 := h c hc i hi
  cases e : tyT c i with
  | int => left; exact ⟨rfl, by simp [isR, e]⟩
  | boolean => right; left; exact ⟨rfl, by simp [isR, e]⟩
  | object n => right; right; left; exact ⟨⟨n, rfl⟩, by simp [isR, e]⟩
  | array t => right; right; right; exact ⟨⟨t, rfl⟩, by simp [isR, e]⟩
  | _ => rw [e] at h2; simp [isR, e] at h2
section CALLS
variable {l : Launch} {z : Zv} {d : Nat} {k : PMd} {mc ms : Nat} {post : Po} {pc : Nat} {L : List (Nat × Value)} {S : List Value} {g : Gm} {f : Fm} {cb sb : Nat}
theorem zput_at {s : State} {args : Array Value} {H1 : Heap} {a c j : Nat} {g' : Gm} {f' : Fm} {v : Value} {cell : Cell} (hts : ∀ w ∈ tblG, w.before args s = true) (K : va_K z.1 vwCl (ztys z) s) (h1 : c < 11) (h2 : j < nF c) (hkd : gkd g' a = c)
    (hv : ∀ i, i < nF c → zfv z g' f' a c i = if i = j then v else zfv z g f a c i) (q2 : cell.cls = z.1.1 c) (q3 : cell.vm = .none) (q4 : ∀ i, i < nF c → cell.slots[z.1.2 c i]? = some (vp_V ((List.range (nF c)).map (zfv z g f a c)) i)) (e1 : H1[zad z a]? = some (cell.setSlot (z.1.2 c j) v)) :
    va_at z.1 vwCl (zad z a, zpic z g' f' a) H1 := by
  rw [zpic_obj hkd h1]
  have hap := va_apart (own := RR c) hts (uin c h1) (tyT c) (tyT_ok c h1) (nmT c h1) K (vwCl_at c h1)
  refine ⟨_, vwCl_at c h1, ⟨_, e1, q2, q3, fun i hi => ?_⟩⟩
  have h5 := t_set q4 hap h2 v i hi
  show (cell.setSlot (z.1.2 c j) v).slots[z.1.2 c i]? = some _
  rw [h5]
  congr 1
  simp only [vp_V, List.getD_eq_getElem?_getD, updV]
  rw [zfs_at hi, zfs_at hi]
  simp only [Option.getD_some]
  rw [hv i hi]
theorem r_put0 {i a c j : Nat} {v : Value} {g' : Gm} {f' : Fm} (hd : decode k.2.1 pc = .ok (.putfield i, 3)) (hF : FL k.1.cls i c j) (hfin : (TT c j).2.2.2 = false) (hn : narrow (tyT c j) (zsh z v) = zsh z v) (hfit : fits (tyT c j) (zsh z v) = true) (hK : isK g a c) (hnx : gnx g' = gnx g) (hkd : gkd g' a = c)
    (hv : ∀ i, i < nF c → zfv z g' f' a c i = if i = j then zsh z v else zfv z g f a c i) (ho : ∀ b, b ≠ a → zpic z g' f' b = zpic z g f b) (h : PW l z d k mc ms post (pc + 3) L S g' f' cb sb) : PW l z d k mc ms post pc L (v :: .ref a :: S) g f cb sb := by
  intro p e s m args below meth c0 H locs cells slots ls B hz hl hH hS hc hs
  obtain ⟨h1, h2, h3⟩ := hF
  obtain ⟨k1, k2, k3⟩ := hK
  have K := B.2.2.2.2.2.2.2.2.K
  have hts := B.2.2.2.2.1
  obtain ⟨r, hr, cell, q1, q2, q3, q4⟩ := zH_cell hH k2 k3 (zpic_obj (f := f) k1 h1)
  cases hr.symm.trans (vwCl_at c h1)
  obtain ⟨hSl, hfc, kC, hkC, hkind⟩ := K.1 c _ (vwCl_at c h1)
  obtain ⟨cf, kf, fi, fd, hi, hsl⟩ := hSl j h2
  have hlay := hts _ (uin c h1 _ (u_in_lay h2))
  unfold u_lay at hlay
  rw [if_neg (by rw [hfin]; decide)] at hlay
  have hst := (u_facts hfc hkC (u_lays hts (uin c h1) h2) hi).1
  have h6 := u_store hfc hkC hkind hlay hi (tyT_ok c h1 j h2) hn hfit
  refine W.putK B.1 B.2.1 (f := fd) ⟨B.2.2.2.1, hts _ h3, ⟨_, _, _, hi⟩, hst⟩ (by rw [q2]; exact h6) q1 q3 (by rw [hsl]; exact k2_hasslot (q4 j h2)) rfl rfl hd fun H1 e1 z1 oq => ?_
  rw [hsl] at e1
  have hH1 : zH z g' f' H1 := zH_store hH k2 k3 hnx (zput_at hts K h1 h2 hkd hv q2 q3 q4 e1) z1 oq ho
  exact h p e s m args below meth c0 H1 _ cells slots ls B hz hl hH1 (hS.put z1 oq (zad_A k2)) hc hs
theorem r_put0F {i a c j : Nat} {v : Value} {g' : Gm} {f' : Fm} (hd : decode k.2.1 pc = .ok (.putfield i, 3)) (hF : FL k.1.cls i c j) (hfin : (TT c j).2.2.2 = true) (hini : k.1.name = "<init>") (hdecl : (TT c j).1 = k.1.cls) (hn : narrow (tyT c j) (zsh z v) = zsh z v) (hfit : fits (tyT c j) (zsh z v) = true) (hK : isK g a c) (hnx : gnx g' = gnx g) (hkd : gkd g' a = c)
    (hv : ∀ i, i < nF c → zfv z g' f' a c i = if i = j then zsh z v else zfv z g f a c i) (ho : ∀ b, b ≠ a → zpic z g' f' b = zpic z g f b) (h : PW l z d k mc ms post (pc + 3) L S g' f' cb sb) : PW l z d k mc ms post pc L (v :: .ref a :: S) g f cb sb := by
  intro p e s m args below meth c0 H locs cells slots ls B hz hl hH hS hc hs
  obtain ⟨h1, h2, h3⟩ := hF
  obtain ⟨k1, k2, k3⟩ := hK
  have K := B.2.2.2.2.2.2.2.2.K
  have hts := B.2.2.2.2.1
  obtain ⟨r, hr, cell, q1, q2, q3, q4⟩ := zH_cell hH k2 k3 (zpic_obj (f := f) k1 h1)
  cases hr.symm.trans (vwCl_at c h1)
  obtain ⟨hSl, hfc, kC, hkC, hkind⟩ := K.1 c _ (vwCl_at c h1)
  obtain ⟨cf, kf, fi, fd, hi, hsl⟩ := hSl j h2
  have hlay := hts _ (uin c h1 _ (u_in_lay h2))
  unfold u_lay at hlay
  rw [if_pos hfin] at hlay
  have hst := (u_facts hfc hkC (u_lays hts (uin c h1) h2) hi).1
  have hcf : m.cls = cf := by
    obtain ⟨_, _, c', _, _, _, -, -, hf', -, -, -, hown2, -⟩ := Cond.laysFinal_spec hlay
    have e1 : c' = cf := by have := hi.symm.trans hf'; simp at this; exact this.1.symm
    rw [hdecl] at hown2
    rw [← e1]; exact Option.some.inj (B.2.2.2.1.symm.trans hown2)
  have h6 := u_fits hfc hkC hkind (Or.inr hlay) hi (tyT_ok c h1 j h2) hn hfit
  refine W.putFinK B.1 B.2.1 B.2.2.2.1 (hts _ h3) hi hst hcf (B.2.2.2.2.2.2.2.1.trans hini) (by rw [q2]; exact h6) q1 q3 (by rw [hsl]; exact k2_hasslot (q4 j h2)) rfl rfl hd fun H1 e1 z1 oq => ?_
  rw [hsl] at e1
  have hH1 : zH z g' f' H1 := zH_store hH k2 k3 hnx (zput_at hts K h1 h2 hkd hv q2 q3 q4 e1) z1 oq ho
  exact h p e s m args below meth c0 H1 _ cells slots ls B hz hl hH1 (hS.put z1 oq (zad_A k2)) hc hs
theorem zfv_stF {a c j : Nat} {x : Int} (hR : isR c j = false) : ∀ i, i < nF c → zfv z g (stF f a j x) a c i = if i = j then zsh z (.int (iI x)) else zfv z g f a c i := by
  intro i _
  by_cases h : i = j
  · subst h; simp [zfv, hR, stF, zsh]
  · simp [zfv, stF, h]
theorem zfv_stR {a c j b : Nat} (hR : isR c j = true) : ∀ i, i < nF c → zfv z (stR g a j (some b)) f a c i = if i = j then zsh z (.ref b) else zfv z g f a c i := by
  intro i _
  by_cases h : i = j
  · subst h; simp [zfv, hR, stR, zsh, grm, zor]
  · simp [zfv, stR, grm, h]
theorem r_putI {i a c j : Nat} {x : Int} (hd : decode k.2.1 pc = .ok (.putfield i, 3)) (hF : FL k.1.cls i c j) (hfin : (TT c j).2.2.2 = false) (hty : tyT c j = .int) (hK : isK g a c) (h : PW l z d k mc ms post (pc + 3) L S g (stF f a j x) cb sb) : PW l z d k mc ms post pc L (.int (iI x) :: .ref a :: S) g f cb sb :=
  r_put0 hd hF hfin (by rw [hty]; rfl) (by rw [hty]; rfl) hK rfl hK.1 (zfv_stF (by simp [isR, hty])) zpic_stF h
theorem r_putB {i a c j : Nat} {x : Int} (hd : decode k.2.1 pc = .ok (.putfield i, 3)) (hF : FL k.1.cls i c j) (hfin : (TT c j).2.2.2 = false) (hty : tyT c j = .boolean) (hx : x = 0 ∨ x = 1) (hK : isK g a c) (h : PW l z d k mc ms post (pc + 3) L S g (stF f a j x) cb sb) : PW l z d k mc ms post pc L (.int (iI x) :: .ref a :: S) g f cb sb :=
  r_put0 hd hF hfin (by rw [hty]; rcases hx with rfl | rfl <;> rfl) (by rw [hty]; rcases hx with rfl | rfl <;> rfl) hK rfl hK.1 (zfv_stF (by simp [isR, hty])) zpic_stF h
theorem r_putIF {i a c j : Nat} {x : Int} (hd : decode k.2.1 pc = .ok (.putfield i, 3)) (hF : FL k.1.cls i c j) (hfin : (TT c j).2.2.2 = true) (hini : k.1.name = "<init>") (hdecl : (TT c j).1 = k.1.cls) (hty : tyT c j = .int) (hK : isK g a c) (h : PW l z d k mc ms post (pc + 3) L S g (stF f a j x) cb sb) : PW l z d k mc ms post pc L (.int (iI x) :: .ref a :: S) g f cb sb :=
  r_put0F hd hF hfin hini hdecl (by rw [hty]; rfl) (by rw [hty]; rfl) hK rfl hK.1 (zfv_stF (by simp [isR, hty])) zpic_stF h
theorem r_putBF {i a c j : Nat} {x : Int} (hd : decode k.2.1 pc = .ok (.putfield i, 3)) (hF : FL k.1.cls i c j) (hfin : (TT c j).2.2.2 = true) (hini : k.1.name = "<init>") (hdecl : (TT c j).1 = k.1.cls) (hty : tyT c j = .boolean) (hx : x = 0 ∨ x = 1) (hK : isK g a c) (h : PW l z d k mc ms post (pc + 3) L S g (stF f a j x) cb sb) : PW l z d k mc ms post pc L (.int (iI x) :: .ref a :: S) g f cb sb :=
  r_put0F hd hF hfin hini hdecl (by rw [hty]; rcases hx with rfl | rfl <;> rfl) (by rw [hty]; rcases hx with rfl | rfl <;> rfl) hK rfl hK.1 (zfv_stF (by simp [isR, hty])) zpic_stF h
theorem r_putRF {i a c j b : Nat} (hd : decode k.2.1 pc = .ok (.putfield i, 3)) (hF : FL k.1.cls i c j) (hfin : (TT c j).2.2.2 = true) (hini : k.1.name = "<init>") (hdecl : (TT c j).1 = k.1.cls) (hR : isR c j = true) (hK : isK g a c) (h : PW l z d k mc ms post (pc + 3) L S (stR g a j (some b)) f cb sb) : PW l z d k mc ms post pc L (.ref b :: .ref a :: S) g f cb sb := by
  have ht := tyT_k c hF.1 j hF.2.1
  have h9 : narrow (tyT c j) (zsh z (.ref b)) = zsh z (.ref b) ∧ fits (tyT c j) (zsh z (.ref b)) = true := by
    rcases ht with ⟨-, h⟩ | ⟨-, h⟩ | ⟨⟨n, h⟩, -⟩ | ⟨⟨n, h⟩, -⟩
    · rw [hR] at h; cases h
    · rw [hR] at h; cases h
    · rw [h]; exact ⟨rfl, rfl⟩
    · rw [h]; exact ⟨rfl, rfl⟩
  exact r_put0F (g' := stR g a j (some b)) (f' := f) hd hF hfin hini hdecl h9.1 h9.2 hK rfl hK.1 (zfv_stR hR) zpic_stR h
/-- a new object of a class of the table -/
theorem r_new {i c : Nat} (hd : decode k.2.1 pc = .ok (.new i, 3)) (hc11 : c < 11) (hw : Cond.classLink k.1.cls i (RR c) ∈ tblG ∧ Cond.instantiable (RR c) (nF c) ∈ tblG ∧ Cond.initialized (RR c) ∈ tblG) (h1 : 1 ≤ cb) (h2 : nF c ≤ sb) (h : PW l z d k mc ms post (pc + 3) L (.ref (gnx g) :: S) (nwG g c 0) (nwF f (gnx g)) (cb - 1) (sb - nF c)) : PW l z d k mc ms post pc L S g f cb sb := by
  intro p e s m args below meth c0 H locs cells slots ls B hz hl hH hS hc hs
  have K := B.2.2.2.2.2.2.2.2.K
  have hts := B.2.2.2.2.1
  have hKn := K.1 c _ (vwCl_at c hc11)
  refine W.newcK B.1 B.2.1 B.2.2.2.1 (hts _ hw.1) (hts _ hw.2.1) (hts _ hw.2.2) rfl hd (by show cells + 1 ≤ mc; omega) (by show slots + nF c ≤ ms; omega) hKn.2.1 rfl fun H1 kC hkC e1 z1 o1 => ?_
  have hkd : gkd (nwG g c 0) (gnx g) = c := by simp [gkd, nwG, gnx]
  have hH1 : zH z (nwG g c 0) (nwF f (gnx g)) H1 := by
    refine zH_push hH rfl ?_ z1 o1 zpic_nw
    rw [zpic_obj hkd hc11]
    refine ⟨_, vwCl_at c hc11, ?_⟩
    rw [zH_top hH] at e1
    refine (u_born (tyT c) hts (uin c hc11) hKn hkC e1 (tyT_ok c hc11)).to (fun i hi => ?_)
    simp only [vp_V, List.getD_eq_getElem?_getD]
    rw [zfs_at hi]
    simp only [Option.getD_some]
    rcases tyT_k c hc11 i hi with ⟨ht, hr⟩ | ⟨ht, hr⟩ | ⟨⟨n, ht⟩, hr⟩ | ⟨⟨n, ht⟩, hr⟩ <;> rw [ht] <;> simp [zfv, hr, nwF, grm, nwG, gnx, zor] <;> rfl
  have hSS : va_S (zA z) s.heap H1 locs := ⟨Nat.le_trans hS.1 (by omega), fun x h1 h2 => (o1 x (Nat.lt_of_lt_of_le h1 hS.1)).trans (hS.2.1 x h1 h2), hS.2.2⟩
  have h9 := h p e s m args below meth c0 H1 locs (cells + 1) (slots + nF c) ls B hz hl hH1 hSS (by omega) (by omega)
  rw [zH_top hH]
  exact h9
def atk : Nat → ArrayType := fun c => match c with
  | 11 => .int
  | 12 => .long
  | 13 => .boolean
  | _ => .byte
theorem r_newa {c n : Nat} {at_ : ArrayType} (hd : decode k.2.1 pc = .ok (.newarray at_, 2)) (hcc : c = 11 ∧ at_ = .int ∨ c = 12 ∧ at_ = .long ∨ c = 13 ∧ at_ = .boolean ∨ c = 14 ∧ at_ = .byte) (hw : Cond.arrayClass (newarray.typeOf at_) ∈ tblG) (hn : n ≤ 1000000) (h1 : 1 ≤ cb) (h2 : n ≤ sb) (h : PW l z d k mc ms post (pc + 2) L (.ref (gnx g) :: S) (nwG g c n) (nwF f (gnx g)) (cb - 1) (sb - n)) : PW l z d k mc ms post pc L (.int (iI (n : Int)) :: S) g f cb sb := by
  intro p e s m args below meth c0 H locs cells slots ls B hz hl hH hS hc hs
  have K := B.2.2.2.2.2.2.2.2.K
  have hts := B.2.2.2.2.1
  have hcl : (iI (n : Int)).toNatClampNeg = n := by rw [iI_cl (by omega)]; rfl
  have hneg : ¬ iI (n : Int) < 0 := by
    have h0 : (0 : Int32) = iI 0 := rfl
    rw [h0, iI_lt (by omega) (by omega)]; omega
  refine va_newaK B.1 B.2.1 (hts _ hw) rfl hd rfl hneg hcl (by rcases hcc with ⟨_, rfl⟩ | ⟨_, rfl⟩ | ⟨_, rfl⟩ | ⟨_, rfl⟩ <;> simp only [newarray.typeOf, componentBytes] <;> omega) (by show cells + 1 ≤ mc; omega) (by show slots + n ≤ ms; omega) rfl fun H1 cA e1 z1 o1 hAr hnm => ?_
  have hkd : gkd (nwG g c n) (gnx g) = c := by simp [gkd, nwG, gnx]
  have hln : gln (nwG g c n) (gnx g) = n := by simp [gln, nwG, gnx]
  have hcA : cA = z.2.1 c := by
    rcases hcc with ⟨rfl, rfl⟩ | ⟨rfl, rfl⟩ | ⟨rfl, rfl⟩ | ⟨rfl, rfl⟩
    · exact Option.some.inj (hnm.symm.trans (K.2 0 _ rfl).2)
    · exact Option.some.inj (hnm.symm.trans (K.2 1 _ rfl).2)
    · exact Option.some.inj (hnm.symm.trans (K.2 2 _ rfl).2)
    · exact Option.some.inj (hnm.symm.trans (K.2 3 _ rfl).2)
  subst hcA
  have hH1 : zH z (nwG g c n) (nwF f (gnx g)) H1 := by
    refine zH_push hH rfl ?_ z1 o1 zpic_nw
    rw [zH_top hH] at e1
    rcases hcc with ⟨rfl, rfl⟩ | ⟨rfl, rfl⟩ | ⟨rfl, rfl⟩ | ⟨rfl, rfl⟩
    · rw [zpic_i hkd hln (Or.inl rfl)]
      show H1[zad z (gnx g)]? = some (vp_cell _ _)
      rw [e1, vp_cell_i]; congr 2; funext i; simp [nwF]; rfl
    · rw [zpic_l hkd hln]
      show H1[zad z (gnx g)]? = some (vp_cell _ _)
      rw [e1, vp_cell_l]; congr 2; funext i; simp [glm, nwG, gnx]; rfl
    · rw [zpic_i hkd hln (Or.inr (Or.inl rfl))]
      show H1[zad z (gnx g)]? = some (vp_cell _ _)
      rw [e1, vp_cell_i]; congr 2; funext i; simp [nwF]; rfl
    · rw [zpic_i hkd hln (Or.inr (Or.inr rfl))]
      show H1[zad z (gnx g)]? = some (vp_cell _ _)
      rw [e1, vp_cell_i]; congr 2; funext i; simp [nwF]; rfl
  have hSS : va_S (zA z) s.heap H1 locs := ⟨Nat.le_trans hS.1 (by omega), fun x h1 h2 => (o1 x (Nat.lt_of_lt_of_le h1 hS.1)).trans (hS.2.1 x h1 h2), hS.2.2⟩
  have h9 := h p e s m args below meth c0 H1 locs (cells + 1) (slots + n) ls B hz hl hH1 hSS (by omega) (by omega)
  rw [zH_top hH]
  exact h9
end CALLS

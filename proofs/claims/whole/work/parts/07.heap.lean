def isK (g : Gm) (a c : Nat) : Prop := gkd g a = c ∧ 64 ≤ a ∧ a < gnx g
def isA (g : Gm) (a c n : Nat) : Prop := gkd g a = c ∧ 64 ≤ a ∧ a < gnx g ∧ gln g a = n
def FL (own : String) (i c j : Nat) : Prop := c < 11 ∧ j < nF c ∧ Cond.fieldLink own i (TT c j).1 (TT c j).2.1 (TT c j).2.2.1 ∈ tblG
def stF (f : Fm) (a j : Nat) (x : Int) : Fm := fun b i => if b = a ∧ i = j then x else f b i
def stR (g : Gm) (a j : Nat) (x : Option Nat) : Gm := (g.1, g.2.1, g.2.2.1, g.2.2.2.1, fun b i => if b = a ∧ i = j then x else g.2.2.2.2 b i)
def stJ (g : Gm) (a j : Nat) (x : Int) : Gm := (g.1, g.2.1, g.2.2.1, fun b i => if b = a ∧ i = j then x else g.2.2.2.1 b i, g.2.2.2.2)
/-- a new cell of kind c, length n, all of it 0 or none -/
def nwG (g : Gm) (c n : Nat) : Gm := (g.1 + 1, fun b => if b = g.1 then c else g.2.1 b, fun b => if b = g.1 then n else g.2.2.1 b, fun b i => if b = g.1 then 0 else g.2.2.2.1 b i, fun b i => if b = g.1 then none else g.2.2.2.2 b i)
def nwF (f : Fm) (a : Nat) : Fm := fun b i => if b = a then 0 else f b i
theorem zpic_obj {z : Zv} {g : Gm} {f : Fm} {a c : Nat} (hc : gkd g a = c) (h : c < 11) : zpic z g f a = .inr (c, (List.range (nF c)).map (zfv z g f a c)) := by
  subst hc; simp [zpic, h]
theorem zpic_i {z : Zv} {g : Gm} {f : Fm} {a c n : Nat} (hc : gkd g a = c) (hn : gln g a = n) (h : c = 11 ∨ c = 13 ∨ c = 14) : zpic z g f a = .inl (z.2.1 c, n, .inl (fun i => iI (f a i))) := by
  subst hc; subst hn
  rcases h with h | h | h <;> simp [zpic, zcon, h]
theorem zpic_l {z : Zv} {g : Gm} {f : Fm} {a n : Nat} (hc : gkd g a = 12) (hn : gln g a = n) : zpic z g f a = .inl (z.2.1 12, n, .inr (.inl (fun i => lI (glm g a i)))) := by
  subst hn; simp [zpic, zcon, hc]
theorem zpic_q {z : Zv} {g : Gm} {f : Fm} {a c n : Nat} (hc : gkd g a = c) (hn : gln g a = n) (h : c = 15 ∨ c = 16) : zpic z g f a = .inl (z.2.1 c, n, .inr (.inr (.inr (.inr (fun i => (grm g a i).map (zad z)))))) := by
  subst hc; subst hn
  rcases h with h | h <;> simp [zpic, zcon, h]
theorem zH_cell {z : Zv} {g : Gm} {f : Fm} {H : Heap} {a : Nat} {e : va_E} (h : zH z g f H) (ha : 64 ≤ a) (hb : a < gnx g) (he : zpic z g f a = e) : va_at z.1 vwCl (zad z a, e) H := by
  subst he; exact h.in_ (a - 64) _ (zws_at ha hb)
theorem zH_store {z : Zv} {g g' : Gm} {f f' : Fm} {H H1 : Heap} {a : Nat} (h : zH z g f H) (ha : 64 ≤ a) (hb : a < gnx g) (hn : gnx g' = gnx g) (hc : va_at z.1 vwCl (zad z a, zpic z g' f' a) H1) (z1 : H1.size = H.size) (oq : ∀ q : Nat, q ≠ zad z a → H1[q]? = H[q]?) (ho : ∀ b, b ≠ a → zpic z g' f' b = zpic z g f b) : zH z g' f' H1 := by
  refine ⟨by rw [z1, h.1, hn], by rw [hn]; exact h.2.1, ?_⟩
  rw [← zws_set (z := z) (g := g) (f := f) ha hb hn rfl ho]
  exact h.in_.set zws_D (zws_at ha hb) hc oq
theorem zH_push {z : Zv} {g g' : Gm} {f f' : Fm} {H H1 : Heap} (h : zH z g f H) (hn : gnx g' = gnx g + 1) (hc : va_at z.1 vwCl (zad z (gnx g), zpic z g' f' (gnx g)) H1) (z1 : H1.size = H.size + 1) (oq : ∀ q : Nat, q < H.size → H1[q]? = H[q]?) (ho : ∀ b, b < gnx g → zpic z g' f' b = zpic z g f b) : zH z g' f' H1 := by
  have h64 := h.2.1
  refine ⟨by rw [z1, h.1, hn]; omega, by rw [hn]; omega, ?_⟩
  rw [← zws_app (z := z) (g := g) (f := f) h.2.1 hn rfl ho]
  refine (h.in_.kept (fun k x hx => oq x.1 ((h.in_ k x hx).lt))).app (fun k x hx => ?_)
  have hz : k < 1 := (List.getElem?_eq_some_iff.mp hx).1
  rw [show k = 0 by omega] at hx
  cases hx
  exact hc
theorem zH_top {z : Zv} {g : Gm} {f : Fm} {H : Heap} (h : zH z g f H) : H.size = zad z (gnx g) := by
  rw [h.1]; simp [zad, Nat.not_lt.mpr h.2.1]
theorem zfv_i {z : Zv} {g : Gm} {f : Fm} {a c j : Nat} (h : isR c j = false) : zfv z g f a c j = .int (iI (f a j)) := by simp [zfv, h]
theorem zfv_r {z : Zv} {g : Gm} {f : Fm} {a c j : Nat} (h : isR c j = true) : zfv z g f a c j = zor z (grm g a j) := by simp [zfv, h]
theorem zfs_at {z : Zv} {g : Gm} {f : Fm} {a c j : Nat} (hj : j < nF c) : ((List.range (nF c)).map (zfv z g f a c))[j]? = some (zfv z g f a c j) := by
  simp [List.getElem?_range hj]
theorem zpic_stF {z : Zv} {g : Gm} {f : Fm} {a j : Nat} {x : Int} : ∀ b, b ≠ a → zpic z g (stF f a j x) b = zpic z g f b := by
  intro b hb
  have h1 : ∀ i, stF f a j x b i = f b i := fun i => by simp [stF, hb]
  have h2 : ∀ c, zfv z g (stF f a j x) b c = zfv z g f b c := fun c => by funext i; simp [zfv, h1]
  have h3 : zcon z g (stF f a j x) b = zcon z g f b := by simp [zcon, h1]
  simp [zpic, h2, h3]
theorem zpic_stR {z : Zv} {g : Gm} {f : Fm} {a j : Nat} {x : Option Nat} : ∀ b, b ≠ a → zpic z (stR g a j x) f b = zpic z g f b := by
  intro b hb
  have h0 : gkd (stR g a j x) = gkd g := rfl
  have h1 : ∀ i, grm (stR g a j x) b i = grm g b i := fun i => by simp [grm, stR, hb]
  have h2 : ∀ c, zfv z (stR g a j x) f b c = zfv z g f b c := fun c => by funext i; simp [zfv, h1]
  have h3 : zcon z (stR g a j x) f b = zcon z g f b := by simp only [zcon, h1, h0]; rfl
  have h4 : gln (stR g a j x) = gln g := rfl
  simp only [zpic, h0, h2, h3, h4]
theorem zpic_stJ {z : Zv} {g : Gm} {f : Fm} {a j : Nat} {x : Int} : ∀ b, b ≠ a → zpic z (stJ g a j x) f b = zpic z g f b := by
  intro b hb
  have h0 : gkd (stJ g a j x) = gkd g := rfl
  have h1 : ∀ i, glm (stJ g a j x) b i = glm g b i := fun i => by simp [glm, stJ, hb]
  have h2 : ∀ c, zfv z (stJ g a j x) f b c = zfv z g f b c := fun c => rfl
  have h3 : zcon z (stJ g a j x) f b = zcon z g f b := by simp only [zcon, h1, h0]; rfl
  have h4 : gln (stJ g a j x) = gln g := rfl
  simp only [zpic, h0, h2, h3, h4]
theorem zpic_nw {z : Zv} {g : Gm} {f : Fm} {c n : Nat} : ∀ b, b < gnx g → zpic z (nwG g c n) (nwF f (gnx g)) b = zpic z g f b := by
  intro b hb
  have hne : ¬ b = g.1 := Nat.ne_of_lt hb
  have h0 : gkd (nwG g c n) b = gkd g b := by simp [gkd, nwG, hne]
  have h1 : ∀ i, grm (nwG g c n) b i = grm g b i := fun i => by simp [grm, nwG, hne]
  have h5 : ∀ i, glm (nwG g c n) b i = glm g b i := fun i => by simp [glm, nwG, hne]
  have h6 : ∀ i, nwF f (gnx g) b i = f b i := fun i => by simp [nwF, gnx, hne]
  have h2 : ∀ c', zfv z (nwG g c n) (nwF f (gnx g)) b c' = zfv z g f b c' := fun c' => by funext i; simp [zfv, h1, h6]
  have h3 : zcon z (nwG g c n) (nwF f (gnx g)) b = zcon z g f b := by simp only [zcon, h1, h0, h5, h6]
  have h4 : gln (nwG g c n) b = gln g b := by simp [gln, nwG, hne]
  simp only [zpic, h0, h2, h3, h4]
theorem sct_len : ∀ a : Nat, a < 4 → (sct a).length ≤ 8 := by decide
theorem St.K {z : Zv} {s : State} (h : St z s) : va_K z.1 vwCl (ztys z) s := h.1
section HEAP
variable {l : Launch} {z : Zv} {d : Nat} {k : PMd} {mc ms : Nat} {post : Po} {pc : Nat} {L : List (Nat × Value)} {S : List Value} {g : Gm} {f : Fm} {cb sb : Nat}
theorem r_getI {i a c j : Nat} (hd : decode k.2.1 pc = .ok (.getfield i, 3)) (hF : FL k.1.cls i c j) (hR : isR c j = false) (hK : isK g a c) (h : PW l z d k mc ms post (pc + 3) L (.int (iI (f a j)) :: S) g f cb sb) : PW l z d k mc ms post pc L (.ref a :: S) g f cb sb := by
  intro p e s m args below meth c0 H locs cells slots ls B hz hl hH hS hc hs
  obtain ⟨h1, h2, h3⟩ := hF
  obtain ⟨k1, k2, k3⟩ := hK
  refine va_get (T := TT c) (N := nF c) (ci := c) B.1 B.2.1 B.2.2.2.2.1 (uin c h1) B.2.2.2.1 B.2.2.2.2.2.2.2.2.K hH.in_ (a - 64) (by rw [zws_at k2 k3, zpic_obj k1 h1]) (vwCl_at c h1) j h2 (B.2.2.2.2.1 _ h3) (fun _ h => h) (zfs_at h2) hd ?_
  rw [zfv_i hR]
  exact h p e s m args below meth c0 H locs cells slots ls B hz hl hH hS hc hs
theorem r_getR {i a c j b : Nat} (hd : decode k.2.1 pc = .ok (.getfield i, 3)) (hF : FL k.1.cls i c j) (hR : isR c j = true) (hK : isK g a c) (hb : grm g a j = some b) (h : PW l z d k mc ms post (pc + 3) L (.ref b :: S) g f cb sb) : PW l z d k mc ms post pc L (.ref a :: S) g f cb sb := by
  intro p e s m args below meth c0 H locs cells slots ls B hz hl hH hS hc hs
  obtain ⟨h1, h2, h3⟩ := hF
  obtain ⟨k1, k2, k3⟩ := hK
  refine va_get (T := TT c) (N := nF c) (ci := c) B.1 B.2.1 B.2.2.2.2.1 (uin c h1) B.2.2.2.1 B.2.2.2.2.2.2.2.2.K hH.in_ (a - 64) (by rw [zws_at k2 k3, zpic_obj k1 h1]) (vwCl_at c h1) j h2 (B.2.2.2.2.1 _ h3) (fun _ h => h) (zfs_at h2) hd ?_
  rw [zfv_r hR, hb]
  exact h p e s m args below meth c0 H locs cells slots ls B hz hl hH hS hc hs
theorem r_iald {a n : Nat} {x : Int} (hd : decode k.2.1 pc = .ok (.iaload, 1)) (hA : isA g a 11 n) (hx : 0 ≤ x ∧ x < n) (hn : n ≤ 2147483647) (h : PW l z d k mc ms post (pc + 1) L (.int (iI (f a x.toNat)) :: S) g f cb sb) : PW l z d k mc ms post pc L (.int (iI x) :: .ref a :: S) g f cb sb := by
  intro p e s m args below meth c0 H locs cells slots ls B hz hl hH hS hc hs
  obtain ⟨k1, k2, k3, k4⟩ := hA
  refine va_iald B.1 B.2.1 B.2.2.2.2.2.2.2.2.K hH.in_ (a - 64) 0 (by rw [zws_at k2 k3, zpic_i k1 k4 (Or.inl rfl)]) rfl (iI_in hx hn) hd ?_
  rw [iI_cl (by omega)]
  exact h p e s m args below meth c0 H locs cells slots ls B hz hl hH hS hc hs
theorem r_zald {a n : Nat} {x : Int} (hd : decode k.2.1 pc = .ok (.baload, 1)) (hA : isA g a 13 n) (hx : 0 ≤ x ∧ x < n) (hn : n ≤ 2147483647) (h : PW l z d k mc ms post (pc + 1) L (.int (iI (f a x.toNat)) :: S) g f cb sb) : PW l z d k mc ms post pc L (.int (iI x) :: .ref a :: S) g f cb sb := by
  intro p e s m args below meth c0 H locs cells slots ls B hz hl hH hS hc hs
  obtain ⟨k1, k2, k3, k4⟩ := hA
  refine va_zald B.1 B.2.1 B.2.2.2.2.2.2.2.2.K hH.in_ (a - 64) 2 (by rw [zws_at k2 k3, zpic_i k1 k4 (Or.inr (Or.inl rfl))]) rfl (iI_in hx hn) hd ?_
  rw [iI_cl (by omega)]
  exact h p e s m args below meth c0 H locs cells slots ls B hz hl hH hS hc hs
theorem r_bald {a n : Nat} {x : Int} (hd : decode k.2.1 pc = .ok (.baload, 1)) (hA : isA g a 14 n) (hx : 0 ≤ x ∧ x < n) (hn : n ≤ 2147483647) (h : PW l z d k mc ms post (pc + 1) L (.int (iI (f a x.toNat)) :: S) g f cb sb) : PW l z d k mc ms post pc L (.int (iI x) :: .ref a :: S) g f cb sb := by
  intro p e s m args below meth c0 H locs cells slots ls B hz hl hH hS hc hs
  obtain ⟨k1, k2, k3, k4⟩ := hA
  refine va_bald B.1 B.2.1 B.2.2.2.2.2.2.2.2.K hH.in_ (a - 64) 3 (by rw [zws_at k2 k3, zpic_i k1 k4 (Or.inr (Or.inr rfl))]) rfl (iI_in hx hn) hd ?_
  rw [iI_cl (by omega)]
  exact h p e s m args below meth c0 H locs cells slots ls B hz hl hH hS hc hs
theorem r_lald {a n : Nat} {x : Int} (hd : decode k.2.1 pc = .ok (.laload, 1)) (hA : isA g a 12 n) (hx : 0 ≤ x ∧ x < n) (hn : n ≤ 2147483647) (h : PW l z d k mc ms post (pc + 1) L (.long (lI (glm g a x.toNat)) :: S) g f cb sb) : PW l z d k mc ms post pc L (.int (iI x) :: .ref a :: S) g f cb sb := by
  intro p e s m args below meth c0 H locs cells slots ls B hz hl hH hS hc hs
  obtain ⟨k1, k2, k3, k4⟩ := hA
  refine va_lald B.1 B.2.1 B.2.2.2.2.2.2.2.2.K hH.in_ (a - 64) 1 (by rw [zws_at k2 k3, zpic_l k1 k4]) rfl (iI_in hx hn) hd ?_
  rw [iI_cl (by omega)]
  exact h p e s m args below meth c0 H locs cells slots ls B hz hl hH hS hc hs
theorem r_aald {a n c : Nat} {x : Int} (hd : decode k.2.1 pc = .ok (.aaload, 1)) (hA : isA g a c n) (hcc : c = 15 ∨ c = 16) (hx : 0 ≤ x ∧ x < n) (hn : n ≤ 2147483647) (hs1 : ∀ b, grm g a x.toNat = some b → PW l z d k mc ms post (pc + 1) L (.ref b :: S) g f cb sb) (hs0 : grm g a x.toNat = none → PW l z d k mc ms post (pc + 1) L (.null :: S) g f cb sb) : PW l z d k mc ms post pc L (.int (iI x) :: .ref a :: S) g f cb sb := by
  intro p e s m args below meth c0 H locs cells slots ls B hz hl hH hS hc hs
  obtain ⟨k1, k2, k3, k4⟩ := hA
  have key : W p l e (zR d mc ms) s m args below meth c0 H locs cells slots (MQ below (zQc z post) args s mc ms (zA z)) (F0 m (pc + 1) ls (va_rf ((fun i => (grm g a i).map (zad z)) (iI x).toNatClampNeg) :: S.map (zsh z))) := by
    rw [iI_cl (by omega)]
    show W p l e (zR d mc ms) s m args below meth c0 H locs cells slots (MQ below (zQc z post) args s mc ms (zA z)) (F0 m (pc + 1) ls (va_rf ((grm g a x.toNat).map (zad z)) :: S.map (zsh z)))
    cases hq : grm g a x.toNat with
    | none => exact hs0 hq p e s m args below meth c0 H locs cells slots ls B hz hl hH hS hc hs
    | some b => exact hs1 b hq p e s m args below meth c0 H locs cells slots ls B hz hl hH hS hc hs
  rcases hcc with rfl | rfl
  · exact va_aldq B.1 B.2.1 B.2.2.2.2.2.2.2.2.K hH.in_ (a - 64) 4 (by rw [zws_at k2 k3, zpic_q k1 k4 (Or.inl rfl)]) rfl (iI_in hx hn) hd key
  · exact va_aldq B.1 B.2.1 B.2.2.2.2.2.2.2.2.K hH.in_ (a - 64) 5 (by rw [zws_at k2 k3, zpic_q k1 k4 (Or.inr rfl)]) rfl (iI_in hx hn) hd key
/-- an array of the class's statics: read -/
theorem r_ialdS {a : Nat} {x : Int} (hd : decode k.2.1 pc = .ok (.iaload, 1)) (ha : a < 4) (hx : 0 ≤ x ∧ x < ((sct a).length : Int)) (h : PW l z d k mc ms post (pc + 1) L (.int (iI ((sct a).getD x.toNat 0)) :: S) g f cb sb) : PW l z d k mc ms post pc L (.int (iI x) :: .ref a :: S) g f cb sb := by
  intro p e s m args below meth c0 H locs cells slots ls B hz hl hH hS hc hs
  have h5 := B.2.2.2.2.2.2.2.2.2.2.2.2.1 a ha
  have hl8 := sct_len a ha
  have e0 : zsh z (.ref a) = .ref (z.2.2.2 a) := by simp [zsh, zad, show a < 64 by omega]
  show W p l e (zR d mc ms) s m args below meth c0 H locs cells slots (MQ below (zQc z post) args s mc ms (zA z)) (F0 m pc ls (.int (iI x) :: zsh z (.ref a) :: S.map (zsh z)))
  rw [e0]
  refine va_ti B.1 B.2.1 h5.2 hS (iI_in hx (by omega)) (v := .int (iI ((sct a).getD x.toNat 0))) ?_ hd ?_
  · rw [iI_cl (by omega)]
  · exact h p e s m args below meth c0 H locs cells slots ls B hz hl hH hS hc hs
theorem r_alen {a n c : Nat} (hd : decode k.2.1 pc = .ok (.arraylength, 1)) (hA : isA g a c n) (hcc : c = 11 ∨ c = 13 ∨ c = 14) (h : PW l z d k mc ms post (pc + 1) L (.int (iI (n : Int)) :: S) g f cb sb) : PW l z d k mc ms post pc L (.ref a :: S) g f cb sb := by
  intro p e s m args below meth c0 H locs cells slots ls B hz hl hH hS hc hs
  obtain ⟨k1, k2, k3, k4⟩ := hA
  have h2 := h p e s m args below meth c0 H locs cells slots ls B hz hl hH hS hc hs
  have e1 : Int32.ofNat n = iI (n : Int) := (iI_nat n).symm
  rcases hcc with rfl | rfl | rfl
  · exact va_alen B.1 B.2.1 B.2.2.2.2.2.2.2.2.K hH.in_ (a - 64) 0 (by rw [zws_at k2 k3, zpic_i k1 k4 (Or.inl rfl)]) (ty := .int) rfl e1 hd h2
  · exact va_alen B.1 B.2.1 B.2.2.2.2.2.2.2.2.K hH.in_ (a - 64) 2 (by rw [zws_at k2 k3, zpic_i k1 k4 (Or.inr (Or.inl rfl))]) (ty := .boolean) rfl e1 hd h2
  · exact va_alen B.1 B.2.1 B.2.2.2.2.2.2.2.2.K hH.in_ (a - 64) 3 (by rw [zws_at k2 k3, zpic_i k1 k4 (Or.inr (Or.inr rfl))]) (ty := .byte) rfl e1 hd h2
theorem r_gets {i j : Nat} (hd : decode k.2.1 pc = .ok (.getstatic i, 3)) (hj : j < 4) (hw : Cond.fieldLink k.1.cls i "ThirteenthLoaf" (snm j) "[I" ∈ tblG) (h : PW l z d k mc ms post (pc + 3) L (.ref j :: S) g f cb sb) : PW l z d k mc ms post pc L S g f cb sb := by
  intro p e s m args below meth c0 H locs cells slots ls B hz hl hH hS hc hs
  have h5 := B.2.2.2.2.2.2.2.2.2.2.2.2.1 j hj
  have e0 : zsh z (.ref j) = .ref (z.2.2.2 j) := by simp [zsh, zad, show j < 64 by omega]
  have h2 := h p e s m args below meth c0 H locs cells slots ls B hz hl hH hS hc hs
  rw [List.map_cons, e0] at h2
  exact va_gets B.1 B.2.1 h5.1 hS B.2.2.2.1 (B.2.2.2.2.1 _ hw) (fun _ h => h) hd h2
end HEAP

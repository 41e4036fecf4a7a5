section STORES
variable {l : Launch} {z : Zv} {d : Nat} {k : PMd} {mc ms : Nat} {post : Po} {pc : Nat} {L : List (Nat × Value)} {S : List Value} {g : Gm} {f : Fm} {cb sb : Nat}
theorem stF_arr (f : Fm) (a n : Nat) (x : Int) : (fun i => iI (stF f a n x a i)) = upd (fun i => iI (f a i)) n (iI x) := by
  funext i
  by_cases h : i = n
  · subst h; simp [stF, upd]
  · simp [stF, upd, h]
theorem zst_arr {cA : ClassId} {n j : Nat} {F : Nat → Int32} {x : Int32} {H1 : Heap} {a : Nat} (e : H1[a]? = some ((arrV cA n (fun i => .int (F i))).setSlot j (.int x))) : H1[a]? = some (vp_cell cA (n, .inl (upd F j x))) := by
  rw [e, vp_cell_i, arrV_store]
  congr 2
  funext q
  by_cases hq : q = j
  · subst hq; simp [updV, upd]
  · simp [updV, upd, hq]
theorem r_iast {a n : Nat} {x v : Int} (hd : decode k.2.1 pc = .ok (.iastore, 1)) (hA : isA g a 11 n) (hx : 0 ≤ x ∧ x < n) (hn : n ≤ 2147483647) (h : PW l z d k mc ms post (pc + 1) L S g (stF f a x.toNat v) cb sb) : PW l z d k mc ms post pc L (.int (iI v) :: .int (iI x) :: .ref a :: S) g f cb sb := by
  intro p e s m args below meth c0 H locs cells slots ls B hz hl hH hS hc hs
  obtain ⟨k1, k2, k3, k4⟩ := hA
  have hcell := zH_cell hH k2 k3 (zpic_i (f := f) k1 k4 (Or.inl rfl))
  refine W.iast B.1 B.2.1 hcell ((B.2.2.2.2.2.2.2.2.K.2 0 _ rfl).1 n (fun j => .int (iI (f a j)))) (fun q => by cases q) (by show ¬ (iI x < 0 ∨ (arrV _ _ _).slots.size ≤ _); rw [arrV_size]; exact iI_in hx hn) rfl rfl hd fun H1 e1 z1 oq => ?_
  rw [iI_cl (by omega)] at e1
  have hH1 : zH z g (stF f a x.toNat v) H1 := by
    refine zH_store hH k2 k3 rfl ?_ z1 oq zpic_stF
    rw [zpic_i k1 k4 (Or.inl rfl), stF_arr]
    exact zst_arr e1
  exact h p e s m args below meth c0 H1 _ cells slots ls B hz hl hH1 (hS.put z1 oq (zad_A k2)) hc hs
theorem r_zast {a n : Nat} {x v : Int} (hd : decode k.2.1 pc = .ok (.bastore, 1)) (hA : isA g a 13 n) (hx : 0 ≤ x ∧ x < n) (hn : n ≤ 2147483647) (hv : narrow .boolean (.int (iI v)) = .int (iI v)) (h : PW l z d k mc ms post (pc + 1) L S g (stF f a x.toNat v) cb sb) : PW l z d k mc ms post pc L (.int (iI v) :: .int (iI x) :: .ref a :: S) g f cb sb := by
  intro p e s m args below meth c0 H locs cells slots ls B hz hl hH hS hc hs
  obtain ⟨k1, k2, k3, k4⟩ := hA
  have hcell := zH_cell hH k2 k3 (zpic_i (f := f) k1 k4 (Or.inr (Or.inl rfl)))
  refine W.zast B.1 B.2.1 hcell ((B.2.2.2.2.2.2.2.2.K.2 2 _ rfl).1 n (fun j => .int (iI (f a j)))) (fun q => by cases q) (by show ¬ (iI x < 0 ∨ (arrV _ _ _).slots.size ≤ _); rw [arrV_size]; exact iI_in hx hn) rfl rfl hd fun H1 e1 z1 oq => ?_
  rw [iI_cl (by omega), hv] at e1
  have hH1 : zH z g (stF f a x.toNat v) H1 := by
    refine zH_store hH k2 k3 rfl ?_ z1 oq zpic_stF
    rw [zpic_i k1 k4 (Or.inr (Or.inl rfl)), stF_arr]
    exact zst_arr e1
  exact h p e s m args below meth c0 H1 _ cells slots ls B hz hl hH1 (hS.put z1 oq (zad_A k2)) hc hs
theorem r_bast {a n : Nat} {x v : Int} (hd : decode k.2.1 pc = .ok (.bastore, 1)) (hA : isA g a 14 n) (hx : 0 ≤ x ∧ x < n) (hn : n ≤ 2147483647) (hv : narrow .byte (.int (iI v)) = .int (iI v)) (h : PW l z d k mc ms post (pc + 1) L S g (stF f a x.toNat v) cb sb) : PW l z d k mc ms post pc L (.int (iI v) :: .int (iI x) :: .ref a :: S) g f cb sb := by
  intro p e s m args below meth c0 H locs cells slots ls B hz hl hH hS hc hs
  obtain ⟨k1, k2, k3, k4⟩ := hA
  have hcell := zH_cell hH k2 k3 (zpic_i (f := f) k1 k4 (Or.inr (Or.inr rfl)))
  refine W.bast B.1 B.2.1 hcell ((B.2.2.2.2.2.2.2.2.K.2 3 _ rfl).1 n (fun j => .int (iI (f a j)))) (fun q => by cases q) (by show ¬ (iI x < 0 ∨ (arrV _ _ _).slots.size ≤ _); rw [arrV_size]; exact iI_in hx hn) rfl rfl hd fun H1 e1 z1 oq => ?_
  rw [iI_cl (by omega), hv] at e1
  have hH1 : zH z g (stF f a x.toNat v) H1 := by
    refine zH_store hH k2 k3 rfl ?_ z1 oq zpic_stF
    rw [zpic_i k1 k4 (Or.inr (Or.inr rfl)), stF_arr]
    exact zst_arr e1
  exact h p e s m args below meth c0 H1 _ cells slots ls B hz hl hH1 (hS.put z1 oq (zad_A k2)) hc hs
theorem r_last {a n : Nat} {x v : Int} (hd : decode k.2.1 pc = .ok (.lastore, 1)) (hA : isA g a 12 n) (hx : 0 ≤ x ∧ x < n) (hn : n ≤ 2147483647) (h : PW l z d k mc ms post (pc + 1) L S (stJ g a x.toNat v) f cb sb) : PW l z d k mc ms post pc L (.long (lI v) :: .int (iI x) :: .ref a :: S) g f cb sb := by
  intro p e s m args below meth c0 H locs cells slots ls B hz hl hH hS hc hs
  obtain ⟨k1, k2, k3, k4⟩ := hA
  have hcell := zH_cell hH k2 k3 (zpic_l (f := f) k1 k4)
  refine W.last B.1 B.2.1 hcell ((B.2.2.2.2.2.2.2.2.K.2 1 _ rfl).1 n (fun j => .long (lI (glm g a j)))) (fun q => by cases q) (by show ¬ (iI x < 0 ∨ (arrV _ _ _).slots.size ≤ _); rw [arrV_size]; exact iI_in hx hn) rfl rfl hd fun H1 e1 z1 oq => ?_
  rw [iI_cl (by omega)] at e1
  have hH1 : zH z (stJ g a x.toNat v) f H1 := by
    refine zH_store hH k2 k3 rfl ?_ z1 oq zpic_stJ
    rw [zpic_l (g := stJ g a x.toNat v) k1 k4]
    show H1[zad z a]? = some (vp_cell _ _)
    rw [e1, vp_cell_l, vp_cell_l, arrV_store]
    congr 2
    funext q
    by_cases hq : q = x.toNat
    · subst hq; simp [updV, glm, stJ]
    · simp [updV, glm, stJ, hq]
  exact h p e s m args below meth c0 H1 _ cells slots ls B hz hl hH1 (hS.put z1 oq (zad_A k2)) hc hs
theorem r_aast {a n c b j : Nat} {x : Int} (hd : decode k.2.1 pc = .ok (.aastore, 1)) (hA : isA g a c n) (hcc : c = 15 ∧ j = 3 ∨ c = 16 ∧ j = 1) (hx : 0 ≤ x ∧ x < n) (hn : n ≤ 2147483647) (hb : isK g b j) (h : PW l z d k mc ms post (pc + 1) L S (stR g a x.toNat (some b)) f cb sb) : PW l z d k mc ms post pc L (.ref b :: .int (iI x) :: .ref a :: S) g f cb sb := by
  intro p e s m args below meth c0 H locs cells slots ls B hz hl hH hS hc hs
  obtain ⟨k1, k2, k3, k4⟩ := hA
  obtain ⟨b1, b2, b3⟩ := hb
  have hj : j < 11 := by omega
  have hcell := zH_cell hH k2 k3 (zpic_q (f := f) k1 k4 (by omega))
  obtain ⟨r', hr', cellV, g1, g2, g3, -⟩ := zH_cell hH b2 b3 (zpic_obj (f := f) b1 hj)
  have K := B.2.2.2.2.2.2.2.2.K
  have hcls := (K.1 j _ (vwCl_at j hj)).2
  have hty : ∃ t0 : Nat, (ztys z)[t0]? = some (z.2.1 c, .object (RR j)) := by
    rcases hcc with ⟨rfl, rfl⟩ | ⟨rfl, rfl⟩
    · exact ⟨4, rfl⟩
    · exact ⟨5, rfl⟩
  obtain ⟨t0, ht0⟩ := hty
  obtain ⟨kA, comp, q1, q2, q3, -⟩ := (K.2 t0 _ ht0).2
  have hcomp : comp = z.1.1 j := Option.some.inj (q3.symm.trans hcls.1)
  subst hcomp
  obtain ⟨kC, hkC, -⟩ := hcls.2
  have hin := iI_in hx hn
  refine W.aast B.1 B.2.1 hcell (fun q h => by cases h) (fun h => by cases h) q1 q2 rfl hkC ⟨fun q => hin (Or.inl q), by show _ < (arrV _ _ _).slots.size; rw [arrV_size]; exact Nat.not_le.mp fun q => hin (Or.inr q)⟩ g1 (fun q h => by rw [g3] at h; cases h) (by rw [g2]; exact hkC) (by rw [g2]; exact va_assign hcls) rfl rfl hd fun H1 e1 z1 oq => ?_
  rw [iI_cl (by omega)] at e1
  have hH1 : zH z (stR g a x.toNat (some b)) f H1 := by
    refine zH_store hH k2 k3 rfl ?_ z1 oq zpic_stR
    rw [zpic_q (g := stR g a x.toNat (some b)) k1 k4 (by omega)]
    show H1[zad z a]? = some (vp_cell _ _)
    rw [e1, vp_cell_q, vp_cell_q, arrV_store]
    congr 2
    funext q
    by_cases hq : q = x.toNat
    · subst hq; simp [updV, grm, stR, va_rf]
    · simp [updV, grm, stR, hq]
  exact h p e s m args below meth c0 H1 _ cells slots ls B hz hl hH1 (hS.put z1 oq (zad_A k2)) hc hs
end STORES

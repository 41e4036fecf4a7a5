section STRC
variable {l : Launch} {z : Zv} {d : Nat} {k : PMd} {mc ms : Nat} {post : Po} {pc : Nat} {L : List (Nat × Value)} {S : List Value} {g : Gm} {f : Fm} {cb sb : Nat}
/-- a call of a String constant's method -/
theorem r_callT {k' : PMd} {i n0 : Nat} {As S0 : List Value} {post' : Po} (hd : decode k.2.1 pc = .ok (.invokevirtual i, 3)) (hL : CLb k.1.cls i k' As.length ∧ Cond.instanceMethod k'.1 ∈ tblG ∧ Cond.selects "java/lang/String" k'.1 k'.1 ∈ tblG) (hi : n0 < 14) (hst : As.reverse ++ .ref (4 + n0) :: S = S0) (hrs : (S.map fun v => v.category).sum ≤ 8) (hm : PM l z d k' (.ref (4 + n0) :: As) g f 0 0 post')
    (h : ∀ r g' f', post' r g' f' → PW l z (d + 1) k mc ms post (pc + 3) L (r.toList ++ S) g' f' cb sb) : PW l z (d + 1) k mc ms post pc L S0 g f cb sb := by
  subst hst
  intro p e s m args below meth c0 H locs cells slots ls B hz hl hH hS hc hs
  obtain ⟨⟨h3, h4, h5, h6, h7⟩, h8, h9⟩ := hL
  have hts := B.2.2.2.2.1
  have hSt := B.2.2.2.2.2.2.2.2
  have cw : CallW (zR (d + 1) mc ms) s args k.1.cls "java/lang/String" i k'.1 k'.2.1 k'.2.2.1 k'.2.2.2 (kws k') (zR d 0 0) 0 0 As.length :=
    ⟨callB_of As.length hts (kws_good h5) rfl rfl rfl (hts _ h4) (hts _ h3) h6 ⟨Nat.le_refl _, by show 8 + (k'.2.2.1 + 11) + 64 * (d + 1) ≤ 64 * (d + 1 + 1); omega⟩, hts _ h8, hts _ h9⟩
  have e1 : zsh z (.ref (4 + n0)) = .ref (z.2.2.2 (4 + n0)) := by simp [zsh, zad, show 4 + n0 < 64 by omega]
  have hrecv := vk_recv hSt.2.2.2.2.2.1 hi hS
  rw [map_rev]
  have hpre := z_pre hSt hH hS (.ref (4 + n0) :: As)
  rw [List.map_cons, e1] at hpre ⊢
  refine z_call (va_runV (As := As.map (zsh z)) (rest := S.map (zsh z)) ⟨B.1, B.2.1, B.2.2.1, B.2.2.2.1, hts⟩ hm cw ⟨zblind, hrecv, hpre⟩ rfl (by rw [List.length_map]) hl.1 rfl (lv_room (by rw [catsum]; exact hrs)) hd ⟨by show cells + 0 ≤ mc; omega, by show slots + 0 ≤ ms; omega⟩) hS ?_
  intro r g' f' H1 locs1 hp hH1 hS1
  rw [zlist]
  exact h r g' f' hp p e s m args below meth c0 H1 locs1 _ _ ls B hz hl hH1 hS1 (by omega) (by omega)
end STRC

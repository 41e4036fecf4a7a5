/-! THE BOND between the class (64 ..) and the model (164 ..), and what leaves it as it is. -/
theorem PM.room {l : Launch} {z : Zv} {d : Nat} {k : PMd} {av : List Value} {g : Gm} {f : Fm} {mc ms mc' ms' : Nat} {post : Po} (h : PM l z d k av g f mc ms post) (hc1 : mc ≤ mc') (hs1 : ms ≤ ms') : PM l z d k av g f mc' ms' post := by
  intro p e ha hc hk s m args below hf happ hP hK
  have happ' : (headSpec (kws k) (zR d mc ms)).appliesLoose k.1 e.platform s = true := by
    rw [Spec.appliesLoose_iff hf] at happ ⊢
    obtain ⟨a1, a2, a3, a4, a5, a6, a7, a8⟩ := happ
    refine ⟨a1, a2, a3, a4, a5, a6, ?_, a8⟩
    simp only [State.hasRoom, headSpec, zR, Bool.and_eq_true, decide_eq_true_eq] at a7 ⊢
    obtain ⟨⟨⟨⟨b1, b2⟩, b3⟩, b4⟩, b5⟩ := a7
    exact ⟨⟨⟨⟨b1, b2⟩, decide_eq_true (Nat.le_trans (Nat.add_le_add_left hc1 _) (of_decide_eq_true b3))⟩, decide_eq_true (Nat.le_trans (Nat.add_le_add_left hs1 _) (of_decide_eq_true b4))⟩, b5⟩
  obtain ⟨k2, o, h1, h2, h3, ⟨⟨r, g, f, e1, e2, e3⟩, e4⟩, L, hF, hL⟩ := h p e ha hc hk s m args below hf happ' hP hK
  exact ⟨k2, o, h1, h2, h3, ⟨⟨r, g, f, e1, e2, e3⟩, e4⟩, L, ⟨hF.1, hF.2.1, hF.2.2.mono hc1 hs1⟩, hL⟩
theorem inIt (y : Int) : ∃ x : Int, (-2147483648 ≤ x ∧ x ≤ 2147483647) ∧ some (Value.int (iI y)) = some (Value.int (iI x)) := ⟨(iI y).toInt, ⟨Int32.le_toInt _, Int32.toInt_le _⟩, by rw [iI_of]⟩
def kR (f : Fm) (k : Nat) : Nat → Int := fun i => f 167 (4888 * k + i)
def IG (g : Gm) : Prop := XL g ∧ ML g ∧ 195 ≤ gnx g ∧ TX g 78 ∧ TX g 89 ∧ TX g 99
def IB (g : Gm) (f : Fm) : Prop := KO (f 166) 9999 999999 ∧ BK g f 65 (f 166)
def II (g : Gm) (f : Fm) : Prop := ∀ k, k < 2 → f 106 k = f 168 k ∧ (f 168 k = 0 ∨ (f 168 k = 1 ∧ KO (kR f k) 9999 999999 ∧ BK g f (86 + 10 * k) (kR f k)))
def IR (f : Fm) : Prop := f 161 0 = f 165 1 ∧ f 161 1 = f 165 2 ∧ f 161 2 = f 165 3 ∧ f 161 3 = f 165 5 ∧ f 161 4 = f 165 6
def IS (f : Fm) : Prop := f 64 16 = f 164 0 ∧ f 64 15 = f 164 5
def IT (f : Fm) : Prop := f 107 4 = f 164 9 ∧ (0 ≤ f 164 9 ∧ f 164 9 ≤ 400) ∧ f 107 3 = f 164 10 ∧ SB (f 170) (f 108)
def ID (f : Fm) : Prop := f 157 3 = f 164 43 ∧ (0 ≤ f 164 43 ∧ f 164 43 ≤ 8) ∧ ∀ c : Nat, (c : Int) < f 164 43 → f 158 c = f 192 c ∧ f 159 c = f 193 c
def IW (f : Fm) : Prop := (∀ k, k < 66 → f 169 k = wdl.getD k 0) ∧ ∃ bk : Bool, f 164 20 = b01 (bk = true)
def ICn (f : Fm) (K : Nat → Int) (n : Nat) : Prop := TdK f K n ∧ SrC f 135 K n 0 ∧ SrC f 140 K n 1 ∧ SrC f 145 K n 2 ∧ PlC f K n
def IC (f : Fm) : Prop := ICn f (f 166) (f 166 77).toNat
def Inv (g : Gm) (f : Fm) : Prop := IG g ∧ IB g f ∧ II g f ∧ IR f ∧ IS f ∧ IT f ∧ ID f ∧ IW f ∧ IC f
section INV
variable {g g' : Gm} {f f' : Fm}
theorem Inv.G (h : Inv g f) : IG g := h.1
theorem Inv.B (h : Inv g f) : IB g f := h.2.1
theorem Inv.I (h : Inv g f) : II g f := h.2.2.1
theorem Inv.R (h : Inv g f) : IR f := h.2.2.2.1
theorem Inv.S (h : Inv g f) : IS f := h.2.2.2.2.1
theorem Inv.T (h : Inv g f) : IT f := h.2.2.2.2.2.1
theorem Inv.D (h : Inv g f) : ID f := h.2.2.2.2.2.2.1
theorem Inv.W (h : Inv g f) : IW f := h.2.2.2.2.2.2.2.1
theorem Inv.C (h : Inv g f) : IC f := h.2.2.2.2.2.2.2.2
theorem Inv.X (h : Inv g f) : XL g := h.1.1
theorem Inv.M (h : Inv g f) : ML g := h.1.2.1
theorem Inv.g195 (h : Inv g f) : 195 ≤ gnx g := h.1.2.2.1
theorem Inv.KO (h : Inv g f) : KO (f 166) 9999 999999 := h.B.1
theorem Inv.BK (h : Inv g f) : BK g f 65 (f 166) := h.B.2
theorem Inv.n (h : Inv g f) : f 166 77 = (((f 166 77).toNat : Nat) : Int) := by have := h.KO.n; omega
theorem Inv.n5 (h : Inv g f) : 0 ≤ f 65 5 ∧ f 65 5 ≤ 8 := by rw [h.BK.n]; exact h.KO.n
theorem IB.mv (h : IB g f) (hf : ∀ q, (65 ≤ q ∧ q ≤ 74) ∨ q = 166 ∨ 195 ≤ q → f' q = f q) : IB g f' := by
  have e : f' 166 = f 166 := hf 166 (by omega)
  refine ⟨by rw [e]; exact h.1, ?_⟩
  rw [e]
  exact h.2.mem (fun q hq => hf q (by omega))
theorem II.mv (h : II g f) (hf : ∀ q, (86 ≤ q ∧ q ≤ 106) ∨ q = 167 ∨ q = 168 ∨ 195 ≤ q → f' q = f q) : II g f' := by
  have e6 : f' 106 = f 106 := hf 106 (by omega)
  have e7 : f' 167 = f 167 := hf 167 (by omega)
  have e8 : f' 168 = f 168 := hf 168 (by omega)
  intro k hk
  have ek : kR f' k = kR f k := by unfold kR; rw [e7]
  rw [e6, e8, ek]
  refine ⟨(h k hk).1, (h k hk).2.imp id (fun q => ⟨q.1, q.2.1, q.2.2.mem (fun a ha => hf a (by omega))⟩)⟩
theorem ICn.mv {K : Nat → Int} {n : Nat} (h : ICn f K n) (hf : ∀ q, (111 ≤ q ∧ q ≤ 121) ∨ (135 ≤ q ∧ q ≤ 151) → f' q = f q) : ICn f' K n := by
  obtain ⟨h1, h2, h3, h4, h5⟩ := h
  refine ⟨h1.mv (fun q a b => hf q (by omega)), h2.mv (fun q a b => hf q (by omega)), h3.mv (fun q a b => hf q (by omega)), h4.mv (fun q a b => hf q (by omega)), ?_⟩
  have e1 : f' 150 = f 150 := hf 150 (by omega)
  have e2 : f' 151 = f 151 := hf 151 (by omega)
  unfold PlC PlK at h5 ⊢
  rw [e1, e2]; exact h5
theorem IC.mv (h : IC f) (hf : ∀ q, (111 ≤ q ∧ q ≤ 121) ∨ (135 ≤ q ∧ q ≤ 151) ∨ q = 166 → f' q = f q) : IC f' := by
  unfold IC at h ⊢
  rw [hf 166 (by omega)]
  exact h.mv (fun q hq => hf q (by omega))
theorem IR.mv (h : IR f) (h1 : f' 161 = f 161) (h2 : f' 165 = f 165) : IR f' := by unfold IR; rw [h1, h2]; exact h
theorem IS.mv (h : IS f) (h1 : f' 64 16 = f 64 16) (h2 : f' 64 15 = f 64 15) (h3 : f' 164 0 = f 164 0) (h4 : f' 164 5 = f 164 5) : IS f' := by unfold IS; rw [h1, h2, h3, h4]; exact h
theorem IT.mv (h : IT f) (h1 : f' 107 4 = f 107 4) (h2 : f' 107 3 = f 107 3) (h3 : f' 164 9 = f 164 9) (h4 : f' 164 10 = f 164 10) (h5 : f' 108 = f 108) (h6 : f' 170 = f 170) : IT f' := by unfold IT; rw [h1, h2, h3, h4, h5, h6]; exact h
theorem ID.mv (h : ID f) (h1 : f' 157 3 = f 157 3) (h2 : f' 164 43 = f 164 43) (h3 : f' 158 = f 158) (h4 : f' 159 = f 159) (h5 : f' 192 = f 192) (h6 : f' 193 = f 193) : ID f' := by unfold ID; rw [h1, h2, h3, h4, h5, h6]; exact h
theorem IW.mv (h : IW f) (h1 : f' 169 = f 169) (h2 : ∃ bk : Bool, f' 164 20 = b01 (bk = true)) : IW f' := by unfold IW; rw [h1]; exact ⟨h.1, h2⟩
theorem Inv.fr (h : Inv g f) (hf : ∀ q, (65 ≤ q ∧ q ≤ 74) ∨ (86 ≤ q ∧ q ≤ 106) ∨ (111 ≤ q ∧ q ≤ 121) ∨ (135 ≤ q ∧ q ≤ 151) ∨ (166 ≤ q ∧ q ≤ 168) ∨ 195 ≤ q → f' q = f q) (hR : IR f') (hS : IS f') (hT : IT f') (hD : ID f') (hW : IW f') : Inv g f' :=
  ⟨h.G, h.B.mv (fun q hq => hf q (by omega)), h.I.mv (fun q hq => hf q (by omega)), hR, hS, hT, hD, hW, h.C.mv (fun q hq => hf q (by omega))⟩
/-- the model's scratch -/
theorem Inv.ms (h : Inv g f) (hm : MSc f f') : Inv g f' := by
  obtain ⟨h1, h2, h3⟩ := hm
  have e : ∀ q, q ≠ 18 → q ≠ 19 → q ≠ 20 → q ≠ 22 → q ≠ 23 → f' 164 q = f 164 q := h2
  exact h.fr (fun q hq => h1 q (by omega)) (h.R.mv (h1 161 (by omega)) (h1 165 (by omega))) (h.S.mv (congrFun (h1 64 (by omega)) _) (congrFun (h1 64 (by omega)) _) (e 0 (by decide) (by decide) (by decide) (by decide) (by decide)) (e 5 (by decide) (by decide) (by decide) (by decide) (by decide))) (h.T.mv (congrFun (h1 107 (by omega)) _) (congrFun (h1 107 (by omega)) _) (e 9 (by decide) (by decide) (by decide) (by decide) (by decide)) (e 10 (by decide) (by decide) (by decide) (by decide) (by decide)) (h1 108 (by omega)) (h1 170 (by omega))) (h.D.mv (congrFun (h1 157 (by omega)) _) (e 43 (by decide) (by decide) (by decide) (by decide) (by decide)) (h1 158 (by omega)) (h1 159 (by omega)) (h1 192 (by omega)) (h1 193 (by omega))) (h.W.mv (h1 169 (by omega)) h3)
/-- what paper does to the references -/
def gP (g g' : Gm) : Prop := ∃ J, g' = gwJ g J ∨ g' = gwJ (cpR g 68 78 6) J
theorem gP.rf (g : Gm) : gP g g := ⟨glm g, Or.inl rfl⟩
theorem gP.cp (g : Gm) : gP g (cpR g 68 78 6) := ⟨glm g, Or.inr rfl⟩
theorem IG.P (h : IG g) {K : Nat → Int} (hB : BK g f 65 K) (hp : gP g g') : IG g' := by
  obtain ⟨J, rfl | rfl⟩ := hp
  · exact h
  · obtain ⟨h1, h2, h3, h4, h5, h6⟩ := h
    have e := cpR_sh g 68 78 6
    have k78 : gkd g 78 = 15 := h1.o1.a2.1
    have hx : XL (cpR g 68 78 6) := h1.to e (cpR_hr k78)
    have hm : ML (cpR g 68 78 6) := h2.to e (cpR_hr k78)
    refine ⟨hx.L, hm, h3, ?_, ?_, ?_⟩
    · intro i p hp
      have hp2 : grm (cpR g 68 78 6) 78 i = some p := hp
      have hr : grm (cpR g 68 78 6) 78 i = if i < 6 then grm g 68 i else grm g 78 i := by
        by_cases hi : i < 6
        · rw [if_pos hi]; simp [grm, cpR, hi]
        · rw [if_neg hi]; simp [grm, cpR, hi]
      rw [hr] at hp2
      by_cases hi : i < 6
      · rw [if_pos hi] at hp2
        exact ((hB.lk i p hp2).to e : isK (cpR g 68 78 6) p 3)
      · rw [if_neg hi] at hp2
        exact ((h4 i p hp2).to e : isK (cpR g 68 78 6) p 3)
    · intro i p hp
      have hp2 : grm (cpR g 68 78 6) 89 i = some p := hp
      rw [cpR_rm g (by decide)] at hp2
      exact ((h5 i p hp2).to e : isK (cpR g 68 78 6) p 3)
    · intro i p hp
      have hp2 : grm (cpR g 68 78 6) 99 i = some p := hp
      rw [cpR_rm g (by decide)] at hp2
      exact ((h6 i p hp2).to e : isK (cpR g 68 78 6) p 3)
theorem BK.P {b : Nat} {K : Nat → Int} (h : BK g f b K) (hb : b + 10 ≤ 75 ∨ 85 ≤ b) (hp : gP g g') (hf : ∀ q, (b ≤ q ∧ q < b + 10) ∨ 195 ≤ q → f' q = f q) : BK g' f' b K := by
  obtain ⟨J, rfl | rfl⟩ := hp
  · exact (h.mem (fun q hq => hf q (by omega))).L
  · have h1 : BK (cpR g (65 + 3) (75 + 3) 6) (cpB f 75 65) b K := h.cpo (by omega) (by decide)
    have h2 : BK (cpR g 68 78 6) f' b K := h1.mem (fun q hq => by
      have hq2 : (b ≤ q ∧ q < b + 10) ∨ 195 ≤ q := by omega
      rw [cpB_n (by omega)]; exact hf q hq2)
    exact h2.L
/-- the class's own scratch: days, searches, plan, paper -/
theorem Inv.cl (h : Inv g f) (hp : gP g g') (hf : ∀ q, q < 75 ∨ (84 < q ∧ q < 111) ∨ 156 < q → f' q = f q) (hc : ICn f' (f 166) (f 166 77).toNat) : Inv g' f' := by
  refine ⟨h.G.P h.BK hp, ⟨?_, ?_⟩, ?_, h.R.mv (hf _ (by omega)) (hf _ (by omega)), h.S.mv (congrFun (hf 64 (by omega)) _) (congrFun (hf 64 (by omega)) _) (congrFun (hf 164 (by omega)) _) (congrFun (hf 164 (by omega)) _), h.T.mv (congrFun (hf 107 (by omega)) _) (congrFun (hf 107 (by omega)) _) (congrFun (hf 164 (by omega)) _) (congrFun (hf 164 (by omega)) _) (hf _ (by omega)) (hf _ (by omega)), h.D.mv (congrFun (hf 157 (by omega)) _) (congrFun (hf 164 (by omega)) _) (hf _ (by omega)) (hf _ (by omega)) (hf _ (by omega)) (hf _ (by omega)), h.W.mv (hf _ (by omega)) (by rw [hf 164 (by omega)]; exact h.W.2), ?_⟩
  · rw [hf 166 (by omega)]; exact h.KO
  · rw [hf 166 (by omega)]; exact h.BK.P (by omega) hp (fun q hq => hf q (by omega))
  · intro k hk
    have ek : kR f' k = kR f k := by unfold kR; rw [hf 167 (by omega)]
    rw [hf 106 (by omega), hf 168 (by omega), ek]
    exact ⟨(h.I k hk).1, (h.I k hk).2.imp id (fun q => ⟨q.1, q.2.1, q.2.2.P (by omega) hp (fun a ha => hf a (by omega))⟩)⟩
  · unfold IC; rw [hf 166 (by omega)]; exact hc
end INV

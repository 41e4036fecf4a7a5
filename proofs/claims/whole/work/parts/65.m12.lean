theorem m_fact (l : Launch) (z : Zv) (d : Nat) {g : Gm} {f : Fm} {c w : Nat} {v : Int} (hM : ML g) (hc : c < 8) (hw : w < 5) (hv : f 166 (5 * c + w) = v) : PM l z d mX11_factOf [.ref 164, .int (iI ((c : Nat) : Int)), .int (iI ((w : Nat) : Int))] g f 0 0 (rdQ (.int (iI v)) g f) := by
  refine PM.mono (m_factOf l z d (c := (c : Int)) (w := (w : Int)) hM (by omega) (by omega)) (fun r g' f' hq => ?_)
  obtain ⟨h1, h2, h3⟩ := hq
  refine ⟨?_, h2, h3⟩
  rw [h1, show (5 * (c : Int) + (w : Int)).toNat = 5 * c + w by omega, hv]
theorem sLaw_ok {c v : Nat → Int} {en : Nat → Bool} {m j lv : Nat} {acc cls : List Cl} (h : sLaw c v en m j lv acc = .ok cls) : ∃ cl j1 l1, sCl c v j lv = .ok (cl, j1, l1) ∧ ((en j1 = true ∧ cls = acc ++ [cl]) ∨ (¬ en j1 = true ∧ c j1 = 159 ∧ ∃ m', sLaw c v en m' (j1 + 1) l1 (acc ++ [cl]) = .ok cls)) := by
  cases m with
  | zero => cases h
  | succ m =>
    rw [sLaw] at h
    match hs : sCl c v j lv, h with
    | .ok (cl, j1, l1), h =>
      refine ⟨cl, j1, l1, rfl, ?_⟩
      dsimp only at h
      by_cases h1 : en j1 = true
      · rw [if_pos h1] at h; cases h; exact Or.inl ⟨h1, rfl⟩
      · rw [if_neg h1] at h
        by_cases h2 : c j1 = 159
        · rw [if_pos h2] at h; exact Or.inr ⟨h1, h2, m, h⟩
        · rw [if_neg h2] at h; cases h
theorem sCl_first {c v : Nat → Int} {j lv j1 l1 : Nat} {cl : Cl} (h : sCl c v j lv = .ok (cl, j1, l1)) : ¬ c j = 0 := by
  obtain ⟨tr, j0, l0, h1, -, -⟩ := sCl_ok h
  rcases h1 with h | h <;> omega
theorem wantsL_app {e : Nat → Int} {base : Int} {acc : List Cl} {cl : Cl} : wantsL e base (acc ++ [cl]) = wstep e (wantsL e base acc) cl := by
  unfold wantsL
  rw [List.foldl_append]
  rfl
theorem waitsL_app {e : Nat → Int} {acc : List Cl} {cl : Cl} : waitsL e (acc ++ [cl]) = (waitsL e acc || (!cl.1 && (clV e cl).isSome)) := by
  unfold waitsL
  rw [List.any_append]
  simp
/-- what asksOf leaves -/
def AsP (f f' : Fm) (K : Nat → Int) (day had : Int) (c : Nat) (oth : Int) : Prop := (∀ a, a ≠ 164 → a ≠ 175 → f' a = f a) ∧ (∀ i, i ≠ 18 → i ≠ 19 → i ≠ 20 → i ≠ 22 → i ≠ 23 → f' 164 i = f 164 i) ∧ (∃ bk : Bool, f' 164 20 = b01 (bk = true)) ∧ f' 164 22 = (if K 81 = -1 then K (5 * c) else wantsL (eK K day had c oth) (K (5 * c)) (lawK K (K 81).toNat)) ∧ f' 164 23 = b01 ((if K 81 = -1 then false else waitsL (eK K day had c oth) (lawK K (K 81).toNat)) = true)

theorem sPart_le {c v : Nat → Int} {T e : Nat} {sum : Nat → Nat → PR} (hz : ∀ i, ¬ c i = 0 → i + 1 ≤ T) (hs : e ≠ 0 → ∀ j lv tr j1 l1, sum j lv = .ok (tr, j1, l1) → j ≤ T → j1 ≤ T) : ∀ j lv tr j1 l1, sPart c v sum e j lv = .ok (tr, j1, l1) → j ≤ T → j1 ≤ T := by
  intro j lv tr j1 l1 h hj
  rcases sPart_ok h with ⟨h0, he, j0, h1, h3, h2⟩ | ⟨_, h0, _, _, h2⟩ | ⟨_, _, h0, _, _, h2⟩
  · have := hz j0 (by omega)
    omega
  · have := hz j (by omega)
    omega
  · have := hz j (by omega)
    omega

theorem sTermR_le {c : Nat → Int} {T : Nat} {part : Nat → Nat → PR} (hz : ∀ i, ¬ c i = 0 → i + 1 ≤ T) (hp : ∀ j lv tr j1 l1, part j lv = .ok (tr, j1, l1) → j ≤ T → j1 ≤ T) : ∀ (m : Nat) {acc tr : Term} {j lv j1 l1 : Nat}, sTermR c part m acc j lv = .ok (tr, j1, l1) → j ≤ T → j1 ≤ T
  | 0, acc, tr, j, lv, j1, l1, h, hj => by cases h; exact hj
  | m + 1, acc, tr, j, lv, j1, l1, h, hj => by
    rw [sTermR] at h
    by_cases h0 : c j = 142
    · rw [if_pos h0] at h
      obtain ⟨t, j0, l0, h3, h4⟩ := bnd_ok h
      exact sTermR_le hz hp m h4 (hp _ _ _ _ _ h3 (hz j (by omega)))
    · rw [if_neg h0] at h
      by_cases h1 : c j = 147
      · rw [if_pos h1] at h
        obtain ⟨t, j0, l0, h3, h4⟩ := bnd_ok h
        exact sTermR_le hz hp m h4 (hp _ _ _ _ _ h3 (hz j (by omega)))
      · rw [if_neg h1] at h
        cases h; exact hj
theorem sTerm_le {c : Nat → Int} {T : Nat} {part : Nat → Nat → PR} (hz : ∀ i, ¬ c i = 0 → i + 1 ≤ T) (hp : ∀ j lv tr j1 l1, part j lv = .ok (tr, j1, l1) → j ≤ T → j1 ≤ T) : ∀ j lv tr j1 l1, sTerm c part j lv = .ok (tr, j1, l1) → j ≤ T → j1 ≤ T := by
  intro j lv tr j1 l1 h hj
  obtain ⟨t, j0, l0, h3, h4⟩ := bnd_ok h
  exact sTermR_le hz hp 400 h4 (hp _ _ _ _ _ h3 hj)

theorem sSumR_le {c : Nat → Int} {T : Nat} {term : Nat → Nat → PR} (hz : ∀ i, ¬ c i = 0 → i + 1 ≤ T) (hp : ∀ j lv tr j1 l1, term j lv = .ok (tr, j1, l1) → j ≤ T → j1 ≤ T) : ∀ (m : Nat) {acc tr : Term} {j lv j1 l1 : Nat}, sSumR c term m acc j lv = .ok (tr, j1, l1) → j ≤ T → j1 ≤ T
  | 0, acc, tr, j, lv, j1, l1, h, hj => by cases h; exact hj
  | m + 1, acc, tr, j, lv, j1, l1, h, hj => by
    rw [sSumR] at h
    by_cases h0 : c j = 143
    · rw [if_pos h0] at h
      obtain ⟨t, j0, l0, h3, h4⟩ := bnd_ok h
      exact sSumR_le hz hp m h4 (hp _ _ _ _ _ h3 (hz j (by omega)))
    · rw [if_neg h0] at h
      by_cases h1 : c j = 145
      · rw [if_pos h1] at h
        obtain ⟨t, j0, l0, h3, h4⟩ := bnd_ok h
        exact sSumR_le hz hp m h4 (hp _ _ _ _ _ h3 (hz j (by omega)))
      · rw [if_neg h1] at h
        cases h; exact hj
theorem sSum_le {c : Nat → Int} {T : Nat} {term : Nat → Nat → PR} (hz : ∀ i, ¬ c i = 0 → i + 1 ≤ T) (hp : ∀ j lv tr j1 l1, term j lv = .ok (tr, j1, l1) → j ≤ T → j1 ≤ T) : ∀ j lv tr j1 l1, sSum c term j lv = .ok (tr, j1, l1) → j ≤ T → j1 ≤ T := by
  intro j lv tr j1 l1 h hj
  obtain ⟨t, j0, l0, h3, h4⟩ := bnd_ok h
  exact sSumR_le hz hp 400 h4 (hp _ _ _ _ _ h3 hj)

theorem sBothR_le {c : Nat → Int} {T : Nat} {plain : Nat → Nat → PR} (hz : ∀ i, ¬ c i = 0 → i + 1 ≤ T) (hp : ∀ j lv tr j1 l1, plain j lv = .ok (tr, j1, l1) → j ≤ T → j1 ≤ T) : ∀ (m : Nat) {acc tr : Term} {j lv j1 l1 : Nat}, sBothR c plain m acc j lv = .ok (tr, j1, l1) → j ≤ T → j1 ≤ T
  | 0, acc, tr, j, lv, j1, l1, h, hj => by cases h; exact hj
  | m + 1, acc, tr, j, lv, j1, l1, h, hj => by
    rw [sBothR] at h
    by_cases h0 : c j = 5
    · rw [if_pos h0] at h
      obtain ⟨t, j0, l0, h3, h4⟩ := bnd_ok h
      exact sBothR_le hz hp m h4 (hp _ _ _ _ _ h3 (hz j (by omega)))
    · rw [if_neg h0] at h
      cases h; exact hj
theorem sBoth_le {c : Nat → Int} {T : Nat} {plain : Nat → Nat → PR} (hz : ∀ i, ¬ c i = 0 → i + 1 ≤ T) (hp : ∀ j lv tr j1 l1, plain j lv = .ok (tr, j1, l1) → j ≤ T → j1 ≤ T) : ∀ j lv tr j1 l1, sBoth c plain j lv = .ok (tr, j1, l1) → j ≤ T → j1 ≤ T := by
  intro j lv tr j1 l1 h hj
  obtain ⟨t, j0, l0, h3, h4⟩ := bnd_ok h
  exact sBothR_le hz hp 400 h4 (hp _ _ _ _ _ h3 hj)

theorem sTestR_le {c : Nat → Int} {T : Nat} {both : Nat → Nat → PR} (hz : ∀ i, ¬ c i = 0 → i + 1 ≤ T) (hp : ∀ j lv tr j1 l1, both j lv = .ok (tr, j1, l1) → j ≤ T → j1 ≤ T) : ∀ (m : Nat) {acc tr : Term} {j lv j1 l1 : Nat}, sTestR c both m acc j lv = .ok (tr, j1, l1) → j ≤ T → j1 ≤ T
  | 0, acc, tr, j, lv, j1, l1, h, hj => by cases h; exact hj
  | m + 1, acc, tr, j, lv, j1, l1, h, hj => by
    rw [sTestR] at h
    by_cases h0 : c j = 4
    · rw [if_pos h0] at h
      obtain ⟨t, j0, l0, h3, h4⟩ := bnd_ok h
      exact sTestR_le hz hp m h4 (hp _ _ _ _ _ h3 (hz j (by omega)))
    · rw [if_neg h0] at h
      cases h; exact hj
theorem sTest_le {c : Nat → Int} {T : Nat} {both : Nat → Nat → PR} (hz : ∀ i, ¬ c i = 0 → i + 1 ≤ T) (hp : ∀ j lv tr j1 l1, both j lv = .ok (tr, j1, l1) → j ≤ T → j1 ≤ T) : ∀ j lv tr j1 l1, sTest c both j lv = .ok (tr, j1, l1) → j ≤ T → j1 ≤ T := by
  intro j lv tr j1 l1 h hj
  obtain ⟨t, j0, l0, h3, h4⟩ := bnd_ok h
  exact sTestR_le hz hp 400 h4 (hp _ _ _ _ _ h3 hj)

theorem sNot_le {c : Nat → Int} {T : Nat} (hz : ∀ i, ¬ c i = 0 → i + 1 ≤ T) : ∀ (m : Nat) (b : Bool) (j : Nat), j ≤ T → (sNot c m b j).2 ≤ T
  | 0, b, j, hj => hj
  | m + 1, b, j, hj => by
    rw [sNot]
    split
    · exact sNot_le hz m (!b) (j + 1) (hz j (by omega))
    · exact hj
theorem sPlain_le {c : Nat → Int} {T e : Nat} {sum test : Nat → Nat → PR} (hz : ∀ i, ¬ c i = 0 → i + 1 ≤ T) (hs : ∀ j lv tr j1 l1, sum j lv = .ok (tr, j1, l1) → j ≤ T → j1 ≤ T) (ht : e ≠ 0 → ∀ j lv tr j1 l1, test j lv = .ok (tr, j1, l1) → j ≤ T → j1 ≤ T) : ∀ j lv tr j1 l1, sPlain c sum test e j lv = .ok (tr, j1, l1) → j ≤ T → j1 ≤ T := by
  intro j lv tr j1 l1 h hj
  obtain ⟨t, j0, l0, h3, h4⟩ := bnd_ok h
  have h5 := sNot_le hz 400 false j hj
  have h6 : j0 ≤ T := by
    rcases sPos_ok h3 with ⟨_, he, j2, h1, h7, h2⟩ | ⟨_, h1⟩
    · have := hz j2 (by omega)
      omega
    · obtain ⟨a, b, j2, l2, q1, q2, q3⟩ := sCmp_ok h1
      exact hs _ _ _ _ _ q2 (hz j2 (by omega))
  cases h4
  exact h6
theorem lvS_le {c v : Nat → Int} {T e : Nat} {sum : Nat → Nat → PR} (hz : ∀ i, ¬ c i = 0 → i + 1 ≤ T) (hs : e ≠ 0 → ∀ j lv tr j1 l1, sum j lv = .ok (tr, j1, l1) → j ≤ T → j1 ≤ T) : ∀ j lv tr j1 l1, lvS c v sum e j lv = .ok (tr, j1, l1) → j ≤ T → j1 ≤ T := sSum_le hz (sTerm_le hz (sPart_le hz hs))
theorem lvT_le {c v : Nat → Int} {T e : Nat} {sum test : Nat → Nat → PR} (hz : ∀ i, ¬ c i = 0 → i + 1 ≤ T) (hs : e ≠ 0 → ∀ j lv tr j1 l1, sum j lv = .ok (tr, j1, l1) → j ≤ T → j1 ≤ T) (ht : e ≠ 0 → ∀ j lv tr j1 l1, test j lv = .ok (tr, j1, l1) → j ≤ T → j1 ≤ T) : ∀ j lv tr j1 l1, lvT c v sum test e j lv = .ok (tr, j1, l1) → j ≤ T → j1 ≤ T := sTest_le hz (sBoth_le hz (sPlain_le hz (lvS_le hz hs) ht))
theorem lev_le {c v : Nat → Int} {T : Nat} (hz : ∀ i, ¬ c i = 0 → i + 1 ≤ T) : ∀ e : Nat, (∀ j lv tr j1 l1, (lev c v e).1 j lv = .ok (tr, j1, l1) → j ≤ T → j1 ≤ T) ∧ ∀ j lv tr j1 l1, (lev c v e).2 j lv = .ok (tr, j1, l1) → j ≤ T → j1 ≤ T
  | 0 => ⟨lvS_le hz (fun h => absurd rfl h), lvT_le hz (fun h => absurd rfl h) (fun h => absurd rfl h)⟩
  | e + 1 => by
    obtain ⟨h1, h2⟩ := lev_le (c := c) (v := v) hz e
    exact ⟨lvS_le hz (fun _ => h1), lvT_le hz (fun _ => h1) (fun _ => h2)⟩
theorem sSumT_le {c v : Nat → Int} {T : Nat} (hz : ∀ i, ¬ c i = 0 → i + 1 ≤ T) : ∀ j lv tr j1 l1, sSumT c v j lv = .ok (tr, j1, l1) → j ≤ T → j1 ≤ T := by
  have h := (lev_le (c := c) (v := v) hz 8).1
  unfold sSumT
  exact h
theorem sTestT_le {c v : Nat → Int} {T : Nat} (hz : ∀ i, ¬ c i = 0 → i + 1 ≤ T) : ∀ j lv tr j1 l1, sTestT c v j lv = .ok (tr, j1, l1) → j ≤ T → j1 ≤ T := by
  have h := (lev_le (c := c) (v := v) hz 8).2
  unfold sTestT
  exact h
theorem sCl_jr {c v : Nat → Int} {T j lv j1 l1 : Nat} {cl : Cl} (hz : ∀ i, ¬ c i = 0 → i + 1 ≤ T) (h : sCl c v j lv = .ok (cl, j1, l1)) : j < j1 ∧ j1 ≤ T := by
  obtain ⟨tr, j0, l0, h1, -, h2⟩ := sCl_ok h
  have h3 : j < j0 ∧ j0 ≤ T := by
    rcases h1 with ⟨q1, -, q2⟩ | ⟨q1, -, -, q2⟩
    · have e1 := sSumT_mono _ _ _ _ _ q2
      have e2 := sSumT_le hz _ _ _ _ _ q2 (hz j (by omega))
      omega
    · have := hz j (by omega)
      omega
  rcases h2 with ⟨-, -, q⟩ | ⟨q, t2, -, q2⟩
  · omega
  · have e1 := sTestT_mono _ _ _ _ _ q2
    have e2 := sTestT_le hz _ _ _ _ _ q2 (hz j0 (by omega))
    omega

def AsI (fz f1 : Fm) (e : Nat → Int) (b0 : Int) (base T j : Nat) (acc : List Cl) : Prop := (∀ a, a ≠ 164 → f1 a = fz a) ∧ (∀ i, i ≠ 18 → i ≠ 20 → i ≠ 22 → i ≠ 23 → f1 164 i = fz 164 i) ∧ f1 164 18 = ((base + j : Nat) : Int) ∧ (∃ bk : Bool, f1 164 20 = b01 (bk = true)) ∧ f1 164 22 = wantsL e b0 acc ∧ f1 164 23 = b01 (waitsL e acc = true) ∧ j ≤ T + 1
theorem As_next {c v : Nat → Int} {en : Nat → Bool} {T j1 l1 : Nat} {acc cls : List Cl} {cl : Cl} (h : (en j1 = true ∧ cls = acc ++ [cl]) ∨ (¬ en j1 = true ∧ c j1 = 159 ∧ ∃ m', sLaw c v en m' (j1 + 1) l1 (acc ++ [cl]) = .ok cls)) (hc0 : ∀ i, T ≤ i → c i = 0) (hlt : ∀ i, ¬ c i = 0 → i < T) (hen : ∀ i, en i = true ↔ T ≤ i) : True ∧ ((T ≤ j1 + 1 ∧ cls = acc ++ [cl]) ∨ (j1 + 1 < T ∧ ∃ m lv, sLaw c v en m (j1 + 1) lv (acc ++ [cl]) = .ok cls)) := by
  refine ⟨trivial, ?_⟩
  rcases h with ⟨h1, h2⟩ | ⟨h1, h2, m', h3⟩
  · exact Or.inl ⟨by have := (hen j1).mp h1; omega, h2⟩
  · obtain ⟨cl2, j2, l2, h4, -⟩ := sLaw_ok h3
    exact Or.inr ⟨hlt _ (sCl_first h4), m', l1, h3⟩
theorem ET.mem {f0 f1 : Fm} {c v e : Nat → Int} {base T : Nat} (h : ET f0 c v e base T) (h1 : f1 164 19 = f0 164 19) (h2 : f1 166 = f0 166) (h3 : f1 175 = f0 175) : ET f1 c v e base T := by
  unfold ET at h ⊢
  rw [h1, h2, h3]
  exact h
theorem kC_r {K : Nat → Int} {D M : Int} (hO : KO K D M) {i : Nat} (hi : (i : Int) < K 80) (j : Nat) : 0 ≤ kC K i j ∧ kC K i j ≤ 355 := by
  unfold kC
  split
  · rename_i h
    have h1 := hO.lw i hi
    exact (h1.2.2 j (by unfold kT at h; omega)).1
  · omega

set_option maxRecDepth 100000 in
set_option maxHeartbeats 4000000 in
theorem m_asksOf (l : Launch) (z : Zv) {g : Gm} {f : Fm} {K : Nat → Int} {D0 M0 : Int} {c : Nat} {day had oth : Int} (hM : ML g) (hK : f 166 = K) (hO : KO K D0 M0) (hb20 : ∃ bk : Bool, f 164 20 = b01 (bk = true)) (hc8 : c < 8) (hday : -1000000000 ≤ day ∧ day ≤ 1000000000) (hhad : -1000000000 ≤ had ∧ had ≤ 1000000000) (hoth : -1 ≤ oth ∧ oth < 8) {D : Nat} (hD : 262 ≤ D) : PM l z D mX11_asksOf [.ref 164, .int (iI ((c : Nat) : Int)), .int (iI day), .int (iI had), .int (iI oth)] g f 0 0 (fun r g' f' => r = none ∧ g = g' ∧ AsP f f' K day had c oth) := by
  obtain ⟨d, rfl⟩ : ∃ d, D = d + 8 := ⟨D - 8, by omega⟩
  have he := eK_r hO (day := day) (had := had) (oth := oth) hc8 hday hhad hoth
  refine PM.of (by decide +kernel) (Nat.le_of_ble_eq_true rfl) ?_
  have tail : ∀ (fo T : Nat) (cls : List Cl) (fz : Fm), ¬ K 81 = -1 → lawK K (K 81).toNat = cls → ET fz (kC K fo) (kV K fo) (eK K day had c oth) (400 * fo) T → (∀ i, kE K fo i = true ↔ T ≤ i) → sLaw (kC K fo) (kV K fo) (kE K fo) 12 0 0 [] = .ok cls → 1 ≤ T → (∀ a, a ≠ 164 → a ≠ 175 → fz a = f a) → (∀ i, i ≠ 18 → i ≠ 19 → i ≠ 22 → i ≠ 23 → fz 164 i = f 164 i) → AsI fz fz (eK K day had c oth) (K (5 * c)) (400 * fo) T 0 [] → PW l z (d + 8) mX11_asksOf 0 0 (fun r g' f' => r = none ∧ g = g' ∧ AsP f f' K day had c oth) 156 [(0, (.ref 164)), (1, (.int (iI (((c : Nat) : Int))))), (2, (.int (iI (day)))), (3, (.int (iI (had)))), (4, (.int (iI (oth))))] [] g fz 0 0 := by
    intro fo T cls fz h81 hlk hEz hkE hsl0 hT1 hz1 hz2 hAz
    have loop : ∀ (m j : Nat) (f1 : Fm) (acc : List Cl), m = T + 1 - j → AsI fz f1 (eK K day had c oth) (K (5 * c)) (400 * fo) T j acc → ((T ≤ j ∧ cls = acc) ∨ (j < T ∧ ∃ m lv, sLaw (kC K fo) (kV K fo) (kE K fo) m j lv acc = .ok cls)) → PW l z (d + 8) mX11_asksOf 0 0 (fun r g' f' => r = none ∧ g = g' ∧ AsP f f' K day had c oth) 156 [(0, (.ref 164)), (1, (.int (iI (((c : Nat) : Int))))), (2, (.int (iI (day)))), (3, (.int (iI (had)))), (4, (.int (iI (oth))))] [] g f1 0 0 := by
      intro m
      induction m using Nat.strongRecOn with
      | _ m ih =>
        intro j f1 acc hm hA hst
        obtain ⟨bk, hbk⟩ := hA.2.2.2.1
        have hE : ET f1 (kC K fo) (kV K fo) (eK K day had c oth) (400 * fo) T := hEz.mem (hA.2.1 19 (by decide) (by decide) (by decide) (by decide)) (hA.1 166 (by decide)) (hA.1 175 (by decide))
        have hG1 : EG f1 f1 (400 * fo) T j bk := ⟨fun _ _ => rfl, fun _ _ _ => rfl, hA.2.2.1, hbk, hA.2.2.2.2.2.2⟩
        have h22 := hA.2.2.2.2.1
        have h23 := hA.2.2.2.2.2.1
        have hr0 := hE.r
        have hjr0 := hG1.r
        have hsE := m_sumE l z hM hE
        have htE := m_testE l z hM hE
        refine r_aload_n (pc := 156) 0 dX11_asksOf_156 rfl rfl ?_
        refine r_getIv (pc := 157) (x := ((400 * fo + j : Nat) : Int)) dX11_asksOf_157 fl_X11_228 rfl hM.k (hG1.xg) ?_
        refine r_aload_n (pc := 160) 0 dX11_asksOf_160 rfl rfl ?_
        refine r_getIv (pc := 161) (x := ((400 * fo + T : Nat) : Int)) dX11_asksOf_161 fl_X11_225 rfl hM.k (hG1.xe hE) ?_
        refine r_icmp_ge (pc := 164) (tgt := 339) dX11_asksOf_164 (by decide) (by omega) (by omega) (fun c_164 => ?_) (fun c_164 => ?_)
        · have hcl : cls = acc := by rcases hst with h | h; exact h.2; exfalso; omega
          subst hcl
          exact r_vret (pc := 339) dX11_asksOf_339 rfl ⟨rfl, rfl, fun a h1 h2 => by rw [hA.1 a h1]; exact hz1 a h1 h2, fun i h1 h2 h3 h4 h5 => by rw [hA.2.1 i h1 h3 h4 h5]; exact hz2 i h1 h2 h4 h5, hA.2.2.2.1, by rw [if_neg h81, hlk]; exact hA.2.2.2.2.1, by rw [if_neg h81, hlk]; exact hA.2.2.2.2.2.1⟩
        · obtain ⟨m, lv, hsl⟩ : ∃ m lv, sLaw (kC K fo) (kV K fo) (kE K fo) m j lv acc = .ok cls := by rcases hst with h | h; exfalso; omega; exact h.2
          obtain ⟨cl, j1, l1, hcl, hnx⟩ := sLaw_ok hsl
          have hjr1 := sCl_jr (T := T) (fun i hi => hE.lt hi) hcl
          obtain ⟨tr, j0, l0, hk1, hk0, hk2⟩ := sCl_ok hcl
          refine r_aload_n (pc := 167) 0 dX11_asksOf_167 rfl rfl ?_
          refine r_aload_n (pc := 168) 0 dX11_asksOf_168 rfl rfl ?_
          refine r_getIv (pc := 169) (x := ((400 * fo + j : Nat) : Int)) dX11_asksOf_169 fl_X11_228 rfl hM.k (hG1.xg) ?_
          refine r_callV (pc := 172) (As := [(.int (iI (((400 * fo + j : Nat) : Int))))]) (S := []) dX11_asksOf_172 cv_X11_231 hM.k rfl (Nat.le_of_ble_eq_true rfl) (m_codeAt (j := j) l z _ hM hE hG1) (Nat.zero_le _) (Nat.zero_le _) (fun r_172 g_172 f_172 q_172 => ?_)
          obtain ⟨rfl, rfl, rfl⟩ := q_172
          refine r_iconst (pc := 175) dX11_asksOf_175 ?_
          refine r_icmp_ne (pc := 176) (tgt := 183) dX11_asksOf_176 (by decide) (by have := hE.cr j; omega) (by omega) (fun c_176 => ?_) (fun c_176 => ?_)
          · refine r_iconst (pc := 183) dX11_asksOf_183 ?_
            refine r_istore (pc := 184) (L2 := [(5, (.int (iI (0)))), (0, (.ref 164)), (1, (.int (iI (((c : Nat) : Int))))), (2, (.int (iI (day)))), (3, (.int (iI (had)))), (4, (.int (iI (oth))))]) dX11_asksOf_184 (by decide) rfl ?_
            have hcw : cl.1 = true := by rcases hk1 with h | h; exact h.2.1; exfalso; omega
            have hsm : sSumT (kC K fo) (kV K fo) (j + 1) lv = .ok (tr, j0, l0) := by rcases hk1 with h | h; exact h.2.2; exfalso; omega
            refine r_aload_n (pc := 186) 1 dX11_asksOf_186 rfl rfl ?_
            refine r_iconst (pc := 187) dX11_asksOf_187 ?_
            refine r_putB (pc := 188) dX11_asksOf_188 fl_X11_238 rfl rfl (by omega) hM.k ?_
            refine r_aload_n (pc := 191) 1 dX11_asksOf_191 rfl rfl ?_
            refine r_dup (pc := 192) dX11_asksOf_192 rfl ?_
            refine r_getIv (pc := 193) (x := ((400 * fo + j : Nat) : Int)) dX11_asksOf_193 fl_X11_228 rfl hM.k (rdi (by decide) (hG1.xg)) ?_
            refine r_iconst (pc := 196) dX11_asksOf_196 ?_
            refine r_iadd (pc := 197) dX11_asksOf_197 ?_
            refine r_eqI (y := ((400 * fo + j + 1 : Nat) : Int)) (Int.natCast_add _ _ |>.symm) ?_
            refine r_putI (pc := 198) dX11_asksOf_198 fl_X11_228 rfl rfl hM.k ?_
            refine r_iload (pc := 201) 0 dX11_asksOf_201 rfl ?_
            refine r_if_eq (pc := 203) (tgt := 210) dX11_asksOf_203 (by decide) (by omega) (fun c_203 => ?_) (fun c_203 => ?_)
            · refine r_aload_n (pc := 210) 1 dX11_asksOf_210 rfl rfl ?_
              refine r_iconst (pc := 211) dX11_asksOf_211 ?_
              refine r_eqI (y := b01 (true = true)) (rfl) ?_
              refine r_callV (pc := 212) (As := [(.int (iI (b01 (true = true))))]) (S := []) dX11_asksOf_212 cv_X11_256 hM.k rfl (Nat.le_of_ble_eq_true rfl) (hsE _ (by omega) _ _ _ _ true _ _ _ hsm ((hG1.br (b := false) rfl).next (by have := hE.lt (i := j) (by omega); omega))) (Nat.zero_le _) (Nat.zero_le _) (fun r_212 g_212 f_212 q_212 => ?_)
              obtain ⟨rfl, rfl, hG_212, hr_212⟩ := q_212
              refine r_lstore (pc := 215) (L2 := [(6, (.long (lI ((mS (eK K day had c oth) true false tr).1)))), (5, (.int (iI (0)))), (0, (.ref 164)), (1, (.int (iI (((c : Nat) : Int))))), (2, (.int (iI (day)))), (3, (.int (iI (had)))), (4, (.int (iI (oth))))]) dX11_asksOf_215 (by decide) rfl ?_
              refine r_aload_n (pc := 217) 2 dX11_asksOf_217 rfl rfl ?_
              refine r_getIv (pc := 218) (x := b01 ((mS (eK K day had c oth) true false tr).2 = true)) dX11_asksOf_218 fl_X11_238 rfl hM.k (hG_212.xb) ?_
              refine r_istore (pc := 221) (L2 := [(8, (.int (iI (b01 ((mS (eK K day had c oth) true false tr).2 = true))))), (6, (.long (lI ((mS (eK K day had c oth) true false tr).1)))), (5, (.int (iI (0)))), (0, (.ref 164)), (1, (.int (iI (((c : Nat) : Int))))), (2, (.int (iI (day)))), (3, (.int (iI (had)))), (4, (.int (iI (oth))))]) dX11_asksOf_221 (by decide) rfl ?_
              refine r_aload_n (pc := 223) 3 dX11_asksOf_223 rfl rfl ?_
              refine r_iconst (pc := 224) dX11_asksOf_224 ?_
              refine r_putB (pc := 225) dX11_asksOf_225 fl_X11_238 rfl rfl (by omega) hM.k ?_
              refine r_aload_n (pc := 228) 3 dX11_asksOf_228 rfl rfl ?_
              refine r_iconst (pc := 229) dX11_asksOf_229 ?_
              refine r_callV (pc := 230) (As := [(.int (iI (3)))]) (S := []) dX11_asksOf_230 cv_X11_253 hM.k rfl (Nat.le_of_ble_eq_true rfl) (m_pass l z _ hM hE (hG_212.br (b := false) rfl) (by decide) (by decide)) (Nat.zero_le _) (Nat.zero_le _) (fun r_230 g_230 f_230 q_230 => ?_)
              obtain ⟨rfl, ⟨hc_230, rfl, hG_230⟩ | ⟨hc_230, rfl, rfl⟩⟩ := q_230
              · refine r_if_eq (pc := 233) (tgt := 244) dX11_asksOf_233 (by decide) (by omega) (fun c_233 => ?_) (fun c_233 => ?_)
                · exact absurd c_233 (by decide)
                · obtain ⟨t2, he2, hts⟩ : ∃ t2, cl.2.2 = some t2 ∧ sTestT (kC K fo) (kV K fo) (j0 + 1) l0 = .ok (t2, j1, l1) := by rcases hk2 with h | h; exact absurd hc_230 h.1; exact h.2
                  refine r_aload_n (pc := 236) 3 dX11_asksOf_236 rfl rfl ?_
                  refine r_iconst (pc := 237) dX11_asksOf_237 ?_
                  refine r_eqI (y := b01 (true = true)) (rfl) ?_
                  refine r_callV (pc := 238) (As := [(.int (iI (b01 (true = true))))]) (S := []) dX11_asksOf_238 cv_X11_269 hM.k rfl (Nat.le_of_ble_eq_true rfl) (htE _ (by omega) _ _ _ _ true _ _ _ hts hG_230) (Nat.zero_le _) (Nat.zero_le _) (fun r_238 g_238 f_238 q_238 => ?_)
                  obtain ⟨rb_238, rfl, rfl, hG_238, hv_238⟩ := q_238
                  refine r_if_eq (pc := 241) (tgt := 248) dX11_asksOf_241 (by decide) (b01_r) (fun c_241 => ?_) (fun c_241 => ?_)
                  · replace c_241 := b01_z c_241
                    refine r_iconst (pc := 248) dX11_asksOf_248 ?_
                    refine r_istore (pc := 249) (L2 := [(9, (.int (iI (0)))), (8, (.int (iI (b01 ((mS (eK K day had c oth) true false tr).2 = true))))), (6, (.long (lI ((mS (eK K day had c oth) true false tr).1)))), (5, (.int (iI (0)))), (0, (.ref 164)), (1, (.int (iI (((c : Nat) : Int))))), (2, (.int (iI (day)))), (3, (.int (iI (had)))), (4, (.int (iI (oth))))]) dX11_asksOf_249 (by decide) rfl ?_
                    refine r_iload (pc := 251) 0 dX11_asksOf_251 rfl ?_
                    refine r_if_eq (pc := 253) (tgt := 326) dX11_asksOf_253 (by decide) (by omega) (fun c_253 => ?_) (fun c_253 => ?_)
                    · refine r_aload_n (pc := 326) 4 dX11_asksOf_326 rfl rfl ?_
                      refine r_dup (pc := 327) dX11_asksOf_327 rfl ?_
                      refine r_getIv (pc := 328) (x := ((400 * fo + j1 : Nat) : Int)) dX11_asksOf_328 fl_X11_228 rfl hM.k (hG_238.xg) ?_
                      refine r_iconst (pc := 331) dX11_asksOf_331 ?_
                      refine r_iadd (pc := 332) dX11_asksOf_332 ?_
                      refine r_eqI (y := ((400 * fo + j1 + 1 : Nat) : Int)) (Int.natCast_add _ _ |>.symm) ?_
                      refine r_putI (pc := 333) dX11_asksOf_333 fl_X11_228 rfl rfl hM.k ?_
                      refine r_goto (pc := 336) (tgt := 156) dX11_asksOf_336 (by decide) ?_
                      have hcv : clV (eK K day had c oth) cl = none := clV_2 he2 (fun h => c_241 (hv_238 rfl rfl true h))
                      refine r_sub (L2 := [(0, (.ref 164)), (1, (.int (iI (((c : Nat) : Int))))), (2, (.int (iI (day)))), (3, (.int (iI (had)))), (4, (.int (iI (oth))))]) [4, 5, 6, 7, 8] rfl ?_
                      have hnx2 := As_next hnx (fun i hi => hE.c0 hi) (fun i hi => by have := hE.lt hi; omega) hkE
                      exact ih (T + 1 - (j1 + 1)) (by omega) (j1 + 1) _ (acc ++ [cl]) (by omega) ⟨fun a ha => by rw [stF_n _ _ _ ha, hG_238.1 a ha]; exact hA.1 a ha, fun i h1 h2 h3 h4 => by rw [stF_i _ _ _ h1, hG_238.2.1 i h1 h2]; exact hA.2.1 i h1 h2 h3 h4, stF_s _ _ _ _, ⟨(mT (eK K day had c oth) true false t2), rdi (by decide) (hG_238.xb)⟩, (rdi (by decide) ((hG_238.2.1 22 (by decide) (by decide)).trans h22)).trans (by rw [wantsL_app, wstep_n hcv]), (rdi (by decide) ((hG_238.2.1 23 (by decide) (by decide)).trans h23)).trans (by rw [waitsL_app, hcv]; simp), by omega⟩ hnx2.2
                    · exact absurd c_253 (by decide)
                  · replace c_241 := b01_nz c_241
                    refine r_iconst (pc := 244) dX11_asksOf_244 ?_
                    refine r_goto (pc := 245) (tgt := 249) dX11_asksOf_245 (by decide) ?_
                    refine r_istore (pc := 249) (L2 := [(9, (.int (iI (1)))), (8, (.int (iI (b01 ((mS (eK K day had c oth) true false tr).2 = true))))), (6, (.long (lI ((mS (eK K day had c oth) true false tr).1)))), (5, (.int (iI (0)))), (0, (.ref 164)), (1, (.int (iI (((c : Nat) : Int))))), (2, (.int (iI (day)))), (3, (.int (iI (had)))), (4, (.int (iI (oth))))]) dX11_asksOf_249 (by decide) rfl ?_
                    refine r_iload (pc := 251) 0 dX11_asksOf_251 rfl ?_
                    refine r_if_eq (pc := 253) (tgt := 326) dX11_asksOf_253 (by decide) (by omega) (fun c_253 => ?_) (fun c_253 => ?_)
                    · exact absurd c_253 (by decide)
                    · refine r_aload_n (pc := 256) 4 dX11_asksOf_256 rfl rfl ?_
                      refine r_getIv (pc := 257) (x := b01 ((mT (eK K day had c oth) true false t2) = true)) dX11_asksOf_257 fl_X11_238 rfl hM.k (hG_238.xb) ?_
                      refine r_if_ne (pc := 260) (tgt := 326) dX11_asksOf_260 (by decide) (b01_r) (fun c_260 => ?_) (fun c_260 => ?_)
                      · replace c_260 := b01_nz c_260
                        refine r_aload_n (pc := 326) 4 dX11_asksOf_326 rfl rfl ?_
                        refine r_dup (pc := 327) dX11_asksOf_327 rfl ?_
                        refine r_getIv (pc := 328) (x := ((400 * fo + j1 : Nat) : Int)) dX11_asksOf_328 fl_X11_228 rfl hM.k (hG_238.xg) ?_
                        refine r_iconst (pc := 331) dX11_asksOf_331 ?_
                        refine r_iadd (pc := 332) dX11_asksOf_332 ?_
                        refine r_eqI (y := ((400 * fo + j1 + 1 : Nat) : Int)) (Int.natCast_add _ _ |>.symm) ?_
                        refine r_putI (pc := 333) dX11_asksOf_333 fl_X11_228 rfl rfl hM.k ?_
                        refine r_goto (pc := 336) (tgt := 156) dX11_asksOf_336 (by decide) ?_
                        have hcv : clV (eK K day had c oth) cl = none := clV_2 he2 (fun h => by rw [mT_n, h] at c_260; cases c_260)
                        refine r_sub (L2 := [(0, (.ref 164)), (1, (.int (iI (((c : Nat) : Int))))), (2, (.int (iI (day)))), (3, (.int (iI (had)))), (4, (.int (iI (oth))))]) [4, 5, 6, 7, 8] rfl ?_
                        have hnx2 := As_next hnx (fun i hi => hE.c0 hi) (fun i hi => by have := hE.lt hi; omega) hkE
                        exact ih (T + 1 - (j1 + 1)) (by omega) (j1 + 1) _ (acc ++ [cl]) (by omega) ⟨fun a ha => by rw [stF_n _ _ _ ha, hG_238.1 a ha]; exact hA.1 a ha, fun i h1 h2 h3 h4 => by rw [stF_i _ _ _ h1, hG_238.2.1 i h1 h2]; exact hA.2.1 i h1 h2 h3 h4, stF_s _ _ _ _, ⟨(mT (eK K day had c oth) true false t2), rdi (by decide) (hG_238.xb)⟩, (rdi (by decide) ((hG_238.2.1 22 (by decide) (by decide)).trans h22)).trans (by rw [wantsL_app, wstep_n hcv]), (rdi (by decide) ((hG_238.2.1 23 (by decide) (by decide)).trans h23)).trans (by rw [waitsL_app, hcv]; simp), by omega⟩ hnx2.2
                      · replace c_260 := b01_z c_260
                        refine r_iload (pc := 263) 1 dX11_asksOf_263 rfl ?_
                        refine r_if_ne (pc := 265) (tgt := 326) dX11_asksOf_265 (by decide) (b01_r) (fun c_265 => ?_) (fun c_265 => ?_)
                        · replace c_265 := b01_nz c_265
                          refine r_aload_n (pc := 326) 4 dX11_asksOf_326 rfl rfl ?_
                          refine r_dup (pc := 327) dX11_asksOf_327 rfl ?_
                          refine r_getIv (pc := 328) (x := ((400 * fo + j1 : Nat) : Int)) dX11_asksOf_328 fl_X11_228 rfl hM.k (hG_238.xg) ?_
                          refine r_iconst (pc := 331) dX11_asksOf_331 ?_
                          refine r_iadd (pc := 332) dX11_asksOf_332 ?_
                          refine r_eqI (y := ((400 * fo + j1 + 1 : Nat) : Int)) (Int.natCast_add _ _ |>.symm) ?_
                          refine r_putI (pc := 333) dX11_asksOf_333 fl_X11_228 rfl rfl hM.k ?_
                          refine r_goto (pc := 336) (tgt := 156) dX11_asksOf_336 (by decide) ?_
                          have hev : evT (eK K day had c oth) t2 = some true := by
                            have h1 := Bool.eq_false_iff.mpr c_260
                            rw [mT_n] at h1
                            rcases hq : evT (eK K day had c oth) t2 with _ | w
                            · rw [hq] at h1; cases h1
                            · have := hv_238 rfl rfl w hq; rw [← this, c_241]
                          have hc0 := clV_1 (e := (eK K day had c oth)) he2 hev
                          have hcv : clV (eK K day had c oth) cl = none := by
                            rw [hc0, if_pos hcw, hk0]
                            rcases hq : evS (eK K day had c oth) tr with _ | x
                            · rfl
                            · rw [mS_s hq] at c_265; cases c_265
                          refine r_sub (L2 := [(0, (.ref 164)), (1, (.int (iI (((c : Nat) : Int))))), (2, (.int (iI (day)))), (3, (.int (iI (had)))), (4, (.int (iI (oth))))]) [4, 5, 6, 7, 8] rfl ?_
                          have hnx2 := As_next hnx (fun i hi => hE.c0 hi) (fun i hi => by have := hE.lt hi; omega) hkE
                          exact ih (T + 1 - (j1 + 1)) (by omega) (j1 + 1) _ (acc ++ [cl]) (by omega) ⟨fun a ha => by rw [stF_n _ _ _ ha, hG_238.1 a ha]; exact hA.1 a ha, fun i h1 h2 h3 h4 => by rw [stF_i _ _ _ h1, hG_238.2.1 i h1 h2]; exact hA.2.1 i h1 h2 h3 h4, stF_s _ _ _ _, ⟨(mT (eK K day had c oth) true false t2), rdi (by decide) (hG_238.xb)⟩, (rdi (by decide) ((hG_238.2.1 22 (by decide) (by decide)).trans h22)).trans (by rw [wantsL_app, wstep_n hcv]), (rdi (by decide) ((hG_238.2.1 23 (by decide) (by decide)).trans h23)).trans (by rw [waitsL_app, hcv]; simp), by omega⟩ hnx2.2
                        · replace c_265 := b01_z c_265
                          refine r_aload_n (pc := 268) 4 dX11_asksOf_268 rfl rfl ?_
                          refine r_aload_n (pc := 269) 4 dX11_asksOf_269 rfl rfl ?_
                          refine r_getIv (pc := 270) (x := b01 (waitsL (eK K day had c oth) acc = true)) dX11_asksOf_270 fl_X11_275 rfl hM.k ((hG_238.2.1 23 (by decide) (by decide)).trans h23) ?_
                          refine r_if_ne (pc := 273) (tgt := 281) dX11_asksOf_273 (by decide) (b01_r) (fun c_273 => ?_) (fun c_273 => ?_)
                          · replace c_273 := b01_nz c_273
                            refine r_iconst (pc := 281) dX11_asksOf_281 ?_
                            refine r_goto (pc := 282) (tgt := 286) dX11_asksOf_282 (by decide) ?_
                            refine r_putB (pc := 286) dX11_asksOf_286 fl_X11_275 rfl rfl (by omega) hM.k ?_
                            refine r_iload (pc := 289) 3 dX11_asksOf_289 rfl ?_
                            refine r_if_ne (pc := 291) (tgt := 326) dX11_asksOf_291 (by decide) (by omega) (fun c_291 => ?_) (fun c_291 => ?_)
                            · exact absurd c_291 (by decide)
                            · refine r_aload_n (pc := 294) 4 dX11_asksOf_294 rfl rfl ?_
                              refine r_lload (pc := 295) 2 dX11_asksOf_295 rfl ?_
                              refine r_lconst (pc := 297) (x := 0) dX11_asksOf_297 (by decide) ?_
                              refine r_lcmp (pc := 298) (w := cmpZ ((mS (eK K day had c oth) true false tr).1) (0)) dX11_asksOf_298  (cmp_z (by omega) (by omega)) ?_
                              refine r_if_ge (pc := 299) (tgt := 306) dX11_asksOf_299 (by decide) (cmpZ_r) (fun c_299 => ?_) (fun c_299 => ?_)
                              · replace c_299 := cmpZ_ge.mp c_299
                                refine r_lload (pc := 306) 2 dX11_asksOf_306 rfl ?_
                                refine r_ldc2 (pc := 308) (x := 40) dX11_asksOf_308 kc_X11_278 (by decide) ?_
                                refine r_lcmp (pc := 311) (w := cmpZ ((mS (eK K day had c oth) true false tr).1) (40)) dX11_asksOf_311  (cmp_z (by omega) (by omega)) ?_
                                refine r_if_le (pc := 312) (tgt := 320) dX11_asksOf_312 (by decide) (cmpZ_r) (fun c_312 => ?_) (fun c_312 => ?_)
                                · replace c_312 := cmpZ_le.mp c_312
                                  refine r_lload (pc := 320) 2 dX11_asksOf_320 rfl ?_
                                  refine r_l2i (pc := 322) dX11_asksOf_322 ?_
                                  refine r_putI (pc := 323) dX11_asksOf_323 fl_X11_272 rfl rfl hM.k ?_
                                  refine r_aload_n (pc := 326) 4 dX11_asksOf_326 rfl rfl ?_
                                  refine r_dup (pc := 327) dX11_asksOf_327 rfl ?_
                                  refine r_getIv (pc := 328) (x := ((400 * fo + j1 : Nat) : Int)) dX11_asksOf_328 fl_X11_228 rfl hM.k (rdi (by decide) (rdi (by decide) (hG_238.xg))) ?_
                                  refine r_iconst (pc := 331) dX11_asksOf_331 ?_
                                  refine r_iadd (pc := 332) dX11_asksOf_332 ?_
                                  refine r_eqI (y := ((400 * fo + j1 + 1 : Nat) : Int)) (Int.natCast_add _ _ |>.symm) ?_
                                  refine r_putI (pc := 333) dX11_asksOf_333 fl_X11_228 rfl rfl hM.k ?_
                                  refine r_goto (pc := 336) (tgt := 156) dX11_asksOf_336 (by decide) ?_
                                  have hev : evT (eK K day had c oth) t2 = some true := by
                                    have h1 := Bool.eq_false_iff.mpr c_260
                                    rw [mT_n] at h1
                                    rcases hq : evT (eK K day had c oth) t2 with _ | w
                                    · rw [hq] at h1; cases h1
                                    · have := hv_238 rfl rfl w hq; rw [← this, c_241]
                                  have hc0 := clV_1 (e := (eK K day had c oth)) he2 hev
                                  have hcv : clV (eK K day had c oth) cl = some (mS (eK K day had c oth) true false tr).1 := by
                                    rw [hc0, if_pos hcw, hk0]
                                    rcases hq : evS (eK K day had c oth) tr with _ | x
                                    · rw [mS_n hq] at c_265; exact absurd rfl c_265
                                    · rw [mS_s hq]
                                  refine r_sub (L2 := [(0, (.ref 164)), (1, (.int (iI (((c : Nat) : Int))))), (2, (.int (iI (day)))), (3, (.int (iI (had)))), (4, (.int (iI (oth))))]) [4, 5, 6, 7, 8] rfl ?_
                                  have hnx2 := As_next hnx (fun i hi => hE.c0 hi) (fun i hi => by have := hE.lt hi; omega) hkE
                                  exact ih (T + 1 - (j1 + 1)) (by omega) (j1 + 1) _ (acc ++ [cl]) (by omega) ⟨fun a ha => by rw [stF_n _ _ _ ha, stF_n _ _ _ ha, stF_n _ _ _ ha, hG_238.1 a ha]; exact hA.1 a ha, fun i h1 h2 h3 h4 => by rw [stF_i _ _ _ h1, stF_i _ _ _ h3, stF_i _ _ _ h4, hG_238.2.1 i h1 h2]; exact hA.2.1 i h1 h2 h3 h4, stF_s _ _ _ _, ⟨(mT (eK K day had c oth) true false t2), rdi (by decide) (rdi (by decide) (rdi (by decide) (hG_238.xb)))⟩, (rdi (by decide) (stF_s _ _ _ _)).trans (by rw [wantsL_app, wstep_v hcw hcv]; unfold cl40; split <;> (try split) <;> omega), (rdi (by decide) (rdi (by decide) (stF_s _ _ _ _))).trans (by rw [waitsL_app, c_273]; rfl), by omega⟩ hnx2.2
                                · replace c_312 := cmpZ_gt.mp c_312
                                  refine r_bipush (pc := 315) dX11_asksOf_315 (by decide) ?_
                                  refine r_goto (pc := 317) (tgt := 323) dX11_asksOf_317 (by decide) ?_
                                  refine r_putI (pc := 323) dX11_asksOf_323 fl_X11_272 rfl rfl hM.k ?_
                                  refine r_aload_n (pc := 326) 4 dX11_asksOf_326 rfl rfl ?_
                                  refine r_dup (pc := 327) dX11_asksOf_327 rfl ?_
                                  refine r_getIv (pc := 328) (x := ((400 * fo + j1 : Nat) : Int)) dX11_asksOf_328 fl_X11_228 rfl hM.k (rdi (by decide) (rdi (by decide) (hG_238.xg))) ?_
                                  refine r_iconst (pc := 331) dX11_asksOf_331 ?_
                                  refine r_iadd (pc := 332) dX11_asksOf_332 ?_
                                  refine r_eqI (y := ((400 * fo + j1 + 1 : Nat) : Int)) (Int.natCast_add _ _ |>.symm) ?_
                                  refine r_putI (pc := 333) dX11_asksOf_333 fl_X11_228 rfl rfl hM.k ?_
                                  refine r_goto (pc := 336) (tgt := 156) dX11_asksOf_336 (by decide) ?_
                                  have hev : evT (eK K day had c oth) t2 = some true := by
                                    have h1 := Bool.eq_false_iff.mpr c_260
                                    rw [mT_n] at h1
                                    rcases hq : evT (eK K day had c oth) t2 with _ | w
                                    · rw [hq] at h1; cases h1
                                    · have := hv_238 rfl rfl w hq; rw [← this, c_241]
                                  have hc0 := clV_1 (e := (eK K day had c oth)) he2 hev
                                  have hcv : clV (eK K day had c oth) cl = some (mS (eK K day had c oth) true false tr).1 := by
                                    rw [hc0, if_pos hcw, hk0]
                                    rcases hq : evS (eK K day had c oth) tr with _ | x
                                    · rw [mS_n hq] at c_265; exact absurd rfl c_265
                                    · rw [mS_s hq]
                                  refine r_sub (L2 := [(0, (.ref 164)), (1, (.int (iI (((c : Nat) : Int))))), (2, (.int (iI (day)))), (3, (.int (iI (had)))), (4, (.int (iI (oth))))]) [4, 5, 6, 7, 8] rfl ?_
                                  have hnx2 := As_next hnx (fun i hi => hE.c0 hi) (fun i hi => by have := hE.lt hi; omega) hkE
                                  exact ih (T + 1 - (j1 + 1)) (by omega) (j1 + 1) _ (acc ++ [cl]) (by omega) ⟨fun a ha => by rw [stF_n _ _ _ ha, stF_n _ _ _ ha, stF_n _ _ _ ha, hG_238.1 a ha]; exact hA.1 a ha, fun i h1 h2 h3 h4 => by rw [stF_i _ _ _ h1, stF_i _ _ _ h3, stF_i _ _ _ h4, hG_238.2.1 i h1 h2]; exact hA.2.1 i h1 h2 h3 h4, stF_s _ _ _ _, ⟨(mT (eK K day had c oth) true false t2), rdi (by decide) (rdi (by decide) (rdi (by decide) (hG_238.xb)))⟩, (rdi (by decide) (stF_s _ _ _ _)).trans (by rw [wantsL_app, wstep_v hcw hcv]; unfold cl40; split <;> (try split) <;> omega), (rdi (by decide) (rdi (by decide) (stF_s _ _ _ _))).trans (by rw [waitsL_app, c_273]; rfl), by omega⟩ hnx2.2
                              · replace c_299 := cmpZ_lt.mp c_299
                                refine r_iconst (pc := 302) dX11_asksOf_302 ?_
                                refine r_goto (pc := 303) (tgt := 323) dX11_asksOf_303 (by decide) ?_
                                refine r_putI (pc := 323) dX11_asksOf_323 fl_X11_272 rfl rfl hM.k ?_
                                refine r_aload_n (pc := 326) 4 dX11_asksOf_326 rfl rfl ?_
                                refine r_dup (pc := 327) dX11_asksOf_327 rfl ?_
                                refine r_getIv (pc := 328) (x := ((400 * fo + j1 : Nat) : Int)) dX11_asksOf_328 fl_X11_228 rfl hM.k (rdi (by decide) (rdi (by decide) (hG_238.xg))) ?_
                                refine r_iconst (pc := 331) dX11_asksOf_331 ?_
                                refine r_iadd (pc := 332) dX11_asksOf_332 ?_
                                refine r_eqI (y := ((400 * fo + j1 + 1 : Nat) : Int)) (Int.natCast_add _ _ |>.symm) ?_
                                refine r_putI (pc := 333) dX11_asksOf_333 fl_X11_228 rfl rfl hM.k ?_
                                refine r_goto (pc := 336) (tgt := 156) dX11_asksOf_336 (by decide) ?_
                                have hev : evT (eK K day had c oth) t2 = some true := by
                                  have h1 := Bool.eq_false_iff.mpr c_260
                                  rw [mT_n] at h1
                                  rcases hq : evT (eK K day had c oth) t2 with _ | w
                                  · rw [hq] at h1; cases h1
                                  · have := hv_238 rfl rfl w hq; rw [← this, c_241]
                                have hc0 := clV_1 (e := (eK K day had c oth)) he2 hev
                                have hcv : clV (eK K day had c oth) cl = some (mS (eK K day had c oth) true false tr).1 := by
                                  rw [hc0, if_pos hcw, hk0]
                                  rcases hq : evS (eK K day had c oth) tr with _ | x
                                  · rw [mS_n hq] at c_265; exact absurd rfl c_265
                                  · rw [mS_s hq]
                                refine r_sub (L2 := [(0, (.ref 164)), (1, (.int (iI (((c : Nat) : Int))))), (2, (.int (iI (day)))), (3, (.int (iI (had)))), (4, (.int (iI (oth))))]) [4, 5, 6, 7, 8] rfl ?_
                                have hnx2 := As_next hnx (fun i hi => hE.c0 hi) (fun i hi => by have := hE.lt hi; omega) hkE
                                exact ih (T + 1 - (j1 + 1)) (by omega) (j1 + 1) _ (acc ++ [cl]) (by omega) ⟨fun a ha => by rw [stF_n _ _ _ ha, stF_n _ _ _ ha, stF_n _ _ _ ha, hG_238.1 a ha]; exact hA.1 a ha, fun i h1 h2 h3 h4 => by rw [stF_i _ _ _ h1, stF_i _ _ _ h3, stF_i _ _ _ h4, hG_238.2.1 i h1 h2]; exact hA.2.1 i h1 h2 h3 h4, stF_s _ _ _ _, ⟨(mT (eK K day had c oth) true false t2), rdi (by decide) (rdi (by decide) (rdi (by decide) (hG_238.xb)))⟩, (rdi (by decide) (stF_s _ _ _ _)).trans (by rw [wantsL_app, wstep_v hcw hcv]; unfold cl40; split <;> (try split) <;> omega), (rdi (by decide) (rdi (by decide) (stF_s _ _ _ _))).trans (by rw [waitsL_app, c_273]; rfl), by omega⟩ hnx2.2
                          · replace c_273 := b01_z c_273
                            refine r_iload (pc := 276) 3 dX11_asksOf_276 rfl ?_
                            refine r_if_eq (pc := 278) (tgt := 285) dX11_asksOf_278 (by decide) (by omega) (fun c_278 => ?_) (fun c_278 => ?_)
                            · refine r_iconst (pc := 285) dX11_asksOf_285 ?_
                              refine r_putB (pc := 286) dX11_asksOf_286 fl_X11_275 rfl rfl (by omega) hM.k ?_
                              refine r_iload (pc := 289) 3 dX11_asksOf_289 rfl ?_
                              refine r_if_ne (pc := 291) (tgt := 326) dX11_asksOf_291 (by decide) (by omega) (fun c_291 => ?_) (fun c_291 => ?_)
                              · exact absurd c_291 (by decide)
                              · refine r_aload_n (pc := 294) 4 dX11_asksOf_294 rfl rfl ?_
                                refine r_lload (pc := 295) 2 dX11_asksOf_295 rfl ?_
                                refine r_lconst (pc := 297) (x := 0) dX11_asksOf_297 (by decide) ?_
                                refine r_lcmp (pc := 298) (w := cmpZ ((mS (eK K day had c oth) true false tr).1) (0)) dX11_asksOf_298  (cmp_z (by omega) (by omega)) ?_
                                refine r_if_ge (pc := 299) (tgt := 306) dX11_asksOf_299 (by decide) (cmpZ_r) (fun c_299 => ?_) (fun c_299 => ?_)
                                · replace c_299 := cmpZ_ge.mp c_299
                                  refine r_lload (pc := 306) 2 dX11_asksOf_306 rfl ?_
                                  refine r_ldc2 (pc := 308) (x := 40) dX11_asksOf_308 kc_X11_278 (by decide) ?_
                                  refine r_lcmp (pc := 311) (w := cmpZ ((mS (eK K day had c oth) true false tr).1) (40)) dX11_asksOf_311  (cmp_z (by omega) (by omega)) ?_
                                  refine r_if_le (pc := 312) (tgt := 320) dX11_asksOf_312 (by decide) (cmpZ_r) (fun c_312 => ?_) (fun c_312 => ?_)
                                  · replace c_312 := cmpZ_le.mp c_312
                                    refine r_lload (pc := 320) 2 dX11_asksOf_320 rfl ?_
                                    refine r_l2i (pc := 322) dX11_asksOf_322 ?_
                                    refine r_putI (pc := 323) dX11_asksOf_323 fl_X11_272 rfl rfl hM.k ?_
                                    refine r_aload_n (pc := 326) 4 dX11_asksOf_326 rfl rfl ?_
                                    refine r_dup (pc := 327) dX11_asksOf_327 rfl ?_
                                    refine r_getIv (pc := 328) (x := ((400 * fo + j1 : Nat) : Int)) dX11_asksOf_328 fl_X11_228 rfl hM.k (rdi (by decide) (rdi (by decide) (hG_238.xg))) ?_
                                    refine r_iconst (pc := 331) dX11_asksOf_331 ?_
                                    refine r_iadd (pc := 332) dX11_asksOf_332 ?_
                                    refine r_eqI (y := ((400 * fo + j1 + 1 : Nat) : Int)) (Int.natCast_add _ _ |>.symm) ?_
                                    refine r_putI (pc := 333) dX11_asksOf_333 fl_X11_228 rfl rfl hM.k ?_
                                    refine r_goto (pc := 336) (tgt := 156) dX11_asksOf_336 (by decide) ?_
                                    have hev : evT (eK K day had c oth) t2 = some true := by
                                      have h1 := Bool.eq_false_iff.mpr c_260
                                      rw [mT_n] at h1
                                      rcases hq : evT (eK K day had c oth) t2 with _ | w
                                      · rw [hq] at h1; cases h1
                                      · have := hv_238 rfl rfl w hq; rw [← this, c_241]
                                    have hc0 := clV_1 (e := (eK K day had c oth)) he2 hev
                                    have hcv : clV (eK K day had c oth) cl = some (mS (eK K day had c oth) true false tr).1 := by
                                      rw [hc0, if_pos hcw, hk0]
                                      rcases hq : evS (eK K day had c oth) tr with _ | x
                                      · rw [mS_n hq] at c_265; exact absurd rfl c_265
                                      · rw [mS_s hq]
                                    refine r_sub (L2 := [(0, (.ref 164)), (1, (.int (iI (((c : Nat) : Int))))), (2, (.int (iI (day)))), (3, (.int (iI (had)))), (4, (.int (iI (oth))))]) [4, 5, 6, 7, 8] rfl ?_
                                    have hnx2 := As_next hnx (fun i hi => hE.c0 hi) (fun i hi => by have := hE.lt hi; omega) hkE
                                    exact ih (T + 1 - (j1 + 1)) (by omega) (j1 + 1) _ (acc ++ [cl]) (by omega) ⟨fun a ha => by rw [stF_n _ _ _ ha, stF_n _ _ _ ha, stF_n _ _ _ ha, hG_238.1 a ha]; exact hA.1 a ha, fun i h1 h2 h3 h4 => by rw [stF_i _ _ _ h1, stF_i _ _ _ h3, stF_i _ _ _ h4, hG_238.2.1 i h1 h2]; exact hA.2.1 i h1 h2 h3 h4, stF_s _ _ _ _, ⟨(mT (eK K day had c oth) true false t2), rdi (by decide) (rdi (by decide) (rdi (by decide) (hG_238.xb)))⟩, (rdi (by decide) (stF_s _ _ _ _)).trans (by rw [wantsL_app, wstep_v hcw hcv]; unfold cl40; split <;> (try split) <;> omega), (rdi (by decide) (rdi (by decide) (stF_s _ _ _ _))).trans (by rw [waitsL_app, Bool.eq_false_iff.mpr c_273, hcw]; simp [b01]), by omega⟩ hnx2.2
                                  · replace c_312 := cmpZ_gt.mp c_312
                                    refine r_bipush (pc := 315) dX11_asksOf_315 (by decide) ?_
                                    refine r_goto (pc := 317) (tgt := 323) dX11_asksOf_317 (by decide) ?_
                                    refine r_putI (pc := 323) dX11_asksOf_323 fl_X11_272 rfl rfl hM.k ?_
                                    refine r_aload_n (pc := 326) 4 dX11_asksOf_326 rfl rfl ?_
                                    refine r_dup (pc := 327) dX11_asksOf_327 rfl ?_
                                    refine r_getIv (pc := 328) (x := ((400 * fo + j1 : Nat) : Int)) dX11_asksOf_328 fl_X11_228 rfl hM.k (rdi (by decide) (rdi (by decide) (hG_238.xg))) ?_
                                    refine r_iconst (pc := 331) dX11_asksOf_331 ?_
                                    refine r_iadd (pc := 332) dX11_asksOf_332 ?_
                                    refine r_eqI (y := ((400 * fo + j1 + 1 : Nat) : Int)) (Int.natCast_add _ _ |>.symm) ?_
                                    refine r_putI (pc := 333) dX11_asksOf_333 fl_X11_228 rfl rfl hM.k ?_
                                    refine r_goto (pc := 336) (tgt := 156) dX11_asksOf_336 (by decide) ?_
                                    have hev : evT (eK K day had c oth) t2 = some true := by
                                      have h1 := Bool.eq_false_iff.mpr c_260
                                      rw [mT_n] at h1
                                      rcases hq : evT (eK K day had c oth) t2 with _ | w
                                      · rw [hq] at h1; cases h1
                                      · have := hv_238 rfl rfl w hq; rw [← this, c_241]
                                    have hc0 := clV_1 (e := (eK K day had c oth)) he2 hev
                                    have hcv : clV (eK K day had c oth) cl = some (mS (eK K day had c oth) true false tr).1 := by
                                      rw [hc0, if_pos hcw, hk0]
                                      rcases hq : evS (eK K day had c oth) tr with _ | x
                                      · rw [mS_n hq] at c_265; exact absurd rfl c_265
                                      · rw [mS_s hq]
                                    refine r_sub (L2 := [(0, (.ref 164)), (1, (.int (iI (((c : Nat) : Int))))), (2, (.int (iI (day)))), (3, (.int (iI (had)))), (4, (.int (iI (oth))))]) [4, 5, 6, 7, 8] rfl ?_
                                    have hnx2 := As_next hnx (fun i hi => hE.c0 hi) (fun i hi => by have := hE.lt hi; omega) hkE
                                    exact ih (T + 1 - (j1 + 1)) (by omega) (j1 + 1) _ (acc ++ [cl]) (by omega) ⟨fun a ha => by rw [stF_n _ _ _ ha, stF_n _ _ _ ha, stF_n _ _ _ ha, hG_238.1 a ha]; exact hA.1 a ha, fun i h1 h2 h3 h4 => by rw [stF_i _ _ _ h1, stF_i _ _ _ h3, stF_i _ _ _ h4, hG_238.2.1 i h1 h2]; exact hA.2.1 i h1 h2 h3 h4, stF_s _ _ _ _, ⟨(mT (eK K day had c oth) true false t2), rdi (by decide) (rdi (by decide) (rdi (by decide) (hG_238.xb)))⟩, (rdi (by decide) (stF_s _ _ _ _)).trans (by rw [wantsL_app, wstep_v hcw hcv]; unfold cl40; split <;> (try split) <;> omega), (rdi (by decide) (rdi (by decide) (stF_s _ _ _ _))).trans (by rw [waitsL_app, Bool.eq_false_iff.mpr c_273, hcw]; simp [b01]), by omega⟩ hnx2.2
                                · replace c_299 := cmpZ_lt.mp c_299
                                  refine r_iconst (pc := 302) dX11_asksOf_302 ?_
                                  refine r_goto (pc := 303) (tgt := 323) dX11_asksOf_303 (by decide) ?_
                                  refine r_putI (pc := 323) dX11_asksOf_323 fl_X11_272 rfl rfl hM.k ?_
                                  refine r_aload_n (pc := 326) 4 dX11_asksOf_326 rfl rfl ?_
                                  refine r_dup (pc := 327) dX11_asksOf_327 rfl ?_
                                  refine r_getIv (pc := 328) (x := ((400 * fo + j1 : Nat) : Int)) dX11_asksOf_328 fl_X11_228 rfl hM.k (rdi (by decide) (rdi (by decide) (hG_238.xg))) ?_
                                  refine r_iconst (pc := 331) dX11_asksOf_331 ?_
                                  refine r_iadd (pc := 332) dX11_asksOf_332 ?_
                                  refine r_eqI (y := ((400 * fo + j1 + 1 : Nat) : Int)) (Int.natCast_add _ _ |>.symm) ?_
                                  refine r_putI (pc := 333) dX11_asksOf_333 fl_X11_228 rfl rfl hM.k ?_
                                  refine r_goto (pc := 336) (tgt := 156) dX11_asksOf_336 (by decide) ?_
                                  have hev : evT (eK K day had c oth) t2 = some true := by
                                    have h1 := Bool.eq_false_iff.mpr c_260
                                    rw [mT_n] at h1
                                    rcases hq : evT (eK K day had c oth) t2 with _ | w
                                    · rw [hq] at h1; cases h1
                                    · have := hv_238 rfl rfl w hq; rw [← this, c_241]
                                  have hc0 := clV_1 (e := (eK K day had c oth)) he2 hev
                                  have hcv : clV (eK K day had c oth) cl = some (mS (eK K day had c oth) true false tr).1 := by
                                    rw [hc0, if_pos hcw, hk0]
                                    rcases hq : evS (eK K day had c oth) tr with _ | x
                                    · rw [mS_n hq] at c_265; exact absurd rfl c_265
                                    · rw [mS_s hq]
                                  refine r_sub (L2 := [(0, (.ref 164)), (1, (.int (iI (((c : Nat) : Int))))), (2, (.int (iI (day)))), (3, (.int (iI (had)))), (4, (.int (iI (oth))))]) [4, 5, 6, 7, 8] rfl ?_
                                  have hnx2 := As_next hnx (fun i hi => hE.c0 hi) (fun i hi => by have := hE.lt hi; omega) hkE
                                  exact ih (T + 1 - (j1 + 1)) (by omega) (j1 + 1) _ (acc ++ [cl]) (by omega) ⟨fun a ha => by rw [stF_n _ _ _ ha, stF_n _ _ _ ha, stF_n _ _ _ ha, hG_238.1 a ha]; exact hA.1 a ha, fun i h1 h2 h3 h4 => by rw [stF_i _ _ _ h1, stF_i _ _ _ h3, stF_i _ _ _ h4, hG_238.2.1 i h1 h2]; exact hA.2.1 i h1 h2 h3 h4, stF_s _ _ _ _, ⟨(mT (eK K day had c oth) true false t2), rdi (by decide) (rdi (by decide) (rdi (by decide) (hG_238.xb)))⟩, (rdi (by decide) (stF_s _ _ _ _)).trans (by rw [wantsL_app, wstep_v hcw hcv]; unfold cl40; split <;> (try split) <;> omega), (rdi (by decide) (rdi (by decide) (stF_s _ _ _ _))).trans (by rw [waitsL_app, Bool.eq_false_iff.mpr c_273, hcw]; simp [b01]), by omega⟩ hnx2.2
                            · exact absurd c_278 (by decide)
              · refine r_if_eq (pc := 233) (tgt := 244) dX11_asksOf_233 (by decide) (by omega) (fun c_233 => ?_) (fun c_233 => ?_)
                · refine r_iconst (pc := 244) dX11_asksOf_244 ?_
                  refine r_goto (pc := 245) (tgt := 249) dX11_asksOf_245 (by decide) ?_
                  refine r_istore (pc := 249) (L2 := [(9, (.int (iI (1)))), (8, (.int (iI (b01 ((mS (eK K day had c oth) true false tr).2 = true))))), (6, (.long (lI ((mS (eK K day had c oth) true false tr).1)))), (5, (.int (iI (0)))), (0, (.ref 164)), (1, (.int (iI (((c : Nat) : Int))))), (2, (.int (iI (day)))), (3, (.int (iI (had)))), (4, (.int (iI (oth))))]) dX11_asksOf_249 (by decide) rfl ?_
                  refine r_iload (pc := 251) 0 dX11_asksOf_251 rfl ?_
                  refine r_if_eq (pc := 253) (tgt := 326) dX11_asksOf_253 (by decide) (by omega) (fun c_253 => ?_) (fun c_253 => ?_)
                  · exact absurd c_253 (by decide)
                  · refine r_aload_n (pc := 256) 4 dX11_asksOf_256 rfl rfl ?_
                    refine r_getIv (pc := 257) (x := 0) dX11_asksOf_257 fl_X11_238 rfl hM.k (stF_s _ _ _ _) ?_
                    refine r_if_ne (pc := 260) (tgt := 326) dX11_asksOf_260 (by decide) (by omega) (fun c_260 => ?_) (fun c_260 => ?_)
                    · exact absurd c_260 (by decide)
                    · refine r_iload (pc := 263) 1 dX11_asksOf_263 rfl ?_
                      refine r_if_ne (pc := 265) (tgt := 326) dX11_asksOf_265 (by decide) (b01_r) (fun c_265 => ?_) (fun c_265 => ?_)
                      · replace c_265 := b01_nz c_265
                        refine r_aload_n (pc := 326) 4 dX11_asksOf_326 rfl rfl ?_
                        refine r_dup (pc := 327) dX11_asksOf_327 rfl ?_
                        refine r_getIv (pc := 328) (x := ((400 * fo + j0 : Nat) : Int)) dX11_asksOf_328 fl_X11_228 rfl hM.k (rdi (by decide) (hG_212.xg)) ?_
                        refine r_iconst (pc := 331) dX11_asksOf_331 ?_
                        refine r_iadd (pc := 332) dX11_asksOf_332 ?_
                        refine r_eqI (y := ((400 * fo + j0 + 1 : Nat) : Int)) (Int.natCast_add _ _ |>.symm) ?_
                        refine r_putI (pc := 333) dX11_asksOf_333 fl_X11_228 rfl rfl hM.k ?_
                        refine r_goto (pc := 336) (tgt := 156) dX11_asksOf_336 (by decide) ?_
                        have hj1 : j1 = j0 ∧ cl.2.2 = none := by rcases hk2 with h | h; exact ⟨h.2.2, h.2.1⟩; exact absurd h.1 hc_230
                        obtain ⟨rfl, hc2n⟩ := hj1
                        have hc0 := clV_0 (e := (eK K day had c oth)) hc2n
                        have hcv : clV (eK K day had c oth) cl = none := by
                          rw [hc0, if_pos hcw, hk0]
                          rcases hq : evS (eK K day had c oth) tr with _ | x
                          · rfl
                          · rw [mS_s hq] at c_265; cases c_265
                        refine r_sub (L2 := [(0, (.ref 164)), (1, (.int (iI (((c : Nat) : Int))))), (2, (.int (iI (day)))), (3, (.int (iI (had)))), (4, (.int (iI (oth))))]) [4, 5, 6, 7, 8] rfl ?_
                        have hnx2 := As_next hnx (fun i hi => hE.c0 hi) (fun i hi => by have := hE.lt hi; omega) hkE
                        exact ih (T + 1 - (j1 + 1)) (by omega) (j1 + 1) _ (acc ++ [cl]) (by omega) ⟨fun a ha => by rw [stF_n _ _ _ ha, stF_n _ _ _ ha, hG_212.1 a ha]; exact hA.1 a ha, fun i h1 h2 h3 h4 => by rw [stF_i _ _ _ h1, stF_i _ _ _ h2, hG_212.2.1 i h1 h2]; exact hA.2.1 i h1 h2 h3 h4, stF_s _ _ _ _, ⟨false, rdi (by decide) (stF_s _ _ _ _)⟩, (rdi (by decide) (rdi (by decide) ((hG_212.2.1 22 (by decide) (by decide)).trans h22))).trans (by rw [wantsL_app, wstep_n hcv]), (rdi (by decide) (rdi (by decide) ((hG_212.2.1 23 (by decide) (by decide)).trans h23))).trans (by rw [waitsL_app, hcv]; simp), by omega⟩ hnx2.2
                      · replace c_265 := b01_z c_265
                        refine r_aload_n (pc := 268) 4 dX11_asksOf_268 rfl rfl ?_
                        refine r_aload_n (pc := 269) 4 dX11_asksOf_269 rfl rfl ?_
                        refine r_getIv (pc := 270) (x := b01 (waitsL (eK K day had c oth) acc = true)) dX11_asksOf_270 fl_X11_275 rfl hM.k (rdi (by decide) ((hG_212.2.1 23 (by decide) (by decide)).trans h23)) ?_
                        refine r_if_ne (pc := 273) (tgt := 281) dX11_asksOf_273 (by decide) (b01_r) (fun c_273 => ?_) (fun c_273 => ?_)
                        · replace c_273 := b01_nz c_273
                          refine r_iconst (pc := 281) dX11_asksOf_281 ?_
                          refine r_goto (pc := 282) (tgt := 286) dX11_asksOf_282 (by decide) ?_
                          refine r_putB (pc := 286) dX11_asksOf_286 fl_X11_275 rfl rfl (by omega) hM.k ?_
                          refine r_iload (pc := 289) 3 dX11_asksOf_289 rfl ?_
                          refine r_if_ne (pc := 291) (tgt := 326) dX11_asksOf_291 (by decide) (by omega) (fun c_291 => ?_) (fun c_291 => ?_)
                          · exact absurd c_291 (by decide)
                          · refine r_aload_n (pc := 294) 4 dX11_asksOf_294 rfl rfl ?_
                            refine r_lload (pc := 295) 2 dX11_asksOf_295 rfl ?_
                            refine r_lconst (pc := 297) (x := 0) dX11_asksOf_297 (by decide) ?_
                            refine r_lcmp (pc := 298) (w := cmpZ ((mS (eK K day had c oth) true false tr).1) (0)) dX11_asksOf_298  (cmp_z (by omega) (by omega)) ?_
                            refine r_if_ge (pc := 299) (tgt := 306) dX11_asksOf_299 (by decide) (cmpZ_r) (fun c_299 => ?_) (fun c_299 => ?_)
                            · replace c_299 := cmpZ_ge.mp c_299
                              refine r_lload (pc := 306) 2 dX11_asksOf_306 rfl ?_
                              refine r_ldc2 (pc := 308) (x := 40) dX11_asksOf_308 kc_X11_278 (by decide) ?_
                              refine r_lcmp (pc := 311) (w := cmpZ ((mS (eK K day had c oth) true false tr).1) (40)) dX11_asksOf_311  (cmp_z (by omega) (by omega)) ?_
                              refine r_if_le (pc := 312) (tgt := 320) dX11_asksOf_312 (by decide) (cmpZ_r) (fun c_312 => ?_) (fun c_312 => ?_)
                              · replace c_312 := cmpZ_le.mp c_312
                                refine r_lload (pc := 320) 2 dX11_asksOf_320 rfl ?_
                                refine r_l2i (pc := 322) dX11_asksOf_322 ?_
                                refine r_putI (pc := 323) dX11_asksOf_323 fl_X11_272 rfl rfl hM.k ?_
                                refine r_aload_n (pc := 326) 4 dX11_asksOf_326 rfl rfl ?_
                                refine r_dup (pc := 327) dX11_asksOf_327 rfl ?_
                                refine r_getIv (pc := 328) (x := ((400 * fo + j0 : Nat) : Int)) dX11_asksOf_328 fl_X11_228 rfl hM.k (rdi (by decide) (rdi (by decide) (rdi (by decide) (hG_212.xg)))) ?_
                                refine r_iconst (pc := 331) dX11_asksOf_331 ?_
                                refine r_iadd (pc := 332) dX11_asksOf_332 ?_
                                refine r_eqI (y := ((400 * fo + j0 + 1 : Nat) : Int)) (Int.natCast_add _ _ |>.symm) ?_
                                refine r_putI (pc := 333) dX11_asksOf_333 fl_X11_228 rfl rfl hM.k ?_
                                refine r_goto (pc := 336) (tgt := 156) dX11_asksOf_336 (by decide) ?_
                                have hj1 : j1 = j0 ∧ cl.2.2 = none := by rcases hk2 with h | h; exact ⟨h.2.2, h.2.1⟩; exact absurd h.1 hc_230
                                obtain ⟨rfl, hc2n⟩ := hj1
                                have hc0 := clV_0 (e := (eK K day had c oth)) hc2n
                                have hcv : clV (eK K day had c oth) cl = some (mS (eK K day had c oth) true false tr).1 := by
                                  rw [hc0, if_pos hcw, hk0]
                                  rcases hq : evS (eK K day had c oth) tr with _ | x
                                  · rw [mS_n hq] at c_265; exact absurd rfl c_265
                                  · rw [mS_s hq]
                                refine r_sub (L2 := [(0, (.ref 164)), (1, (.int (iI (((c : Nat) : Int))))), (2, (.int (iI (day)))), (3, (.int (iI (had)))), (4, (.int (iI (oth))))]) [4, 5, 6, 7, 8] rfl ?_
                                have hnx2 := As_next hnx (fun i hi => hE.c0 hi) (fun i hi => by have := hE.lt hi; omega) hkE
                                exact ih (T + 1 - (j1 + 1)) (by omega) (j1 + 1) _ (acc ++ [cl]) (by omega) ⟨fun a ha => by rw [stF_n _ _ _ ha, stF_n _ _ _ ha, stF_n _ _ _ ha, stF_n _ _ _ ha, hG_212.1 a ha]; exact hA.1 a ha, fun i h1 h2 h3 h4 => by rw [stF_i _ _ _ h1, stF_i _ _ _ h3, stF_i _ _ _ h4, stF_i _ _ _ h2, hG_212.2.1 i h1 h2]; exact hA.2.1 i h1 h2 h3 h4, stF_s _ _ _ _, ⟨false, rdi (by decide) (rdi (by decide) (rdi (by decide) (stF_s _ _ _ _)))⟩, (rdi (by decide) (stF_s _ _ _ _)).trans (by rw [wantsL_app, wstep_v hcw hcv]; unfold cl40; split <;> (try split) <;> omega), (rdi (by decide) (rdi (by decide) (stF_s _ _ _ _))).trans (by rw [waitsL_app, c_273]; rfl), by omega⟩ hnx2.2
                              · replace c_312 := cmpZ_gt.mp c_312
                                refine r_bipush (pc := 315) dX11_asksOf_315 (by decide) ?_
                                refine r_goto (pc := 317) (tgt := 323) dX11_asksOf_317 (by decide) ?_
                                refine r_putI (pc := 323) dX11_asksOf_323 fl_X11_272 rfl rfl hM.k ?_
                                refine r_aload_n (pc := 326) 4 dX11_asksOf_326 rfl rfl ?_
                                refine r_dup (pc := 327) dX11_asksOf_327 rfl ?_
                                refine r_getIv (pc := 328) (x := ((400 * fo + j0 : Nat) : Int)) dX11_asksOf_328 fl_X11_228 rfl hM.k (rdi (by decide) (rdi (by decide) (rdi (by decide) (hG_212.xg)))) ?_
                                refine r_iconst (pc := 331) dX11_asksOf_331 ?_
                                refine r_iadd (pc := 332) dX11_asksOf_332 ?_
                                refine r_eqI (y := ((400 * fo + j0 + 1 : Nat) : Int)) (Int.natCast_add _ _ |>.symm) ?_
                                refine r_putI (pc := 333) dX11_asksOf_333 fl_X11_228 rfl rfl hM.k ?_
                                refine r_goto (pc := 336) (tgt := 156) dX11_asksOf_336 (by decide) ?_
                                have hj1 : j1 = j0 ∧ cl.2.2 = none := by rcases hk2 with h | h; exact ⟨h.2.2, h.2.1⟩; exact absurd h.1 hc_230
                                obtain ⟨rfl, hc2n⟩ := hj1
                                have hc0 := clV_0 (e := (eK K day had c oth)) hc2n
                                have hcv : clV (eK K day had c oth) cl = some (mS (eK K day had c oth) true false tr).1 := by
                                  rw [hc0, if_pos hcw, hk0]
                                  rcases hq : evS (eK K day had c oth) tr with _ | x
                                  · rw [mS_n hq] at c_265; exact absurd rfl c_265
                                  · rw [mS_s hq]
                                refine r_sub (L2 := [(0, (.ref 164)), (1, (.int (iI (((c : Nat) : Int))))), (2, (.int (iI (day)))), (3, (.int (iI (had)))), (4, (.int (iI (oth))))]) [4, 5, 6, 7, 8] rfl ?_
                                have hnx2 := As_next hnx (fun i hi => hE.c0 hi) (fun i hi => by have := hE.lt hi; omega) hkE
                                exact ih (T + 1 - (j1 + 1)) (by omega) (j1 + 1) _ (acc ++ [cl]) (by omega) ⟨fun a ha => by rw [stF_n _ _ _ ha, stF_n _ _ _ ha, stF_n _ _ _ ha, stF_n _ _ _ ha, hG_212.1 a ha]; exact hA.1 a ha, fun i h1 h2 h3 h4 => by rw [stF_i _ _ _ h1, stF_i _ _ _ h3, stF_i _ _ _ h4, stF_i _ _ _ h2, hG_212.2.1 i h1 h2]; exact hA.2.1 i h1 h2 h3 h4, stF_s _ _ _ _, ⟨false, rdi (by decide) (rdi (by decide) (rdi (by decide) (stF_s _ _ _ _)))⟩, (rdi (by decide) (stF_s _ _ _ _)).trans (by rw [wantsL_app, wstep_v hcw hcv]; unfold cl40; split <;> (try split) <;> omega), (rdi (by decide) (rdi (by decide) (stF_s _ _ _ _))).trans (by rw [waitsL_app, c_273]; rfl), by omega⟩ hnx2.2
                            · replace c_299 := cmpZ_lt.mp c_299
                              refine r_iconst (pc := 302) dX11_asksOf_302 ?_
                              refine r_goto (pc := 303) (tgt := 323) dX11_asksOf_303 (by decide) ?_
                              refine r_putI (pc := 323) dX11_asksOf_323 fl_X11_272 rfl rfl hM.k ?_
                              refine r_aload_n (pc := 326) 4 dX11_asksOf_326 rfl rfl ?_
                              refine r_dup (pc := 327) dX11_asksOf_327 rfl ?_
                              refine r_getIv (pc := 328) (x := ((400 * fo + j0 : Nat) : Int)) dX11_asksOf_328 fl_X11_228 rfl hM.k (rdi (by decide) (rdi (by decide) (rdi (by decide) (hG_212.xg)))) ?_
                              refine r_iconst (pc := 331) dX11_asksOf_331 ?_
                              refine r_iadd (pc := 332) dX11_asksOf_332 ?_
                              refine r_eqI (y := ((400 * fo + j0 + 1 : Nat) : Int)) (Int.natCast_add _ _ |>.symm) ?_
                              refine r_putI (pc := 333) dX11_asksOf_333 fl_X11_228 rfl rfl hM.k ?_
                              refine r_goto (pc := 336) (tgt := 156) dX11_asksOf_336 (by decide) ?_
                              have hj1 : j1 = j0 ∧ cl.2.2 = none := by rcases hk2 with h | h; exact ⟨h.2.2, h.2.1⟩; exact absurd h.1 hc_230
                              obtain ⟨rfl, hc2n⟩ := hj1
                              have hc0 := clV_0 (e := (eK K day had c oth)) hc2n
                              have hcv : clV (eK K day had c oth) cl = some (mS (eK K day had c oth) true false tr).1 := by
                                rw [hc0, if_pos hcw, hk0]
                                rcases hq : evS (eK K day had c oth) tr with _ | x
                                · rw [mS_n hq] at c_265; exact absurd rfl c_265
                                · rw [mS_s hq]
                              refine r_sub (L2 := [(0, (.ref 164)), (1, (.int (iI (((c : Nat) : Int))))), (2, (.int (iI (day)))), (3, (.int (iI (had)))), (4, (.int (iI (oth))))]) [4, 5, 6, 7, 8] rfl ?_
                              have hnx2 := As_next hnx (fun i hi => hE.c0 hi) (fun i hi => by have := hE.lt hi; omega) hkE
                              exact ih (T + 1 - (j1 + 1)) (by omega) (j1 + 1) _ (acc ++ [cl]) (by omega) ⟨fun a ha => by rw [stF_n _ _ _ ha, stF_n _ _ _ ha, stF_n _ _ _ ha, stF_n _ _ _ ha, hG_212.1 a ha]; exact hA.1 a ha, fun i h1 h2 h3 h4 => by rw [stF_i _ _ _ h1, stF_i _ _ _ h3, stF_i _ _ _ h4, stF_i _ _ _ h2, hG_212.2.1 i h1 h2]; exact hA.2.1 i h1 h2 h3 h4, stF_s _ _ _ _, ⟨false, rdi (by decide) (rdi (by decide) (rdi (by decide) (stF_s _ _ _ _)))⟩, (rdi (by decide) (stF_s _ _ _ _)).trans (by rw [wantsL_app, wstep_v hcw hcv]; unfold cl40; split <;> (try split) <;> omega), (rdi (by decide) (rdi (by decide) (stF_s _ _ _ _))).trans (by rw [waitsL_app, c_273]; rfl), by omega⟩ hnx2.2
                        · replace c_273 := b01_z c_273
                          refine r_iload (pc := 276) 3 dX11_asksOf_276 rfl ?_
                          refine r_if_eq (pc := 278) (tgt := 285) dX11_asksOf_278 (by decide) (by omega) (fun c_278 => ?_) (fun c_278 => ?_)
                          · refine r_iconst (pc := 285) dX11_asksOf_285 ?_
                            refine r_putB (pc := 286) dX11_asksOf_286 fl_X11_275 rfl rfl (by omega) hM.k ?_
                            refine r_iload (pc := 289) 3 dX11_asksOf_289 rfl ?_
                            refine r_if_ne (pc := 291) (tgt := 326) dX11_asksOf_291 (by decide) (by omega) (fun c_291 => ?_) (fun c_291 => ?_)
                            · exact absurd c_291 (by decide)
                            · refine r_aload_n (pc := 294) 4 dX11_asksOf_294 rfl rfl ?_
                              refine r_lload (pc := 295) 2 dX11_asksOf_295 rfl ?_
                              refine r_lconst (pc := 297) (x := 0) dX11_asksOf_297 (by decide) ?_
                              refine r_lcmp (pc := 298) (w := cmpZ ((mS (eK K day had c oth) true false tr).1) (0)) dX11_asksOf_298  (cmp_z (by omega) (by omega)) ?_
                              refine r_if_ge (pc := 299) (tgt := 306) dX11_asksOf_299 (by decide) (cmpZ_r) (fun c_299 => ?_) (fun c_299 => ?_)
                              · replace c_299 := cmpZ_ge.mp c_299
                                refine r_lload (pc := 306) 2 dX11_asksOf_306 rfl ?_
                                refine r_ldc2 (pc := 308) (x := 40) dX11_asksOf_308 kc_X11_278 (by decide) ?_
                                refine r_lcmp (pc := 311) (w := cmpZ ((mS (eK K day had c oth) true false tr).1) (40)) dX11_asksOf_311  (cmp_z (by omega) (by omega)) ?_
                                refine r_if_le (pc := 312) (tgt := 320) dX11_asksOf_312 (by decide) (cmpZ_r) (fun c_312 => ?_) (fun c_312 => ?_)
                                · replace c_312 := cmpZ_le.mp c_312
                                  refine r_lload (pc := 320) 2 dX11_asksOf_320 rfl ?_
                                  refine r_l2i (pc := 322) dX11_asksOf_322 ?_
                                  refine r_putI (pc := 323) dX11_asksOf_323 fl_X11_272 rfl rfl hM.k ?_
                                  refine r_aload_n (pc := 326) 4 dX11_asksOf_326 rfl rfl ?_
                                  refine r_dup (pc := 327) dX11_asksOf_327 rfl ?_
                                  refine r_getIv (pc := 328) (x := ((400 * fo + j0 : Nat) : Int)) dX11_asksOf_328 fl_X11_228 rfl hM.k (rdi (by decide) (rdi (by decide) (rdi (by decide) (hG_212.xg)))) ?_
                                  refine r_iconst (pc := 331) dX11_asksOf_331 ?_
                                  refine r_iadd (pc := 332) dX11_asksOf_332 ?_
                                  refine r_eqI (y := ((400 * fo + j0 + 1 : Nat) : Int)) (Int.natCast_add _ _ |>.symm) ?_
                                  refine r_putI (pc := 333) dX11_asksOf_333 fl_X11_228 rfl rfl hM.k ?_
                                  refine r_goto (pc := 336) (tgt := 156) dX11_asksOf_336 (by decide) ?_
                                  have hj1 : j1 = j0 ∧ cl.2.2 = none := by rcases hk2 with h | h; exact ⟨h.2.2, h.2.1⟩; exact absurd h.1 hc_230
                                  obtain ⟨rfl, hc2n⟩ := hj1
                                  have hc0 := clV_0 (e := (eK K day had c oth)) hc2n
                                  have hcv : clV (eK K day had c oth) cl = some (mS (eK K day had c oth) true false tr).1 := by
                                    rw [hc0, if_pos hcw, hk0]
                                    rcases hq : evS (eK K day had c oth) tr with _ | x
                                    · rw [mS_n hq] at c_265; exact absurd rfl c_265
                                    · rw [mS_s hq]
                                  refine r_sub (L2 := [(0, (.ref 164)), (1, (.int (iI (((c : Nat) : Int))))), (2, (.int (iI (day)))), (3, (.int (iI (had)))), (4, (.int (iI (oth))))]) [4, 5, 6, 7, 8] rfl ?_
                                  have hnx2 := As_next hnx (fun i hi => hE.c0 hi) (fun i hi => by have := hE.lt hi; omega) hkE
                                  exact ih (T + 1 - (j1 + 1)) (by omega) (j1 + 1) _ (acc ++ [cl]) (by omega) ⟨fun a ha => by rw [stF_n _ _ _ ha, stF_n _ _ _ ha, stF_n _ _ _ ha, stF_n _ _ _ ha, hG_212.1 a ha]; exact hA.1 a ha, fun i h1 h2 h3 h4 => by rw [stF_i _ _ _ h1, stF_i _ _ _ h3, stF_i _ _ _ h4, stF_i _ _ _ h2, hG_212.2.1 i h1 h2]; exact hA.2.1 i h1 h2 h3 h4, stF_s _ _ _ _, ⟨false, rdi (by decide) (rdi (by decide) (rdi (by decide) (stF_s _ _ _ _)))⟩, (rdi (by decide) (stF_s _ _ _ _)).trans (by rw [wantsL_app, wstep_v hcw hcv]; unfold cl40; split <;> (try split) <;> omega), (rdi (by decide) (rdi (by decide) (stF_s _ _ _ _))).trans (by rw [waitsL_app, Bool.eq_false_iff.mpr c_273, hcw]; simp [b01]), by omega⟩ hnx2.2
                                · replace c_312 := cmpZ_gt.mp c_312
                                  refine r_bipush (pc := 315) dX11_asksOf_315 (by decide) ?_
                                  refine r_goto (pc := 317) (tgt := 323) dX11_asksOf_317 (by decide) ?_
                                  refine r_putI (pc := 323) dX11_asksOf_323 fl_X11_272 rfl rfl hM.k ?_
                                  refine r_aload_n (pc := 326) 4 dX11_asksOf_326 rfl rfl ?_
                                  refine r_dup (pc := 327) dX11_asksOf_327 rfl ?_
                                  refine r_getIv (pc := 328) (x := ((400 * fo + j0 : Nat) : Int)) dX11_asksOf_328 fl_X11_228 rfl hM.k (rdi (by decide) (rdi (by decide) (rdi (by decide) (hG_212.xg)))) ?_
                                  refine r_iconst (pc := 331) dX11_asksOf_331 ?_
                                  refine r_iadd (pc := 332) dX11_asksOf_332 ?_
                                  refine r_eqI (y := ((400 * fo + j0 + 1 : Nat) : Int)) (Int.natCast_add _ _ |>.symm) ?_
                                  refine r_putI (pc := 333) dX11_asksOf_333 fl_X11_228 rfl rfl hM.k ?_
                                  refine r_goto (pc := 336) (tgt := 156) dX11_asksOf_336 (by decide) ?_
                                  have hj1 : j1 = j0 ∧ cl.2.2 = none := by rcases hk2 with h | h; exact ⟨h.2.2, h.2.1⟩; exact absurd h.1 hc_230
                                  obtain ⟨rfl, hc2n⟩ := hj1
                                  have hc0 := clV_0 (e := (eK K day had c oth)) hc2n
                                  have hcv : clV (eK K day had c oth) cl = some (mS (eK K day had c oth) true false tr).1 := by
                                    rw [hc0, if_pos hcw, hk0]
                                    rcases hq : evS (eK K day had c oth) tr with _ | x
                                    · rw [mS_n hq] at c_265; exact absurd rfl c_265
                                    · rw [mS_s hq]
                                  refine r_sub (L2 := [(0, (.ref 164)), (1, (.int (iI (((c : Nat) : Int))))), (2, (.int (iI (day)))), (3, (.int (iI (had)))), (4, (.int (iI (oth))))]) [4, 5, 6, 7, 8] rfl ?_
                                  have hnx2 := As_next hnx (fun i hi => hE.c0 hi) (fun i hi => by have := hE.lt hi; omega) hkE
                                  exact ih (T + 1 - (j1 + 1)) (by omega) (j1 + 1) _ (acc ++ [cl]) (by omega) ⟨fun a ha => by rw [stF_n _ _ _ ha, stF_n _ _ _ ha, stF_n _ _ _ ha, stF_n _ _ _ ha, hG_212.1 a ha]; exact hA.1 a ha, fun i h1 h2 h3 h4 => by rw [stF_i _ _ _ h1, stF_i _ _ _ h3, stF_i _ _ _ h4, stF_i _ _ _ h2, hG_212.2.1 i h1 h2]; exact hA.2.1 i h1 h2 h3 h4, stF_s _ _ _ _, ⟨false, rdi (by decide) (rdi (by decide) (rdi (by decide) (stF_s _ _ _ _)))⟩, (rdi (by decide) (stF_s _ _ _ _)).trans (by rw [wantsL_app, wstep_v hcw hcv]; unfold cl40; split <;> (try split) <;> omega), (rdi (by decide) (rdi (by decide) (stF_s _ _ _ _))).trans (by rw [waitsL_app, Bool.eq_false_iff.mpr c_273, hcw]; simp [b01]), by omega⟩ hnx2.2
                              · replace c_299 := cmpZ_lt.mp c_299
                                refine r_iconst (pc := 302) dX11_asksOf_302 ?_
                                refine r_goto (pc := 303) (tgt := 323) dX11_asksOf_303 (by decide) ?_
                                refine r_putI (pc := 323) dX11_asksOf_323 fl_X11_272 rfl rfl hM.k ?_
                                refine r_aload_n (pc := 326) 4 dX11_asksOf_326 rfl rfl ?_
                                refine r_dup (pc := 327) dX11_asksOf_327 rfl ?_
                                refine r_getIv (pc := 328) (x := ((400 * fo + j0 : Nat) : Int)) dX11_asksOf_328 fl_X11_228 rfl hM.k (rdi (by decide) (rdi (by decide) (rdi (by decide) (hG_212.xg)))) ?_
                                refine r_iconst (pc := 331) dX11_asksOf_331 ?_
                                refine r_iadd (pc := 332) dX11_asksOf_332 ?_
                                refine r_eqI (y := ((400 * fo + j0 + 1 : Nat) : Int)) (Int.natCast_add _ _ |>.symm) ?_
                                refine r_putI (pc := 333) dX11_asksOf_333 fl_X11_228 rfl rfl hM.k ?_
                                refine r_goto (pc := 336) (tgt := 156) dX11_asksOf_336 (by decide) ?_
                                have hj1 : j1 = j0 ∧ cl.2.2 = none := by rcases hk2 with h | h; exact ⟨h.2.2, h.2.1⟩; exact absurd h.1 hc_230
                                obtain ⟨rfl, hc2n⟩ := hj1
                                have hc0 := clV_0 (e := (eK K day had c oth)) hc2n
                                have hcv : clV (eK K day had c oth) cl = some (mS (eK K day had c oth) true false tr).1 := by
                                  rw [hc0, if_pos hcw, hk0]
                                  rcases hq : evS (eK K day had c oth) tr with _ | x
                                  · rw [mS_n hq] at c_265; exact absurd rfl c_265
                                  · rw [mS_s hq]
                                refine r_sub (L2 := [(0, (.ref 164)), (1, (.int (iI (((c : Nat) : Int))))), (2, (.int (iI (day)))), (3, (.int (iI (had)))), (4, (.int (iI (oth))))]) [4, 5, 6, 7, 8] rfl ?_
                                have hnx2 := As_next hnx (fun i hi => hE.c0 hi) (fun i hi => by have := hE.lt hi; omega) hkE
                                exact ih (T + 1 - (j1 + 1)) (by omega) (j1 + 1) _ (acc ++ [cl]) (by omega) ⟨fun a ha => by rw [stF_n _ _ _ ha, stF_n _ _ _ ha, stF_n _ _ _ ha, stF_n _ _ _ ha, hG_212.1 a ha]; exact hA.1 a ha, fun i h1 h2 h3 h4 => by rw [stF_i _ _ _ h1, stF_i _ _ _ h3, stF_i _ _ _ h4, stF_i _ _ _ h2, hG_212.2.1 i h1 h2]; exact hA.2.1 i h1 h2 h3 h4, stF_s _ _ _ _, ⟨false, rdi (by decide) (rdi (by decide) (rdi (by decide) (stF_s _ _ _ _)))⟩, (rdi (by decide) (stF_s _ _ _ _)).trans (by rw [wantsL_app, wstep_v hcw hcv]; unfold cl40; split <;> (try split) <;> omega), (rdi (by decide) (rdi (by decide) (stF_s _ _ _ _))).trans (by rw [waitsL_app, Bool.eq_false_iff.mpr c_273, hcw]; simp [b01]), by omega⟩ hnx2.2
                          · exact absurd c_278 (by decide)
                · exact absurd c_233 (by decide)
            · exact absurd c_203 (by decide)
          · refine r_iconst (pc := 179) dX11_asksOf_179 ?_
            refine r_goto (pc := 180) (tgt := 184) dX11_asksOf_180 (by decide) ?_
            refine r_istore (pc := 184) (L2 := [(5, (.int (iI (1)))), (0, (.ref 164)), (1, (.int (iI (((c : Nat) : Int))))), (2, (.int (iI (day)))), (3, (.int (iI (had)))), (4, (.int (iI (oth))))]) dX11_asksOf_184 (by decide) rfl ?_
            have hcw : cl.1 = false := by rcases hk1 with h | h; exfalso; omega; exact h.2.1
            obtain ⟨rfl, rfl⟩ : tr = .null ∧ j0 = j + 1 := by rcases hk1 with h | h; exfalso; omega; exact h.2.2
            refine r_aload_n (pc := 186) 1 dX11_asksOf_186 rfl rfl ?_
            refine r_iconst (pc := 187) dX11_asksOf_187 ?_
            refine r_putB (pc := 188) dX11_asksOf_188 fl_X11_238 rfl rfl (by omega) hM.k ?_
            refine r_aload_n (pc := 191) 1 dX11_asksOf_191 rfl rfl ?_
            refine r_dup (pc := 192) dX11_asksOf_192 rfl ?_
            refine r_getIv (pc := 193) (x := ((400 * fo + j : Nat) : Int)) dX11_asksOf_193 fl_X11_228 rfl hM.k (rdi (by decide) (hG1.xg)) ?_
            refine r_iconst (pc := 196) dX11_asksOf_196 ?_
            refine r_iadd (pc := 197) dX11_asksOf_197 ?_
            refine r_eqI (y := ((400 * fo + j + 1 : Nat) : Int)) (Int.natCast_add _ _ |>.symm) ?_
            refine r_putI (pc := 198) dX11_asksOf_198 fl_X11_228 rfl rfl hM.k ?_
            refine r_iload (pc := 201) 0 dX11_asksOf_201 rfl ?_
            refine r_if_eq (pc := 203) (tgt := 210) dX11_asksOf_203 (by decide) (by omega) (fun c_203 => ?_) (fun c_203 => ?_)
            · exact absurd c_203 (by decide)
            · refine r_lconst (pc := 206) (x := 0) dX11_asksOf_206 (by decide) ?_
              refine r_goto (pc := 207) (tgt := 215) dX11_asksOf_207 (by decide) ?_
              refine r_lstore (pc := 215) (L2 := [(6, (.long (lI (0)))), (5, (.int (iI (1)))), (0, (.ref 164)), (1, (.int (iI (((c : Nat) : Int))))), (2, (.int (iI (day)))), (3, (.int (iI (had)))), (4, (.int (iI (oth))))]) dX11_asksOf_215 (by decide) rfl ?_
              refine r_aload_n (pc := 217) 2 dX11_asksOf_217 rfl rfl ?_
              refine r_getIv (pc := 218) (x := 0) dX11_asksOf_218 fl_X11_238 rfl hM.k (rdi (by decide) (stF_s _ _ _ _)) ?_
              refine r_istore (pc := 221) (L2 := [(8, (.int (iI (0)))), (6, (.long (lI (0)))), (5, (.int (iI (1)))), (0, (.ref 164)), (1, (.int (iI (((c : Nat) : Int))))), (2, (.int (iI (day)))), (3, (.int (iI (had)))), (4, (.int (iI (oth))))]) dX11_asksOf_221 (by decide) rfl ?_
              refine r_aload_n (pc := 223) 3 dX11_asksOf_223 rfl rfl ?_
              refine r_iconst (pc := 224) dX11_asksOf_224 ?_
              refine r_putB (pc := 225) dX11_asksOf_225 fl_X11_238 rfl rfl (by omega) hM.k ?_
              refine r_aload_n (pc := 228) 3 dX11_asksOf_228 rfl rfl ?_
              refine r_iconst (pc := 229) dX11_asksOf_229 ?_
              refine r_callV (pc := 230) (As := [(.int (iI (3)))]) (S := []) dX11_asksOf_230 cv_X11_253 hM.k rfl (Nat.le_of_ble_eq_true rfl) (m_pass l z _ hM hE (((hG1.br (b := false) rfl).next (by have := hE.lt (i := j) (by omega); omega)).br (b := false) rfl) (by decide) (by decide)) (Nat.zero_le _) (Nat.zero_le _) (fun r_230 g_230 f_230 q_230 => ?_)
              obtain ⟨rfl, ⟨hc_230, rfl, hG_230⟩ | ⟨hc_230, rfl, rfl⟩⟩ := q_230
              · refine r_if_eq (pc := 233) (tgt := 244) dX11_asksOf_233 (by decide) (by omega) (fun c_233 => ?_) (fun c_233 => ?_)
                · exact absurd c_233 (by decide)
                · obtain ⟨t2, he2, hts⟩ : ∃ t2, cl.2.2 = some t2 ∧ sTestT (kC K fo) (kV K fo) ((j + 1) + 1) l0 = .ok (t2, j1, l1) := by rcases hk2 with h | h; exact absurd hc_230 h.1; exact h.2
                  refine r_aload_n (pc := 236) 3 dX11_asksOf_236 rfl rfl ?_
                  refine r_iconst (pc := 237) dX11_asksOf_237 ?_
                  refine r_eqI (y := b01 (true = true)) (rfl) ?_
                  refine r_callV (pc := 238) (As := [(.int (iI (b01 (true = true))))]) (S := []) dX11_asksOf_238 cv_X11_269 hM.k rfl (Nat.le_of_ble_eq_true rfl) (htE _ (by omega) _ _ _ _ true _ _ _ hts hG_230) (Nat.zero_le _) (Nat.zero_le _) (fun r_238 g_238 f_238 q_238 => ?_)
                  obtain ⟨rb_238, rfl, rfl, hG_238, hv_238⟩ := q_238
                  refine r_if_eq (pc := 241) (tgt := 248) dX11_asksOf_241 (by decide) (b01_r) (fun c_241 => ?_) (fun c_241 => ?_)
                  · replace c_241 := b01_z c_241
                    refine r_iconst (pc := 248) dX11_asksOf_248 ?_
                    refine r_istore (pc := 249) (L2 := [(9, (.int (iI (0)))), (8, (.int (iI (0)))), (6, (.long (lI (0)))), (5, (.int (iI (1)))), (0, (.ref 164)), (1, (.int (iI (((c : Nat) : Int))))), (2, (.int (iI (day)))), (3, (.int (iI (had)))), (4, (.int (iI (oth))))]) dX11_asksOf_249 (by decide) rfl ?_
                    refine r_iload (pc := 251) 0 dX11_asksOf_251 rfl ?_
                    refine r_if_eq (pc := 253) (tgt := 326) dX11_asksOf_253 (by decide) (by omega) (fun c_253 => ?_) (fun c_253 => ?_)
                    · refine r_aload_n (pc := 326) 4 dX11_asksOf_326 rfl rfl ?_
                      refine r_dup (pc := 327) dX11_asksOf_327 rfl ?_
                      refine r_getIv (pc := 328) (x := ((400 * fo + j1 : Nat) : Int)) dX11_asksOf_328 fl_X11_228 rfl hM.k (hG_238.xg) ?_
                      refine r_iconst (pc := 331) dX11_asksOf_331 ?_
                      refine r_iadd (pc := 332) dX11_asksOf_332 ?_
                      refine r_eqI (y := ((400 * fo + j1 + 1 : Nat) : Int)) (Int.natCast_add _ _ |>.symm) ?_
                      refine r_putI (pc := 333) dX11_asksOf_333 fl_X11_228 rfl rfl hM.k ?_
                      refine r_goto (pc := 336) (tgt := 156) dX11_asksOf_336 (by decide) ?_
                      have hcv : clV (eK K day had c oth) cl = none := clV_2 he2 (fun h => c_241 (hv_238 rfl rfl true h))
                      refine r_sub (L2 := [(0, (.ref 164)), (1, (.int (iI (((c : Nat) : Int))))), (2, (.int (iI (day)))), (3, (.int (iI (had)))), (4, (.int (iI (oth))))]) [4, 5, 6, 7, 8] rfl ?_
                      have hnx2 := As_next hnx (fun i hi => hE.c0 hi) (fun i hi => by have := hE.lt hi; omega) hkE
                      exact ih (T + 1 - (j1 + 1)) (by omega) (j1 + 1) _ (acc ++ [cl]) (by omega) ⟨fun a ha => by rw [stF_n _ _ _ ha, hG_238.1 a ha]; exact hA.1 a ha, fun i h1 h2 h3 h4 => by rw [stF_i _ _ _ h1, hG_238.2.1 i h1 h2]; exact hA.2.1 i h1 h2 h3 h4, stF_s _ _ _ _, ⟨(mT (eK K day had c oth) true false t2), rdi (by decide) (hG_238.xb)⟩, (rdi (by decide) ((hG_238.2.1 22 (by decide) (by decide)).trans h22)).trans (by rw [wantsL_app, wstep_n hcv]), (rdi (by decide) ((hG_238.2.1 23 (by decide) (by decide)).trans h23)).trans (by rw [waitsL_app, hcv]; simp), by omega⟩ hnx2.2
                    · exact absurd c_253 (by decide)
                  · replace c_241 := b01_nz c_241
                    refine r_iconst (pc := 244) dX11_asksOf_244 ?_
                    refine r_goto (pc := 245) (tgt := 249) dX11_asksOf_245 (by decide) ?_
                    refine r_istore (pc := 249) (L2 := [(9, (.int (iI (1)))), (8, (.int (iI (0)))), (6, (.long (lI (0)))), (5, (.int (iI (1)))), (0, (.ref 164)), (1, (.int (iI (((c : Nat) : Int))))), (2, (.int (iI (day)))), (3, (.int (iI (had)))), (4, (.int (iI (oth))))]) dX11_asksOf_249 (by decide) rfl ?_
                    refine r_iload (pc := 251) 0 dX11_asksOf_251 rfl ?_
                    refine r_if_eq (pc := 253) (tgt := 326) dX11_asksOf_253 (by decide) (by omega) (fun c_253 => ?_) (fun c_253 => ?_)
                    · exact absurd c_253 (by decide)
                    · refine r_aload_n (pc := 256) 4 dX11_asksOf_256 rfl rfl ?_
                      refine r_getIv (pc := 257) (x := b01 ((mT (eK K day had c oth) true false t2) = true)) dX11_asksOf_257 fl_X11_238 rfl hM.k (hG_238.xb) ?_
                      refine r_if_ne (pc := 260) (tgt := 326) dX11_asksOf_260 (by decide) (b01_r) (fun c_260 => ?_) (fun c_260 => ?_)
                      · replace c_260 := b01_nz c_260
                        refine r_aload_n (pc := 326) 4 dX11_asksOf_326 rfl rfl ?_
                        refine r_dup (pc := 327) dX11_asksOf_327 rfl ?_
                        refine r_getIv (pc := 328) (x := ((400 * fo + j1 : Nat) : Int)) dX11_asksOf_328 fl_X11_228 rfl hM.k (hG_238.xg) ?_
                        refine r_iconst (pc := 331) dX11_asksOf_331 ?_
                        refine r_iadd (pc := 332) dX11_asksOf_332 ?_
                        refine r_eqI (y := ((400 * fo + j1 + 1 : Nat) : Int)) (Int.natCast_add _ _ |>.symm) ?_
                        refine r_putI (pc := 333) dX11_asksOf_333 fl_X11_228 rfl rfl hM.k ?_
                        refine r_goto (pc := 336) (tgt := 156) dX11_asksOf_336 (by decide) ?_
                        have hcv : clV (eK K day had c oth) cl = none := clV_2 he2 (fun h => by rw [mT_n, h] at c_260; cases c_260)
                        refine r_sub (L2 := [(0, (.ref 164)), (1, (.int (iI (((c : Nat) : Int))))), (2, (.int (iI (day)))), (3, (.int (iI (had)))), (4, (.int (iI (oth))))]) [4, 5, 6, 7, 8] rfl ?_
                        have hnx2 := As_next hnx (fun i hi => hE.c0 hi) (fun i hi => by have := hE.lt hi; omega) hkE
                        exact ih (T + 1 - (j1 + 1)) (by omega) (j1 + 1) _ (acc ++ [cl]) (by omega) ⟨fun a ha => by rw [stF_n _ _ _ ha, hG_238.1 a ha]; exact hA.1 a ha, fun i h1 h2 h3 h4 => by rw [stF_i _ _ _ h1, hG_238.2.1 i h1 h2]; exact hA.2.1 i h1 h2 h3 h4, stF_s _ _ _ _, ⟨(mT (eK K day had c oth) true false t2), rdi (by decide) (hG_238.xb)⟩, (rdi (by decide) ((hG_238.2.1 22 (by decide) (by decide)).trans h22)).trans (by rw [wantsL_app, wstep_n hcv]), (rdi (by decide) ((hG_238.2.1 23 (by decide) (by decide)).trans h23)).trans (by rw [waitsL_app, hcv]; simp), by omega⟩ hnx2.2
                      · replace c_260 := b01_z c_260
                        refine r_iload (pc := 263) 1 dX11_asksOf_263 rfl ?_
                        refine r_if_ne (pc := 265) (tgt := 326) dX11_asksOf_265 (by decide) (by omega) (fun c_265 => ?_) (fun c_265 => ?_)
                        · exact absurd c_265 (by decide)
                        · refine r_aload_n (pc := 268) 4 dX11_asksOf_268 rfl rfl ?_
                          refine r_aload_n (pc := 269) 4 dX11_asksOf_269 rfl rfl ?_
                          refine r_getIv (pc := 270) (x := b01 (waitsL (eK K day had c oth) acc = true)) dX11_asksOf_270 fl_X11_275 rfl hM.k ((hG_238.2.1 23 (by decide) (by decide)).trans h23) ?_
                          refine r_if_ne (pc := 273) (tgt := 281) dX11_asksOf_273 (by decide) (b01_r) (fun c_273 => ?_) (fun c_273 => ?_)
                          · replace c_273 := b01_nz c_273
                            refine r_iconst (pc := 281) dX11_asksOf_281 ?_
                            refine r_goto (pc := 282) (tgt := 286) dX11_asksOf_282 (by decide) ?_
                            refine r_putB (pc := 286) dX11_asksOf_286 fl_X11_275 rfl rfl (by omega) hM.k ?_
                            refine r_iload (pc := 289) 3 dX11_asksOf_289 rfl ?_
                            refine r_if_ne (pc := 291) (tgt := 326) dX11_asksOf_291 (by decide) (by omega) (fun c_291 => ?_) (fun c_291 => ?_)
                            · refine r_aload_n (pc := 326) 4 dX11_asksOf_326 rfl rfl ?_
                              refine r_dup (pc := 327) dX11_asksOf_327 rfl ?_
                              refine r_getIv (pc := 328) (x := ((400 * fo + j1 : Nat) : Int)) dX11_asksOf_328 fl_X11_228 rfl hM.k (rdi (by decide) (hG_238.xg)) ?_
                              refine r_iconst (pc := 331) dX11_asksOf_331 ?_
                              refine r_iadd (pc := 332) dX11_asksOf_332 ?_
                              refine r_eqI (y := ((400 * fo + j1 + 1 : Nat) : Int)) (Int.natCast_add _ _ |>.symm) ?_
                              refine r_putI (pc := 333) dX11_asksOf_333 fl_X11_228 rfl rfl hM.k ?_
                              refine r_goto (pc := 336) (tgt := 156) dX11_asksOf_336 (by decide) ?_
                              have hev : evT (eK K day had c oth) t2 = some true := by
                                have h1 := Bool.eq_false_iff.mpr c_260
                                rw [mT_n] at h1
                                rcases hq : evT (eK K day had c oth) t2 with _ | w
                                · rw [hq] at h1; cases h1
                                · have := hv_238 rfl rfl w hq; rw [← this, c_241]
                              have hc0 := clV_1 (e := (eK K day had c oth)) he2 hev
                              have hcv : clV (eK K day had c oth) cl = some 0 := by rw [hc0, if_neg (by rw [hcw]; decide)]
                              refine r_sub (L2 := [(0, (.ref 164)), (1, (.int (iI (((c : Nat) : Int))))), (2, (.int (iI (day)))), (3, (.int (iI (had)))), (4, (.int (iI (oth))))]) [4, 5, 6, 7, 8] rfl ?_
                              have hnx2 := As_next hnx (fun i hi => hE.c0 hi) (fun i hi => by have := hE.lt hi; omega) hkE
                              exact ih (T + 1 - (j1 + 1)) (by omega) (j1 + 1) _ (acc ++ [cl]) (by omega) ⟨fun a ha => by rw [stF_n _ _ _ ha, stF_n _ _ _ ha, hG_238.1 a ha]; exact hA.1 a ha, fun i h1 h2 h3 h4 => by rw [stF_i _ _ _ h1, stF_i _ _ _ h4, hG_238.2.1 i h1 h2]; exact hA.2.1 i h1 h2 h3 h4, stF_s _ _ _ _, ⟨(mT (eK K day had c oth) true false t2), rdi (by decide) (rdi (by decide) (hG_238.xb))⟩, (rdi (by decide) (rdi (by decide) ((hG_238.2.1 22 (by decide) (by decide)).trans h22))).trans (by rw [wantsL_app, wstep_f (by rw [hcw]; decide)]), (rdi (by decide) (stF_s _ _ _ _)).trans (by rw [waitsL_app, c_273]; rfl), by omega⟩ hnx2.2
                            · exact absurd c_291 (by decide)
                          · replace c_273 := b01_z c_273
                            refine r_iload (pc := 276) 3 dX11_asksOf_276 rfl ?_
                            refine r_if_eq (pc := 278) (tgt := 285) dX11_asksOf_278 (by decide) (by omega) (fun c_278 => ?_) (fun c_278 => ?_)
                            · exact absurd c_278 (by decide)
                            · refine r_iconst (pc := 281) dX11_asksOf_281 ?_
                              refine r_goto (pc := 282) (tgt := 286) dX11_asksOf_282 (by decide) ?_
                              refine r_putB (pc := 286) dX11_asksOf_286 fl_X11_275 rfl rfl (by omega) hM.k ?_
                              refine r_iload (pc := 289) 3 dX11_asksOf_289 rfl ?_
                              refine r_if_ne (pc := 291) (tgt := 326) dX11_asksOf_291 (by decide) (by omega) (fun c_291 => ?_) (fun c_291 => ?_)
                              · refine r_aload_n (pc := 326) 4 dX11_asksOf_326 rfl rfl ?_
                                refine r_dup (pc := 327) dX11_asksOf_327 rfl ?_
                                refine r_getIv (pc := 328) (x := ((400 * fo + j1 : Nat) : Int)) dX11_asksOf_328 fl_X11_228 rfl hM.k (rdi (by decide) (hG_238.xg)) ?_
                                refine r_iconst (pc := 331) dX11_asksOf_331 ?_
                                refine r_iadd (pc := 332) dX11_asksOf_332 ?_
                                refine r_eqI (y := ((400 * fo + j1 + 1 : Nat) : Int)) (Int.natCast_add _ _ |>.symm) ?_
                                refine r_putI (pc := 333) dX11_asksOf_333 fl_X11_228 rfl rfl hM.k ?_
                                refine r_goto (pc := 336) (tgt := 156) dX11_asksOf_336 (by decide) ?_
                                have hev : evT (eK K day had c oth) t2 = some true := by
                                  have h1 := Bool.eq_false_iff.mpr c_260
                                  rw [mT_n] at h1
                                  rcases hq : evT (eK K day had c oth) t2 with _ | w
                                  · rw [hq] at h1; cases h1
                                  · have := hv_238 rfl rfl w hq; rw [← this, c_241]
                                have hc0 := clV_1 (e := (eK K day had c oth)) he2 hev
                                have hcv : clV (eK K day had c oth) cl = some 0 := by rw [hc0, if_neg (by rw [hcw]; decide)]
                                refine r_sub (L2 := [(0, (.ref 164)), (1, (.int (iI (((c : Nat) : Int))))), (2, (.int (iI (day)))), (3, (.int (iI (had)))), (4, (.int (iI (oth))))]) [4, 5, 6, 7, 8] rfl ?_
                                have hnx2 := As_next hnx (fun i hi => hE.c0 hi) (fun i hi => by have := hE.lt hi; omega) hkE
                                exact ih (T + 1 - (j1 + 1)) (by omega) (j1 + 1) _ (acc ++ [cl]) (by omega) ⟨fun a ha => by rw [stF_n _ _ _ ha, stF_n _ _ _ ha, hG_238.1 a ha]; exact hA.1 a ha, fun i h1 h2 h3 h4 => by rw [stF_i _ _ _ h1, stF_i _ _ _ h4, hG_238.2.1 i h1 h2]; exact hA.2.1 i h1 h2 h3 h4, stF_s _ _ _ _, ⟨(mT (eK K day had c oth) true false t2), rdi (by decide) (rdi (by decide) (hG_238.xb))⟩, (rdi (by decide) (rdi (by decide) ((hG_238.2.1 22 (by decide) (by decide)).trans h22))).trans (by rw [wantsL_app, wstep_f (by rw [hcw]; decide)]), (rdi (by decide) (stF_s _ _ _ _)).trans (by rw [waitsL_app, Bool.eq_false_iff.mpr c_273, hcv, hcw]; rfl), by omega⟩ hnx2.2
                              · exact absurd c_291 (by decide)
              · refine r_if_eq (pc := 233) (tgt := 244) dX11_asksOf_233 (by decide) (by omega) (fun c_233 => ?_) (fun c_233 => ?_)
                · refine r_iconst (pc := 244) dX11_asksOf_244 ?_
                  refine r_goto (pc := 245) (tgt := 249) dX11_asksOf_245 (by decide) ?_
                  refine r_istore (pc := 249) (L2 := [(9, (.int (iI (1)))), (8, (.int (iI (0)))), (6, (.long (lI (0)))), (5, (.int (iI (1)))), (0, (.ref 164)), (1, (.int (iI (((c : Nat) : Int))))), (2, (.int (iI (day)))), (3, (.int (iI (had)))), (4, (.int (iI (oth))))]) dX11_asksOf_249 (by decide) rfl ?_
                  refine r_iload (pc := 251) 0 dX11_asksOf_251 rfl ?_
                  refine r_if_eq (pc := 253) (tgt := 326) dX11_asksOf_253 (by decide) (by omega) (fun c_253 => ?_) (fun c_253 => ?_)
                  · exact absurd c_253 (by decide)
                  · refine r_aload_n (pc := 256) 4 dX11_asksOf_256 rfl rfl ?_
                    refine r_getIv (pc := 257) (x := 0) dX11_asksOf_257 fl_X11_238 rfl hM.k (stF_s _ _ _ _) ?_
                    refine r_if_ne (pc := 260) (tgt := 326) dX11_asksOf_260 (by decide) (by omega) (fun c_260 => ?_) (fun c_260 => ?_)
                    · exact absurd c_260 (by decide)
                    · refine r_iload (pc := 263) 1 dX11_asksOf_263 rfl ?_
                      refine r_if_ne (pc := 265) (tgt := 326) dX11_asksOf_265 (by decide) (by omega) (fun c_265 => ?_) (fun c_265 => ?_)
                      · exact absurd c_265 (by decide)
                      · refine r_aload_n (pc := 268) 4 dX11_asksOf_268 rfl rfl ?_
                        refine r_aload_n (pc := 269) 4 dX11_asksOf_269 rfl rfl ?_
                        refine r_getIv (pc := 270) (x := b01 (waitsL (eK K day had c oth) acc = true)) dX11_asksOf_270 fl_X11_275 rfl hM.k (rdi (by decide) (rdi (by decide) (rdi (by decide) ((hG1.2.1 23 (by decide) (by decide)).trans h23)))) ?_
                        refine r_if_ne (pc := 273) (tgt := 281) dX11_asksOf_273 (by decide) (b01_r) (fun c_273 => ?_) (fun c_273 => ?_)
                        · replace c_273 := b01_nz c_273
                          refine r_iconst (pc := 281) dX11_asksOf_281 ?_
                          refine r_goto (pc := 282) (tgt := 286) dX11_asksOf_282 (by decide) ?_
                          refine r_putB (pc := 286) dX11_asksOf_286 fl_X11_275 rfl rfl (by omega) hM.k ?_
                          refine r_iload (pc := 289) 3 dX11_asksOf_289 rfl ?_
                          refine r_if_ne (pc := 291) (tgt := 326) dX11_asksOf_291 (by decide) (by omega) (fun c_291 => ?_) (fun c_291 => ?_)
                          · refine r_aload_n (pc := 326) 4 dX11_asksOf_326 rfl rfl ?_
                            refine r_dup (pc := 327) dX11_asksOf_327 rfl ?_
                            refine r_getIv (pc := 328) (x := ((400 * fo + j + 1 : Nat) : Int)) dX11_asksOf_328 fl_X11_228 rfl hM.k (rdi (by decide) (rdi (by decide) (stF_s _ _ _ _))) ?_
                            refine r_iconst (pc := 331) dX11_asksOf_331 ?_
                            refine r_iadd (pc := 332) dX11_asksOf_332 ?_
                            refine r_eqI (y := ((400 * fo + j + 1 + 1 : Nat) : Int)) (Int.natCast_add _ _ |>.symm) ?_
                            refine r_putI (pc := 333) dX11_asksOf_333 fl_X11_228 rfl rfl hM.k ?_
                            refine r_goto (pc := 336) (tgt := 156) dX11_asksOf_336 (by decide) ?_
                            have hj1 : j1 = j + 1 ∧ cl.2.2 = none := by rcases hk2 with h | h; exact ⟨h.2.2, h.2.1⟩; exact absurd h.1 hc_230
                            obtain ⟨rfl, hc2n⟩ := hj1
                            have hc0 := clV_0 (e := (eK K day had c oth)) hc2n
                            have hcv : clV (eK K day had c oth) cl = some 0 := by rw [hc0, if_neg (by rw [hcw]; decide)]
                            refine r_sub (L2 := [(0, (.ref 164)), (1, (.int (iI (((c : Nat) : Int))))), (2, (.int (iI (day)))), (3, (.int (iI (had)))), (4, (.int (iI (oth))))]) [4, 5, 6, 7, 8] rfl ?_
                            have hnx2 := As_next hnx (fun i hi => hE.c0 hi) (fun i hi => by have := hE.lt hi; omega) hkE
                            exact ih (T + 1 - (j + 1 + 1)) (by omega) (j + 1 + 1) _ (acc ++ [cl]) (by omega) ⟨fun a ha => by rw [stF_n _ _ _ ha, stF_n _ _ _ ha, stF_n _ _ _ ha, stF_n _ _ _ ha, stF_n _ _ _ ha, hG1.1 a ha]; exact hA.1 a ha, fun i h1 h2 h3 h4 => by rw [stF_i _ _ _ h1, stF_i _ _ _ h4, stF_i _ _ _ h2, stF_i _ _ _ h1, stF_i _ _ _ h2, hG1.2.1 i h1 h2]; exact hA.2.1 i h1 h2 h3 h4, stF_s _ _ _ _, ⟨false, rdi (by decide) (rdi (by decide) (stF_s _ _ _ _))⟩, (rdi (by decide) (rdi (by decide) (rdi (by decide) (rdi (by decide) (rdi (by decide) ((hG1.2.1 22 (by decide) (by decide)).trans h22)))))).trans (by rw [wantsL_app, wstep_f (by rw [hcw]; decide)]), (rdi (by decide) (stF_s _ _ _ _)).trans (by rw [waitsL_app, c_273]; rfl), by omega⟩ hnx2.2
                          · exact absurd c_291 (by decide)
                        · replace c_273 := b01_z c_273
                          refine r_iload (pc := 276) 3 dX11_asksOf_276 rfl ?_
                          refine r_if_eq (pc := 278) (tgt := 285) dX11_asksOf_278 (by decide) (by omega) (fun c_278 => ?_) (fun c_278 => ?_)
                          · exact absurd c_278 (by decide)
                          · refine r_iconst (pc := 281) dX11_asksOf_281 ?_
                            refine r_goto (pc := 282) (tgt := 286) dX11_asksOf_282 (by decide) ?_
                            refine r_putB (pc := 286) dX11_asksOf_286 fl_X11_275 rfl rfl (by omega) hM.k ?_
                            refine r_iload (pc := 289) 3 dX11_asksOf_289 rfl ?_
                            refine r_if_ne (pc := 291) (tgt := 326) dX11_asksOf_291 (by decide) (by omega) (fun c_291 => ?_) (fun c_291 => ?_)
                            · refine r_aload_n (pc := 326) 4 dX11_asksOf_326 rfl rfl ?_
                              refine r_dup (pc := 327) dX11_asksOf_327 rfl ?_
                              refine r_getIv (pc := 328) (x := ((400 * fo + j + 1 : Nat) : Int)) dX11_asksOf_328 fl_X11_228 rfl hM.k (rdi (by decide) (rdi (by decide) (stF_s _ _ _ _))) ?_
                              refine r_iconst (pc := 331) dX11_asksOf_331 ?_
                              refine r_iadd (pc := 332) dX11_asksOf_332 ?_
                              refine r_eqI (y := ((400 * fo + j + 1 + 1 : Nat) : Int)) (Int.natCast_add _ _ |>.symm) ?_
                              refine r_putI (pc := 333) dX11_asksOf_333 fl_X11_228 rfl rfl hM.k ?_
                              refine r_goto (pc := 336) (tgt := 156) dX11_asksOf_336 (by decide) ?_
                              have hj1 : j1 = j + 1 ∧ cl.2.2 = none := by rcases hk2 with h | h; exact ⟨h.2.2, h.2.1⟩; exact absurd h.1 hc_230
                              obtain ⟨rfl, hc2n⟩ := hj1
                              have hc0 := clV_0 (e := (eK K day had c oth)) hc2n
                              have hcv : clV (eK K day had c oth) cl = some 0 := by rw [hc0, if_neg (by rw [hcw]; decide)]
                              refine r_sub (L2 := [(0, (.ref 164)), (1, (.int (iI (((c : Nat) : Int))))), (2, (.int (iI (day)))), (3, (.int (iI (had)))), (4, (.int (iI (oth))))]) [4, 5, 6, 7, 8] rfl ?_
                              have hnx2 := As_next hnx (fun i hi => hE.c0 hi) (fun i hi => by have := hE.lt hi; omega) hkE
                              exact ih (T + 1 - (j + 1 + 1)) (by omega) (j + 1 + 1) _ (acc ++ [cl]) (by omega) ⟨fun a ha => by rw [stF_n _ _ _ ha, stF_n _ _ _ ha, stF_n _ _ _ ha, stF_n _ _ _ ha, stF_n _ _ _ ha, hG1.1 a ha]; exact hA.1 a ha, fun i h1 h2 h3 h4 => by rw [stF_i _ _ _ h1, stF_i _ _ _ h4, stF_i _ _ _ h2, stF_i _ _ _ h1, stF_i _ _ _ h2, hG1.2.1 i h1 h2]; exact hA.2.1 i h1 h2 h3 h4, stF_s _ _ _ _, ⟨false, rdi (by decide) (rdi (by decide) (stF_s _ _ _ _))⟩, (rdi (by decide) (rdi (by decide) (rdi (by decide) (rdi (by decide) (rdi (by decide) ((hG1.2.1 22 (by decide) (by decide)).trans h22)))))).trans (by rw [wantsL_app, wstep_f (by rw [hcw]; decide)]), (rdi (by decide) (stF_s _ _ _ _)).trans (by rw [waitsL_app, Bool.eq_false_iff.mpr c_273, hcv, hcw]; rfl), by omega⟩ hnx2.2
                            · exact absurd c_291 (by decide)
                · exact absurd c_233 (by decide)
    exact loop (T + 1) 0 fz [] rfl hAz (Or.inr ⟨by omega, 12, 0, hsl0⟩)
  refine r_aload_n (pc := 0) 0 dX11_asksOf_0 rfl rfl ?_
  refine r_aload_n (pc := 1) 0 dX11_asksOf_1 rfl rfl ?_
  refine r_iload_n (pc := 2) 1 dX11_asksOf_2 rfl rfl ?_
  refine r_iconst (pc := 3) dX11_asksOf_3 ?_
  refine r_callV (pc := 4) (As := [(.int (iI (((c : Nat) : Int)))), (.int (iI (0)))]) (S := [(.ref 164)]) dX11_asksOf_4 cv_X11_138 hM.k rfl (Nat.le_of_ble_eq_true rfl) (m_fact (c := c) (w := 0) (v := K (5 * c)) l z _ hM (by omega) (by decide) (congrFun hK _)) (Nat.zero_le _) (Nat.zero_le _) (fun r_4 g_4 f_4 q_4 => ?_)
  obtain ⟨rfl, rfl, rfl⟩ := q_4
  refine r_putI (pc := 7) dX11_asksOf_7 fl_X11_272 rfl rfl hM.k ?_
  refine r_aload_n (pc := 10) 0 dX11_asksOf_10 rfl rfl ?_
  refine r_iconst (pc := 11) dX11_asksOf_11 ?_
  refine r_putB (pc := 12) dX11_asksOf_12 fl_X11_275 rfl rfl (by omega) hM.k ?_
  refine r_aload_n (pc := 15) 0 dX11_asksOf_15 rfl rfl ?_
  refine r_getR (pc := 16) (b := 166) dX11_asksOf_16 fl_X11_17 rfl hM.k hM.r2 ?_
  refine r_bipush (pc := 19) dX11_asksOf_19 (by decide) ?_
  refine r_ialdv (pc := 21) (w := K 81) dX11_asksOf_21 hM.a2 (by decide) (by decide) (rdn (by decide) (rdn (by decide) (congrFun hK _))) ?_
  refine r_iconst (pc := 22) dX11_asksOf_22 ?_
  refine r_icmp_ne (pc := 23) (tgt := 27) dX11_asksOf_23 (by decide) (by have := hO.fo; have := hO.nl; omega) (by omega) (fun c_23 => ?_) (fun c_23 => ?_)
  · obtain ⟨fo, hfo⟩ : ∃ fo : Nat, K 81 = ((fo : Nat) : Int) := ⟨(K 81).toNat, by have := hO.fo; omega⟩
    have hfo1 := hO.fo
    have hfo2 := hO.nl
    have hlwf := hO.lw fo (by omega)
    obtain ⟨T, hTT⟩ : ∃ T : Nat, K (82 + fo) = ((T : Nat) : Int) := ⟨(K (82 + fo)).toNat, by omega⟩
    obtain ⟨cls, hcls⟩ := hlwf.2.1
    have hf8 := hO.f hc8
    refine r_aload_n (pc := 27) 0 dX11_asksOf_27 rfl rfl ?_
    refine r_getR (pc := 28) (b := 175) dX11_asksOf_28 fl_X11_49 rfl hM.k hM.r21 ?_
    refine r_iconst (pc := 31) dX11_asksOf_31 ?_
    refine r_iload_n (pc := 32) 1 dX11_asksOf_32 rfl rfl ?_
    refine r_iastv (pc := 33) (i := 0) dX11_asksOf_33 hM.a21 (by decide) (by decide) rfl ?_
    refine r_aload_n (pc := 34) 0 dX11_asksOf_34 rfl rfl ?_
    refine r_getR (pc := 35) (b := 175) dX11_asksOf_35 fl_X11_49 rfl hM.k hM.r21 ?_
    refine r_iconst (pc := 38) dX11_asksOf_38 ?_
    refine r_aload_n (pc := 39) 0 dX11_asksOf_39 rfl rfl ?_
    refine r_iload_n (pc := 40) 1 dX11_asksOf_40 rfl rfl ?_
    refine r_iconst (pc := 41) dX11_asksOf_41 ?_
    refine r_callV (pc := 42) (As := [(.int (iI (((c : Nat) : Int)))), (.int (iI (0)))]) (S := [(.int (iI (1))), (.ref 175)]) dX11_asksOf_42 cv_X11_138 hM.k rfl (Nat.le_of_ble_eq_true rfl) (m_fact (c := c) (w := 0) (v := K (5 * c)) l z _ hM (by omega) (by decide) (rdn (by decide) (rdn (by decide) (rdn (by decide) (congrFun hK _))))) (Nat.zero_le _) (Nat.zero_le _) (fun r_42 g_42 f_42 q_42 => ?_)
    obtain ⟨rfl, rfl, rfl⟩ := q_42
    refine r_iastv (pc := 45) (i := 1) dX11_asksOf_45 hM.a21 (by decide) (by decide) rfl ?_
    refine r_aload_n (pc := 46) 0 dX11_asksOf_46 rfl rfl ?_
    refine r_getR (pc := 47) (b := 175) dX11_asksOf_47 fl_X11_49 rfl hM.k hM.r21 ?_
    refine r_iconst (pc := 50) dX11_asksOf_50 ?_
    refine r_aload_n (pc := 51) 0 dX11_asksOf_51 rfl rfl ?_
    refine r_iload_n (pc := 52) 1 dX11_asksOf_52 rfl rfl ?_
    refine r_iconst (pc := 53) dX11_asksOf_53 ?_
    refine r_callV (pc := 54) (As := [(.int (iI (((c : Nat) : Int)))), (.int (iI (1)))]) (S := [(.int (iI (2))), (.ref 175)]) dX11_asksOf_54 cv_X11_138 hM.k rfl (Nat.le_of_ble_eq_true rfl) (m_fact (c := c) (w := 1) (v := K (5 * c + 1)) l z _ hM (by omega) (by decide) (rdn (by decide) (rdn (by decide) (rdn (by decide) (rdn (by decide) (congrFun hK _)))))) (Nat.zero_le _) (Nat.zero_le _) (fun r_54 g_54 f_54 q_54 => ?_)
    obtain ⟨rfl, rfl, rfl⟩ := q_54
    refine r_iastv (pc := 57) (i := 2) dX11_asksOf_57 hM.a21 (by decide) (by decide) rfl ?_
    refine r_aload_n (pc := 58) 0 dX11_asksOf_58 rfl rfl ?_
    refine r_getR (pc := 59) (b := 175) dX11_asksOf_59 fl_X11_49 rfl hM.k hM.r21 ?_
    refine r_iconst (pc := 62) dX11_asksOf_62 ?_
    refine r_aload_n (pc := 63) 0 dX11_asksOf_63 rfl rfl ?_
    refine r_iload_n (pc := 64) 1 dX11_asksOf_64 rfl rfl ?_
    refine r_iconst (pc := 65) dX11_asksOf_65 ?_
    refine r_callV (pc := 66) (As := [(.int (iI (((c : Nat) : Int)))), (.int (iI (2)))]) (S := [(.int (iI (3))), (.ref 175)]) dX11_asksOf_66 cv_X11_138 hM.k rfl (Nat.le_of_ble_eq_true rfl) (m_fact (c := c) (w := 2) (v := K (5 * c + 2)) l z _ hM (by omega) (by decide) (rdn (by decide) (rdn (by decide) (rdn (by decide) (rdn (by decide) (rdn (by decide) (congrFun hK _))))))) (Nat.zero_le _) (Nat.zero_le _) (fun r_66 g_66 f_66 q_66 => ?_)
    obtain ⟨rfl, rfl, rfl⟩ := q_66
    refine r_iastv (pc := 69) (i := 3) dX11_asksOf_69 hM.a21 (by decide) (by decide) rfl ?_
    refine r_aload_n (pc := 70) 0 dX11_asksOf_70 rfl rfl ?_
    refine r_getR (pc := 71) (b := 175) dX11_asksOf_71 fl_X11_49 rfl hM.k hM.r21 ?_
    refine r_iconst (pc := 74) dX11_asksOf_74 ?_
    refine r_iload_n (pc := 75) 3 dX11_asksOf_75 rfl rfl ?_
    refine r_iastv (pc := 76) (i := 4) dX11_asksOf_76 hM.a21 (by decide) (by decide) rfl ?_
    refine r_aload_n (pc := 77) 0 dX11_asksOf_77 rfl rfl ?_
    refine r_getR (pc := 78) (b := 175) dX11_asksOf_78 fl_X11_49 rfl hM.k hM.r21 ?_
    refine r_iconst (pc := 81) dX11_asksOf_81 ?_
    refine r_iload_n (pc := 82) 2 dX11_asksOf_82 rfl rfl ?_
    refine r_iastv (pc := 83) (i := 5) dX11_asksOf_83 hM.a21 (by decide) (by decide) rfl ?_
    refine r_aload_n (pc := 84) 0 dX11_asksOf_84 rfl rfl ?_
    refine r_getR (pc := 85) (b := 175) dX11_asksOf_85 fl_X11_49 rfl hM.k hM.r21 ?_
    refine r_bipush (pc := 88) dX11_asksOf_88 (by decide) ?_
    refine r_iload (pc := 90) 4 dX11_asksOf_90 rfl ?_
    refine r_iastv (pc := 92) (i := 6) dX11_asksOf_92 hM.a21 (by decide) (by decide) rfl ?_
    refine r_aload_n (pc := 93) 0 dX11_asksOf_93 rfl rfl ?_
    refine r_getR (pc := 94) (b := 175) dX11_asksOf_94 fl_X11_49 rfl hM.k hM.r21 ?_
    refine r_bipush (pc := 97) dX11_asksOf_97 (by decide) ?_
    refine r_iload (pc := 99) 4 dX11_asksOf_99 rfl ?_
    refine r_iconst (pc := 101) dX11_asksOf_101 ?_
    refine r_icmp_ne (pc := 102) (tgt := 109) dX11_asksOf_102 (by decide) (by omega) (by omega) (fun c_102 => ?_) (fun c_102 => ?_)
    · refine r_aload_n (pc := 109) 0 dX11_asksOf_109 rfl rfl ?_
      refine r_iload (pc := 110) 4 dX11_asksOf_110 rfl ?_
      refine r_eqI (y := ((oth.toNat : Nat) : Int)) (by omega) ?_
      refine r_iconst (pc := 112) dX11_asksOf_112 ?_
      refine r_callV (pc := 113) (As := [(.int (iI (((oth.toNat : Nat) : Int)))), (.int (iI (1)))]) (S := [(.int (iI (7))), (.ref 175)]) dX11_asksOf_113 cv_X11_138 hM.k rfl (Nat.le_of_ble_eq_true rfl) (m_fact (c := oth.toNat) (w := 1) (v := K (5 * oth.toNat + 1)) l z _ hM (by omega) (by decide) (rdn (by decide) (rdn (by decide) (rdn (by decide) (rdn (by decide) (rdn (by decide) (rdn (by decide) (rdn (by decide) (rdn (by decide) (rdn (by decide) (congrFun hK _))))))))))) (Nat.zero_le _) (Nat.zero_le _) (fun r_113 g_113 f_113 q_113 => ?_)
      obtain ⟨rfl, rfl, rfl⟩ := q_113
      refine r_iastv (pc := 116) (i := 7) dX11_asksOf_116 hM.a21 (by decide) (by decide) rfl ?_
      refine r_aload_n (pc := 117) 0 dX11_asksOf_117 rfl rfl ?_
      refine r_sipush (pc := 118) dX11_asksOf_118 (by decide) ?_
      refine r_aload_n (pc := 121) 0 dX11_asksOf_121 rfl rfl ?_
      refine r_getR (pc := 122) (b := 166) dX11_asksOf_122 fl_X11_17 rfl hM.k hM.r2 ?_
      refine r_bipush (pc := 125) dX11_asksOf_125 (by decide) ?_
      refine r_ialdv (pc := 127) (w := K 81) dX11_asksOf_127 hM.a2 (by decide) (by decide) (rdn (by decide) (rdn (by decide) (rdn (by decide) (rdn (by decide) (rdn (by decide) (rdn (by decide) (rdn (by decide) (rdn (by decide) (rdn (by decide) (rdn (by decide) (congrFun hK _))))))))))) ?_
      refine r_eqI (y := ((fo : Nat) : Int)) (hfo) ?_
      refine r_imul (pc := 128) dX11_asksOf_128 ?_
      refine r_eqI (y := ((400 * fo : Nat) : Int)) (Int.natCast_mul _ _ |>.symm) ?_
      refine r_putI (pc := 129) dX11_asksOf_129 fl_X11_228 rfl rfl hM.k ?_
      refine r_aload_n (pc := 132) 0 dX11_asksOf_132 rfl rfl ?_
      refine r_aload_n (pc := 133) 0 dX11_asksOf_133 rfl rfl ?_
      refine r_getIv (pc := 134) (x := ((400 * fo : Nat) : Int)) dX11_asksOf_134 fl_X11_228 rfl hM.k (stF_s _ _ _ _) ?_
      refine r_aload_n (pc := 137) 0 dX11_asksOf_137 rfl rfl ?_
      refine r_getR (pc := 138) (b := 166) dX11_asksOf_138 fl_X11_17 rfl hM.k hM.r2 ?_
      refine r_bipush (pc := 141) dX11_asksOf_141 (by decide) ?_
      refine r_aload_n (pc := 143) 0 dX11_asksOf_143 rfl rfl ?_
      refine r_getR (pc := 144) (b := 166) dX11_asksOf_144 fl_X11_17 rfl hM.k hM.r2 ?_
      refine r_bipush (pc := 147) dX11_asksOf_147 (by decide) ?_
      refine r_ialdv (pc := 149) (w := K 81) dX11_asksOf_149 hM.a2 (by decide) (by decide) (rdn (by decide) (rdn (by decide) (rdn (by decide) (rdn (by decide) (rdn (by decide) (rdn (by decide) (rdn (by decide) (rdn (by decide) (rdn (by decide) (rdn (by decide) (rdn (by decide) (congrFun hK _)))))))))))) ?_
      refine r_eqI (y := ((fo : Nat) : Int)) (hfo) ?_
      refine r_iadd (pc := 150) dX11_asksOf_150 ?_
      refine r_eqI (y := ((82 + fo : Nat) : Int)) (Int.natCast_add _ _ |>.symm) ?_
      refine r_ialdv (pc := 151) (w := K (82 + fo)) dX11_asksOf_151 hM.a2 (by omega) (by decide) (rdn (by decide) (rdn (by decide) (rdn (by decide) (rdn (by decide) (rdn (by decide) (rdn (by decide) (rdn (by decide) (rdn (by decide) (rdn (by decide) (rdn (by decide) (rdn (by decide) (congrFun hK _)))))))))))) ?_
      refine r_eqI (y := ((T : Nat) : Int)) (hTT) ?_
      refine r_iadd (pc := 152) dX11_asksOf_152 ?_
      refine r_eqI (y := (((400 * fo) + T : Nat) : Int)) (Int.natCast_add _ _ |>.symm) ?_
      refine r_putI (pc := 153) dX11_asksOf_153 fl_X11_225 rfl rfl hM.k ?_
      have hkT : kT K fo = T := by unfold kT; omega
      have hlk : lawK K (K 81).toNat = cls := by rw [show (K 81).toNat = fo by omega]; unfold lawK; rw [hcls]
      have hoth : oth = -1 ∨ 0 ≤ oth := by omega
      have hw8 : ∀ k, k < 8 → (stF (stF (stF (stF (stF (stF (stF (stF (stF (stF (stF (stF f 164 22 (K (5 * c))) 164 23 (0)) 175 0 (((c : Nat) : Int))) 175 1 (K (5 * c))) 175 2 (K (5 * c + 1))) 175 3 (K (5 * c + 2))) 175 4 (had)) 175 5 (day)) 175 6 (oth)) 175 7 (K (5 * oth.toNat + 1))) 164 18 (((400 * fo : Nat) : Int))) 164 19 ((((400 * fo) + T : Nat) : Int))) 175 k = (eK K day had c oth) k := fun k hk => by
        rcases (show k = 0 ∨ k = 1 ∨ k = 2 ∨ k = 3 ∨ k = 4 ∨ k = 5 ∨ k = 6 ∨ k = 7 by omega) with rfl | rfl | rfl | rfl | rfl | rfl | rfl | rfl
        · exact rdn (by decide) (rdn (by decide) (rdi (by decide) (rdi (by decide) (rdi (by decide) (rdi (by decide) (rdi (by decide) (rdi (by decide) (rdi (by decide) (stF_s _ _ _ _)))))))))
        · exact rdn (by decide) (rdn (by decide) (rdi (by decide) (rdi (by decide) (rdi (by decide) (rdi (by decide) (rdi (by decide) (rdi (by decide) (stF_s _ _ _ _))))))))
        · exact rdn (by decide) (rdn (by decide) (rdi (by decide) (rdi (by decide) (rdi (by decide) (rdi (by decide) (rdi (by decide) (stF_s _ _ _ _)))))))
        · exact rdn (by decide) (rdn (by decide) (rdi (by decide) (rdi (by decide) (rdi (by decide) (rdi (by decide) (stF_s _ _ _ _))))))
        · exact rdn (by decide) (rdn (by decide) (rdi (by decide) (rdi (by decide) (rdi (by decide) (stF_s _ _ _ _)))))
        · exact rdn (by decide) (rdn (by decide) (rdi (by decide) (rdi (by decide) (stF_s _ _ _ _))))
        · exact rdn (by decide) (rdn (by decide) (rdi (by decide) (stF_s _ _ _ _)))
        · refine (rdn (by decide) (rdn (by decide) (stF_s _ _ _ _))).trans ?_; unfold eK; rw [if_neg (by decide), if_neg (by decide), if_neg (by decide), if_neg (by decide), if_neg (by decide), if_neg (by decide), if_neg (by decide), if_neg (by omega)]
      have h166 : (stF (stF (stF (stF (stF (stF (stF (stF (stF (stF (stF (stF f 164 22 (K (5 * c))) 164 23 (0)) 175 0 (((c : Nat) : Int))) 175 1 (K (5 * c))) 175 2 (K (5 * c + 1))) 175 3 (K (5 * c + 2))) 175 4 (had)) 175 5 (day)) 175 6 (oth)) 175 7 (K (5 * oth.toNat + 1))) 164 18 (((400 * fo : Nat) : Int))) 164 19 ((((400 * fo) + T : Nat) : Int))) 166 = K := by rw [stF_n _ _ _ (by decide), stF_n _ _ _ (by decide), stF_n _ _ _ (by decide), stF_n _ _ _ (by decide), stF_n _ _ _ (by decide), stF_n _ _ _ (by decide), stF_n _ _ _ (by decide), stF_n _ _ _ (by decide), stF_n _ _ _ (by decide), stF_n _ _ _ (by decide), stF_n _ _ _ (by decide), stF_n _ _ _ (by decide), hK]
      refine r_sub (L2 := [(0, (.ref 164)), (1, (.int (iI (((c : Nat) : Int))))), (2, (.int (iI (day)))), (3, (.int (iI (had)))), (4, (.int (iI (oth))))]) [0, 1, 2, 3, 4] rfl ?_
      exact tail fo T cls _ (by omega) hlk ⟨stF_s _ _ _ _, fun i hi => by rw [h166]; unfold kC; rw [if_pos (by omega), show 88 + (400 * fo + i) = 88 + 400 * fo + i by omega], fun i hi => by rw [h166]; unfold kV; rw [if_pos (by omega), show 2488 + (400 * fo + i) = 2488 + 400 * fo + i by omega]; exact ⟨rfl, (hlwf.2.2 i (by omega)).2.1⟩, fun i hi => by unfold kC; rw [if_neg (by omega)], ⟨by omega, by omega⟩, hw8, he, kC_r hO (by omega)⟩ (fun i => by unfold kE; rw [decide_eq_true_eq, hkT]) hcls (by omega) (fun a h1 h2 => by rw [stF_n _ _ _ h1, stF_n _ _ _ h1, stF_n _ _ _ h2, stF_n _ _ _ h2, stF_n _ _ _ h2, stF_n _ _ _ h2, stF_n _ _ _ h2, stF_n _ _ _ h2, stF_n _ _ _ h2, stF_n _ _ _ h2, stF_n _ _ _ h1, stF_n _ _ _ h1]) (fun i h1 h2 h3 h4 => by rw [stF_i _ _ _ h2, stF_i _ _ _ h1, stF_n _ _ _ (by decide), stF_n _ _ _ (by decide), stF_n _ _ _ (by decide), stF_n _ _ _ (by decide), stF_n _ _ _ (by decide), stF_n _ _ _ (by decide), stF_n _ _ _ (by decide), stF_n _ _ _ (by decide), stF_i _ _ _ h4, stF_i _ _ _ h3]) ⟨fun _ _ => rfl, fun _ _ _ _ _ => rfl, rdi (by decide) (stF_s _ _ _ _), by obtain ⟨bk, hbk⟩ := hb20; exact ⟨bk, (rdi (by decide) (rdi (by decide) (rdn (by decide) (rdn (by decide) (rdn (by decide) (rdn (by decide) (rdn (by decide) (rdn (by decide) (rdn (by decide) (rdn (by decide) (rdi (by decide) (rdi (by decide) (rfl))))))))))))).trans hbk⟩, rdi (by decide) (rdi (by decide) (rdn (by decide) (rdn (by decide) (rdn (by decide) (rdn (by decide) (rdn (by decide) (rdn (by decide) (rdn (by decide) (rdn (by decide) (rdi (by decide) (stF_s _ _ _ _))))))))))), rdi (by decide) (rdi (by decide) (rdn (by decide) (rdn (by decide) (rdn (by decide) (rdn (by decide) (rdn (by decide) (rdn (by decide) (rdn (by decide) (rdn (by decide) (stF_s _ _ _ _)))))))))), by omega⟩
    · refine r_iconst (pc := 105) dX11_asksOf_105 ?_
      refine r_goto (pc := 106) (tgt := 116) dX11_asksOf_106 (by decide) ?_
      refine r_iastv (pc := 116) (i := 7) dX11_asksOf_116 hM.a21 (by decide) (by decide) rfl ?_
      refine r_aload_n (pc := 117) 0 dX11_asksOf_117 rfl rfl ?_
      refine r_sipush (pc := 118) dX11_asksOf_118 (by decide) ?_
      refine r_aload_n (pc := 121) 0 dX11_asksOf_121 rfl rfl ?_
      refine r_getR (pc := 122) (b := 166) dX11_asksOf_122 fl_X11_17 rfl hM.k hM.r2 ?_
      refine r_bipush (pc := 125) dX11_asksOf_125 (by decide) ?_
      refine r_ialdv (pc := 127) (w := K 81) dX11_asksOf_127 hM.a2 (by decide) (by decide) (rdn (by decide) (rdn (by decide) (rdn (by decide) (rdn (by decide) (rdn (by decide) (rdn (by decide) (rdn (by decide) (rdn (by decide) (rdn (by decide) (rdn (by decide) (congrFun hK _))))))))))) ?_
      refine r_eqI (y := ((fo : Nat) : Int)) (hfo) ?_
      refine r_imul (pc := 128) dX11_asksOf_128 ?_
      refine r_eqI (y := ((400 * fo : Nat) : Int)) (Int.natCast_mul _ _ |>.symm) ?_
      refine r_putI (pc := 129) dX11_asksOf_129 fl_X11_228 rfl rfl hM.k ?_
      refine r_aload_n (pc := 132) 0 dX11_asksOf_132 rfl rfl ?_
      refine r_aload_n (pc := 133) 0 dX11_asksOf_133 rfl rfl ?_
      refine r_getIv (pc := 134) (x := ((400 * fo : Nat) : Int)) dX11_asksOf_134 fl_X11_228 rfl hM.k (stF_s _ _ _ _) ?_
      refine r_aload_n (pc := 137) 0 dX11_asksOf_137 rfl rfl ?_
      refine r_getR (pc := 138) (b := 166) dX11_asksOf_138 fl_X11_17 rfl hM.k hM.r2 ?_
      refine r_bipush (pc := 141) dX11_asksOf_141 (by decide) ?_
      refine r_aload_n (pc := 143) 0 dX11_asksOf_143 rfl rfl ?_
      refine r_getR (pc := 144) (b := 166) dX11_asksOf_144 fl_X11_17 rfl hM.k hM.r2 ?_
      refine r_bipush (pc := 147) dX11_asksOf_147 (by decide) ?_
      refine r_ialdv (pc := 149) (w := K 81) dX11_asksOf_149 hM.a2 (by decide) (by decide) (rdn (by decide) (rdn (by decide) (rdn (by decide) (rdn (by decide) (rdn (by decide) (rdn (by decide) (rdn (by decide) (rdn (by decide) (rdn (by decide) (rdn (by decide) (rdn (by decide) (congrFun hK _)))))))))))) ?_
      refine r_eqI (y := ((fo : Nat) : Int)) (hfo) ?_
      refine r_iadd (pc := 150) dX11_asksOf_150 ?_
      refine r_eqI (y := ((82 + fo : Nat) : Int)) (Int.natCast_add _ _ |>.symm) ?_
      refine r_ialdv (pc := 151) (w := K (82 + fo)) dX11_asksOf_151 hM.a2 (by omega) (by decide) (rdn (by decide) (rdn (by decide) (rdn (by decide) (rdn (by decide) (rdn (by decide) (rdn (by decide) (rdn (by decide) (rdn (by decide) (rdn (by decide) (rdn (by decide) (rdn (by decide) (congrFun hK _)))))))))))) ?_
      refine r_eqI (y := ((T : Nat) : Int)) (hTT) ?_
      refine r_iadd (pc := 152) dX11_asksOf_152 ?_
      refine r_eqI (y := (((400 * fo) + T : Nat) : Int)) (Int.natCast_add _ _ |>.symm) ?_
      refine r_putI (pc := 153) dX11_asksOf_153 fl_X11_225 rfl rfl hM.k ?_
      have hkT : kT K fo = T := by unfold kT; omega
      have hlk : lawK K (K 81).toNat = cls := by rw [show (K 81).toNat = fo by omega]; unfold lawK; rw [hcls]
      have hoth : oth = -1 ∨ 0 ≤ oth := by omega
      have hw8 : ∀ k, k < 8 → (stF (stF (stF (stF (stF (stF (stF (stF (stF (stF (stF (stF f 164 22 (K (5 * c))) 164 23 (0)) 175 0 (((c : Nat) : Int))) 175 1 (K (5 * c))) 175 2 (K (5 * c + 1))) 175 3 (K (5 * c + 2))) 175 4 (had)) 175 5 (day)) 175 6 (oth)) 175 7 (-1)) 164 18 (((400 * fo : Nat) : Int))) 164 19 ((((400 * fo) + T : Nat) : Int))) 175 k = (eK K day had c oth) k := fun k hk => by
        rcases (show k = 0 ∨ k = 1 ∨ k = 2 ∨ k = 3 ∨ k = 4 ∨ k = 5 ∨ k = 6 ∨ k = 7 by omega) with rfl | rfl | rfl | rfl | rfl | rfl | rfl | rfl
        · exact rdn (by decide) (rdn (by decide) (rdi (by decide) (rdi (by decide) (rdi (by decide) (rdi (by decide) (rdi (by decide) (rdi (by decide) (rdi (by decide) (stF_s _ _ _ _)))))))))
        · exact rdn (by decide) (rdn (by decide) (rdi (by decide) (rdi (by decide) (rdi (by decide) (rdi (by decide) (rdi (by decide) (rdi (by decide) (stF_s _ _ _ _))))))))
        · exact rdn (by decide) (rdn (by decide) (rdi (by decide) (rdi (by decide) (rdi (by decide) (rdi (by decide) (rdi (by decide) (stF_s _ _ _ _)))))))
        · exact rdn (by decide) (rdn (by decide) (rdi (by decide) (rdi (by decide) (rdi (by decide) (rdi (by decide) (stF_s _ _ _ _))))))
        · exact rdn (by decide) (rdn (by decide) (rdi (by decide) (rdi (by decide) (rdi (by decide) (stF_s _ _ _ _)))))
        · exact rdn (by decide) (rdn (by decide) (rdi (by decide) (rdi (by decide) (stF_s _ _ _ _))))
        · exact rdn (by decide) (rdn (by decide) (rdi (by decide) (stF_s _ _ _ _)))
        · refine (rdn (by decide) (rdn (by decide) (stF_s _ _ _ _))).trans ?_; unfold eK; rw [if_neg (by decide), if_neg (by decide), if_neg (by decide), if_neg (by decide), if_neg (by decide), if_neg (by decide), if_neg (by decide), if_pos (by omega)]
      have h166 : (stF (stF (stF (stF (stF (stF (stF (stF (stF (stF (stF (stF f 164 22 (K (5 * c))) 164 23 (0)) 175 0 (((c : Nat) : Int))) 175 1 (K (5 * c))) 175 2 (K (5 * c + 1))) 175 3 (K (5 * c + 2))) 175 4 (had)) 175 5 (day)) 175 6 (oth)) 175 7 (-1)) 164 18 (((400 * fo : Nat) : Int))) 164 19 ((((400 * fo) + T : Nat) : Int))) 166 = K := by rw [stF_n _ _ _ (by decide), stF_n _ _ _ (by decide), stF_n _ _ _ (by decide), stF_n _ _ _ (by decide), stF_n _ _ _ (by decide), stF_n _ _ _ (by decide), stF_n _ _ _ (by decide), stF_n _ _ _ (by decide), stF_n _ _ _ (by decide), stF_n _ _ _ (by decide), stF_n _ _ _ (by decide), stF_n _ _ _ (by decide), hK]
      refine r_sub (L2 := [(0, (.ref 164)), (1, (.int (iI (((c : Nat) : Int))))), (2, (.int (iI (day)))), (3, (.int (iI (had)))), (4, (.int (iI (oth))))]) [0, 1, 2, 3, 4] rfl ?_
      exact tail fo T cls _ (by omega) hlk ⟨stF_s _ _ _ _, fun i hi => by rw [h166]; unfold kC; rw [if_pos (by omega), show 88 + (400 * fo + i) = 88 + 400 * fo + i by omega], fun i hi => by rw [h166]; unfold kV; rw [if_pos (by omega), show 2488 + (400 * fo + i) = 2488 + 400 * fo + i by omega]; exact ⟨rfl, (hlwf.2.2 i (by omega)).2.1⟩, fun i hi => by unfold kC; rw [if_neg (by omega)], ⟨by omega, by omega⟩, hw8, he, kC_r hO (by omega)⟩ (fun i => by unfold kE; rw [decide_eq_true_eq, hkT]) hcls (by omega) (fun a h1 h2 => by rw [stF_n _ _ _ h1, stF_n _ _ _ h1, stF_n _ _ _ h2, stF_n _ _ _ h2, stF_n _ _ _ h2, stF_n _ _ _ h2, stF_n _ _ _ h2, stF_n _ _ _ h2, stF_n _ _ _ h2, stF_n _ _ _ h2, stF_n _ _ _ h1, stF_n _ _ _ h1]) (fun i h1 h2 h3 h4 => by rw [stF_i _ _ _ h2, stF_i _ _ _ h1, stF_n _ _ _ (by decide), stF_n _ _ _ (by decide), stF_n _ _ _ (by decide), stF_n _ _ _ (by decide), stF_n _ _ _ (by decide), stF_n _ _ _ (by decide), stF_n _ _ _ (by decide), stF_n _ _ _ (by decide), stF_i _ _ _ h4, stF_i _ _ _ h3]) ⟨fun _ _ => rfl, fun _ _ _ _ _ => rfl, rdi (by decide) (stF_s _ _ _ _), by obtain ⟨bk, hbk⟩ := hb20; exact ⟨bk, (rdi (by decide) (rdi (by decide) (rdn (by decide) (rdn (by decide) (rdn (by decide) (rdn (by decide) (rdn (by decide) (rdn (by decide) (rdn (by decide) (rdn (by decide) (rdi (by decide) (rdi (by decide) (rfl))))))))))))).trans hbk⟩, rdi (by decide) (rdi (by decide) (rdn (by decide) (rdn (by decide) (rdn (by decide) (rdn (by decide) (rdn (by decide) (rdn (by decide) (rdn (by decide) (rdn (by decide) (rdi (by decide) (stF_s _ _ _ _))))))))))), rdi (by decide) (rdi (by decide) (rdn (by decide) (rdn (by decide) (rdn (by decide) (rdn (by decide) (rdn (by decide) (rdn (by decide) (rdn (by decide) (rdn (by decide) (stF_s _ _ _ _)))))))))), by omega⟩
  · exact r_vret (pc := 26) dX11_asksOf_26 rfl ⟨rfl, rfl, fun a h1 h2 => by rw [stF_n _ _ _ h1, stF_n _ _ _ h1], fun i h1 h2 h3 h4 h5 => by rw [stF_i _ _ _ h5, stF_i _ _ _ h4], by obtain ⟨bk, hbk⟩ := hb20; exact ⟨bk, rdi (by decide) (rdi (by decide) hbk)⟩, by rw [if_pos c_23]; exact rdi (by decide) (stF_s _ _ _ _), by rw [if_pos c_23]; exact stF_s _ _ _ _⟩

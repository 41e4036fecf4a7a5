def EvS (l : Launch) (z : Zv) (d : Nat) (g : Gm) (a s0 fr to_ : Nat) (post : Po) (f0 : Fm) (e : Nat → Int) (t : Term) : Prop := ∀ (s s' top : Nat) (f1 : Fm), cdS (f0 s0) t s s' → s' ≤ to_ → top + lvs t ≤ 64 → (∀ q, q ≠ a + 2 → f1 q = f0 q) → (∀ i, i < top → (-1000000000 ≤ f1 (a + 2) i ∧ f1 (a + 2) i ≤ 1000000000)) → (∀ v, evS e t = some v → (-1000000000 ≤ v ∧ v ≤ 1000000000) → ∀ f2, (∀ q, q ≠ a + 2 → f2 q = f0 q) → (∀ i, i < top → f2 (a + 2) i = f1 (a + 2) i) → f2 (a + 2) top = v → WK l z d g a s0 fr to_ post s' (top + 1) f2) → (evS e t = none → ∀ f2, (∀ q, q ≠ a + 2 → f2 q = f0 q) → post (some (.long (lI 1000000001))) g f2) → WK l z d g a s0 fr to_ post s top f1
def EvT (l : Launch) (z : Zv) (d : Nat) (g : Gm) (a s0 fr to_ : Nat) (post : Po) (f0 : Fm) (e : Nat → Int) (t : Term) : Prop := ∀ (s s' top : Nat) (f1 : Fm), cdT (f0 s0) t s s' → s' ≤ to_ → top + lvs t ≤ 64 → (∀ q, q ≠ a + 2 → f1 q = f0 q) → (∀ i, i < top → (-1000000000 ≤ f1 (a + 2) i ∧ f1 (a + 2) i ≤ 1000000000)) → (∀ v, evT e t = some v → ∀ f2, (∀ q, q ≠ a + 2 → f2 q = f0 q) → (∀ i, i < top → f2 (a + 2) i = f1 (a + 2) i) → f2 (a + 2) top = b01 (v = true) → WK l z d g a s0 fr to_ post s' (top + 1) f2) → (evT e t = none → ∀ f2, (∀ q, q ≠ a + 2 → f2 q = f0 q) → post (some (.long (lI 1000000001))) g f2) → WK l z d g a s0 fr to_ post s top f1

theorem cdS_lv {A : Nat → Int} : ∀ {t : Term} {s s' : Nat}, cdS A t s s' → 1 ≤ lvs t := by
  intro t
  induction t <;> intro s s' h <;> simp only [cdS] at h <;> first | exact h.elim | (simp only [lvs]; omega) | skip
  all_goals
    rename_i iha ihb
    obtain ⟨m, m', h1, h2, -, rfl⟩ := h
    have := iha h1
    simp only [lvs]; omega
theorem cdT_lv {A : Nat → Int} : ∀ {t : Term} {s s' : Nat}, cdT A t s s' → 1 ≤ lvs t := by
  intro t
  induction t <;> intro s s' h <;> simp only [cdT] at h <;> first | exact h.elim | skip
  case sub | div | rem =>
    obtain ⟨m, m', h1, h2, -, rfl⟩ := h
    have := cdS_lv h1
    simp only [lvs]; omega
  case add | mul =>
    rename_i iha ihb
    obtain ⟨m, h1, -, h2⟩ := h
    have := iha h1
    simp only [lvs]; omega
  case sum =>
    rename_i iha
    obtain ⟨m, h1, -, rfl⟩ := h
    have := iha h1
    simp only [lvs]; omega

set_option maxRecDepth 100000 in
set_option maxHeartbeats 4000000 in
theorem ev2 {l : Launch} {z : Zv} {d : Nat} {g : Gm} {a s0 fr to_ n1 : Nat} {post : Po} {f0 : Fm} {e : Nat → Int} (hA : AL g a) (hS : isA g s0 11 n1) (hn1 : n1 ≤ 401) (hto : to_ ≤ n1) (hne : s0 ≠ a + 2) (hw0 : ∀ k, k < 8 → f0 (a + 1) k = e k) (he : ∀ k, k < 8 → -1000000000 ≤ e k ∧ e k ≤ 1000000000) {ta tb : Term} (ha : EvS l z d g a s0 fr to_ post f0 e ta) (hb : EvS l z d g a s0 fr to_ post f0 e tb) {kk s m m' top : Nat} {f1 : Fm} (k2 : 2 ≤ kk) (k9 : kk < 9) (c1 : cdS (f0 s0) ta s m) (c2 : cdS (f0 s0) tb m m') (c3 : f0 s0 m' = ((kk : Nat) : Int)) (hm : m' + 1 ≤ to_) (htop : top + lvs ta + lvs tb ≤ 64) (hfr0 : ∀ q, q ≠ a + 2 → f1 q = f0 q) (hrg0 : ∀ i, i < top → (-1000000000 ≤ f1 (a + 2) i ∧ f1 (a + 2) i ≤ 1000000000))
    (hk : ∀ _ : Unit, ∀ va vb, evS e ta = some va → evS e tb = some vb → (-1000000000 ≤ jnV kk va vb ∧ jnV kk va vb ≤ 1000000000) → ∀ f2, (∀ q, q ≠ a + 2 → f2 q = f0 q) → (∀ i, i < top → f2 (a + 2) i = f1 (a + 2) i) → f2 (a + 2) top = jnV kk va vb → WK l z d g a s0 fr to_ post (m' + 1) (top + 1) f2)
    (hbr : ∀ _ : Unit, (evS e ta = none ∨ evS e tb = none ∨ ∃ va vb, evS e ta = some va ∧ evS e tb = some vb ∧ (jnV kk va vb < -1000000000 ∨ 1000000000 < jnV kk va vb)) → ∀ f2, (∀ q, q ≠ a + 2 → f2 q = f0 q) → post (some (.long (lI 1000000001))) g f2) : WK l z d g a s0 fr to_ post s top f1 := by
  have l1 := cdS_lv c1
  have l2 := cdS_lv c2
  have l3 := cdS_lt c1
  have l4 := cdS_lt c2
  refine ha s m top f1 c1 (by omega) (by omega) hfr0 hrg0 ?_ (fun h f2 hf => hbr () (Or.inl h) f2 hf)
  intro va ea ra f2 hf2 hl2 ht2
  refine hb m m' (top + 1) f2 c2 (by omega) (by omega) hf2 (fun i hi => ?_) ?_ (fun h f3 hf => hbr () (Or.inr (Or.inl h)) f3 hf)
  · rcases (show i < top ∨ i = top by omega) with q | rfl
    · rw [hl2 i q]; exact hrg0 i q
    · rw [ht2]; exact ra
  intro vb eb rb f3 hf3 hl3 ht3
  have x1 : f3 (a + 2) top = va := by rw [hl3 top (by omega)]; exact ht2
  have hfr : ∀ q, q ≠ a + 2 → f3 q = f0 q := hf3
  have hrg : ∀ i, i < top + 1 + 1 → (-1000000000 ≤ f3 (a + 2) i ∧ f3 (a + 2) i ≤ 1000000000) := fun i hi => by
    rcases (show i < top ∨ i = top ∨ i = top + 1 by omega) with q | rfl | rfl
    · rw [hl3 i (by omega), hl2 i q]; exact hrg0 i q
    · rw [x1]; exact ra
    · rw [ht3]; exact rb
  have e1 : top + 1 + 1 - 2 = top := by omega
  have e2 : top + 1 + 1 - 1 = top + 1 := by omega
  refine w_step (kk := kk) (w := 0) (top := top + 1 + 1) (n1 := n1) (e := e) l z d hA hS hn1 hto (by omega) (by rw [hfr s0 (by omega), c3]; simp) (by omega) (by omega) (by omega) (fun k hk => by rw [hfr (a + 1) (by omega)]; exact hw0 k hk) he (by omega) (by omega) (by omega) (by omega) (by omega) hrg (by omega) (fun _ hq => absurd hq (by omega)) (fun _ hq => absurd hq (by omega)) ?_ ?_ (fun _ hq => absurd hq (by omega)) (fun _ hq => absurd hq (by omega)) (fun _ hq => absurd hq (by omega))
  · rw [e1, e2, x1, ht3]
    intro _ _ _ r1 r2
    exact hk () va vb ea eb ⟨r1, r2⟩ _ (fun q hq => by rw [stF_n _ _ _ hq]; exact hf3 q hq) (fun i hi => by rw [stF_i _ _ _ (by omega), hl3 i (by omega), hl2 i hi]) (stF_s _ _ _ _)
  · rw [e1, e2, x1, ht3]
    intro _ _ _ hq
    exact hbr () (Or.inr (Or.inr ⟨va, vb, ea, eb, hq⟩)) f3 hf3

theorem bnd_in {v w : Int} (h : bnd v = some w) : w = v ∧ (-1000000000 ≤ v ∧ v ≤ 1000000000) := by
  unfold bnd at h
  split at h
  · rename_i q; cases h; exact ⟨rfl, q⟩
  · cases h
theorem bnd_s {v : Int} (h : (-1000000000 ≤ v ∧ v ≤ 1000000000)) : bnd v = some v := if_pos h
theorem bnd_n {v : Int} (h : v < -1000000000 ∨ 1000000000 < v) : bnd v = none := if_neg (by omega)
theorem j2 (a b : Int) : jnV 2 a b = a + b := rfl
theorem j3 (a b : Int) : jnV 3 a b = a - b := rfl
theorem j4 (a b : Int) : jnV 4 a b = a * b := rfl
theorem j5 (a b : Int) : jnV 5 a b = if b = 0 then 1000000001 else a.tdiv b := rfl
theorem j6 (a b : Int) : jnV 6 a b = b01 (a < b) := rfl
theorem j7 (a b : Int) : jnV 7 a b = b01 (b < a) := rfl
theorem j8 (a b : Int) : jnV 8 a b = b01 (a = b) := rfl
theorem b01_dec {p : Prop} [Decidable p] : b01 (decide p = true) = b01 p := by unfold b01; simp
theorem b01_01r {p : Prop} [Decidable p] : (-1000000000 ≤ b01 p ∧ b01 p ≤ 1000000000) := by unfold b01; split <;> omega

set_option maxRecDepth 100000 in
set_option maxHeartbeats 4000000 in
theorem ev_S {l : Launch} {z : Zv} {d : Nat} {g : Gm} {a s0 fr to_ n1 : Nat} {post : Po} {f0 : Fm} {e : Nat → Int} (hA : AL g a) (hS : isA g s0 11 n1) (hn1 : n1 ≤ 401) (hto : to_ ≤ n1) (hne : s0 ≠ a + 2) (hw0 : ∀ k, k < 8 → f0 (a + 1) k = e k) (he : ∀ k, k < 8 → -1000000000 ≤ e k ∧ e k ≤ 1000000000) : ∀ t : Term, EvS l z d g a s0 fr to_ post f0 e t := by
  intro t
  induction t with
  | arg n =>
    intro s s' top f1 hcd hs' htop hfr hrg hk hb
    simp only [cdS] at hcd
    obtain ⟨c1, c2, rfl⟩ := hcd
    simp only [lvs] at htop
    refine w_step (kk := 0) (w := n) (top := top) (n1 := n1) (e := e) l z d hA hS hn1 hto (by omega) (by rw [hfr s0 (by omega), c1]; omega) (by omega) (by omega) (by omega) (fun k hk => by rw [hfr (a + 1) (by omega)]; exact hw0 k hk) he (by omega) (by omega) (by omega) (by omega) (by omega) hrg (by omega) ?_ (fun _ hq => absurd hq (by omega)) (fun _ hq hq2 => absurd hq (by omega)) (fun _ hq hq2 => absurd hq (by omega)) (fun _ hq => absurd hq (by omega)) (fun _ hq => absurd hq (by omega)) (fun _ hq => absurd hq (by omega))
    intro _ _
    exact hk _ rfl (by omega) _ (fun q hq => by rw [stF_n _ _ _ hq]; exact hfr q hq) (fun i hi => stF_i _ _ _ (by omega)) (stF_s _ _ _ _)
  | index n =>
    intro s s' top f1 hcd hs' htop hfr hrg hk hb
    simp only [cdS] at hcd
    obtain ⟨c1, c2, rfl⟩ := hcd
    simp only [lvs] at htop
    refine w_step (kk := 1) (w := n) (top := top) (n1 := n1) (e := e) l z d hA hS hn1 hto (by omega) (by rw [hfr s0 (by omega), c1]; omega) (by omega) (by omega) (by omega) (fun k hk => by rw [hfr (a + 1) (by omega)]; exact hw0 k hk) he (by omega) (by omega) (by omega) (by omega) (by omega) hrg (by omega) (fun _ hq => absurd hq (by omega)) ?_ (fun _ hq hq2 => absurd hq (by omega)) (fun _ hq hq2 => absurd hq (by omega)) (fun _ hq => absurd hq (by omega)) (fun _ hq => absurd hq (by omega)) (fun _ hq => absurd hq (by omega))
    intro _ _
    exact hk _ rfl (he n c2) _ (fun q hq => by rw [stF_n _ _ _ hq]; exact hfr q hq) (fun i hi => stF_i _ _ _ (by omega)) (stF_s _ _ _ _)
  | add ta tb iha ihb =>
    intro s s' top f1 hcd hs' htop hfr hrg hk hb
    simp only [cdS] at hcd
    obtain ⟨m, m', c1, c2, c3, rfl⟩ := hcd
    simp only [lvs] at htop
    refine ev2 hA hS hn1 hto hne hw0 he iha ihb (kk := 2) (by decide) (by decide) c1 c2 (by rw [c3]; rfl) hs' (by omega) hfr hrg ?_ ?_
    · intro _ va vb ea eb rj f2 h1 h2 h3
      refine hk _ ?_ rj f2 h1 h2 h3
      simp only [evS, ea, eb]
      rw [j2] at rj ⊢
      exact bnd_s rj
    · intro _ hq f2 h1
      refine hb ?_ f2 h1
      rcases hq with hq | hq | ⟨va, vb, ea, eb, hq⟩
      · simp only [evS, hq]
      · simp only [evS, hq]; split <;> simp_all
      · simp only [evS, ea, eb]
        rw [j2] at hq
        exact bnd_n hq
  | sub ta tb iha ihb =>
    intro s s' top f1 hcd hs' htop hfr hrg hk hb
    simp only [cdS] at hcd
    obtain ⟨m, m', c1, c2, c3, rfl⟩ := hcd
    simp only [lvs] at htop
    refine ev2 hA hS hn1 hto hne hw0 he iha ihb (kk := 3) (by decide) (by decide) c1 c2 (by rw [c3]; rfl) hs' (by omega) hfr hrg ?_ ?_
    · intro _ va vb ea eb rj f2 h1 h2 h3
      refine hk _ ?_ rj f2 h1 h2 h3
      simp only [evS, ea, eb]
      rw [j3] at rj ⊢
      exact bnd_s rj
    · intro _ hq f2 h1
      refine hb ?_ f2 h1
      rcases hq with hq | hq | ⟨va, vb, ea, eb, hq⟩
      · simp only [evS, hq]
      · simp only [evS, hq]; split <;> simp_all
      · simp only [evS, ea, eb]
        rw [j3] at hq
        exact bnd_n hq
  | mul ta tb iha ihb =>
    intro s s' top f1 hcd hs' htop hfr hrg hk hb
    simp only [cdS] at hcd
    obtain ⟨m, m', c1, c2, c3, rfl⟩ := hcd
    simp only [lvs] at htop
    refine ev2 hA hS hn1 hto hne hw0 he iha ihb (kk := 4) (by decide) (by decide) c1 c2 (by rw [c3]; rfl) hs' (by omega) hfr hrg ?_ ?_
    · intro _ va vb ea eb rj f2 h1 h2 h3
      refine hk _ ?_ rj f2 h1 h2 h3
      simp only [evS, ea, eb]
      rw [j4] at rj ⊢
      exact bnd_s rj
    · intro _ hq f2 h1
      refine hb ?_ f2 h1
      rcases hq with hq | hq | ⟨va, vb, ea, eb, hq⟩
      · simp only [evS, hq]
      · simp only [evS, hq]; split <;> simp_all
      · simp only [evS, ea, eb]
        rw [j4] at hq
        exact bnd_n hq
  | div ta tb iha ihb =>
    intro s s' top f1 hcd hs' htop hfr hrg hk hb
    simp only [cdS] at hcd
    obtain ⟨m, m', c1, c2, c3, rfl⟩ := hcd
    simp only [lvs] at htop
    refine ev2 hA hS hn1 hto hne hw0 he iha ihb (kk := 5) (by decide) (by decide) c1 c2 (by rw [c3]; rfl) hs' (by omega) hfr hrg ?_ ?_
    · intro _ va vb ea eb rj f2 h1 h2 h3
      refine hk _ ?_ rj f2 h1 h2 h3
      simp only [evS, ea, eb]
      rw [j5] at rj ⊢
      by_cases h0 : vb = 0
      · rw [if_pos h0] at rj; omega
      · rw [if_neg h0, if_neg h0]; rw [if_neg h0] at rj; exact bnd_s rj
    · intro _ hq f2 h1
      refine hb ?_ f2 h1
      rcases hq with hq | hq | ⟨va, vb, ea, eb, hq⟩
      · simp only [evS, hq]
      · simp only [evS, hq]; split <;> simp_all
      · simp only [evS, ea, eb]
        rw [j5] at hq
        by_cases h0 : vb = 0
        · rw [if_pos h0]
        · rw [if_neg h0]; rw [if_neg h0] at hq; exact bnd_n hq
  | _ => intro s s' top f1 hcd; simp only [cdS] at hcd

set_option maxRecDepth 100000 in
set_option maxHeartbeats 4000000 in
theorem ev_T {l : Launch} {z : Zv} {d : Nat} {g : Gm} {a s0 fr to_ n1 : Nat} {post : Po} {f0 : Fm} {e : Nat → Int} (hA : AL g a) (hS : isA g s0 11 n1) (hn1 : n1 ≤ 401) (hto : to_ ≤ n1) (hne : s0 ≠ a + 2) (hw0 : ∀ k, k < 8 → f0 (a + 1) k = e k) (he : ∀ k, k < 8 → -1000000000 ≤ e k ∧ e k ≤ 1000000000) : ∀ t : Term, EvT l z d g a s0 fr to_ post f0 e t := by
  intro t
  induction t with
  | sub ta tb =>
    intro s s' top f1 hcd hs' htop hfr hrg hk hb
    simp only [cdT] at hcd
    obtain ⟨m, m', c1, c2, c3, rfl⟩ := hcd
    simp only [lvs] at htop
    refine ev2 hA hS hn1 hto hne hw0 he (ev_S hA hS hn1 hto hne hw0 he ta) (ev_S hA hS hn1 hto hne hw0 he tb) (kk := 6) (by decide) (by decide) c1 c2 (by rw [c3]; rfl) hs' (by omega) hfr hrg ?_ ?_
    · intro _ va vb ea eb rj f2 h1 h2 h3
      refine hk _ (by simp only [evT, ea, eb]; rfl) f2 h1 h2 ?_
      rw [h3, j6, b01_dec]
    · intro _ hq f2 h1
      refine hb ?_ f2 h1
      rcases hq with hq | hq | ⟨va, vb, ea, eb, hq⟩
      · simp only [evT, hq]
      · simp only [evT, hq]; split <;> simp_all
      · exfalso
        rw [j6] at hq
        have := b01_01r (p := va < vb)
        omega
  | div ta tb =>
    intro s s' top f1 hcd hs' htop hfr hrg hk hb
    simp only [cdT] at hcd
    obtain ⟨m, m', c1, c2, c3, rfl⟩ := hcd
    simp only [lvs] at htop
    refine ev2 hA hS hn1 hto hne hw0 he (ev_S hA hS hn1 hto hne hw0 he ta) (ev_S hA hS hn1 hto hne hw0 he tb) (kk := 7) (by decide) (by decide) c1 c2 (by rw [c3]; rfl) hs' (by omega) hfr hrg ?_ ?_
    · intro _ va vb ea eb rj f2 h1 h2 h3
      refine hk _ (by simp only [evT, ea, eb]; rfl) f2 h1 h2 ?_
      rw [h3, j7, b01_dec]
    · intro _ hq f2 h1
      refine hb ?_ f2 h1
      rcases hq with hq | hq | ⟨va, vb, ea, eb, hq⟩
      · simp only [evT, hq]
      · simp only [evT, hq]; split <;> simp_all
      · exfalso
        rw [j7] at hq
        have := b01_01r (p := vb < va)
        omega
  | rem ta tb =>
    intro s s' top f1 hcd hs' htop hfr hrg hk hb
    simp only [cdT] at hcd
    obtain ⟨m, m', c1, c2, c3, rfl⟩ := hcd
    simp only [lvs] at htop
    refine ev2 hA hS hn1 hto hne hw0 he (ev_S hA hS hn1 hto hne hw0 he ta) (ev_S hA hS hn1 hto hne hw0 he tb) (kk := 8) (by decide) (by decide) c1 c2 (by rw [c3]; rfl) hs' (by omega) hfr hrg ?_ ?_
    · intro _ va vb ea eb rj f2 h1 h2 h3
      refine hk _ (by simp only [evT, ea, eb]; rfl) f2 h1 h2 ?_
      rw [h3, j8, b01_dec]
    · intro _ hq f2 h1
      refine hb ?_ f2 h1
      rcases hq with hq | hq | ⟨va, vb, ea, eb, hq⟩
      · simp only [evT, hq]
      · simp only [evT, hq]; split <;> simp_all
      · exfalso
        rw [j8] at hq
        have := b01_01r (p := va = vb)
        omega
  | add ta tb iha ihb =>
    intro s s' top f1 hcd hs' htop hfr hrg hk hb
    simp only [cdT] at hcd
    obtain ⟨m, c1, c2, c3⟩ := hcd
    simp only [lvs] at htop
    have l1 := cdT_lt c1
    have l5 := cdT_lv c1
    have l2 := cdT_lt c3
    refine iha s m top f1 c1 (by omega) (by omega) hfr hrg ?_ (fun h f2 hf => hb (by simp only [evT, h]) f2 hf)
    intro va ea f2 hf2 hl2 ht2
    have hrg2 : ∀ i, i < top + 1 → (-1000000000 ≤ f2 (a + 2) i ∧ f2 (a + 2) i ≤ 1000000000) := fun i hi => by
      rcases (show i < top ∨ i = top by omega) with q | rfl
      · rw [hl2 i q]; exact hrg i q
      · rw [ht2]; exact b01_01r
    have hfr1 := hfr
    replace hfr := hf2
    have e1 : top + 1 - 1 = top := by omega
    refine w_step (kk := 10) (w := s') (top := top + 1) (n1 := n1) (e := e) l z d hA hS hn1 hto (by omega) (by rw [hfr s0 (by omega), c2]; omega) (by omega) (by omega) (by omega) (fun k hk => by rw [hfr (a + 1) (by omega)]; exact hw0 k hk) he (by omega) (by omega) (by omega) (by omega) (by omega) hrg2 (by omega) (fun _ hq => absurd hq (by omega)) (fun _ hq => absurd hq (by omega)) (fun _ hq hq2 => absurd hq (by omega)) (fun _ hq hq2 => absurd hq (by omega)) (fun _ hq => absurd hq (by omega)) ?_ ?_
    · rw [e1]
      intro _ _ hq
      have hv : va = true := by
        cases va with
        | true => rfl
        | false => rw [ht2] at hq; simp [b01] at hq
      subst hv
      exact hk true (by simp only [evT, ea]) f2 hf2 hl2 ht2
    · rw [e1]
      intro _ _ hq
      have hv : va = false := by
        cases va with
        | true => exfalso; apply hq; rw [ht2]; simp [b01]
        | false => rfl
      subst hv
      exact ihb (m + 1) s' top f2 c3 (by omega) (by omega) hf2 (fun i hi => hrg2 i (by omega)) (fun v ev f3 h1 h2 h3 => hk v (by simp only [evT, ea]; exact ev) f3 h1 (fun i hi => by rw [h2 i hi, hl2 i hi]) h3) (fun h f3 hf => hb (by simp only [evT, ea]; exact h) f3 hf)
  | mul ta tb iha ihb =>
    intro s s' top f1 hcd hs' htop hfr hrg hk hb
    simp only [cdT] at hcd
    obtain ⟨m, c1, c2, c3⟩ := hcd
    simp only [lvs] at htop
    have l1 := cdT_lt c1
    have l5 := cdT_lv c1
    have l2 := cdT_lt c3
    refine iha s m top f1 c1 (by omega) (by omega) hfr hrg ?_ (fun h f2 hf => hb (by simp only [evT, h]) f2 hf)
    intro va ea f2 hf2 hl2 ht2
    have hrg2 : ∀ i, i < top + 1 → (-1000000000 ≤ f2 (a + 2) i ∧ f2 (a + 2) i ≤ 1000000000) := fun i hi => by
      rcases (show i < top ∨ i = top by omega) with q | rfl
      · rw [hl2 i q]; exact hrg i q
      · rw [ht2]; exact b01_01r
    have hfr1 := hfr
    replace hfr := hf2
    have e1 : top + 1 - 1 = top := by omega
    refine w_step (kk := 11) (w := s') (top := top + 1) (n1 := n1) (e := e) l z d hA hS hn1 hto (by omega) (by rw [hfr s0 (by omega), c2]; omega) (by omega) (by omega) (by omega) (fun k hk => by rw [hfr (a + 1) (by omega)]; exact hw0 k hk) he (by omega) (by omega) (by omega) (by omega) (by omega) hrg2 (by omega) (fun _ hq => absurd hq (by omega)) (fun _ hq => absurd hq (by omega)) (fun _ hq hq2 => absurd hq (by omega)) (fun _ hq hq2 => absurd hq (by omega)) (fun _ hq => absurd hq (by omega)) ?_ ?_
    · rw [e1]
      intro _ _ hq
      have hv : va = false := by
        cases va with
        | true => rw [ht2] at hq; simp [b01] at hq
        | false => rfl
      subst hv
      exact hk false (by simp only [evT, ea]) f2 hf2 hl2 ht2
    · rw [e1]
      intro _ _ hq
      have hv : va = true := by
        cases va with
        | false => exfalso; apply hq; rw [ht2]; simp [b01]
        | true => rfl
      subst hv
      exact ihb (m + 1) s' top f2 c3 (by omega) (by omega) hf2 (fun i hi => hrg2 i (by omega)) (fun v ev f3 h1 h2 h3 => hk v (by simp only [evT, ea]; exact ev) f3 h1 (fun i hi => by rw [h2 i hi, hl2 i hi]) h3) (fun h f3 hf => hb (by simp only [evT, ea]; exact h) f3 hf)
  | sum ta iha =>
    intro s s' top f1 hcd hs' htop hfr hrg hk hb
    simp only [cdT] at hcd
    obtain ⟨m, c1, c2, rfl⟩ := hcd
    simp only [lvs] at htop
    have l1 := cdT_lt c1
    have l5 := cdT_lv c1
    refine iha s m top f1 c1 (by omega) (by omega) hfr hrg ?_ (fun h f2 hf => hb (by simp only [evT, h]) f2 hf)
    intro va ea f2 hf2 hl2 ht2
    have hrg2 : ∀ i, i < top + 1 → (-1000000000 ≤ f2 (a + 2) i ∧ f2 (a + 2) i ≤ 1000000000) := fun i hi => by
      rcases (show i < top ∨ i = top by omega) with q | rfl
      · rw [hl2 i q]; exact hrg i q
      · rw [ht2]; exact b01_01r
    have hfr1 := hfr
    replace hfr := hf2
    have e1 : top + 1 - 1 = top := by omega
    refine w_step (kk := 9) (w := 0) (top := top + 1) (n1 := n1) (e := e) l z d hA hS hn1 hto (by omega) (by rw [hfr s0 (by omega), c2]; omega) (by omega) (by omega) (by omega) (fun k hk => by rw [hfr (a + 1) (by omega)]; exact hw0 k hk) he (by omega) (by omega) (by omega) (by omega) (by omega) hrg2 (by omega) (fun _ hq => absurd hq (by omega)) (fun _ hq => absurd hq (by omega)) (fun _ hq hq2 => absurd hq (by omega)) (fun _ hq hq2 => absurd hq (by omega)) ?_ (fun _ hq => absurd hq (by omega)) (fun _ hq => absurd hq (by omega))
    rw [e1]
    intro _ _
    exact hk (!va) (by simp only [evT, ea]) _ (fun q hq => by rw [stF_n _ _ _ hq]; exact hf2 q hq) (fun i hi => by rw [stF_i _ _ _ (by omega)]; exact hl2 i hi) (by rw [stF_s, ht2]; cases va <;> simp [b01])
  | _ => intro s s' top f1 hcd; simp only [cdT] at hcd

set_option maxRecDepth 100000 in
set_option maxHeartbeats 4000000 in
theorem w_exit {l : Launch} {z : Zv} {d : Nat} {g : Gm} {a s0 fr to_ : Nat} {post : Po} {f : Fm} (hA : AL g a) (hto : to_ ≤ 401) (hr : (-1000000000 ≤ f (a + 2) 0 ∧ f (a + 2) 0 ≤ 1000000000)) (hp : post (some (.long (lI (f (a + 2) 0)))) g f) : WK l z d g a s0 fr to_ post to_ (0 + 1) f := by
  unfold WK
  refine r_iload (pc := 6) 0 dX0_work_6 rfl ?_
  refine r_iload_n (pc := 8) 5 dX0_work_8 rfl rfl ?_
  refine r_icmp_ge (pc := 9) (tgt := 247) dX0_work_9 (by decide) (by omega) (by omega) (fun c_9 => ?_) (fun c_9 => ?_)
  · refine r_iload (pc := 247) 1 dX0_work_247 rfl ?_
    refine r_if_le (pc := 249) (tgt := 265) dX0_work_249 (by decide) (by omega) (fun c_249 => ?_) (fun c_249 => ?_)
    · exfalso; omega
    · refine r_aload_n (pc := 252) 2 dX0_work_252 rfl rfl ?_
      refine r_getR (pc := 253) (b := (a + 2)) dX0_work_253 fl_X0_17 rfl hA.k hA.r1 ?_
      refine r_iload (pc := 256) 1 dX0_work_256 rfl ?_
      refine r_iconst (pc := 258) dX0_work_258 ?_
      refine r_isub (pc := 259) dX0_work_259 ?_
      refine r_eqI (y := ((0 : Nat) : Int)) (rfl) ?_
      refine r_ialdv (pc := 260) (w := f (a + 2) 0) dX0_work_260 hA.a1 (by omega) (by decide) (rfl) ?_
      refine r_i2l (pc := 261) dX0_work_261 (iI_l (by omega)) ?_
      refine r_goto (pc := 262) (tgt := 268) dX0_work_262 (by decide) ?_
      exact r_lret (pc := 268) dX0_work_268 rfl hp
  · exfalso; omega

set_option maxRecDepth 100000 in
set_option maxHeartbeats 4000000 in
theorem x_workS (l : Launch) (z : Zv) (d : Nat) {g : Gm} {f : Fm} {a s0 fr to_ n1 : Nat} {e : Nat → Int} {t : Term} (hA : AL g a) (hS : isA g s0 11 n1) (hn1 : n1 ≤ 401) (hto : to_ ≤ n1) (hne : s0 ≠ a + 2) (hw0 : ∀ k, k < 8 → f (a + 1) k = e k) (he : ∀ k, k < 8 → -1000000000 ≤ e k ∧ e k ≤ 1000000000) (hcd : cdS (f s0) t fr to_) (hl : lvs t ≤ 50) : PM l z (d + 1) mX0_work [.ref a, .ref s0, .int (iI ((fr : Nat) : Int)), .int (iI ((to_ : Nat) : Int))] g f 0 0 (fun r g' f' => g = g' ∧ (∀ q, q ≠ a + 2 → f' q = f q) ∧ r = some (.long (lI ((evS e t).getD 1000000001)))) := by
  have key : WK l z d g a s0 fr to_ (fun r g' f' => g = g' ∧ (∀ q, q ≠ a + 2 → f' q = f q) ∧ r = some (.long (lI ((evS e t).getD 1000000001)))) fr 0 f := ev_S (f0 := f) (e := e) hA hS hn1 hto hne hw0 he t fr to_ 0 f hcd (Nat.le_refl _) (by omega) (fun _ _ => rfl) (fun i hi => absurd hi (by omega)) (fun v ev rv f2 h1 h2 h3 => w_exit hA (by omega) (by rw [h3]; exact rv) ⟨rfl, h1, by rw [h3, ev]; rfl⟩) (fun h f2 hf => ⟨rfl, hf, by rw [h]; rfl⟩)
  refine PM.of (by decide +kernel) (Nat.le_of_ble_eq_true rfl) ?_
  refine r_iconst (pc := 0) dX0_work_0 ?_
  refine r_istore (pc := 1) (L2 := [(4, (.int (iI (0)))), (0, (.ref a)), (1, (.ref s0)), (2, (.int (iI (((fr : Nat) : Int))))), (3, (.int (iI (((to_ : Nat) : Int)))))]) dX0_work_1 (by decide) rfl ?_
  refine r_iload_n (pc := 3) 3 dX0_work_3 rfl rfl ?_
  refine r_istore (pc := 4) (L2 := [(5, (.int (iI (((fr : Nat) : Int))))), (4, (.int (iI (0)))), (0, (.ref a)), (1, (.ref s0)), (2, (.int (iI (((fr : Nat) : Int))))), (3, (.int (iI (((to_ : Nat) : Int)))))]) dX0_work_4 (by decide) rfl ?_
  refine r_sub (L2 := [(5, (.int (iI (((fr : Nat) : Int))))), (4, (.int (iI (0)))), (0, (.ref a)), (1, (.ref s0)), (2, (.int (iI (((fr : Nat) : Int))))), (3, (.int (iI (((to_ : Nat) : Int)))))]) [0, 1, 2, 3, 4, 5] rfl ?_
  exact key

set_option maxRecDepth 100000 in
set_option maxHeartbeats 4000000 in
theorem x_workT (l : Launch) (z : Zv) (d : Nat) {g : Gm} {f : Fm} {a s0 fr to_ n1 : Nat} {e : Nat → Int} {t : Term} (hA : AL g a) (hS : isA g s0 11 n1) (hn1 : n1 ≤ 401) (hto : to_ ≤ n1) (hne : s0 ≠ a + 2) (hw0 : ∀ k, k < 8 → f (a + 1) k = e k) (he : ∀ k, k < 8 → -1000000000 ≤ e k ∧ e k ≤ 1000000000) (hcd : cdT (f s0) t fr to_) (hl : lvs t ≤ 50) : PM l z (d + 1) mX0_work [.ref a, .ref s0, .int (iI ((fr : Nat) : Int)), .int (iI ((to_ : Nat) : Int))] g f 0 0 (fun r g' f' => g = g' ∧ (∀ q, q ≠ a + 2 → f' q = f q) ∧ r = some (.long (lI (((evT e t).map (fun v => b01 (v = true))).getD 1000000001)))) := by
  have key : WK l z d g a s0 fr to_ (fun r g' f' => g = g' ∧ (∀ q, q ≠ a + 2 → f' q = f q) ∧ r = some (.long (lI (((evT e t).map (fun v => b01 (v = true))).getD 1000000001)))) fr 0 f := ev_T (f0 := f) (e := e) hA hS hn1 hto hne hw0 he t fr to_ 0 f hcd (Nat.le_refl _) (by omega) (fun _ _ => rfl) (fun i hi => absurd hi (by omega)) (fun v ev f2 h1 h2 h3 => w_exit hA (by omega) (by rw [h3]; exact b01_01r) ⟨rfl, h1, by rw [h3, ev]; rfl⟩) (fun h f2 hf => ⟨rfl, hf, by rw [h]; rfl⟩)
  refine PM.of (by decide +kernel) (Nat.le_of_ble_eq_true rfl) ?_
  refine r_iconst (pc := 0) dX0_work_0 ?_
  refine r_istore (pc := 1) (L2 := [(4, (.int (iI (0)))), (0, (.ref a)), (1, (.ref s0)), (2, (.int (iI (((fr : Nat) : Int))))), (3, (.int (iI (((to_ : Nat) : Int)))))]) dX0_work_1 (by decide) rfl ?_
  refine r_iload_n (pc := 3) 3 dX0_work_3 rfl rfl ?_
  refine r_istore (pc := 4) (L2 := [(5, (.int (iI (((fr : Nat) : Int))))), (4, (.int (iI (0)))), (0, (.ref a)), (1, (.ref s0)), (2, (.int (iI (((fr : Nat) : Int))))), (3, (.int (iI (((to_ : Nat) : Int)))))]) dX0_work_4 (by decide) rfl ?_
  refine r_sub (L2 := [(5, (.int (iI (((fr : Nat) : Int))))), (4, (.int (iI (0)))), (0, (.ref a)), (1, (.ref s0)), (2, (.int (iI (((fr : Nat) : Int))))), (3, (.int (iI (((to_ : Nat) : Int)))))]) [0, 1, 2, 3, 4, 5] rfl ?_
  exact key

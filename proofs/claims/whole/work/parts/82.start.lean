def nwC : Cond := Jvm.Cond.and given_1 narrow_1
def stm (i : Nat) : Term := Term.string "ThirteenthLoaf$Tape" (sidx i)
def sst (j : Nat) : Term := Term.static "ThirteenthLoaf" (snm j) "[I"
theorem n_ex : ∀ i, i < 14 → Cond.exactly (stm i) "java/lang/String" ∈ flatC nwC := by decide +kernel
theorem n_co : ∀ i, i < 14 → Cond.eq (.field (stm i) "java/lang/String" "coder" "B") (.int 0) ∈ flatC nwC := by decide +kernel
theorem n_ar : ∀ i, i < 14 → Cond.arrayOf (.field (stm i) "java/lang/String" "value" "[B") .byte ∈ flatC nwC := by decide +kernel
theorem n_le : ∀ i, i < 14 → Cond.eq (.length (.field (stm i) "java/lang/String" "value" "[B")) (.int (Int32.ofNat (slen.getD i 0))) ∈ flatC nwC := by decide +kernel
theorem n_el : ∀ i, i < 14 → ∀ j, j < slen.getD i 0 → Cond.eq (.elem (.field (stm i) "java/lang/String" "value" "[B") (.int (Int32.ofNat j))) (.int ((sbyt.getD i []).getD j 0)) ∈ flatC nwC := by decide +kernel
def pNe : Nat → Nat := fun j => ([0, 84, 91, 99, 109, 120, 132, 146, 161, 177, 193, 210, 230, 252] : List Nat).getD j 0
theorem n_lt : ∀ j, j < 14 → ∀ i, i < j → (flatC nwC)[pNe j + i]? = some (Cond.not (Cond.eq (stm i) (stm j))) := by decide +kernel
theorem n_ne (i : Nat) (hi : i < 14) (j : Nat) (hj : j < 14) (h : i ≠ j) : (Cond.not (Cond.eq (stm i) (stm j))) ∈ flatC nwC ∨ (Cond.not (Cond.eq (stm j) (stm i))) ∈ flatC nwC := by
  rcases Nat.lt_or_gt_of_ne h with q | q
  · exact Or.inl (List.mem_of_getElem? (n_lt j hj i q))
  · exact Or.inr (List.mem_of_getElem? (n_lt i hi j q))
theorem n_sa : ∀ j, j < 4 → Cond.arrayOf (sst j) .int ∈ flatC nwC := by decide +kernel
theorem n_sl : ∀ j, j < 4 → Cond.eq (.length (sst j)) (.int (Int32.ofNat (sct j).length)) ∈ flatC nwC := by decide +kernel
theorem n_se : ∀ j, j < 4 → ∀ i, i < (sct j).length → Cond.eq (.elem (sst j) (.int (Int32.ofNat i))) (.int (iI ((sct j).getD i 0))) ∈ flatC nwC := by decide +kernel
theorem n_cs : Cond.eq (.static "java/lang/String" "COMPACT_STRINGS" "Z") (.int 1) ∈ flatC nwC := by decide +kernel
theorem n_si : Cond.isRef (.static "jdk/internal/util/Preconditions" "SIOOBE_FORMATTER" "Ljava/util/function/BiFunction;") ∈ flatC nwC := by decide +kernel
theorem t_ls : ∀ j, j < 4 → Cond.laysStatic "ThirteenthLoaf" (snm j) "[I" ∈ lw_tbl := by decide +kernel
theorem t_in : Cond.initialized "ThirteenthLoaf" ∈ lw_tbl ∧ Cond.initialized "java/lang/String" ∈ lw_tbl ∧ Cond.initialized "jdk/internal/util/Preconditions" ∈ lw_tbl ∧ Cond.laysStatic "java/lang/String" "COMPACT_STRINGS" "Z" ∈ lw_tbl ∧ Cond.laysStatic "jdk/internal/util/Preconditions" "SIOOBE_FORMATTER" "Ljava/util/function/BiFunction;" ∈ lw_tbl := by decide +kernel
theorem t_sr : ∀ i, i < 14 → Cond.stringRef "ThirteenthLoaf$Tape" (sidx i) (stx i) ∈ lw_tbl := by decide +kernel
theorem t_ak : Cond.arrayClass .int ∈ lw_tbl ∧ Cond.arrayClass .long ∈ lw_tbl ∧ Cond.arrayClass .boolean ∈ lw_tbl ∧ Cond.arrayClass .byte ∈ lw_tbl ∧ Cond.arrayOver (.object "ThirteenthLoaf$Law") ∈ lw_tbl ∧ Cond.arrayOver (.object "ThirteenthLoaf$Bakery") ∈ lw_tbl := by decide +kernel
theorem t_is : ∀ c, c < 11 → Cond.instantiable (RR c) (nF c) ∈ lw_tbl := by decide +kernel
theorem arrP {args : Array Value} {s : State} {ty : FieldType} (hp : ∀ C, ty ≠ .object C) (h : (Cond.arrayClass ty).before args s = true) : ∃ cA : ClassId, ArrOfT s cA ty ∧ va_RA s cA ty := by
  obtain ⟨cA, kA, comp, h1, h2, h3⟩ := Cond.arrayClass_spec h
  refine ⟨cA, fun N z => ⟨(fun k h => by cases h), kA, h2, comp, h3⟩, ?_⟩
  cases ty with
  | object C => exact absurd rfl (hp C)
  | _ => exact h1
theorem arrQ {args : Array Value} {s : State} {C : String} (h : (Cond.arrayOver (.object C)).before args s = true) : ∃ cA : ClassId, ArrOfT s cA (.object C) ∧ va_RA s cA (.object C) := by
  obtain ⟨comp, cA, kA, h1, -, h2, h3, h4⟩ := Cond.arrayOver_spec h
  exact ⟨cA, fun N z => ⟨(fun k h => by cases h), kA, h2, comp, h3⟩, kA, comp, h2, h3, h1, h4⟩
set_option maxHeartbeats 4000000 in
theorem St_start {s : State} {b : Nat} (hts : ∀ w ∈ lw_tbl, w.before #[Value.ref b] s = true) (hgv : nwC.before #[Value.ref b] s = true) : ∃ z : Zv, St z s ∧ z.2.2.1 = s.heap.size ∧ z.2.2.2 62 = b := by
  have hf := flat_of_before _ hgv
  have hA : ∀ a : Nat, a < s.heap.size → ¬ (fun q : Nat => s.heap.size ≤ q) a := fun a h => Nat.not_le.mpr h
  -- the classes
  have hc : ∀ c, c < 11 → ∃ (cC : ClassId) (iS : Nat → Nat), u_Kn s (RR c) (TT c) (nF c) cC iS := fun c h => u_known (C := RR c) (T := TT c) (N := nF c) (n := nF c) hts (fun w hw => (List.mem_filter.mp (uin c h w hw)).1) (hts _ (t_is c h))
  have hc2 : ∀ c, ∃ q : ClassId × (Nat → Nat), c < 11 → u_Kn s (RR c) (TT c) (nF c) q.1 q.2 := fun c => by
    by_cases h : c < 11
    · obtain ⟨a, e, k⟩ := hc c h
      exact ⟨(a, e), fun _ => k⟩
    · exact ⟨(0, fun _ => 0), fun h2 => absurd h2 h⟩
  obtain ⟨D, hD⟩ := Classical.axiomOfChoice hc2
  -- the arrays' classes
  obtain ⟨a1, A1⟩ := arrP (ty := .int) (fun C h => by cases h) (hts _ t_ak.1)
  obtain ⟨a2, A2⟩ := arrP (ty := .long) (fun C h => by cases h) (hts _ t_ak.2.1)
  obtain ⟨a3, A3⟩ := arrP (ty := .boolean) (fun C h => by cases h) (hts _ t_ak.2.2.1)
  obtain ⟨a4, A4⟩ := arrP (ty := .byte) (fun C h => by cases h) (hts _ t_ak.2.2.2.1)
  obtain ⟨a5, A5⟩ := arrQ (hts _ t_ak.2.2.2.2.1)
  obtain ⟨a6, A6⟩ := arrQ (hts _ t_ak.2.2.2.2.2)
  -- the static arrays
  have hS0 : ∀ j, ∃ t : Nat, j < 4 → (sst j).eval #[Value.ref b] s none [] s = some (.ref t) ∧ va_T .int t (sct j).length (fun i => .int (iI ((sct j).getD i 0))) (fun q : Nat => s.heap.size ≤ q) s s.heap := fun j => by
    by_cases h : j < 4
    · have h8 := sct_len j h
      obtain ⟨t, h1, h2⟩ := va_Tof (N := (sct j).length) (f := fun i => .int (iI ((sct j).getD i 0))) (by omega) (hf _ (n_sa j h)) (va_eqt (hf _ (n_sl j h))) (fun i hi => va_eqt (hf _ (n_se j h i hi))) hA
      exact ⟨t, fun _ => ⟨h1, h2⟩⟩
    · exact ⟨0, fun h2 => absurd h2 h⟩
  obtain ⟨T, hT⟩ := Classical.axiomOfChoice hS0
  -- the constants
  obtain ⟨adK, adV, hstr, hev⟩ := vk_Sof (N := 14) (tm := stm) (len := slen) (byt := sbyt) (by decide) (fun i hi => hf _ (n_ex i hi)) (fun i hi => hf _ (n_co i hi)) (fun i hi => hf _ (n_ar i hi)) (fun i hi => hf _ (n_le i hi)) (fun i hi j hj => hf _ (n_el i hi j hj)) (fun i j hi hj hne => (n_ne i hi j hj hne).imp (fun h => hf _ h) (fun h => hf _ h)) hA
  have hsio := va_Zqof (A := fun q : Nat => s.heap.size ≤ q) (hts _ t_in.2.2.2.2) (hts _ t_in.2.2.1) (hf _ n_si) hA
  have hs2 : ∃ q : Nat, va_Z "jdk/internal/util/Preconditions" "SIOOBE_FORMATTER" "Ljava/util/function/BiFunction;" .null (fun q : Nat => s.heap.size ≤ q) s s.heap ∨ va_Z "jdk/internal/util/Preconditions" "SIOOBE_FORMATTER" "Ljava/util/function/BiFunction;" (.ref q) (fun q : Nat => s.heap.size ≤ q) s s.heap := by
    rcases hsio with h | ⟨t, h⟩
    · exact ⟨0, Or.inl h⟩
    · exact ⟨t, Or.inr h⟩
  obtain ⟨q63, h63⟩ := hs2
  refine ⟨((fun c => (D c).1, fun c => (D c).2), (fun k => if k = 11 then a1 else if k = 12 then a2 else if k = 13 then a3 else if k = 14 then a4 else if k = 15 then a5 else a6), s.heap.size, (fun a => if a < 4 then T a else if a < 18 then adK (a - 4) else if a < 32 then adV (a - 18) else if a = 63 then q63 else b)), ⟨⟨?_, ?_⟩, ?_, ?_, ?_, ?_, ?_, ?_, ?_, ?_⟩, rfl, rfl⟩
  · intro c q hq
    have hc11 : c < 11 := by
      have := (List.getElem?_eq_some_iff.mp hq).1
      simpa using this
    rw [vwCl_at c hc11] at hq
    cases hq
    exact hD c hc11
  · intro k q hq
    match k, hq with
    | 0, hq => cases hq; exact A1
    | 1, hq => cases hq; exact A2
    | 2, hq => cases hq; exact A3
    | 3, hq => cases hq; exact A4
    | 4, hq => cases hq; exact A5
    | 5, hq => cases hq; exact A6
    | k + 6, hq => simp [ztys] at hq
  · intro w hw
    have h1 := hts w (List.mem_filter.mp hw).1
    have h2 := (List.mem_filter.mp hw).2
    cases w <;> first | exact va_Nw.of rfl h1 | exact absurd h2 (by simp [isNest])
  · exact va_AO.of (hts _ t_ak.2.2.2.2.1)
  · exact va_AO.of (hts _ t_ak.2.2.2.2.2)
  · intro j hj
    obtain ⟨h1, h2⟩ := hT j hj
    simp only [hj, if_true]
    exact ⟨va_Zref (hts _ (t_ls j hj)) (hts _ t_in.1) h1 hA, h2⟩
  · have e1 : (fun i => (if 4 + i < 4 then T (4 + i) else if 4 + i < 18 then adK (4 + i - 4) else if 4 + i < 32 then adV (4 + i - 18) else if 4 + i = 63 then q63 else b)) = fun i => if i < 14 then adK i else (if 4 + i < 32 then adV (4 + i - 18) else if 4 + i = 63 then q63 else b) := by
      funext i
      by_cases hi : i < 14
      · rw [if_neg (by omega), if_pos (by omega), if_pos hi]; congr 1; omega
      · rw [if_neg (by omega), if_neg (by omega), if_neg hi]
    refine ⟨fun i hi => ?_, fun i j hi hj he => ?_⟩
    · have h3 := hstr.1 i hi
      simp only [show ¬ 4 + i < 4 by omega, show 4 + i < 18 by omega, show 4 + i - 4 = i by omega, show ¬ 18 + i < 4 by omega, show ¬ 18 + i < 18 by omega, show 18 + i < 32 by omega, show 18 + i - 18 = i by omega, if_true, if_false]
      exact h3
    · simp only [show ¬ 4 + i < 4 by omega, show 4 + i < 18 by omega, show 4 + i - 4 = i by omega, show ¬ 4 + j < 4 by omega, show 4 + j < 18 by omega, show 4 + j - 4 = j by omega, if_true, if_false] at he
      exact hstr.2 i j hi hj he
  · intro i hi
    have h3 := hev i hi
    simp only [show ¬ 4 + i < 4 by omega, show 4 + i < 18 by omega, show 4 + i - 4 = i by omega, if_true, if_false]
    exact vk_R.of (hts _ (t_sr i hi)) h3
  · exact va_Zof (hts _ t_in.2.2.2.1) (hts _ t_in.2.1) (va_eqt (hf _ n_cs)) hA
  · simp only [show ¬ (63 : Nat) < 4 by decide, show ¬ (63 : Nat) < 18 by decide, show ¬ (63 : Nat) < 32 by decide, if_true, if_false]
    exact h63

/-- the bytes p .. e - 1 spell the word i -/
def spP (B : Nat → Int) (p e i : Nat) : Bool := decide (e - p = (schr.getD i []).length) && (List.range (schr.getD i []).length).all (fun k => decide (B (p + k) = (schr.getD i []).getD k 0))
theorem spP_t {B : Nat → Int} {p e i : Nat} (h1 : e - p = (schr.getD i []).length) (h2 : ∀ k, k < (schr.getD i []).length → B (p + k) = (schr.getD i []).getD k 0) : spP B p e i = true := by
  simp only [spP, Bool.and_eq_true, decide_eq_true_eq, List.all_eq_true, List.mem_range]
  exact ⟨h1, h2⟩
theorem spP_f1 {B : Nat → Int} {p e i : Nat} (h1 : ¬ e - p = (schr.getD i []).length) : ¬ spP B p e i = true := by
  simp only [spP, Bool.and_eq_true, decide_eq_true_eq]
  exact fun h => h1 h.1
theorem spP_f2 {B : Nat → Int} {p e i k : Nat} (hk : k < (schr.getD i []).length) (h2 : ¬ B (p + k) = (schr.getD i []).getD k 0) : ¬ spP B p e i = true := by
  simp only [spP, Bool.and_eq_true, decide_eq_true_eq, List.all_eq_true, List.mem_range]
  exact fun h => h2 (h.2 k hk)

set_option maxRecDepth 100000 in
set_option maxHeartbeats 4000000 in
theorem x_letter (l : Launch) (z : Zv) (d : Nat) {g : Gm} {f : Fm} {x : Int} (hx : -2147483648 ≤ x ∧ x ≤ 2147483647) : PM l z d mX8_isLetter [(.int (iI (x)))] g f 0 0 (rdQ (.int (iI (b01 (97 ≤ x ∧ x ≤ 122)))) g f) := by
  refine PM.of (by decide +kernel) (Nat.le_of_ble_eq_true rfl) ?_
  refine r_iload_n (pc := 0) 0 dX8_isLetter_0 rfl rfl ?_
  refine r_bipush (pc := 1) dX8_isLetter_1 (by decide) ?_
  refine r_icmp_lt (pc := 3) (tgt := 16) dX8_isLetter_3 (by decide) (by omega) (by omega) (fun c_3 => ?_) (fun c_3 => ?_)
  · refine r_iconst (pc := 16) dX8_isLetter_16 ?_
    exact r_iret (pc := 17) dX8_isLetter_17 rfl rfl ⟨by first | rw [b01_t (by omega)] | rw [b01_f (by omega)], rfl, rfl⟩
  · refine r_iload_n (pc := 6) 0 dX8_isLetter_6 rfl rfl ?_
    refine r_bipush (pc := 7) dX8_isLetter_7 (by decide) ?_
    refine r_icmp_gt (pc := 9) (tgt := 16) dX8_isLetter_9 (by decide) (by omega) (by omega) (fun c_9 => ?_) (fun c_9 => ?_)
    · refine r_iconst (pc := 16) dX8_isLetter_16 ?_
      exact r_iret (pc := 17) dX8_isLetter_17 rfl rfl ⟨by first | rw [b01_t (by omega)] | rw [b01_f (by omega)], rfl, rfl⟩
    · refine r_iconst (pc := 12) dX8_isLetter_12 ?_
      refine r_goto (pc := 13) (tgt := 17) dX8_isLetter_13 (by decide) ?_
      exact r_iret (pc := 17) dX8_isLetter_17 rfl rfl ⟨by first | rw [b01_t (by omega)] | rw [b01_f (by omega)], rfl, rfl⟩

set_option maxRecDepth 100000 in
set_option maxHeartbeats 4000000 in
theorem x_digit (l : Launch) (z : Zv) (d : Nat) {g : Gm} {f : Fm} {x : Int} (hx : -2147483648 ≤ x ∧ x ≤ 2147483647) : PM l z d mX8_isDigit [(.int (iI (x)))] g f 0 0 (rdQ (.int (iI (b01 (48 ≤ x ∧ x ≤ 57)))) g f) := by
  refine PM.of (by decide +kernel) (Nat.le_of_ble_eq_true rfl) ?_
  refine r_iload_n (pc := 0) 0 dX8_isDigit_0 rfl rfl ?_
  refine r_bipush (pc := 1) dX8_isDigit_1 (by decide) ?_
  refine r_icmp_lt (pc := 3) (tgt := 16) dX8_isDigit_3 (by decide) (by omega) (by omega) (fun c_3 => ?_) (fun c_3 => ?_)
  · refine r_iconst (pc := 16) dX8_isDigit_16 ?_
    exact r_iret (pc := 17) dX8_isDigit_17 rfl rfl ⟨by first | rw [b01_t (by omega)] | rw [b01_f (by omega)], rfl, rfl⟩
  · refine r_iload_n (pc := 6) 0 dX8_isDigit_6 rfl rfl ?_
    refine r_bipush (pc := 7) dX8_isDigit_7 (by decide) ?_
    refine r_icmp_gt (pc := 9) (tgt := 16) dX8_isDigit_9 (by decide) (by omega) (by omega) (fun c_9 => ?_) (fun c_9 => ?_)
    · refine r_iconst (pc := 16) dX8_isDigit_16 ?_
      exact r_iret (pc := 17) dX8_isDigit_17 rfl rfl ⟨by first | rw [b01_t (by omega)] | rw [b01_f (by omega)], rfl, rfl⟩
    · refine r_iconst (pc := 12) dX8_isDigit_12 ?_
      refine r_goto (pc := 13) (tgt := 17) dX8_isDigit_13 (by decide) ?_
      exact r_iret (pc := 17) dX8_isDigit_17 rfl rfl ⟨by first | rw [b01_t (by omega)] | rw [b01_f (by omega)], rfl, rfl⟩

set_option maxRecDepth 100000 in
set_option maxHeartbeats 4000000 in
theorem x_spells (l : Launch) (z : Zv) (d : Nat) {g : Gm} {f : Fm} {b p e i : Nat} (hT : TL g b) (hp : f b 9 = ((p : Nat) : Int)) (he : f b 10 = ((e : Nat) : Int)) (hpe : p ≤ e) (he4 : e ≤ 400) (hby : ∀ i, 0 ≤ f (b + 1) i ∧ f (b + 1) i ≤ 255) (hi : i < 14) : PM l z (d + 4) mX8_spells [(.ref b), (.ref (4 + i))] g f 0 0 (rdQ (.int (iI (b01 (spP (f (b + 1)) p e i = true)))) g f) := by
  refine PM.of (by decide +kernel) (Nat.le_of_ble_eq_true rfl) ?_
  have hr := schr_r i hi
  have loop : e - p = (schr.getD i []).length → ∀ m j : Nat, m = (schr.getD i []).length - j → j ≤ (schr.getD i []).length → (∀ k, k < j → f (b + 1) (p + k) = (schr.getD i []).getD k 0) → PW l z (d + 4) mX8_spells 0 0 (rdQ (.int (iI (b01 (spP (f (b + 1)) p e i = true)))) g f) 20 [(2, (.int (iI (((j : Nat) : Int))))), (0, (.ref b)), (1, (.ref (4 + i)))] [] g f 0 0 := by
    intro hlen m
    induction m using Nat.strongRecOn with
    | _ m ih =>
      intro j hm hj hall
      refine r_iload_n (pc := 20) 0 dX8_spells_20 rfl rfl ?_
      refine r_aload_n (pc := 21) 2 dX8_spells_21 rfl rfl ?_
      refine r_callT (pc := 22) (As := []) (S := [(.int (iI (((j : Nat) : Int))))]) dX8_spells_22 cb_X8_160 (hi) rfl (Nat.le_of_ble_eq_true rfl) (s_length l z _ hi)  (fun r_22 g_22 f_22 q_22 => ?_)
      obtain ⟨rfl, rfl, rfl⟩ := q_22
      refine r_icmp_ge (pc := 25) (tgt := 55) dX8_spells_25 (by decide) (by omega) (by omega) (fun c_25 => ?_) (fun c_25 => ?_)
      · refine r_iconst (pc := 55) dX8_spells_55 ?_
        exact r_iret (pc := 56) dX8_spells_56 rfl rfl ⟨by rw [b01_t (spP_t hlen (fun k hk => hall k (by omega)))], rfl, rfl⟩
      · refine r_aload_n (pc := 28) 1 dX8_spells_28 rfl rfl ?_
        refine r_getR (pc := 29) (b := (b + 1)) dX8_spells_29 fl_X8_9 rfl hT.k hT.r0 ?_
        refine r_aload_n (pc := 32) 1 dX8_spells_32 rfl rfl ?_
        refine r_getIv (pc := 33) (x := ((p : Nat) : Int)) dX8_spells_33 fl_X8_108 rfl hT.k (hp) ?_
        refine r_iload_n (pc := 36) 0 dX8_spells_36 rfl rfl ?_
        refine r_iadd (pc := 37) dX8_spells_37 ?_
        refine r_ialdv (pc := 38) (w := f (b + 1) (p + j)) dX8_spells_38 hT.a0 (by omega) (by decide) (rfl) ?_
        refine r_aload_n (pc := 39) 2 dX8_spells_39 rfl rfl ?_
        refine r_iload_n (pc := 40) 0 dX8_spells_40 rfl rfl ?_
        refine r_callT (pc := 41) (As := [(.int (iI (((j : Nat) : Int))))]) (S := [(.int (iI (f (b + 1) (p + j))))]) dX8_spells_41 cb_X8_164 (hi) rfl (Nat.le_of_ble_eq_true rfl) (s_charAt l z _ hi (by omega))  (fun r_41 g_41 f_41 q_41 => ?_)
        obtain ⟨rfl, rfl, rfl⟩ := q_41
        rw [show ((j : Nat) : Int).toNat = j from rfl]
        refine r_icmp_eq (pc := 44) (tgt := 49) dX8_spells_44 (by decide) (by have := hby (p + j); omega) (by have := hr.2 j (by omega); omega) (fun c_44 => ?_) (fun c_44 => ?_)
        · refine r_iincv (pc := 49) (y := ((j + 1 : Nat) : Int)) (L2 := [(2, (.int (iI (((j + 1 : Nat) : Int))))), (0, (.ref b)), (1, (.ref (4 + i)))]) 0 dX8_spells_49 rfl (by omega) (by decide) rfl ?_
          refine r_goto (pc := 52) (tgt := 20) dX8_spells_52 (by decide) ?_
          refine r_sub (L2 := [(2, (.int (iI (((j + 1 : Nat) : Int))))), (0, (.ref b)), (1, (.ref (4 + i)))]) [0, 1, 2] rfl ?_
          exact ih ((schr.getD i []).length - (j + 1)) (by omega) (j + 1) rfl (by omega) (fun k hk => by rcases (show k < j ∨ k = j by omega) with q | rfl; exact hall k q; exact c_44)
        · refine r_iconst (pc := 47) dX8_spells_47 ?_
          exact r_iret (pc := 48) dX8_spells_48 rfl rfl ⟨by rw [b01_f (spP_f2 (k := j) (by omega) c_44)], rfl, rfl⟩
  refine r_aload_n (pc := 0) 0 dX8_spells_0 rfl rfl ?_
  refine r_getIv (pc := 1) (x := ((e : Nat) : Int)) dX8_spells_1 fl_X8_40 rfl hT.k (he) ?_
  refine r_aload_n (pc := 4) 0 dX8_spells_4 rfl rfl ?_
  refine r_getIv (pc := 5) (x := ((p : Nat) : Int)) dX8_spells_5 fl_X8_108 rfl hT.k (hp) ?_
  refine r_isub (pc := 8) dX8_spells_8 ?_
  refine r_aload_n (pc := 9) 1 dX8_spells_9 rfl rfl ?_
  refine r_callT (pc := 10) (As := []) (S := [(.int (iI ((((e : Nat) : Int)) - (((p : Nat) : Int)))))]) dX8_spells_10 cb_X8_160 (hi) rfl (Nat.le_of_ble_eq_true rfl) (s_length l z _ hi)  (fun r_10 g_10 f_10 q_10 => ?_)
  obtain ⟨rfl, rfl, rfl⟩ := q_10
  refine r_icmp_eq (pc := 13) (tgt := 18) dX8_spells_13 (by decide) (by omega) (by omega) (fun c_13 => ?_) (fun c_13 => ?_)
  · refine r_iconst (pc := 18) dX8_spells_18 ?_
    refine r_istore_n (pc := 19) (L2 := [(2, (.int (iI (0)))), (0, (.ref b)), (1, (.ref (4 + i)))]) dX8_spells_19 rfl (by decide) rfl ?_
    refine r_sub (L2 := [(2, (.int (iI (0)))), (0, (.ref b)), (1, (.ref (4 + i)))]) [0, 1, 2] rfl ?_
    exact loop (by omega) (schr.getD i []).length 0 rfl (by omega) (fun k hk => absurd hk (by omega))
  · refine r_iconst (pc := 16) dX8_spells_16 ?_
    exact r_iret (pc := 17) dX8_spells_17 rfl rfl ⟨by rw [b01_f (spP_f1 (by omega))], rfl, rfl⟩

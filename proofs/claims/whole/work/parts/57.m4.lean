/-! The model's words and tokens. B: the bytes of the text as 0 .. 255; the model has them signed. -/
def wdl : List Int := [119, 97, 110, 116, 115, 32, 119, 97, 105, 116, 115, 32, 105, 102, 32, 111, 114, 32, 97, 110, 100, 32, 110, 111, 116, 32, 119, 104, 111, 32, 98, 97, 115, 101, 32, 114, 97, 110, 107, 32, 111, 118, 101, 110, 32, 104, 97, 100, 32, 100, 97, 121, 32, 111, 116, 104, 101, 114, 32, 116, 104, 101, 105, 114, 115, 32]
def wof (i : Nat) : Nat := [0, 6, 12, 15, 18, 22, 26, 30, 35, 40, 45, 49, 53, 59, 66].getD i 0
theorem wdl_in : ∀ i, i < 14 → (∀ n, n < (schr.getD i []).length → wdl.getD (wof i + n) 0 = (schr.getD i []).getD n 0 ∧ ¬ wdl.getD (wof i + n) 0 = 32) ∧ wdl.getD (wof i + (schr.getD i []).length) 0 = 32 ∧ wof (i + 1) = wof i + (schr.getD i []).length + 1 ∧ wof i + (schr.getD i []).length < 66 := by decide
theorem wdl_r : ∀ k, k < 66 → 0 ≤ wdl.getD k 0 ∧ wdl.getD k 0 ≤ 127 := by decide
/-- the signed bytes A stand for B -/
def SB (A B : Nat → Int) : Prop := ∀ i, (0 ≤ B i ∧ B i ≤ 255) ∧ (A i = B i ∧ B i < 128 ∨ A i = B i - 256 ∧ 128 ≤ B i)
def wsm (B : Nat → Int) (p e i k : Nat) : Bool := decide (e - p = (schr.getD i []).length) && (List.range k).all (fun q => decide (B (p + q) = (schr.getD i []).getD q 0))
theorem wsm_i {B : Nat → Int} {p e i k : Nat} : wsm B p e i k = true ↔ (e - p = (schr.getD i []).length ∧ ∀ q, q < k → B (p + q) = (schr.getD i []).getD q 0) := by
  simp only [wsm, Bool.and_eq_true, decide_eq_true_eq, List.all_eq_true, List.mem_range]
theorem SB.by {A B : Nat → Int} (h : SB A B) : ∀ i, 0 ≤ B i ∧ B i ≤ 255 := fun i => (h i).1

theorem wnC_at {B : Nat → Int} {p e : Nat} : ∀ i : Nat, (∀ j, j < i → ¬ spP B p e j = true) → spP B p e i = true → i < 14 → wnC B p e = 259 + (i : Int)
  | 0, hn, hs, _ => by
    unfold wnC
    rw [if_pos hs]
    rfl
  | 1, hn, hs, _ => by
    unfold wnC
    rw [if_neg (hn 0 (by decide)), if_pos hs]
    rfl
  | 2, hn, hs, _ => by
    unfold wnC
    rw [if_neg (hn 0 (by decide)), if_neg (hn 1 (by decide)), if_pos hs]
    rfl
  | 3, hn, hs, _ => by
    unfold wnC
    rw [if_neg (hn 0 (by decide)), if_neg (hn 1 (by decide)), if_neg (hn 2 (by decide)), if_pos hs]
    rfl
  | 4, hn, hs, _ => by
    unfold wnC
    rw [if_neg (hn 0 (by decide)), if_neg (hn 1 (by decide)), if_neg (hn 2 (by decide)), if_neg (hn 3 (by decide)), if_pos hs]
    rfl
  | 5, hn, hs, _ => by
    unfold wnC
    rw [if_neg (hn 0 (by decide)), if_neg (hn 1 (by decide)), if_neg (hn 2 (by decide)), if_neg (hn 3 (by decide)), if_neg (hn 4 (by decide)), if_pos hs]
    rfl
  | 6, hn, hs, _ => by
    unfold wnC
    rw [if_neg (hn 0 (by decide)), if_neg (hn 1 (by decide)), if_neg (hn 2 (by decide)), if_neg (hn 3 (by decide)), if_neg (hn 4 (by decide)), if_neg (hn 5 (by decide)), if_pos hs]
    rfl
  | 7, hn, hs, _ => by
    unfold wnC
    rw [if_neg (hn 0 (by decide)), if_neg (hn 1 (by decide)), if_neg (hn 2 (by decide)), if_neg (hn 3 (by decide)), if_neg (hn 4 (by decide)), if_neg (hn 5 (by decide)), if_neg (hn 6 (by decide)), if_pos hs]
    rfl
  | 8, hn, hs, _ => by
    unfold wnC
    rw [if_neg (hn 0 (by decide)), if_neg (hn 1 (by decide)), if_neg (hn 2 (by decide)), if_neg (hn 3 (by decide)), if_neg (hn 4 (by decide)), if_neg (hn 5 (by decide)), if_neg (hn 6 (by decide)), if_neg (hn 7 (by decide)), if_pos hs]
    rfl
  | 9, hn, hs, _ => by
    unfold wnC
    rw [if_neg (hn 0 (by decide)), if_neg (hn 1 (by decide)), if_neg (hn 2 (by decide)), if_neg (hn 3 (by decide)), if_neg (hn 4 (by decide)), if_neg (hn 5 (by decide)), if_neg (hn 6 (by decide)), if_neg (hn 7 (by decide)), if_neg (hn 8 (by decide)), if_pos hs]
    rfl
  | 10, hn, hs, _ => by
    unfold wnC
    rw [if_neg (hn 0 (by decide)), if_neg (hn 1 (by decide)), if_neg (hn 2 (by decide)), if_neg (hn 3 (by decide)), if_neg (hn 4 (by decide)), if_neg (hn 5 (by decide)), if_neg (hn 6 (by decide)), if_neg (hn 7 (by decide)), if_neg (hn 8 (by decide)), if_neg (hn 9 (by decide)), if_pos hs]
    rfl
  | 11, hn, hs, _ => by
    unfold wnC
    rw [if_neg (hn 0 (by decide)), if_neg (hn 1 (by decide)), if_neg (hn 2 (by decide)), if_neg (hn 3 (by decide)), if_neg (hn 4 (by decide)), if_neg (hn 5 (by decide)), if_neg (hn 6 (by decide)), if_neg (hn 7 (by decide)), if_neg (hn 8 (by decide)), if_neg (hn 9 (by decide)), if_neg (hn 10 (by decide)), if_pos hs]
    rfl
  | 12, hn, hs, _ => by
    unfold wnC
    rw [if_neg (hn 0 (by decide)), if_neg (hn 1 (by decide)), if_neg (hn 2 (by decide)), if_neg (hn 3 (by decide)), if_neg (hn 4 (by decide)), if_neg (hn 5 (by decide)), if_neg (hn 6 (by decide)), if_neg (hn 7 (by decide)), if_neg (hn 8 (by decide)), if_neg (hn 9 (by decide)), if_neg (hn 10 (by decide)), if_neg (hn 11 (by decide)), if_pos hs]
    rfl
  | 13, hn, hs, _ => by
    unfold wnC
    rw [if_neg (hn 0 (by decide)), if_neg (hn 1 (by decide)), if_neg (hn 2 (by decide)), if_neg (hn 3 (by decide)), if_neg (hn 4 (by decide)), if_neg (hn 5 (by decide)), if_neg (hn 6 (by decide)), if_neg (hn 7 (by decide)), if_neg (hn 8 (by decide)), if_neg (hn 9 (by decide)), if_neg (hn 10 (by decide)), if_neg (hn 11 (by decide)), if_neg (hn 12 (by decide)), if_pos hs]
    rfl
  | i + 14, _, _, h => absurd h (by omega)
theorem wnC_no {B : Nat → Int} {p e : Nat} (hn : ∀ j, j < 14 → ¬ spP B p e j = true) : wnC B p e = 258 := by
  unfold wnC
  rw [if_neg (hn 0 (by decide)), if_neg (hn 1 (by decide)), if_neg (hn 2 (by decide)), if_neg (hn 3 (by decide)), if_neg (hn 4 (by decide)), if_neg (hn 5 (by decide)), if_neg (hn 6 (by decide)), if_neg (hn 7 (by decide)), if_neg (hn 8 (by decide)), if_neg (hn 9 (by decide)), if_neg (hn 10 (by decide)), if_neg (hn 11 (by decide)), if_neg (hn 12 (by decide)), if_neg (hn 13 (by decide))]

set_option maxRecDepth 100000 in
set_option maxHeartbeats 4000000 in
theorem m_small (l : Launch) (z : Zv) (d : Nat) {g : Gm} {f : Fm} {x : Int} (hx : -2147483648 ≤ x ∧ x ≤ 2147483647) : PM l z d mX11_isSmall [(.int (iI (x)))] g f 0 0 (rdQ (.int (iI (b01 (97 ≤ x ∧ x ≤ 122)))) g f) := by
  refine PM.of (by decide +kernel) (Nat.le_of_ble_eq_true rfl) ?_
  refine r_iload_n (pc := 0) 0 dX11_isSmall_0 rfl rfl ?_
  refine r_bipush (pc := 1) dX11_isSmall_1 (by decide) ?_
  refine r_icmp_lt (pc := 3) (tgt := 16) dX11_isSmall_3 (by decide) (by omega) (by omega) (fun c_3 => ?_) (fun c_3 => ?_)
  · refine r_iconst (pc := 16) dX11_isSmall_16 ?_
    exact r_iret (pc := 17) dX11_isSmall_17 rfl rfl ⟨by first | (rw [b01_t (by omega)]; done) | rw [b01_f (by omega)], rfl, rfl⟩
  · refine r_iload_n (pc := 6) 0 dX11_isSmall_6 rfl rfl ?_
    refine r_bipush (pc := 7) dX11_isSmall_7 (by decide) ?_
    refine r_icmp_gt (pc := 9) (tgt := 16) dX11_isSmall_9 (by decide) (by omega) (by omega) (fun c_9 => ?_) (fun c_9 => ?_)
    · refine r_iconst (pc := 16) dX11_isSmall_16 ?_
      exact r_iret (pc := 17) dX11_isSmall_17 rfl rfl ⟨by first | (rw [b01_t (by omega)]; done) | rw [b01_f (by omega)], rfl, rfl⟩
    · refine r_iconst (pc := 12) dX11_isSmall_12 ?_
      refine r_goto (pc := 13) (tgt := 17) dX11_isSmall_13 (by decide) ?_
      exact r_iret (pc := 17) dX11_isSmall_17 rfl rfl ⟨by first | (rw [b01_t (by omega)]; done) | rw [b01_f (by omega)], rfl, rfl⟩

set_option maxRecDepth 100000 in
set_option maxHeartbeats 4000000 in
theorem m_digit (l : Launch) (z : Zv) (d : Nat) {g : Gm} {f : Fm} {x : Int} (hx : -2147483648 ≤ x ∧ x ≤ 2147483647) : PM l z d mX11_isDigit [(.int (iI (x)))] g f 0 0 (rdQ (.int (iI (b01 (48 ≤ x ∧ x ≤ 57)))) g f) := by
  refine PM.of (by decide +kernel) (Nat.le_of_ble_eq_true rfl) ?_
  refine r_iload_n (pc := 0) 0 dX11_isDigit_0 rfl rfl ?_
  refine r_bipush (pc := 1) dX11_isDigit_1 (by decide) ?_
  refine r_icmp_lt (pc := 3) (tgt := 16) dX11_isDigit_3 (by decide) (by omega) (by omega) (fun c_3 => ?_) (fun c_3 => ?_)
  · refine r_iconst (pc := 16) dX11_isDigit_16 ?_
    exact r_iret (pc := 17) dX11_isDigit_17 rfl rfl ⟨by first | (rw [b01_t (by omega)]; done) | rw [b01_f (by omega)], rfl, rfl⟩
  · refine r_iload_n (pc := 6) 0 dX11_isDigit_6 rfl rfl ?_
    refine r_bipush (pc := 7) dX11_isDigit_7 (by decide) ?_
    refine r_icmp_gt (pc := 9) (tgt := 16) dX11_isDigit_9 (by decide) (by omega) (by omega) (fun c_9 => ?_) (fun c_9 => ?_)
    · refine r_iconst (pc := 16) dX11_isDigit_16 ?_
      exact r_iret (pc := 17) dX11_isDigit_17 rfl rfl ⟨by first | (rw [b01_t (by omega)]; done) | rw [b01_f (by omega)], rfl, rfl⟩
    · refine r_iconst (pc := 12) dX11_isDigit_12 ?_
      refine r_goto (pc := 13) (tgt := 17) dX11_isDigit_13 (by decide) ?_
      exact r_iret (pc := 17) dX11_isDigit_17 rfl rfl ⟨by first | (rw [b01_t (by omega)]; done) | rw [b01_f (by omega)], rfl, rfl⟩

theorem spP_1 {B : Nat → Int} {p e i : Nat} (h : spP B p e i = true) : e - p = (schr.getD i []).length := by
  simp only [spP, Bool.and_eq_true, decide_eq_true_eq] at h
  exact h.1
theorem spP_2 {B : Nat → Int} {p e i : Nat} (h : spP B p e i = true) (k : Nat) (hk : k < (schr.getD i []).length) : B (p + k) = (schr.getD i []).getD k 0 := by
  simp only [spP, Bool.and_eq_true, decide_eq_true_eq, List.all_eq_true, List.mem_range] at h
  exact h.2 k hk

set_option maxRecDepth 100000 in
set_option maxHeartbeats 4000000 in
theorem m_wordOf (l : Launch) (z : Zv) (d : Nat) {g : Gm} {f : Fm} {A B : Nat → Int} {p e : Nat} (hM : ML g) (hwd : ∀ k, k < 66 → f 169 k = wdl.getD k 0) (hA : ∀ i, f 170 i = A i) (hS : SB A B) (hpe : p ≤ e) (he : e ≤ 400) : PM l z d mX11_wordOf [.ref 164, .int (iI ((p : Nat) : Int)), .int (iI ((e : Nat) : Int))] g f 0 0 (rdQ (.int (iI (wnC B p e - 258))) g f) := by
  have hw14 : wof 14 = 66 := rfl
  have hof : ∀ i, i < 15 → wof i ≤ 66 ∧ (wof i < 66 ↔ i < 14) := by decide
  refine PM.of (by decide +kernel) (Nat.le_of_ble_eq_true rfl) ?_
  have outer : ∀ m i : Nat, m = 14 - i → i ≤ 14 → (∀ j, j < i → ¬ spP B p e j = true) → PW l z d mX11_wordOf 0 0 (rdQ (.int (iI (wnC B p e - 258))) g f) 5 [(4, (.int (iI (((wof i : Nat) : Int))))), (3, (.int (iI (((i + 1 : Nat) : Int))))), (0, (.ref 164)), (1, (.int (iI (((p : Nat) : Int))))), (2, (.int (iI (((e : Nat) : Int)))))] [] g f 0 0 := by
    intro m
    induction m using Nat.strongRecOn with
    | _ m ih =>
      intro i hm hi14 hno
      have hofi := hof i (by omega)
      have inner1 : i < 14 → ∀ m1 n : Nat, m1 = (schr.getD i []).length - n → n ≤ (schr.getD i []).length → PW l z d mX11_wordOf 0 0 (rdQ (.int (iI (wnC B p e - 258))) g f) 18 [(5, (.int (iI (((n : Nat) : Int))))), (4, (.int (iI (((wof i : Nat) : Int))))), (3, (.int (iI (((i + 1 : Nat) : Int))))), (0, (.ref 164)), (1, (.int (iI (((p : Nat) : Int))))), (2, (.int (iI (((e : Nat) : Int)))))] [] g f 0 0 := by
        intro hi m1
        have hwi := wdl_in i hi
        have hlr0 := (schr_r i hi).1
        have inner2 : ∀ s0 : Int, s0 = b01 (wsm B p e i (0) = true) → PW l z d mX11_wordOf 0 0 (rdQ (.int (iI (wnC B p e - 258))) g f) 54 [(6, (.int (iI (s0)))), (5, (.int (iI ((((schr.getD i []).length : Nat) : Int))))), (4, (.int (iI (((wof i : Nat) : Int))))), (3, (.int (iI (((i + 1 : Nat) : Int))))), (0, (.ref 164)), (1, (.int (iI (((p : Nat) : Int))))), (2, (.int (iI (((e : Nat) : Int)))))] [] g f 0 0 := by
          intro s0 hs0
          have loop2 : ∀ m2 k2 : Nat, m2 = (schr.getD i []).length - k2 → k2 ≤ (schr.getD i []).length → PW l z d mX11_wordOf 0 0 (rdQ (.int (iI (wnC B p e - 258))) g f) 57 [(7, (.int (iI (((k2 : Nat) : Int))))), (6, (.int (iI (b01 (wsm B p e i (k2) = true))))), (5, (.int (iI ((((schr.getD i []).length : Nat) : Int))))), (4, (.int (iI (((wof i : Nat) : Int))))), (3, (.int (iI (((i + 1 : Nat) : Int))))), (0, (.ref 164)), (1, (.int (iI (((p : Nat) : Int))))), (2, (.int (iI (((e : Nat) : Int)))))] [] g f 0 0 := by
            intro m2
            induction m2 using Nat.strongRecOn with
            | _ m2 ih2 =>
              intro k2 hm2 hk2
              refine r_iload (pc := 57) 0 dX11_wordOf_57 rfl ?_
              refine r_iload (pc := 59) 2 dX11_wordOf_59 rfl ?_
              refine r_icmp_ge (pc := 61) (tgt := 104) dX11_wordOf_61 (by decide) (by omega) (by omega) (fun c_61 => ?_) (fun c_61 => ?_)
              · refine r_iload (pc := 104) 1 dX11_wordOf_104 rfl ?_
                refine r_if_eq (pc := 106) (tgt := 111) dX11_wordOf_106 (by decide) (b01_r) (fun c_106 => ?_) (fun c_106 => ?_)
                · replace c_106 := b01_z c_106
                  have hmis : ¬ spP B p e i = true := fun h => c_106 (wsm_i.mpr ⟨spP_1 h, fun k hk => spP_2 h k (by omega)⟩)
                  refine r_iload (pc := 111) 3 dX11_wordOf_111 rfl ?_
                  refine r_iload (pc := 113) 2 dX11_wordOf_113 rfl ?_
                  refine r_iconst (pc := 115) dX11_wordOf_115 ?_
                  refine r_iadd (pc := 116) dX11_wordOf_116 ?_
                  refine r_eqI (y := (((schr.getD i []).length + 1 : Nat) : Int)) (Int.natCast_add _ _ |>.symm) ?_
                  refine r_iadd (pc := 117) dX11_wordOf_117 ?_
                  refine r_eqI (y := ((wof (i + 1) : Nat) : Int)) (by rw [hwi.2.2.1]; omega) ?_
                  refine r_istore (pc := 118) (L2 := [(4, (.int (iI (((wof (i + 1) : Nat) : Int))))), (7, (.int (iI (((k2 : Nat) : Int))))), (6, (.int (iI (b01 (wsm B p e i (k2) = true))))), (5, (.int (iI ((((schr.getD i []).length : Nat) : Int))))), (3, (.int (iI (((i + 1 : Nat) : Int))))), (0, (.ref 164)), (1, (.int (iI (((p : Nat) : Int))))), (2, (.int (iI (((e : Nat) : Int)))))]) dX11_wordOf_118 (by decide) rfl ?_
                  refine r_iincv (pc := 120) (y := ((i + 1 + 1 : Nat) : Int)) (L2 := [(3, (.int (iI (((i + 1 + 1 : Nat) : Int))))), (4, (.int (iI (((wof (i + 1) : Nat) : Int))))), (7, (.int (iI (((k2 : Nat) : Int))))), (6, (.int (iI (b01 (wsm B p e i (k2) = true))))), (5, (.int (iI ((((schr.getD i []).length : Nat) : Int))))), (0, (.ref 164)), (1, (.int (iI (((p : Nat) : Int))))), (2, (.int (iI (((e : Nat) : Int)))))]) 4 dX11_wordOf_120 rfl (by omega) (by decide) rfl ?_
                  refine r_goto (pc := 123) (tgt := 5) dX11_wordOf_123 (by decide) ?_
                  refine r_sub (L2 := [(4, (.int (iI (((wof (i + 1) : Nat) : Int))))), (3, (.int (iI (((i + 1 + 1 : Nat) : Int))))), (0, (.ref 164)), (1, (.int (iI (((p : Nat) : Int))))), (2, (.int (iI (((e : Nat) : Int)))))]) [1, 0, 5, 6, 7] rfl ?_
                  exact ih (14 - (i + 1)) (by omega) (i + 1) rfl (by omega) (fun j hj => by rcases (show j < i ∨ j = i by omega) with q | rfl; exact hno j q; exact hmis)
                · replace c_106 := b01_nz c_106
                  have hyes : spP B p e i = true := spP_t (wsm_i.mp c_106).1 (fun k hk => (wsm_i.mp c_106).2 k (by omega))
                  refine r_iload_n (pc := 109) 4 dX11_wordOf_109 rfl rfl ?_
                  exact r_iret (pc := 110) dX11_wordOf_110 rfl rfl ⟨by rw [wnC_at i hno hyes hi]; congr 3; omega, rfl, rfl⟩
              · refine r_iload (pc := 64) 1 dX11_wordOf_64 rfl ?_
                refine r_if_eq (pc := 66) (tgt := 104) dX11_wordOf_66 (by decide) (b01_r) (fun c_66 => ?_) (fun c_66 => ?_)
                · replace c_66 := b01_z c_66
                  refine r_iload (pc := 104) 1 dX11_wordOf_104 rfl ?_
                  refine r_if_eq (pc := 106) (tgt := 111) dX11_wordOf_106 (by decide) (b01_r) (fun c_106 => ?_) (fun c_106 => ?_)
                  · replace c_106 := b01_z c_106
                    have hmis : ¬ spP B p e i = true := fun h => c_106 (wsm_i.mpr ⟨spP_1 h, fun k hk => spP_2 h k (by omega)⟩)
                    refine r_iload (pc := 111) 3 dX11_wordOf_111 rfl ?_
                    refine r_iload (pc := 113) 2 dX11_wordOf_113 rfl ?_
                    refine r_iconst (pc := 115) dX11_wordOf_115 ?_
                    refine r_iadd (pc := 116) dX11_wordOf_116 ?_
                    refine r_eqI (y := (((schr.getD i []).length + 1 : Nat) : Int)) (Int.natCast_add _ _ |>.symm) ?_
                    refine r_iadd (pc := 117) dX11_wordOf_117 ?_
                    refine r_eqI (y := ((wof (i + 1) : Nat) : Int)) (by rw [hwi.2.2.1]; omega) ?_
                    refine r_istore (pc := 118) (L2 := [(4, (.int (iI (((wof (i + 1) : Nat) : Int))))), (7, (.int (iI (((k2 : Nat) : Int))))), (6, (.int (iI (b01 (wsm B p e i (k2) = true))))), (5, (.int (iI ((((schr.getD i []).length : Nat) : Int))))), (3, (.int (iI (((i + 1 : Nat) : Int))))), (0, (.ref 164)), (1, (.int (iI (((p : Nat) : Int))))), (2, (.int (iI (((e : Nat) : Int)))))]) dX11_wordOf_118 (by decide) rfl ?_
                    refine r_iincv (pc := 120) (y := ((i + 1 + 1 : Nat) : Int)) (L2 := [(3, (.int (iI (((i + 1 + 1 : Nat) : Int))))), (4, (.int (iI (((wof (i + 1) : Nat) : Int))))), (7, (.int (iI (((k2 : Nat) : Int))))), (6, (.int (iI (b01 (wsm B p e i (k2) = true))))), (5, (.int (iI ((((schr.getD i []).length : Nat) : Int))))), (0, (.ref 164)), (1, (.int (iI (((p : Nat) : Int))))), (2, (.int (iI (((e : Nat) : Int)))))]) 4 dX11_wordOf_120 rfl (by omega) (by decide) rfl ?_
                    refine r_goto (pc := 123) (tgt := 5) dX11_wordOf_123 (by decide) ?_
                    refine r_sub (L2 := [(4, (.int (iI (((wof (i + 1) : Nat) : Int))))), (3, (.int (iI (((i + 1 + 1 : Nat) : Int))))), (0, (.ref 164)), (1, (.int (iI (((p : Nat) : Int))))), (2, (.int (iI (((e : Nat) : Int)))))]) [1, 0, 5, 6, 7] rfl ?_
                    exact ih (14 - (i + 1)) (by omega) (i + 1) rfl (by omega) (fun j hj => by rcases (show j < i ∨ j = i by omega) with q | rfl; exact hno j q; exact hmis)
                  · replace c_106 := b01_nz c_106
                    exact absurd c_106 c_66
                · replace c_66 := b01_nz c_66
                  have hl66 := (wsm_i.mp c_66).1
                  have hwk := (hwi.1 k2 (by omega)).1
                  have hSk := hS (p + k2)
                  have hlr := (schr_r i hi).2 k2 (by omega)
                  refine r_aload_n (pc := 69) 5 dX11_wordOf_69 rfl rfl ?_
                  refine r_getR (pc := 70) (b := 169) dX11_wordOf_70 fl_X11_27 rfl hM.k hM.r6 ?_
                  refine r_iload (pc := 73) 3 dX11_wordOf_73 rfl ?_
                  refine r_iload (pc := 75) 0 dX11_wordOf_75 rfl ?_
                  refine r_iadd (pc := 77) dX11_wordOf_77 ?_
                  refine r_eqI (y := ((wof i + k2 : Nat) : Int)) (Int.natCast_add _ _ |>.symm) ?_
                  refine r_baldv (pc := 78) (w := wdl.getD (wof i + k2) 0) dX11_wordOf_78 hM.a6 (by omega) (by decide) (hwd _ (by omega)) ?_
                  refine r_aload_n (pc := 79) 5 dX11_wordOf_79 rfl rfl ?_
                  refine r_getR (pc := 80) (b := 170) dX11_wordOf_80 fl_X11_31 rfl hM.k hM.r7 ?_
                  refine r_iload_n (pc := 83) 6 dX11_wordOf_83 rfl rfl ?_
                  refine r_iload (pc := 84) 0 dX11_wordOf_84 rfl ?_
                  refine r_iadd (pc := 86) dX11_wordOf_86 ?_
                  refine r_eqI (y := ((p + k2 : Nat) : Int)) (Int.natCast_add _ _ |>.symm) ?_
                  refine r_baldv (pc := 87) (w := A (p + k2)) dX11_wordOf_87 hM.a7 (by omega) (by decide) (hA _) ?_
                  refine r_icmp_ne (pc := 88) (tgt := 95) dX11_wordOf_88 (by decide) (by have := wdl_r (wof i + k2) (by omega); omega) (by have := hS (p + k2); omega) (fun c_88 => ?_) (fun c_88 => ?_)
                  · refine r_iconst (pc := 95) dX11_wordOf_95 ?_
                    refine r_eqI (y := b01 (wsm B p e i (k2 + 1) = true)) (by rw [b01_f (fun h => c_88 (by have := (wsm_i.mp h).2 k2 (by omega); omega))]) ?_
                    refine r_istore (pc := 96) (L2 := [(6, (.int (iI (b01 (wsm B p e i (k2 + 1) = true))))), (7, (.int (iI (((k2 : Nat) : Int))))), (5, (.int (iI ((((schr.getD i []).length : Nat) : Int))))), (4, (.int (iI (((wof i : Nat) : Int))))), (3, (.int (iI (((i + 1 : Nat) : Int))))), (0, (.ref 164)), (1, (.int (iI (((p : Nat) : Int))))), (2, (.int (iI (((e : Nat) : Int)))))]) dX11_wordOf_96 (by decide) rfl ?_
                    refine r_iincv (pc := 98) (y := ((k2 + 1 : Nat) : Int)) (L2 := [(7, (.int (iI (((k2 + 1 : Nat) : Int))))), (6, (.int (iI (b01 (wsm B p e i (k2 + 1) = true))))), (5, (.int (iI ((((schr.getD i []).length : Nat) : Int))))), (4, (.int (iI (((wof i : Nat) : Int))))), (3, (.int (iI (((i + 1 : Nat) : Int))))), (0, (.ref 164)), (1, (.int (iI (((p : Nat) : Int))))), (2, (.int (iI (((e : Nat) : Int)))))]) 1 dX11_wordOf_98 rfl (by omega) (by decide) rfl ?_
                    refine r_goto (pc := 101) (tgt := 57) dX11_wordOf_101 (by decide) ?_
                    refine r_sub (L2 := [(7, (.int (iI (((k2 + 1 : Nat) : Int))))), (6, (.int (iI (b01 (wsm B p e i (k2 + 1) = true))))), (5, (.int (iI ((((schr.getD i []).length : Nat) : Int))))), (4, (.int (iI (((wof i : Nat) : Int))))), (3, (.int (iI (((i + 1 : Nat) : Int))))), (0, (.ref 164)), (1, (.int (iI (((p : Nat) : Int))))), (2, (.int (iI (((e : Nat) : Int)))))]) [0, 1, 2, 3, 4, 5, 6, 7] rfl ?_
                    exact ih2 ((schr.getD i []).length - (k2 + 1)) (by omega) (k2 + 1) rfl (by omega)
                  · have hbe : B (p + k2) = (schr.getD i []).getD k2 0 := by omega
                    refine r_iconst (pc := 91) dX11_wordOf_91 ?_
                    refine r_goto (pc := 92) (tgt := 96) dX11_wordOf_92 (by decide) ?_
                    refine r_eqI (y := b01 (wsm B p e i (k2 + 1) = true)) (by rw [b01_t (wsm_i.mpr ⟨(wsm_i.mp c_66).1, fun k hk => by rcases (show k < k2 ∨ k = k2 by omega) with q | rfl; exact (wsm_i.mp c_66).2 k q; exact hbe⟩)]) ?_
                    refine r_istore (pc := 96) (L2 := [(6, (.int (iI (b01 (wsm B p e i (k2 + 1) = true))))), (7, (.int (iI (((k2 : Nat) : Int))))), (5, (.int (iI ((((schr.getD i []).length : Nat) : Int))))), (4, (.int (iI (((wof i : Nat) : Int))))), (3, (.int (iI (((i + 1 : Nat) : Int))))), (0, (.ref 164)), (1, (.int (iI (((p : Nat) : Int))))), (2, (.int (iI (((e : Nat) : Int)))))]) dX11_wordOf_96 (by decide) rfl ?_
                    refine r_iincv (pc := 98) (y := ((k2 + 1 : Nat) : Int)) (L2 := [(7, (.int (iI (((k2 + 1 : Nat) : Int))))), (6, (.int (iI (b01 (wsm B p e i (k2 + 1) = true))))), (5, (.int (iI ((((schr.getD i []).length : Nat) : Int))))), (4, (.int (iI (((wof i : Nat) : Int))))), (3, (.int (iI (((i + 1 : Nat) : Int))))), (0, (.ref 164)), (1, (.int (iI (((p : Nat) : Int))))), (2, (.int (iI (((e : Nat) : Int)))))]) 1 dX11_wordOf_98 rfl (by omega) (by decide) rfl ?_
                    refine r_goto (pc := 101) (tgt := 57) dX11_wordOf_101 (by decide) ?_
                    refine r_sub (L2 := [(7, (.int (iI (((k2 + 1 : Nat) : Int))))), (6, (.int (iI (b01 (wsm B p e i (k2 + 1) = true))))), (5, (.int (iI ((((schr.getD i []).length : Nat) : Int))))), (4, (.int (iI (((wof i : Nat) : Int))))), (3, (.int (iI (((i + 1 : Nat) : Int))))), (0, (.ref 164)), (1, (.int (iI (((p : Nat) : Int))))), (2, (.int (iI (((e : Nat) : Int)))))]) [0, 1, 2, 3, 4, 5, 6, 7] rfl ?_
                    exact ih2 ((schr.getD i []).length - (k2 + 1)) (by omega) (k2 + 1) rfl (by omega)
          refine r_iconst (pc := 54) dX11_wordOf_54 ?_
          refine r_istore (pc := 55) (L2 := [(7, (.int (iI (0)))), (6, (.int (iI (s0)))), (5, (.int (iI ((((schr.getD i []).length : Nat) : Int))))), (4, (.int (iI (((wof i : Nat) : Int))))), (3, (.int (iI (((i + 1 : Nat) : Int))))), (0, (.ref 164)), (1, (.int (iI (((p : Nat) : Int))))), (2, (.int (iI (((e : Nat) : Int)))))]) dX11_wordOf_55 (by decide) rfl ?_
          rw [hs0]
          refine r_sub (L2 := [(7, (.int (iI (((0 : Nat) : Int))))), (6, (.int (iI (b01 (wsm B p e i (0) = true))))), (5, (.int (iI ((((schr.getD i []).length : Nat) : Int))))), (4, (.int (iI (((wof i : Nat) : Int))))), (3, (.int (iI (((i + 1 : Nat) : Int))))), (0, (.ref 164)), (1, (.int (iI (((p : Nat) : Int))))), (2, (.int (iI (((e : Nat) : Int)))))]) [0, 1, 2, 3, 4, 5, 6, 7] rfl ?_
          exact loop2 (schr.getD i []).length 0 rfl (by omega)
        induction m1 using Nat.strongRecOn with
        | _ m1 ih1 =>
          intro n hm1 hn
          refine r_aload_n (pc := 18) 3 dX11_wordOf_18 rfl rfl ?_
          refine r_getR (pc := 19) (b := 169) dX11_wordOf_19 fl_X11_27 rfl hM.k hM.r6 ?_
          refine r_iload (pc := 22) 1 dX11_wordOf_22 rfl ?_
          refine r_iload (pc := 24) 0 dX11_wordOf_24 rfl ?_
          refine r_iadd (pc := 26) dX11_wordOf_26 ?_
          refine r_eqI (y := ((wof i + n : Nat) : Int)) (Int.natCast_add _ _ |>.symm) ?_
          refine r_baldv (pc := 27) (w := wdl.getD (wof i + n) 0) dX11_wordOf_27 hM.a6 (by omega) (by decide) (hwd _ (by omega)) ?_
          refine r_bipush (pc := 28) dX11_wordOf_28 (by decide) ?_
          refine r_icmp_eq (pc := 30) (tgt := 39) dX11_wordOf_30 (by decide) (by have := wdl_r (wof i + n) (by omega); omega) (by omega) (fun c_30 => ?_) (fun c_30 => ?_)
          · refine r_iload (pc := 39) 0 dX11_wordOf_39 rfl ?_
            refine r_iload_n (pc := 41) 5 dX11_wordOf_41 rfl rfl ?_
            refine r_iload_n (pc := 42) 4 dX11_wordOf_42 rfl rfl ?_
            refine r_isub (pc := 43) dX11_wordOf_43 ?_
            refine r_icmp_ne (pc := 44) (tgt := 51) dX11_wordOf_44 (by decide) (by omega) (by omega) (fun c_44 => ?_) (fun c_44 => ?_)
            · refine r_iconst (pc := 51) dX11_wordOf_51 ?_
              refine r_istore (pc := 52) (L2 := [(6, (.int (iI (0)))), (5, (.int (iI (((n : Nat) : Int))))), (4, (.int (iI (((wof i : Nat) : Int))))), (3, (.int (iI (((i + 1 : Nat) : Int))))), (0, (.ref 164)), (1, (.int (iI (((p : Nat) : Int))))), (2, (.int (iI (((e : Nat) : Int)))))]) dX11_wordOf_52 (by decide) rfl ?_
              have hnl : n = (schr.getD i []).length := by rcases (show n < (schr.getD i []).length ∨ n = (schr.getD i []).length by omega) with q | q; exact absurd c_30 (hwi.1 n q).2; exact q
              subst hnl
              refine r_sub (L2 := [(6, (.int (iI (0)))), (5, (.int (iI ((((schr.getD i []).length : Nat) : Int))))), (4, (.int (iI (((wof i : Nat) : Int))))), (3, (.int (iI (((i + 1 : Nat) : Int))))), (0, (.ref 164)), (1, (.int (iI (((p : Nat) : Int))))), (2, (.int (iI (((e : Nat) : Int)))))]) [0, 1, 2, 3, 4, 5, 6] rfl ?_
              exact inner2 0 (by rw [b01_f (fun h => by have := (wsm_i.mp h).1; omega)])
            · refine r_iconst (pc := 47) dX11_wordOf_47 ?_
              refine r_goto (pc := 48) (tgt := 52) dX11_wordOf_48 (by decide) ?_
              refine r_istore (pc := 52) (L2 := [(6, (.int (iI (1)))), (5, (.int (iI (((n : Nat) : Int))))), (4, (.int (iI (((wof i : Nat) : Int))))), (3, (.int (iI (((i + 1 : Nat) : Int))))), (0, (.ref 164)), (1, (.int (iI (((p : Nat) : Int))))), (2, (.int (iI (((e : Nat) : Int)))))]) dX11_wordOf_52 (by decide) rfl ?_
              have hnl : n = (schr.getD i []).length := by rcases (show n < (schr.getD i []).length ∨ n = (schr.getD i []).length by omega) with q | q; exact absurd c_30 (hwi.1 n q).2; exact q
              subst hnl
              refine r_sub (L2 := [(6, (.int (iI (1)))), (5, (.int (iI ((((schr.getD i []).length : Nat) : Int))))), (4, (.int (iI (((wof i : Nat) : Int))))), (3, (.int (iI (((i + 1 : Nat) : Int))))), (0, (.ref 164)), (1, (.int (iI (((p : Nat) : Int))))), (2, (.int (iI (((e : Nat) : Int)))))]) [0, 1, 2, 3, 4, 5, 6] rfl ?_
              exact inner2 1 (by rw [b01_t (wsm_i.mpr ⟨by omega, fun k hk => absurd hk (by omega)⟩)])
          · refine r_iincv (pc := 33) (y := ((n + 1 : Nat) : Int)) (L2 := [(5, (.int (iI (((n + 1 : Nat) : Int))))), (4, (.int (iI (((wof i : Nat) : Int))))), (3, (.int (iI (((i + 1 : Nat) : Int))))), (0, (.ref 164)), (1, (.int (iI (((p : Nat) : Int))))), (2, (.int (iI (((e : Nat) : Int)))))]) 0 dX11_wordOf_33 rfl (by omega) (by decide) rfl ?_
            refine r_goto (pc := 36) (tgt := 18) dX11_wordOf_36 (by decide) ?_
            have hnlt : n < (schr.getD i []).length := by rcases (show n < (schr.getD i []).length ∨ n = (schr.getD i []).length by omega) with q | q; exact q; exact absurd (by rw [q]; exact hwi.2.1) c_30
            refine r_sub (L2 := [(5, (.int (iI (((n + 1 : Nat) : Int))))), (4, (.int (iI (((wof i : Nat) : Int))))), (3, (.int (iI (((i + 1 : Nat) : Int))))), (0, (.ref 164)), (1, (.int (iI (((p : Nat) : Int))))), (2, (.int (iI (((e : Nat) : Int)))))]) [0, 1, 2, 3, 4, 5] rfl ?_
            exact ih1 ((schr.getD i []).length - (n + 1)) (by omega) (n + 1) rfl (by omega)
      refine r_iload (pc := 5) 0 dX11_wordOf_5 rfl ?_
      refine r_aload_n (pc := 7) 2 dX11_wordOf_7 rfl rfl ?_
      refine r_getR (pc := 8) (b := 169) dX11_wordOf_8 fl_X11_27 rfl hM.k hM.r6 ?_
      refine r_alen (pc := 11) (n := 66) dX11_wordOf_11 hM.a6 (by decide) ?_
      refine r_icmp_ge (pc := 12) (tgt := 126) dX11_wordOf_12 (by decide) (by omega) (by omega) (fun c_12 => ?_) (fun c_12 => ?_)
      · refine r_iconst (pc := 126) dX11_wordOf_126 ?_
        exact r_iret (pc := 127) dX11_wordOf_127 rfl rfl ⟨by rw [wnC_no (fun j hj => hno j (by omega))]; rfl, rfl, rfl⟩
      · refine r_iconst (pc := 15) dX11_wordOf_15 ?_
        refine r_istore (pc := 16) (L2 := [(5, (.int (iI (0)))), (4, (.int (iI (((wof i : Nat) : Int))))), (3, (.int (iI (((i + 1 : Nat) : Int))))), (0, (.ref 164)), (1, (.int (iI (((p : Nat) : Int))))), (2, (.int (iI (((e : Nat) : Int)))))]) dX11_wordOf_16 (by decide) rfl ?_
        refine r_sub (L2 := [(5, (.int (iI (0)))), (4, (.int (iI (((wof i : Nat) : Int))))), (3, (.int (iI (((i + 1 : Nat) : Int))))), (0, (.ref 164)), (1, (.int (iI (((p : Nat) : Int))))), (2, (.int (iI (((e : Nat) : Int)))))]) [0, 1, 2, 3, 4, 5] rfl ?_
        exact inner1 (by omega) (schr.getD i []).length 0 rfl (by omega)
  refine r_iconst (pc := 0) dX11_wordOf_0 ?_
  refine r_istore_n (pc := 1) (L2 := [(3, (.int (iI (1)))), (0, (.ref 164)), (1, (.int (iI (((p : Nat) : Int))))), (2, (.int (iI (((e : Nat) : Int)))))]) dX11_wordOf_1 rfl (by decide) rfl ?_
  refine r_iconst (pc := 2) dX11_wordOf_2 ?_
  refine r_istore (pc := 3) (L2 := [(4, (.int (iI (0)))), (3, (.int (iI (1)))), (0, (.ref 164)), (1, (.int (iI (((p : Nat) : Int))))), (2, (.int (iI (((e : Nat) : Int)))))]) dX11_wordOf_3 (by decide) rfl ?_
  refine r_sub (L2 := [(4, (.int (iI (0)))), (3, (.int (iI (1)))), (0, (.ref 164)), (1, (.int (iI (((p : Nat) : Int))))), (2, (.int (iI (((e : Nat) : Int)))))]) [0, 1, 2, 3, 4] rfl ?_
  exact outer 14 0 rfl (by decide) (fun j hj => absurd hj (by omega))

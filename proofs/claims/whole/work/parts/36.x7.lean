/-- the bytes p .. e - 1 spell the word i -/
def spP (B : Nat → Int) (p e i : Nat) : Bool := decide (e - p = (schr.getD i []).length) && (List.range (schr.getD i []).length).all (fun k => decide (B (p + k) = (schr.getD i []).getD k 0))
theorem spP_t {B : Nat → Int} {p e i : Nat} (h1 : e - p = (schr.getD i []).length) (h2 : ∀ k, k < (schr.getD i []).length → B (p + k) = (schr.getD i []).getD k 0) : spP B p e i = true := by
  simp only [spP, Bool.and_eq_true, decide_eq_true_eq, List.all_eq_true, List.mem_range]
  exact ⟨h1, h2⟩
theorem spP_f1 {B : Nat → Int} {p e i : Nat} (h1 : ¬ e - p = (schr.getD i []).length) : ¬ spP B p e i = true := by
  simp only [spP, Bool.and_eq_true, decide_eq_true_eq]
  exact fun h => h1 h.1
theorem spP_f2 {B : Nat → Int} {p e i k : Nat} (hk : k < (schr.getD i []).length) (h2 : ¬ B (p + k) = (schr.getD i []).getD k 0) : ¬ spP B p e i = true := by
  simp only [spP, Bool.and_eq_true, decide_eq_true_eq, List.all_eq_true, List.mem_range]
  exact fun h => h2 (h.2 k hk)

set_option maxRecDepth 100000 in
set_option maxHeartbeats 4000000 in
theorem x_letter (l : Launch) (z : Zv) (d : Nat) {g : Gm} {f : Fm} {x : Int} (hx : -2147483648 ≤ x ∧ x ≤ 2147483647) : PM l z d mX8_isLetter [(.int (iI (x)))] g f 0 0 (rdQ (.int (iI (b01 (97 ≤ x ∧ x ≤ 122)))) g f) := by
  refine PM.of (by decide +kernel) (Nat.le_of_ble_eq_true rfl) ?_
  refine r_iload_n (pc := 0) 0 dX8_isLetter_0 rfl rfl ?_
  refine r_bipush (pc := 1) dX8_isLetter_1 (by decide) ?_
  refine r_icmp_lt (pc := 3) (tgt := 16) dX8_isLetter_3 (by decide) (by omega) (by omega) (fun c_3 => ?_) (fun c_3 => ?_)
  · refine r_iconst (pc := 16) dX8_isLetter_16 ?_
    exact r_iret (pc := 17) dX8_isLetter_17 rfl rfl ⟨by first | rw [b01_t (by omega)] | rw [b01_f (by omega)], rfl, rfl⟩
  · refine r_iload_n (pc := 6) 0 dX8_isLetter_6 rfl rfl ?_
    refine r_bipush (pc := 7) dX8_isLetter_7 (by decide) ?_
    refine r_icmp_gt (pc := 9) (tgt := 16) dX8_isLetter_9 (by decide) (by omega) (by omega) (fun c_9 => ?_) (fun c_9 => ?_)
    · refine r_iconst (pc := 16) dX8_isLetter_16 ?_
      exact r_iret (pc := 17) dX8_isLetter_17 rfl rfl ⟨by first | rw [b01_t (by omega)] | rw [b01_f (by omega)], rfl, rfl⟩
    · refine r_iconst (pc := 12) dX8_isLetter_12 ?_
      refine r_goto (pc := 13) (tgt := 17) dX8_isLetter_13 (by decide) ?_
      exact r_iret (pc := 17) dX8_isLetter_17 rfl rfl ⟨by first | rw [b01_t (by omega)] | rw [b01_f (by omega)], rfl, rfl⟩

set_option maxRecDepth 100000 in
set_option maxHeartbeats 4000000 in
theorem x_digit (l : Launch) (z : Zv) (d : Nat) {g : Gm} {f : Fm} {x : Int} (hx : -2147483648 ≤ x ∧ x ≤ 2147483647) : PM l z d mX8_isDigit [(.int (iI (x)))] g f 0 0 (rdQ (.int (iI (b01 (48 ≤ x ∧ x ≤ 57)))) g f) := by
  refine PM.of (by decide +kernel) (Nat.le_of_ble_eq_true rfl) ?_
  refine r_iload_n (pc := 0) 0 dX8_isDigit_0 rfl rfl ?_
  refine r_bipush (pc := 1) dX8_isDigit_1 (by decide) ?_
  refine r_icmp_lt (pc := 3) (tgt := 16) dX8_isDigit_3 (by decide) (by omega) (by omega) (fun c_3 => ?_) (fun c_3 => ?_)
  · refine r_iconst (pc := 16) dX8_isDigit_16 ?_
    exact r_iret (pc := 17) dX8_isDigit_17 rfl rfl ⟨by first | rw [b01_t (by omega)] | rw [b01_f (by omega)], rfl, rfl⟩
  · refine r_iload_n (pc := 6) 0 dX8_isDigit_6 rfl rfl ?_
    refine r_bipush (pc := 7) dX8_isDigit_7 (by decide) ?_
    refine r_icmp_gt (pc := 9) (tgt := 16) dX8_isDigit_9 (by decide) (by omega) (by omega) (fun c_9 => ?_) (fun c_9 => ?_)
    · refine r_iconst (pc := 16) dX8_isDigit_16 ?_
      exact r_iret (pc := 17) dX8_isDigit_17 rfl rfl ⟨by first | rw [b01_t (by omega)] | rw [b01_f (by omega)], rfl, rfl⟩
    · refine r_iconst (pc := 12) dX8_isDigit_12 ?_
      refine r_goto (pc := 13) (tgt := 17) dX8_isDigit_13 (by decide) ?_
      exact r_iret (pc := 17) dX8_isDigit_17 rfl rfl ⟨by first | rw [b01_t (by omega)] | rw [b01_f (by omega)], rfl, rfl⟩

set_option maxRecDepth 100000 in
set_option maxHeartbeats 4000000 in
theorem x_spells (l : Launch) (z : Zv) (d : Nat) {g : Gm} {f : Fm} {b p e i : Nat} (hT : TL g b) (hp : f b 9 = ((p : Nat) : Int)) (he : f b 10 = ((e : Nat) : Int)) (hpe : p ≤ e) (he4 : e ≤ 400) (hby : ∀ i, 0 ≤ f (b + 1) i ∧ f (b + 1) i ≤ 255) (hi : i < 14) : PM l z (d + 4) mX8_spells [(.ref b), (.ref (4 + i))] g f 0 0 (rdQ (.int (iI (b01 (spP (f (b + 1)) p e i = true)))) g f) := by
  refine PM.of (by decide +kernel) (Nat.le_of_ble_eq_true rfl) ?_
  have hr := schr_r i hi
  have loop : e - p = (schr.getD i []).length → ∀ m j : Nat, m = (schr.getD i []).length - j → j ≤ (schr.getD i []).length → (∀ k, k < j → f (b + 1) (p + k) = (schr.getD i []).getD k 0) → PW l z (d + 4) mX8_spells 0 0 (rdQ (.int (iI (b01 (spP (f (b + 1)) p e i = true)))) g f) 20 [(2, (.int (iI (((j : Nat) : Int))))), (0, (.ref b)), (1, (.ref (4 + i)))] [] g f 0 0 := by
    intro hlen m
    induction m using Nat.strongRecOn with
    | _ m ih =>
      intro j hm hj hall
      refine r_iload_n (pc := 20) 0 dX8_spells_20 rfl rfl ?_
      refine r_aload_n (pc := 21) 2 dX8_spells_21 rfl rfl ?_
      refine r_callT (pc := 22) (As := []) (S := [(.int (iI (((j : Nat) : Int))))]) dX8_spells_22 cb_X8_160 (hi) rfl (Nat.le_of_ble_eq_true rfl) (s_length l z _ hi)  (fun r_22 g_22 f_22 q_22 => ?_)
      obtain ⟨rfl, rfl, rfl⟩ := q_22
      refine r_icmp_ge (pc := 25) (tgt := 55) dX8_spells_25 (by decide) (by omega) (by omega) (fun c_25 => ?_) (fun c_25 => ?_)
      · refine r_iconst (pc := 55) dX8_spells_55 ?_
        exact r_iret (pc := 56) dX8_spells_56 rfl rfl ⟨by rw [b01_t (spP_t hlen (fun k hk => hall k (by omega)))], rfl, rfl⟩
      · refine r_aload_n (pc := 28) 1 dX8_spells_28 rfl rfl ?_
        refine r_getR (pc := 29) (b := (b + 1)) dX8_spells_29 fl_X8_9 rfl hT.k hT.r0 ?_
        refine r_aload_n (pc := 32) 1 dX8_spells_32 rfl rfl ?_
        refine r_getIv (pc := 33) (x := ((p : Nat) : Int)) dX8_spells_33 fl_X8_108 rfl hT.k (hp) ?_
        refine r_iload_n (pc := 36) 0 dX8_spells_36 rfl rfl ?_
        refine r_iadd (pc := 37) dX8_spells_37 ?_
        refine r_ialdv (pc := 38) (w := f (b + 1) (p + j)) dX8_spells_38 hT.a0 (by omega) (by decide) (rfl) ?_
        refine r_aload_n (pc := 39) 2 dX8_spells_39 rfl rfl ?_
        refine r_iload_n (pc := 40) 0 dX8_spells_40 rfl rfl ?_
        refine r_callT (pc := 41) (As := [(.int (iI (((j : Nat) : Int))))]) (S := [(.int (iI (f (b + 1) (p + j))))]) dX8_spells_41 cb_X8_164 (hi) rfl (Nat.le_of_ble_eq_true rfl) (s_charAt l z _ hi (by omega))  (fun r_41 g_41 f_41 q_41 => ?_)
        obtain ⟨rfl, rfl, rfl⟩ := q_41
        rw [show ((j : Nat) : Int).toNat = j from rfl]
        refine r_icmp_eq (pc := 44) (tgt := 49) dX8_spells_44 (by decide) (by have := hby (p + j); omega) (by have := hr.2 j (by omega); omega) (fun c_44 => ?_) (fun c_44 => ?_)
        · refine r_iincv (pc := 49) (y := ((j + 1 : Nat) : Int)) (L2 := [(2, (.int (iI (((j + 1 : Nat) : Int))))), (0, (.ref b)), (1, (.ref (4 + i)))]) 0 dX8_spells_49 rfl (by omega) (by decide) rfl ?_
          refine r_goto (pc := 52) (tgt := 20) dX8_spells_52 (by decide) ?_
          refine r_sub (L2 := [(2, (.int (iI (((j + 1 : Nat) : Int))))), (0, (.ref b)), (1, (.ref (4 + i)))]) [0, 1, 2] rfl ?_
          exact ih ((schr.getD i []).length - (j + 1)) (by omega) (j + 1) rfl (by omega) (fun k hk => by rcases (show k < j ∨ k = j by omega) with q | rfl; exact hall k q; exact c_44)
        · refine r_iconst (pc := 47) dX8_spells_47 ?_
          exact r_iret (pc := 48) dX8_spells_48 rfl rfl ⟨by rw [b01_f (spP_f2 (k := j) (by omega) c_44)], rfl, rfl⟩
  refine r_aload_n (pc := 0) 0 dX8_spells_0 rfl rfl ?_
  refine r_getIv (pc := 1) (x := ((e : Nat) : Int)) dX8_spells_1 fl_X8_40 rfl hT.k (he) ?_
  refine r_aload_n (pc := 4) 0 dX8_spells_4 rfl rfl ?_
  refine r_getIv (pc := 5) (x := ((p : Nat) : Int)) dX8_spells_5 fl_X8_108 rfl hT.k (hp) ?_
  refine r_isub (pc := 8) dX8_spells_8 ?_
  refine r_aload_n (pc := 9) 1 dX8_spells_9 rfl rfl ?_
  refine r_callT (pc := 10) (As := []) (S := [(.int (iI ((((e : Nat) : Int)) - (((p : Nat) : Int)))))]) dX8_spells_10 cb_X8_160 (hi) rfl (Nat.le_of_ble_eq_true rfl) (s_length l z _ hi)  (fun r_10 g_10 f_10 q_10 => ?_)
  obtain ⟨rfl, rfl, rfl⟩ := q_10
  refine r_icmp_eq (pc := 13) (tgt := 18) dX8_spells_13 (by decide) (by omega) (by omega) (fun c_13 => ?_) (fun c_13 => ?_)
  · refine r_iconst (pc := 18) dX8_spells_18 ?_
    refine r_istore_n (pc := 19) (L2 := [(2, (.int (iI (0)))), (0, (.ref b)), (1, (.ref (4 + i)))]) dX8_spells_19 rfl (by decide) rfl ?_
    refine r_sub (L2 := [(2, (.int (iI (0)))), (0, (.ref b)), (1, (.ref (4 + i)))]) [0, 1, 2] rfl ?_
    exact loop (by omega) (schr.getD i []).length 0 rfl (by omega) (fun k hk => absurd hk (by omega))
  · refine r_iconst (pc := 16) dX8_spells_16 ?_
    exact r_iret (pc := 17) dX8_spells_17 rfl rfl ⟨by rw [b01_f (spP_f1 (by omega))], rfl, rfl⟩

def wnC (B : Nat → Int) (p e : Nat) : Int := if spP B p e 0 = true then 259 else if spP B p e 1 = true then 260 else if spP B p e 2 = true then 261 else if spP B p e 3 = true then 262 else if spP B p e 4 = true then 263 else if spP B p e 5 = true then 264 else if spP B p e 6 = true then 265 else if spP B p e 7 = true then 266 else if spP B p e 8 = true then 267 else if spP B p e 9 = true then 268 else if spP B p e 10 = true then 269 else if spP B p e 11 = true then 270 else if spP B p e 12 = true then 271 else if spP B p e 13 = true then 272 else 258
set_option maxRecDepth 100000 in
set_option maxHeartbeats 4000000 in
theorem x_wordNumber (l : Launch) (z : Zv) (d : Nat) {g : Gm} {f : Fm} {b p e : Nat} (hT : TL g b) (hp : f b 9 = ((p : Nat) : Int)) (he : f b 10 = ((e : Nat) : Int)) (hpe : p ≤ e) (he4 : e ≤ 400) (hby : ∀ i, 0 ≤ f (b + 1) i ∧ f (b + 1) i ≤ 255) : PM l z (d + 5) mX8_wordNumber [(.ref b)] g f 0 0 (rdQ (.int (iI (wnC (f (b + 1)) p e))) g f) := by
  refine PM.of (by decide +kernel) (Nat.le_of_ble_eq_true rfl) ?_
  refine r_aload_n (pc := 0) 0 dX8_wordNumber_0 rfl rfl ?_
  refine r_ldcS (pc := 1) (i := 0) dX8_wordNumber_1 rfl (by decide) ?_
  refine r_callV (pc := 3) (As := [(.ref (4 + 0))]) (S := []) dX8_wordNumber_3 cv_X8_130 hT.k rfl (Nat.le_of_ble_eq_true rfl) (x_spells (i := 0) l z _ hT hp he hpe he4 hby (by decide)) (Nat.zero_le _) (Nat.zero_le _) (fun r_3 g_3 f_3 q_3 => ?_)
  obtain ⟨rfl, rfl, rfl⟩ := q_3
  refine r_if_eq (pc := 6) (tgt := 15) dX8_wordNumber_6 (by decide) (b01_r) (fun c_6 => ?_) (fun c_6 => ?_)
  · replace c_6 := b01_z c_6
    refine r_aload_n (pc := 15) 0 dX8_wordNumber_15 rfl rfl ?_
    refine r_ldcS (pc := 16) (i := 1) dX8_wordNumber_16 rfl (by decide) ?_
    refine r_callV (pc := 18) (As := [(.ref (4 + 1))]) (S := []) dX8_wordNumber_18 cv_X8_130 hT.k rfl (Nat.le_of_ble_eq_true rfl) (x_spells (i := 1) l z _ hT hp he hpe he4 hby (by decide)) (Nat.zero_le _) (Nat.zero_le _) (fun r_18 g_18 f_18 q_18 => ?_)
    obtain ⟨rfl, rfl, rfl⟩ := q_18
    refine r_if_eq (pc := 21) (tgt := 30) dX8_wordNumber_21 (by decide) (b01_r) (fun c_21 => ?_) (fun c_21 => ?_)
    · replace c_21 := b01_z c_21
      refine r_aload_n (pc := 30) 0 dX8_wordNumber_30 rfl rfl ?_
      refine r_ldcS (pc := 31) (i := 2) dX8_wordNumber_31 rfl (by decide) ?_
      refine r_callV (pc := 33) (As := [(.ref (4 + 2))]) (S := []) dX8_wordNumber_33 cv_X8_130 hT.k rfl (Nat.le_of_ble_eq_true rfl) (x_spells (i := 2) l z _ hT hp he hpe he4 hby (by decide)) (Nat.zero_le _) (Nat.zero_le _) (fun r_33 g_33 f_33 q_33 => ?_)
      obtain ⟨rfl, rfl, rfl⟩ := q_33
      refine r_if_eq (pc := 36) (tgt := 45) dX8_wordNumber_36 (by decide) (b01_r) (fun c_36 => ?_) (fun c_36 => ?_)
      · replace c_36 := b01_z c_36
        refine r_aload_n (pc := 45) 0 dX8_wordNumber_45 rfl rfl ?_
        refine r_ldcS (pc := 46) (i := 3) dX8_wordNumber_46 rfl (by decide) ?_
        refine r_callV (pc := 48) (As := [(.ref (4 + 3))]) (S := []) dX8_wordNumber_48 cv_X8_130 hT.k rfl (Nat.le_of_ble_eq_true rfl) (x_spells (i := 3) l z _ hT hp he hpe he4 hby (by decide)) (Nat.zero_le _) (Nat.zero_le _) (fun r_48 g_48 f_48 q_48 => ?_)
        obtain ⟨rfl, rfl, rfl⟩ := q_48
        refine r_if_eq (pc := 51) (tgt := 60) dX8_wordNumber_51 (by decide) (b01_r) (fun c_51 => ?_) (fun c_51 => ?_)
        · replace c_51 := b01_z c_51
          refine r_aload_n (pc := 60) 0 dX8_wordNumber_60 rfl rfl ?_
          refine r_ldcS (pc := 61) (i := 4) dX8_wordNumber_61 rfl (by decide) ?_
          refine r_callV (pc := 63) (As := [(.ref (4 + 4))]) (S := []) dX8_wordNumber_63 cv_X8_130 hT.k rfl (Nat.le_of_ble_eq_true rfl) (x_spells (i := 4) l z _ hT hp he hpe he4 hby (by decide)) (Nat.zero_le _) (Nat.zero_le _) (fun r_63 g_63 f_63 q_63 => ?_)
          obtain ⟨rfl, rfl, rfl⟩ := q_63
          refine r_if_eq (pc := 66) (tgt := 75) dX8_wordNumber_66 (by decide) (b01_r) (fun c_66 => ?_) (fun c_66 => ?_)
          · replace c_66 := b01_z c_66
            refine r_aload_n (pc := 75) 0 dX8_wordNumber_75 rfl rfl ?_
            refine r_ldcS (pc := 76) (i := 5) dX8_wordNumber_76 rfl (by decide) ?_
            refine r_callV (pc := 78) (As := [(.ref (4 + 5))]) (S := []) dX8_wordNumber_78 cv_X8_130 hT.k rfl (Nat.le_of_ble_eq_true rfl) (x_spells (i := 5) l z _ hT hp he hpe he4 hby (by decide)) (Nat.zero_le _) (Nat.zero_le _) (fun r_78 g_78 f_78 q_78 => ?_)
            obtain ⟨rfl, rfl, rfl⟩ := q_78
            refine r_if_eq (pc := 81) (tgt := 90) dX8_wordNumber_81 (by decide) (b01_r) (fun c_81 => ?_) (fun c_81 => ?_)
            · replace c_81 := b01_z c_81
              refine r_aload_n (pc := 90) 0 dX8_wordNumber_90 rfl rfl ?_
              refine r_ldcS (pc := 91) (i := 6) dX8_wordNumber_91 rfl (by decide) ?_
              refine r_callV (pc := 93) (As := [(.ref (4 + 6))]) (S := []) dX8_wordNumber_93 cv_X8_130 hT.k rfl (Nat.le_of_ble_eq_true rfl) (x_spells (i := 6) l z _ hT hp he hpe he4 hby (by decide)) (Nat.zero_le _) (Nat.zero_le _) (fun r_93 g_93 f_93 q_93 => ?_)
              obtain ⟨rfl, rfl, rfl⟩ := q_93
              refine r_if_eq (pc := 96) (tgt := 105) dX8_wordNumber_96 (by decide) (b01_r) (fun c_96 => ?_) (fun c_96 => ?_)
              · replace c_96 := b01_z c_96
                refine r_aload_n (pc := 105) 0 dX8_wordNumber_105 rfl rfl ?_
                refine r_ldcS (pc := 106) (i := 7) dX8_wordNumber_106 rfl (by decide) ?_
                refine r_callV (pc := 108) (As := [(.ref (4 + 7))]) (S := []) dX8_wordNumber_108 cv_X8_130 hT.k rfl (Nat.le_of_ble_eq_true rfl) (x_spells (i := 7) l z _ hT hp he hpe he4 hby (by decide)) (Nat.zero_le _) (Nat.zero_le _) (fun r_108 g_108 f_108 q_108 => ?_)
                obtain ⟨rfl, rfl, rfl⟩ := q_108
                refine r_if_eq (pc := 111) (tgt := 120) dX8_wordNumber_111 (by decide) (b01_r) (fun c_111 => ?_) (fun c_111 => ?_)
                · replace c_111 := b01_z c_111
                  refine r_aload_n (pc := 120) 0 dX8_wordNumber_120 rfl rfl ?_
                  refine r_ldcS (pc := 121) (i := 8) dX8_wordNumber_121 rfl (by decide) ?_
                  refine r_callV (pc := 123) (As := [(.ref (4 + 8))]) (S := []) dX8_wordNumber_123 cv_X8_130 hT.k rfl (Nat.le_of_ble_eq_true rfl) (x_spells (i := 8) l z _ hT hp he hpe he4 hby (by decide)) (Nat.zero_le _) (Nat.zero_le _) (fun r_123 g_123 f_123 q_123 => ?_)
                  obtain ⟨rfl, rfl, rfl⟩ := q_123
                  refine r_if_eq (pc := 126) (tgt := 135) dX8_wordNumber_126 (by decide) (b01_r) (fun c_126 => ?_) (fun c_126 => ?_)
                  · replace c_126 := b01_z c_126
                    refine r_aload_n (pc := 135) 0 dX8_wordNumber_135 rfl rfl ?_
                    refine r_ldcS (pc := 136) (i := 9) dX8_wordNumber_136 rfl (by decide) ?_
                    refine r_callV (pc := 138) (As := [(.ref (4 + 9))]) (S := []) dX8_wordNumber_138 cv_X8_130 hT.k rfl (Nat.le_of_ble_eq_true rfl) (x_spells (i := 9) l z _ hT hp he hpe he4 hby (by decide)) (Nat.zero_le _) (Nat.zero_le _) (fun r_138 g_138 f_138 q_138 => ?_)
                    obtain ⟨rfl, rfl, rfl⟩ := q_138
                    refine r_if_eq (pc := 141) (tgt := 150) dX8_wordNumber_141 (by decide) (b01_r) (fun c_141 => ?_) (fun c_141 => ?_)
                    · replace c_141 := b01_z c_141
                      refine r_aload_n (pc := 150) 0 dX8_wordNumber_150 rfl rfl ?_
                      refine r_ldcS (pc := 151) (i := 10) dX8_wordNumber_151 rfl (by decide) ?_
                      refine r_callV (pc := 153) (As := [(.ref (4 + 10))]) (S := []) dX8_wordNumber_153 cv_X8_130 hT.k rfl (Nat.le_of_ble_eq_true rfl) (x_spells (i := 10) l z _ hT hp he hpe he4 hby (by decide)) (Nat.zero_le _) (Nat.zero_le _) (fun r_153 g_153 f_153 q_153 => ?_)
                      obtain ⟨rfl, rfl, rfl⟩ := q_153
                      refine r_if_eq (pc := 156) (tgt := 165) dX8_wordNumber_156 (by decide) (b01_r) (fun c_156 => ?_) (fun c_156 => ?_)
                      · replace c_156 := b01_z c_156
                        refine r_aload_n (pc := 165) 0 dX8_wordNumber_165 rfl rfl ?_
                        refine r_ldcS (pc := 166) (i := 11) dX8_wordNumber_166 rfl (by decide) ?_
                        refine r_callV (pc := 168) (As := [(.ref (4 + 11))]) (S := []) dX8_wordNumber_168 cv_X8_130 hT.k rfl (Nat.le_of_ble_eq_true rfl) (x_spells (i := 11) l z _ hT hp he hpe he4 hby (by decide)) (Nat.zero_le _) (Nat.zero_le _) (fun r_168 g_168 f_168 q_168 => ?_)
                        obtain ⟨rfl, rfl, rfl⟩ := q_168
                        refine r_if_eq (pc := 171) (tgt := 180) dX8_wordNumber_171 (by decide) (b01_r) (fun c_171 => ?_) (fun c_171 => ?_)
                        · replace c_171 := b01_z c_171
                          refine r_aload_n (pc := 180) 0 dX8_wordNumber_180 rfl rfl ?_
                          refine r_ldcS (pc := 181) (i := 12) dX8_wordNumber_181 rfl (by decide) ?_
                          refine r_callV (pc := 183) (As := [(.ref (4 + 12))]) (S := []) dX8_wordNumber_183 cv_X8_130 hT.k rfl (Nat.le_of_ble_eq_true rfl) (x_spells (i := 12) l z _ hT hp he hpe he4 hby (by decide)) (Nat.zero_le _) (Nat.zero_le _) (fun r_183 g_183 f_183 q_183 => ?_)
                          obtain ⟨rfl, rfl, rfl⟩ := q_183
                          refine r_if_eq (pc := 186) (tgt := 195) dX8_wordNumber_186 (by decide) (b01_r) (fun c_186 => ?_) (fun c_186 => ?_)
                          · replace c_186 := b01_z c_186
                            refine r_aload_n (pc := 195) 0 dX8_wordNumber_195 rfl rfl ?_
                            refine r_ldcS (pc := 196) (i := 13) dX8_wordNumber_196 rfl (by decide) ?_
                            refine r_callV (pc := 198) (As := [(.ref (4 + 13))]) (S := []) dX8_wordNumber_198 cv_X8_130 hT.k rfl (Nat.le_of_ble_eq_true rfl) (x_spells (i := 13) l z _ hT hp he hpe he4 hby (by decide)) (Nat.zero_le _) (Nat.zero_le _) (fun r_198 g_198 f_198 q_198 => ?_)
                            obtain ⟨rfl, rfl, rfl⟩ := q_198
                            refine r_if_eq (pc := 201) (tgt := 210) dX8_wordNumber_201 (by decide) (b01_r) (fun c_201 => ?_) (fun c_201 => ?_)
                            · replace c_201 := b01_z c_201
                              refine r_sipush (pc := 210) dX8_wordNumber_210 (by decide) ?_
                              exact r_iret (pc := 213) dX8_wordNumber_213 rfl rfl ⟨by rw [wnC, if_neg c_6, if_neg c_21, if_neg c_36, if_neg c_51, if_neg c_66, if_neg c_81, if_neg c_96, if_neg c_111, if_neg c_126, if_neg c_141, if_neg c_156, if_neg c_171, if_neg c_186, if_neg c_201], rfl, rfl⟩
                            · replace c_201 := b01_nz c_201
                              refine r_sipush (pc := 204) dX8_wordNumber_204 (by decide) ?_
                              refine r_goto (pc := 207) (tgt := 213) dX8_wordNumber_207 (by decide) ?_
                              exact r_iret (pc := 213) dX8_wordNumber_213 rfl rfl ⟨by rw [wnC, if_neg c_6, if_neg c_21, if_neg c_36, if_neg c_51, if_neg c_66, if_neg c_81, if_neg c_96, if_neg c_111, if_neg c_126, if_neg c_141, if_neg c_156, if_neg c_171, if_neg c_186, if_pos c_201], rfl, rfl⟩
                          · replace c_186 := b01_nz c_186
                            refine r_sipush (pc := 189) dX8_wordNumber_189 (by decide) ?_
                            refine r_goto (pc := 192) (tgt := 213) dX8_wordNumber_192 (by decide) ?_
                            exact r_iret (pc := 213) dX8_wordNumber_213 rfl rfl ⟨by rw [wnC, if_neg c_6, if_neg c_21, if_neg c_36, if_neg c_51, if_neg c_66, if_neg c_81, if_neg c_96, if_neg c_111, if_neg c_126, if_neg c_141, if_neg c_156, if_neg c_171, if_pos c_186], rfl, rfl⟩
                        · replace c_171 := b01_nz c_171
                          refine r_sipush (pc := 174) dX8_wordNumber_174 (by decide) ?_
                          refine r_goto (pc := 177) (tgt := 213) dX8_wordNumber_177 (by decide) ?_
                          exact r_iret (pc := 213) dX8_wordNumber_213 rfl rfl ⟨by rw [wnC, if_neg c_6, if_neg c_21, if_neg c_36, if_neg c_51, if_neg c_66, if_neg c_81, if_neg c_96, if_neg c_111, if_neg c_126, if_neg c_141, if_neg c_156, if_pos c_171], rfl, rfl⟩
                      · replace c_156 := b01_nz c_156
                        refine r_sipush (pc := 159) dX8_wordNumber_159 (by decide) ?_
                        refine r_goto (pc := 162) (tgt := 213) dX8_wordNumber_162 (by decide) ?_
                        exact r_iret (pc := 213) dX8_wordNumber_213 rfl rfl ⟨by rw [wnC, if_neg c_6, if_neg c_21, if_neg c_36, if_neg c_51, if_neg c_66, if_neg c_81, if_neg c_96, if_neg c_111, if_neg c_126, if_neg c_141, if_pos c_156], rfl, rfl⟩
                    · replace c_141 := b01_nz c_141
                      refine r_sipush (pc := 144) dX8_wordNumber_144 (by decide) ?_
                      refine r_goto (pc := 147) (tgt := 213) dX8_wordNumber_147 (by decide) ?_
                      exact r_iret (pc := 213) dX8_wordNumber_213 rfl rfl ⟨by rw [wnC, if_neg c_6, if_neg c_21, if_neg c_36, if_neg c_51, if_neg c_66, if_neg c_81, if_neg c_96, if_neg c_111, if_neg c_126, if_pos c_141], rfl, rfl⟩
                  · replace c_126 := b01_nz c_126
                    refine r_sipush (pc := 129) dX8_wordNumber_129 (by decide) ?_
                    refine r_goto (pc := 132) (tgt := 213) dX8_wordNumber_132 (by decide) ?_
                    exact r_iret (pc := 213) dX8_wordNumber_213 rfl rfl ⟨by rw [wnC, if_neg c_6, if_neg c_21, if_neg c_36, if_neg c_51, if_neg c_66, if_neg c_81, if_neg c_96, if_neg c_111, if_pos c_126], rfl, rfl⟩
                · replace c_111 := b01_nz c_111
                  refine r_sipush (pc := 114) dX8_wordNumber_114 (by decide) ?_
                  refine r_goto (pc := 117) (tgt := 213) dX8_wordNumber_117 (by decide) ?_
                  exact r_iret (pc := 213) dX8_wordNumber_213 rfl rfl ⟨by rw [wnC, if_neg c_6, if_neg c_21, if_neg c_36, if_neg c_51, if_neg c_66, if_neg c_81, if_neg c_96, if_pos c_111], rfl, rfl⟩
              · replace c_96 := b01_nz c_96
                refine r_sipush (pc := 99) dX8_wordNumber_99 (by decide) ?_
                refine r_goto (pc := 102) (tgt := 213) dX8_wordNumber_102 (by decide) ?_
                exact r_iret (pc := 213) dX8_wordNumber_213 rfl rfl ⟨by rw [wnC, if_neg c_6, if_neg c_21, if_neg c_36, if_neg c_51, if_neg c_66, if_neg c_81, if_pos c_96], rfl, rfl⟩
            · replace c_81 := b01_nz c_81
              refine r_sipush (pc := 84) dX8_wordNumber_84 (by decide) ?_
              refine r_goto (pc := 87) (tgt := 213) dX8_wordNumber_87 (by decide) ?_
              exact r_iret (pc := 213) dX8_wordNumber_213 rfl rfl ⟨by rw [wnC, if_neg c_6, if_neg c_21, if_neg c_36, if_neg c_51, if_neg c_66, if_pos c_81], rfl, rfl⟩
          · replace c_66 := b01_nz c_66
            refine r_sipush (pc := 69) dX8_wordNumber_69 (by decide) ?_
            refine r_goto (pc := 72) (tgt := 213) dX8_wordNumber_72 (by decide) ?_
            exact r_iret (pc := 213) dX8_wordNumber_213 rfl rfl ⟨by rw [wnC, if_neg c_6, if_neg c_21, if_neg c_36, if_neg c_51, if_pos c_66], rfl, rfl⟩
        · replace c_51 := b01_nz c_51
          refine r_sipush (pc := 54) dX8_wordNumber_54 (by decide) ?_
          refine r_goto (pc := 57) (tgt := 213) dX8_wordNumber_57 (by decide) ?_
          exact r_iret (pc := 213) dX8_wordNumber_213 rfl rfl ⟨by rw [wnC, if_neg c_6, if_neg c_21, if_neg c_36, if_pos c_51], rfl, rfl⟩
      · replace c_36 := b01_nz c_36
        refine r_sipush (pc := 39) dX8_wordNumber_39 (by decide) ?_
        refine r_goto (pc := 42) (tgt := 213) dX8_wordNumber_42 (by decide) ?_
        exact r_iret (pc := 213) dX8_wordNumber_213 rfl rfl ⟨by rw [wnC, if_neg c_6, if_neg c_21, if_pos c_36], rfl, rfl⟩
    · replace c_21 := b01_nz c_21
      refine r_sipush (pc := 24) dX8_wordNumber_24 (by decide) ?_
      refine r_goto (pc := 27) (tgt := 213) dX8_wordNumber_27 (by decide) ?_
      exact r_iret (pc := 213) dX8_wordNumber_213 rfl rfl ⟨by rw [wnC, if_neg c_6, if_pos c_21], rfl, rfl⟩
  · replace c_6 := b01_nz c_6
    refine r_sipush (pc := 9) dX8_wordNumber_9 (by decide) ?_
    refine r_goto (pc := 12) (tgt := 213) dX8_wordNumber_12 (by decide) ?_
    exact r_iret (pc := 213) dX8_wordNumber_213 rfl rfl ⟨by rw [wnC, if_pos c_6], rfl, rfl⟩

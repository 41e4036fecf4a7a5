/-- a ROW: what is kept, how many came, crumbs, behind j threes of the bytes B -/
def rwS (B K0 : Nat → Int) (c0 : Int) : Nat → (Nat → Int) × Int × Int
  | 0 => (K0, 0, c0)
  | j + 1 => if (rwS B K0 c0 j).1 77 < 8 ∧ (0 ≤ B (3 * j) ∧ B (3 * j) ≤ 40) ∧ (0 ≤ B (3 * j + 1) ∧ B (3 * j + 1) ≤ 9) ∧ (0 ≤ B (3 * j + 2) ∧ B (3 * j + 2) ≤ 1) then (addK (rwS B K0 c0 j).1 (B (3 * j)) (B (3 * j + 1)) (B (3 * j + 2)), (rwS B K0 c0 j).2.1 + 1, (rwS B K0 c0 j).2.2) else ((rwS B K0 c0 j).1, (rwS B K0 c0 j).2.1, (rwS B K0 c0 j).2.2 + 1)
def rwM (f : Fm) (K : Nat → Int) (c : Int) : Fm := stF (updA f 166 K) 164 5 c
theorem rwM_k (f : Fm) (K : Nat → Int) (c : Int) : rwM f K c 166 = K := by rw [rwM, stF_n _ _ _ (by decide), updA_s]
theorem rwM_c (f : Fm) (K : Nat → Int) (c : Int) : rwM f K c 164 5 = c := stF_s _ _ _ _
theorem rwM_o (f : Fm) (K : Nat → Int) (c : Int) {a : Nat} (h : a ≠ 166) (h2 : a ≠ 164) : rwM f K c a = f a := by rw [rwM, stF_n _ _ _ h2, updA_n _ _ h]
theorem rwM_u (f : Fm) (K X : Nat → Int) (c : Int) : updA (rwM f K c) 166 X = rwM f X c := by
  funext q i
  by_cases h : q = 166
  · subst h; simp [rwM, stF, updA]
  · simp [rwM, stF, updA, h]
theorem rwM_s (f : Fm) (K : Nat → Int) (c c' : Int) : stF (rwM f K c) 164 5 c' = rwM f K c' := by
  funext q i
  by_cases h : q = 164 ∧ i = 5
  · simp [rwM, stF, h]
  · simp [rwM, stF, h]
theorem rwM_0 (f : Fm) (c : Int) : stF f 164 5 c = rwM f (f 166) c := by
  funext q i
  by_cases h : q = 166
  · subst h; simp [rwM, stF, updA]
  · simp [rwM, stF, updA, h]
theorem rwS_77 (B K0 : Nat → Int) (c0 : Int) (h : 0 ≤ K0 77 ∧ K0 77 ≤ 8) : ∀ j, 0 ≤ (rwS B K0 c0 j).1 77 ∧ (rwS B K0 c0 j).1 77 ≤ 8
  | 0 => h
  | j + 1 => by
    have ih := rwS_77 B K0 c0 h j
    rw [rwS]
    split
    · rename_i h2
      simp only [addK, if_true]
      omega
    · exact ih
def rwF (f : Fm) : (Nat → Int) × Int × Int := rwS (f 170) (f 166) (if f 164 9 % 3 = 0 then 0 else 1) (f 164 9 / 3).toNat
def aRow (f : Fm) : Int := if f 164 9 = 0 then -6 else (rwF f).2.1
def nRow (f : Fm) : Fm := if f 164 9 = 0 then rfs (stF f 164 9 0) (-6) else gd (rwM (stF f 164 9 0) (rwF f).1 (rwF f).2.2)

set_option maxRecDepth 100000 in
set_option maxHeartbeats 4000000 in
theorem m_row (l : Launch) (z : Zv) (d : Nat) {g : Gm} {f : Fm} {t : Nat} (hM : ML g) (h77 : 0 ≤ f 166 77 ∧ f 166 77 ≤ 8) (ht : f 164 9 = ((t : Nat) : Int)) (h4 : t ≤ 400) (hby : ∀ i, -128 ≤ f 170 i ∧ f 170 i ≤ 127) : PM l z (d + 2) mX11_row [(.ref 164)] g f 0 0 (rdQ (.int (iI (aRow f))) g (nRow f)) := by
  refine PM.of (by decide +kernel) (Nat.le_of_ble_eq_true rfl) ?_
  have loop : ∀ cr : Int, cr = (if ((t : Nat) : Int) % 3 = 0 then 0 else 1) → 0 < t → ∀ m j : Nat, m = t / 3 + 1 - j → j ≤ t / 3 → PW l z (d + 2) mX11_row 0 0 (rdQ (.int (iI (aRow f))) g (nRow f)) 40 [(2, (.int (iI ((rwS (f 170) (f 166) cr j).2.1)))), (3, (.int (iI (((3 * j : Nat) : Int))))), (0, (.ref 164)), (1, (.int (iI (((t : Nat) : Int)))))] [] g (rwM (stF f 164 9 0) (rwS (f 170) (f 166) cr j).1 (rwS (f 170) (f 166) cr j).2.2) 0 0 := by
    intro cr hcr ht0 m
    induction m using Nat.strongRecOn with
    | _ m ih =>
      intro j hm hj
      refine r_iload_n (pc := 40) 1 dX11_row_40 rfl rfl ?_
      refine r_iconst (pc := 41) dX11_row_41 ?_
      refine r_iadd (pc := 42) dX11_row_42 ?_
      refine r_iload_n (pc := 43) 3 dX11_row_43 rfl rfl ?_
      refine r_icmp_gt (pc := 44) (tgt := 176) dX11_row_44 (by decide) (by omega) (by omega) (fun c_44 => ?_) (fun c_44 => ?_)
      · refine r_aload_n (pc := 176) 2 dX11_row_176 rfl rfl ?_
        refine r_iload_n (pc := 177) 0 dX11_row_177 rfl rfl ?_
        refine r_callV (pc := 178) (As := [(.int (iI ((rwS (f 170) (f 166) cr j).2.1)))]) (S := []) dX11_row_178 cv_X11_118 hM.k rfl (Nat.le_of_ble_eq_true rfl) (m_good l z _ _ hM) (Nat.zero_le _) (Nat.zero_le _) (fun r_178 g_178 f_178 q_178 => ?_)
        obtain ⟨rfl, rfl, rfl⟩ := q_178
        exact r_iret (pc := 181) dX11_row_181 rfl rfl ⟨by rw [aRow, if_neg (by omega), rwF, ht, ← hcr, show (((t : Nat) : Int) / 3).toNat = j by omega], rfl, by rw [nRow, if_neg (by omega), rwF, ht, ← hcr, show (((t : Nat) : Int) / 3).toNat = j by omega]⟩
      · have h77 := rwS_77 (f 170) (f 166) cr h77 j
        refine r_aload_n (pc := 47) 2 dX11_row_47 rfl rfl ?_
        refine r_callV (pc := 48) (As := []) (S := []) dX11_row_48 cv_X11_121 hM.k rfl (Nat.le_of_ble_eq_true rfl) (m_customers l z _ hM) (Nat.zero_le _) (Nat.zero_le _) (fun r_48 g_48 f_48 q_48 => ?_)
        obtain ⟨rfl, rfl, rfl⟩ := q_48
        rw [rwM_k]
        refine r_bipush (pc := 51) dX11_row_51 (by decide) ?_
        refine r_icmp_ge (pc := 53) (tgt := 103) dX11_row_53 (by decide) (by omega) (by omega) (fun c_53 => ?_) (fun c_53 => ?_)
        · refine r_iconst (pc := 103) dX11_row_103 ?_
          refine r_istore (pc := 104) (L2 := [(4, (.int (iI (0)))), (2, (.int (iI ((rwS (f 170) (f 166) cr j).2.1)))), (3, (.int (iI (((3 * j : Nat) : Int))))), (0, (.ref 164)), (1, (.int (iI (((t : Nat) : Int)))))]) dX11_row_104 (by decide) rfl ?_
          refine r_iload (pc := 106) 0 dX11_row_106 rfl ?_
          refine r_if_eq (pc := 108) (tgt := 138) dX11_row_108 (by decide) (by omega) (fun c_108 => ?_) (fun c_108 => ?_)
          · refine r_iload_n (pc := 138) 1 dX11_row_138 rfl rfl ?_
            refine r_iload (pc := 139) 0 dX11_row_139 rfl ?_
            refine r_if_eq (pc := 141) (tgt := 148) dX11_row_141 (by decide) (by omega) (fun c_141 => ?_) (fun c_141 => ?_)
            · refine r_iconst (pc := 148) dX11_row_148 ?_
              refine r_iadd (pc := 149) dX11_row_149 ?_
              refine r_eqI (y := (rwS (f 170) (f 166) cr (j + 1)).2.1) (by rw [rwS]; first | (rw [if_pos (by omega)]; done) | (rw [if_neg (by omega)]; dsimp only; omega)) ?_
              refine r_istore_n (pc := 150) (L2 := [(2, (.int (iI ((rwS (f 170) (f 166) cr (j + 1)).2.1)))), (4, (.int (iI (0)))), (3, (.int (iI (((3 * j : Nat) : Int))))), (0, (.ref 164)), (1, (.int (iI (((t : Nat) : Int)))))]) dX11_row_150 rfl (by decide) rfl ?_
              refine r_aload_n (pc := 151) 3 dX11_row_151 rfl rfl ?_
              refine r_dup (pc := 152) dX11_row_152 rfl ?_
              refine r_getIv (pc := 153) (x := (rwS (f 170) (f 166) cr j).2.2) dX11_row_153 fl_X11_153 rfl hM.k (by first | exact rwM_c _ _ _ | rfl) ?_
              refine r_iload (pc := 156) 1 dX11_row_156 rfl ?_
              refine r_if_eq (pc := 158) (tgt := 165) dX11_row_158 (by decide) (by omega) (fun c_158 => ?_) (fun c_158 => ?_)
              · refine r_iconst (pc := 165) dX11_row_165 ?_
                refine r_iadd (pc := 166) dX11_row_166 ?_
                refine r_eqI (y := (rwS (f 170) (f 166) cr (j + 1)).2.2) (by rw [rwS]; first | (rw [if_pos (by omega)]; dsimp only; omega) | (rw [if_neg (by omega)]; done)) ?_
                refine r_putI (pc := 167) dX11_row_167 fl_X11_153 rfl rfl hM.k ?_
                rw [rwM_s]
                refine r_iincv (pc := 170) (y := ((3 * (j + 1) : Nat) : Int)) (L2 := [(3, (.int (iI (((3 * (j + 1) : Nat) : Int))))), (2, (.int (iI ((rwS (f 170) (f 166) cr (j + 1)).2.1)))), (4, (.int (iI (0)))), (0, (.ref 164)), (1, (.int (iI (((t : Nat) : Int)))))]) 2 dX11_row_170 rfl (by omega) (by decide) rfl ?_
                refine r_goto (pc := 173) (tgt := 40) dX11_row_173 (by decide) ?_
                refine r_sub (L2 := [(2, (.int (iI ((rwS (f 170) (f 166) cr (j + 1)).2.1)))), (3, (.int (iI (((3 * (j + 1) : Nat) : Int))))), (0, (.ref 164)), (1, (.int (iI (((t : Nat) : Int)))))]) [1, 0, 3, 4] rfl ?_
                have hK1 : (rwS (f 170) (f 166) cr (j + 1)).1 = (rwS (f 170) (f 166) cr j).1 := by rw [rwS]; first | (rw [if_pos (by omega)]; done) | (rw [if_neg (by omega)])
                rw [← hK1]
                exact ih (t / 3 + 1 - (j + 1)) (by omega) (j + 1) rfl (by omega)
              · exact absurd c_158 (by decide)
            · exact absurd c_141 (by decide)
          · exact absurd c_108 (by decide)
        · refine r_iconst (pc := 56) dX11_row_56 ?_
          refine r_aload_n (pc := 57) 2 dX11_row_57 rfl rfl ?_
          refine r_getR (pc := 58) (b := 170) dX11_row_58 fl_X11_31 rfl hM.k hM.r7 ?_
          refine r_iload_n (pc := 61) 1 dX11_row_61 rfl rfl ?_
          refine r_baldv (pc := 62) (w := f 170 (3 * j)) dX11_row_62 hM.a7 (by omega) (by decide) (by rw [rwM_o _ _ _ (by decide) (by decide), stF_n _ _ _ (by decide)]; rfl) ?_
          refine r_callS (pc := 63) (As := [(.int (iI (0))), (.int (iI (f 170 (3 * j))))]) (S := []) dX11_row_63 cs_X11_126 rfl (Nat.le_of_ble_eq_true rfl) (m_isFact l z _ (by omega) (by have := hby (3 * j); have := hby (3 * j + 1); have := hby (3 * j + 2); omega)) (Nat.zero_le _) (Nat.zero_le _) (fun r_63 g_63 f_63 q_63 => ?_)
          obtain ⟨rfl, rfl, rfl⟩ := q_63
          refine r_if_eq (pc := 66) (tgt := 103) dX11_row_66 (by decide) (b01_r) (fun c_66 => ?_) (fun c_66 => ?_)
          · replace c_66 := b01_z c_66
            refine r_iconst (pc := 103) dX11_row_103 ?_
            refine r_istore (pc := 104) (L2 := [(4, (.int (iI (0)))), (2, (.int (iI ((rwS (f 170) (f 166) cr j).2.1)))), (3, (.int (iI (((3 * j : Nat) : Int))))), (0, (.ref 164)), (1, (.int (iI (((t : Nat) : Int)))))]) dX11_row_104 (by decide) rfl ?_
            refine r_iload (pc := 106) 0 dX11_row_106 rfl ?_
            refine r_if_eq (pc := 108) (tgt := 138) dX11_row_108 (by decide) (by omega) (fun c_108 => ?_) (fun c_108 => ?_)
            · refine r_iload_n (pc := 138) 1 dX11_row_138 rfl rfl ?_
              refine r_iload (pc := 139) 0 dX11_row_139 rfl ?_
              refine r_if_eq (pc := 141) (tgt := 148) dX11_row_141 (by decide) (by omega) (fun c_141 => ?_) (fun c_141 => ?_)
              · refine r_iconst (pc := 148) dX11_row_148 ?_
                refine r_iadd (pc := 149) dX11_row_149 ?_
                refine r_eqI (y := (rwS (f 170) (f 166) cr (j + 1)).2.1) (by rw [rwS]; first | (rw [if_pos (by omega)]; done) | (rw [if_neg (by omega)]; dsimp only; omega)) ?_
                refine r_istore_n (pc := 150) (L2 := [(2, (.int (iI ((rwS (f 170) (f 166) cr (j + 1)).2.1)))), (4, (.int (iI (0)))), (3, (.int (iI (((3 * j : Nat) : Int))))), (0, (.ref 164)), (1, (.int (iI (((t : Nat) : Int)))))]) dX11_row_150 rfl (by decide) rfl ?_
                refine r_aload_n (pc := 151) 3 dX11_row_151 rfl rfl ?_
                refine r_dup (pc := 152) dX11_row_152 rfl ?_
                refine r_getIv (pc := 153) (x := (rwS (f 170) (f 166) cr j).2.2) dX11_row_153 fl_X11_153 rfl hM.k (by first | exact rwM_c _ _ _ | rfl) ?_
                refine r_iload (pc := 156) 1 dX11_row_156 rfl ?_
                refine r_if_eq (pc := 158) (tgt := 165) dX11_row_158 (by decide) (by omega) (fun c_158 => ?_) (fun c_158 => ?_)
                · refine r_iconst (pc := 165) dX11_row_165 ?_
                  refine r_iadd (pc := 166) dX11_row_166 ?_
                  refine r_eqI (y := (rwS (f 170) (f 166) cr (j + 1)).2.2) (by rw [rwS]; first | (rw [if_pos (by omega)]; dsimp only; omega) | (rw [if_neg (by omega)]; done)) ?_
                  refine r_putI (pc := 167) dX11_row_167 fl_X11_153 rfl rfl hM.k ?_
                  rw [rwM_s]
                  refine r_iincv (pc := 170) (y := ((3 * (j + 1) : Nat) : Int)) (L2 := [(3, (.int (iI (((3 * (j + 1) : Nat) : Int))))), (2, (.int (iI ((rwS (f 170) (f 166) cr (j + 1)).2.1)))), (4, (.int (iI (0)))), (0, (.ref 164)), (1, (.int (iI (((t : Nat) : Int)))))]) 2 dX11_row_170 rfl (by omega) (by decide) rfl ?_
                  refine r_goto (pc := 173) (tgt := 40) dX11_row_173 (by decide) ?_
                  refine r_sub (L2 := [(2, (.int (iI ((rwS (f 170) (f 166) cr (j + 1)).2.1)))), (3, (.int (iI (((3 * (j + 1) : Nat) : Int))))), (0, (.ref 164)), (1, (.int (iI (((t : Nat) : Int)))))]) [1, 0, 3, 4] rfl ?_
                  have hK1 : (rwS (f 170) (f 166) cr (j + 1)).1 = (rwS (f 170) (f 166) cr j).1 := by rw [rwS]; first | (rw [if_pos (by omega)]; done) | (rw [if_neg (by omega)])
                  rw [← hK1]
                  exact ih (t / 3 + 1 - (j + 1)) (by omega) (j + 1) rfl (by omega)
                · exact absurd c_158 (by decide)
              · exact absurd c_141 (by decide)
            · exact absurd c_108 (by decide)
          · replace c_66 := b01_nz c_66
            refine r_iconst (pc := 69) dX11_row_69 ?_
            refine r_aload_n (pc := 70) 2 dX11_row_70 rfl rfl ?_
            refine r_getR (pc := 71) (b := 170) dX11_row_71 fl_X11_31 rfl hM.k hM.r7 ?_
            refine r_iload_n (pc := 74) 1 dX11_row_74 rfl rfl ?_
            refine r_iconst (pc := 75) dX11_row_75 ?_
            refine r_iadd (pc := 76) dX11_row_76 ?_
            refine r_baldv (pc := 77) (w := f 170 (3 * j + 1)) dX11_row_77 hM.a7 (by omega) (by decide) (by rw [rwM_o _ _ _ (by decide) (by decide), stF_n _ _ _ (by decide)]; rfl) ?_
            refine r_callS (pc := 78) (As := [(.int (iI (1))), (.int (iI (f 170 (3 * j + 1))))]) (S := []) dX11_row_78 cs_X11_126 rfl (Nat.le_of_ble_eq_true rfl) (m_isFact l z _ (by omega) (by have := hby (3 * j); have := hby (3 * j + 1); have := hby (3 * j + 2); omega)) (Nat.zero_le _) (Nat.zero_le _) (fun r_78 g_78 f_78 q_78 => ?_)
            obtain ⟨rfl, rfl, rfl⟩ := q_78
            refine r_if_eq (pc := 81) (tgt := 103) dX11_row_81 (by decide) (b01_r) (fun c_81 => ?_) (fun c_81 => ?_)
            · replace c_81 := b01_z c_81
              refine r_iconst (pc := 103) dX11_row_103 ?_
              refine r_istore (pc := 104) (L2 := [(4, (.int (iI (0)))), (2, (.int (iI ((rwS (f 170) (f 166) cr j).2.1)))), (3, (.int (iI (((3 * j : Nat) : Int))))), (0, (.ref 164)), (1, (.int (iI (((t : Nat) : Int)))))]) dX11_row_104 (by decide) rfl ?_
              refine r_iload (pc := 106) 0 dX11_row_106 rfl ?_
              refine r_if_eq (pc := 108) (tgt := 138) dX11_row_108 (by decide) (by omega) (fun c_108 => ?_) (fun c_108 => ?_)
              · refine r_iload_n (pc := 138) 1 dX11_row_138 rfl rfl ?_
                refine r_iload (pc := 139) 0 dX11_row_139 rfl ?_
                refine r_if_eq (pc := 141) (tgt := 148) dX11_row_141 (by decide) (by omega) (fun c_141 => ?_) (fun c_141 => ?_)
                · refine r_iconst (pc := 148) dX11_row_148 ?_
                  refine r_iadd (pc := 149) dX11_row_149 ?_
                  refine r_eqI (y := (rwS (f 170) (f 166) cr (j + 1)).2.1) (by rw [rwS]; first | (rw [if_pos (by omega)]; done) | (rw [if_neg (by omega)]; dsimp only; omega)) ?_
                  refine r_istore_n (pc := 150) (L2 := [(2, (.int (iI ((rwS (f 170) (f 166) cr (j + 1)).2.1)))), (4, (.int (iI (0)))), (3, (.int (iI (((3 * j : Nat) : Int))))), (0, (.ref 164)), (1, (.int (iI (((t : Nat) : Int)))))]) dX11_row_150 rfl (by decide) rfl ?_
                  refine r_aload_n (pc := 151) 3 dX11_row_151 rfl rfl ?_
                  refine r_dup (pc := 152) dX11_row_152 rfl ?_
                  refine r_getIv (pc := 153) (x := (rwS (f 170) (f 166) cr j).2.2) dX11_row_153 fl_X11_153 rfl hM.k (by first | exact rwM_c _ _ _ | rfl) ?_
                  refine r_iload (pc := 156) 1 dX11_row_156 rfl ?_
                  refine r_if_eq (pc := 158) (tgt := 165) dX11_row_158 (by decide) (by omega) (fun c_158 => ?_) (fun c_158 => ?_)
                  · refine r_iconst (pc := 165) dX11_row_165 ?_
                    refine r_iadd (pc := 166) dX11_row_166 ?_
                    refine r_eqI (y := (rwS (f 170) (f 166) cr (j + 1)).2.2) (by rw [rwS]; first | (rw [if_pos (by omega)]; dsimp only; omega) | (rw [if_neg (by omega)]; done)) ?_
                    refine r_putI (pc := 167) dX11_row_167 fl_X11_153 rfl rfl hM.k ?_
                    rw [rwM_s]
                    refine r_iincv (pc := 170) (y := ((3 * (j + 1) : Nat) : Int)) (L2 := [(3, (.int (iI (((3 * (j + 1) : Nat) : Int))))), (2, (.int (iI ((rwS (f 170) (f 166) cr (j + 1)).2.1)))), (4, (.int (iI (0)))), (0, (.ref 164)), (1, (.int (iI (((t : Nat) : Int)))))]) 2 dX11_row_170 rfl (by omega) (by decide) rfl ?_
                    refine r_goto (pc := 173) (tgt := 40) dX11_row_173 (by decide) ?_
                    refine r_sub (L2 := [(2, (.int (iI ((rwS (f 170) (f 166) cr (j + 1)).2.1)))), (3, (.int (iI (((3 * (j + 1) : Nat) : Int))))), (0, (.ref 164)), (1, (.int (iI (((t : Nat) : Int)))))]) [1, 0, 3, 4] rfl ?_
                    have hK1 : (rwS (f 170) (f 166) cr (j + 1)).1 = (rwS (f 170) (f 166) cr j).1 := by rw [rwS]; first | (rw [if_pos (by omega)]; done) | (rw [if_neg (by omega)])
                    rw [← hK1]
                    exact ih (t / 3 + 1 - (j + 1)) (by omega) (j + 1) rfl (by omega)
                  · exact absurd c_158 (by decide)
                · exact absurd c_141 (by decide)
              · exact absurd c_108 (by decide)
            · replace c_81 := b01_nz c_81
              refine r_iconst (pc := 84) dX11_row_84 ?_
              refine r_aload_n (pc := 85) 2 dX11_row_85 rfl rfl ?_
              refine r_getR (pc := 86) (b := 170) dX11_row_86 fl_X11_31 rfl hM.k hM.r7 ?_
              refine r_iload_n (pc := 89) 1 dX11_row_89 rfl rfl ?_
              refine r_iconst (pc := 90) dX11_row_90 ?_
              refine r_iadd (pc := 91) dX11_row_91 ?_
              refine r_baldv (pc := 92) (w := f 170 (3 * j + 2)) dX11_row_92 hM.a7 (by omega) (by decide) (by rw [rwM_o _ _ _ (by decide) (by decide), stF_n _ _ _ (by decide)]; rfl) ?_
              refine r_callS (pc := 93) (As := [(.int (iI (2))), (.int (iI (f 170 (3 * j + 2))))]) (S := []) dX11_row_93 cs_X11_126 rfl (Nat.le_of_ble_eq_true rfl) (m_isFact l z _ (by omega) (by have := hby (3 * j); have := hby (3 * j + 1); have := hby (3 * j + 2); omega)) (Nat.zero_le _) (Nat.zero_le _) (fun r_93 g_93 f_93 q_93 => ?_)
              obtain ⟨rfl, rfl, rfl⟩ := q_93
              refine r_if_eq (pc := 96) (tgt := 103) dX11_row_96 (by decide) (b01_r) (fun c_96 => ?_) (fun c_96 => ?_)
              · replace c_96 := b01_z c_96
                refine r_iconst (pc := 103) dX11_row_103 ?_
                refine r_istore (pc := 104) (L2 := [(4, (.int (iI (0)))), (2, (.int (iI ((rwS (f 170) (f 166) cr j).2.1)))), (3, (.int (iI (((3 * j : Nat) : Int))))), (0, (.ref 164)), (1, (.int (iI (((t : Nat) : Int)))))]) dX11_row_104 (by decide) rfl ?_
                refine r_iload (pc := 106) 0 dX11_row_106 rfl ?_
                refine r_if_eq (pc := 108) (tgt := 138) dX11_row_108 (by decide) (by omega) (fun c_108 => ?_) (fun c_108 => ?_)
                · refine r_iload_n (pc := 138) 1 dX11_row_138 rfl rfl ?_
                  refine r_iload (pc := 139) 0 dX11_row_139 rfl ?_
                  refine r_if_eq (pc := 141) (tgt := 148) dX11_row_141 (by decide) (by omega) (fun c_141 => ?_) (fun c_141 => ?_)
                  · refine r_iconst (pc := 148) dX11_row_148 ?_
                    refine r_iadd (pc := 149) dX11_row_149 ?_
                    refine r_eqI (y := (rwS (f 170) (f 166) cr (j + 1)).2.1) (by rw [rwS]; first | (rw [if_pos (by omega)]; done) | (rw [if_neg (by omega)]; dsimp only; omega)) ?_
                    refine r_istore_n (pc := 150) (L2 := [(2, (.int (iI ((rwS (f 170) (f 166) cr (j + 1)).2.1)))), (4, (.int (iI (0)))), (3, (.int (iI (((3 * j : Nat) : Int))))), (0, (.ref 164)), (1, (.int (iI (((t : Nat) : Int)))))]) dX11_row_150 rfl (by decide) rfl ?_
                    refine r_aload_n (pc := 151) 3 dX11_row_151 rfl rfl ?_
                    refine r_dup (pc := 152) dX11_row_152 rfl ?_
                    refine r_getIv (pc := 153) (x := (rwS (f 170) (f 166) cr j).2.2) dX11_row_153 fl_X11_153 rfl hM.k (by first | exact rwM_c _ _ _ | rfl) ?_
                    refine r_iload (pc := 156) 1 dX11_row_156 rfl ?_
                    refine r_if_eq (pc := 158) (tgt := 165) dX11_row_158 (by decide) (by omega) (fun c_158 => ?_) (fun c_158 => ?_)
                    · refine r_iconst (pc := 165) dX11_row_165 ?_
                      refine r_iadd (pc := 166) dX11_row_166 ?_
                      refine r_eqI (y := (rwS (f 170) (f 166) cr (j + 1)).2.2) (by rw [rwS]; first | (rw [if_pos (by omega)]; dsimp only; omega) | (rw [if_neg (by omega)]; done)) ?_
                      refine r_putI (pc := 167) dX11_row_167 fl_X11_153 rfl rfl hM.k ?_
                      rw [rwM_s]
                      refine r_iincv (pc := 170) (y := ((3 * (j + 1) : Nat) : Int)) (L2 := [(3, (.int (iI (((3 * (j + 1) : Nat) : Int))))), (2, (.int (iI ((rwS (f 170) (f 166) cr (j + 1)).2.1)))), (4, (.int (iI (0)))), (0, (.ref 164)), (1, (.int (iI (((t : Nat) : Int)))))]) 2 dX11_row_170 rfl (by omega) (by decide) rfl ?_
                      refine r_goto (pc := 173) (tgt := 40) dX11_row_173 (by decide) ?_
                      refine r_sub (L2 := [(2, (.int (iI ((rwS (f 170) (f 166) cr (j + 1)).2.1)))), (3, (.int (iI (((3 * (j + 1) : Nat) : Int))))), (0, (.ref 164)), (1, (.int (iI (((t : Nat) : Int)))))]) [1, 0, 3, 4] rfl ?_
                      have hK1 : (rwS (f 170) (f 166) cr (j + 1)).1 = (rwS (f 170) (f 166) cr j).1 := by rw [rwS]; first | (rw [if_pos (by omega)]; done) | (rw [if_neg (by omega)])
                      rw [← hK1]
                      exact ih (t / 3 + 1 - (j + 1)) (by omega) (j + 1) rfl (by omega)
                    · exact absurd c_158 (by decide)
                  · exact absurd c_141 (by decide)
                · exact absurd c_108 (by decide)
              · replace c_96 := b01_nz c_96
                refine r_iconst (pc := 99) dX11_row_99 ?_
                refine r_goto (pc := 100) (tgt := 104) dX11_row_100 (by decide) ?_
                refine r_istore (pc := 104) (L2 := [(4, (.int (iI (1)))), (2, (.int (iI ((rwS (f 170) (f 166) cr j).2.1)))), (3, (.int (iI (((3 * j : Nat) : Int))))), (0, (.ref 164)), (1, (.int (iI (((t : Nat) : Int)))))]) dX11_row_104 (by decide) rfl ?_
                refine r_iload (pc := 106) 0 dX11_row_106 rfl ?_
                refine r_if_eq (pc := 108) (tgt := 138) dX11_row_108 (by decide) (by omega) (fun c_108 => ?_) (fun c_108 => ?_)
                · exact absurd c_108 (by decide)
                · refine r_aload_n (pc := 111) 3 dX11_row_111 rfl rfl ?_
                  refine r_aload_n (pc := 112) 3 dX11_row_112 rfl rfl ?_
                  refine r_getR (pc := 113) (b := 170) dX11_row_113 fl_X11_31 rfl hM.k hM.r7 ?_
                  refine r_iload_n (pc := 116) 2 dX11_row_116 rfl rfl ?_
                  refine r_baldv (pc := 117) (w := f 170 (3 * j)) dX11_row_117 hM.a7 (by omega) (by decide) (by rw [rwM_o _ _ _ (by decide) (by decide), stF_n _ _ _ (by decide)]; rfl) ?_
                  refine r_aload_n (pc := 118) 3 dX11_row_118 rfl rfl ?_
                  refine r_getR (pc := 119) (b := 170) dX11_row_119 fl_X11_31 rfl hM.k hM.r7 ?_
                  refine r_iload_n (pc := 122) 2 dX11_row_122 rfl rfl ?_
                  refine r_iconst (pc := 123) dX11_row_123 ?_
                  refine r_iadd (pc := 124) dX11_row_124 ?_
                  refine r_baldv (pc := 125) (w := f 170 (3 * j + 1)) dX11_row_125 hM.a7 (by omega) (by decide) (by rw [rwM_o _ _ _ (by decide) (by decide), stF_n _ _ _ (by decide)]; rfl) ?_
                  refine r_aload_n (pc := 126) 3 dX11_row_126 rfl rfl ?_
                  refine r_getR (pc := 127) (b := 170) dX11_row_127 fl_X11_31 rfl hM.k hM.r7 ?_
                  refine r_iload_n (pc := 130) 2 dX11_row_130 rfl rfl ?_
                  refine r_iconst (pc := 131) dX11_row_131 ?_
                  refine r_iadd (pc := 132) dX11_row_132 ?_
                  refine r_baldv (pc := 133) (w := f 170 (3 * j + 2)) dX11_row_133 hM.a7 (by omega) (by decide) (by rw [rwM_o _ _ _ (by decide) (by decide), stF_n _ _ _ (by decide)]; rfl) ?_
                  refine r_callV (pc := 134) (As := [(.int (iI (f 170 (3 * j)))), (.int (iI (f 170 (3 * j + 1)))), (.int (iI (f 170 (3 * j + 2))))]) (S := []) dX11_row_134 cv_X11_130 hM.k rfl (Nat.le_of_ble_eq_true rfl) (m_adds l z _ hM rfl (by rw [rwM_k]; omega)) (Nat.zero_le _) (Nat.zero_le _) (fun r_134 g_134 f_134 q_134 => ?_)
                  obtain ⟨rfl, rfl, rfl⟩ := q_134
                  rw [rwM_u, rwM_k]
                  refine r_pop (pc := 137) dX11_row_137 rfl ?_
                  refine r_iload_n (pc := 138) 1 dX11_row_138 rfl rfl ?_
                  refine r_iload (pc := 139) 0 dX11_row_139 rfl ?_
                  refine r_if_eq (pc := 141) (tgt := 148) dX11_row_141 (by decide) (by omega) (fun c_141 => ?_) (fun c_141 => ?_)
                  · exact absurd c_141 (by decide)
                  · refine r_iconst (pc := 144) dX11_row_144 ?_
                    refine r_goto (pc := 145) (tgt := 149) dX11_row_145 (by decide) ?_
                    refine r_iadd (pc := 149) dX11_row_149 ?_
                    refine r_eqI (y := (rwS (f 170) (f 166) cr (j + 1)).2.1) (by rw [rwS]; first | (rw [if_pos (by omega)]; done) | (rw [if_neg (by omega)]; dsimp only; omega)) ?_
                    refine r_istore_n (pc := 150) (L2 := [(2, (.int (iI ((rwS (f 170) (f 166) cr (j + 1)).2.1)))), (4, (.int (iI (1)))), (3, (.int (iI (((3 * j : Nat) : Int))))), (0, (.ref 164)), (1, (.int (iI (((t : Nat) : Int)))))]) dX11_row_150 rfl (by decide) rfl ?_
                    refine r_aload_n (pc := 151) 3 dX11_row_151 rfl rfl ?_
                    refine r_dup (pc := 152) dX11_row_152 rfl ?_
                    refine r_getIv (pc := 153) (x := (rwS (f 170) (f 166) cr j).2.2) dX11_row_153 fl_X11_153 rfl hM.k (by first | exact rwM_c _ _ _ | rfl) ?_
                    refine r_iload (pc := 156) 1 dX11_row_156 rfl ?_
                    refine r_if_eq (pc := 158) (tgt := 165) dX11_row_158 (by decide) (by omega) (fun c_158 => ?_) (fun c_158 => ?_)
                    · exact absurd c_158 (by decide)
                    · refine r_iconst (pc := 161) dX11_row_161 ?_
                      refine r_goto (pc := 162) (tgt := 166) dX11_row_162 (by decide) ?_
                      refine r_iadd (pc := 166) dX11_row_166 ?_
                      refine r_eqI (y := (rwS (f 170) (f 166) cr (j + 1)).2.2) (by rw [rwS]; first | (rw [if_pos (by omega)]; dsimp only; omega) | (rw [if_neg (by omega)]; done)) ?_
                      refine r_putI (pc := 167) dX11_row_167 fl_X11_153 rfl rfl hM.k ?_
                      rw [rwM_s]
                      refine r_iincv (pc := 170) (y := ((3 * (j + 1) : Nat) : Int)) (L2 := [(3, (.int (iI (((3 * (j + 1) : Nat) : Int))))), (2, (.int (iI ((rwS (f 170) (f 166) cr (j + 1)).2.1)))), (4, (.int (iI (1)))), (0, (.ref 164)), (1, (.int (iI (((t : Nat) : Int)))))]) 2 dX11_row_170 rfl (by omega) (by decide) rfl ?_
                      refine r_goto (pc := 173) (tgt := 40) dX11_row_173 (by decide) ?_
                      refine r_sub (L2 := [(2, (.int (iI ((rwS (f 170) (f 166) cr (j + 1)).2.1)))), (3, (.int (iI (((3 * (j + 1) : Nat) : Int))))), (0, (.ref 164)), (1, (.int (iI (((t : Nat) : Int)))))]) [1, 0, 3, 4] rfl ?_
                      have hK1 : (rwS (f 170) (f 166) cr (j + 1)).1 = (addK (rwS (f 170) (f 166) cr j).1 (f 170 (3 * j)) (f 170 (3 * j + 1)) (f 170 (3 * j + 2))) := by rw [rwS]; first | (rw [if_pos (by omega)]; done) | (rw [if_neg (by omega)])
                      rw [← hK1]
                      exact ih (t / 3 + 1 - (j + 1)) (by omega) (j + 1) rfl (by omega)
  refine r_aload_n (pc := 0) 0 dX11_row_0 rfl rfl ?_
  refine r_getIv (pc := 1) (x := ((t : Nat) : Int)) dX11_row_1 fl_X11_150 rfl hM.k (ht) ?_
  refine r_istore_n (pc := 4) (L2 := [(1, (.int (iI (((t : Nat) : Int))))), (0, (.ref 164))]) dX11_row_4 rfl (by decide) rfl ?_
  refine r_aload_n (pc := 5) 1 dX11_row_5 rfl rfl ?_
  refine r_iconst (pc := 6) dX11_row_6 ?_
  refine r_putI (pc := 7) dX11_row_7 fl_X11_150 rfl rfl hM.k ?_
  refine r_iload_n (pc := 10) 0 dX11_row_10 rfl rfl ?_
  refine r_if_ne (pc := 11) (tgt := 21) dX11_row_11 (by decide) (by omega) (fun c_11 => ?_) (fun c_11 => ?_)
  · refine r_iconst (pc := 21) dX11_row_21 ?_
    refine r_istore_n (pc := 22) (L2 := [(2, (.int (iI (0)))), (1, (.int (iI (((t : Nat) : Int))))), (0, (.ref 164))]) dX11_row_22 rfl (by decide) rfl ?_
    refine r_aload_n (pc := 23) 2 dX11_row_23 rfl rfl ?_
    refine r_iload_n (pc := 24) 1 dX11_row_24 rfl rfl ?_
    refine r_iconst (pc := 25) dX11_row_25 ?_
    refine r_irem (pc := 26) (w := ((t : Nat) : Int) % 3) dX11_row_26 (by decide) (iI_rem (by omega) (by omega)) ?_
    refine r_if_ne (pc := 27) (tgt := 34) dX11_row_27 (by decide) (by omega) (fun c_27 => ?_) (fun c_27 => ?_)
    · refine r_iconst (pc := 34) dX11_row_34 ?_
      refine r_putI (pc := 35) dX11_row_35 fl_X11_153 rfl rfl hM.k ?_
      refine r_iconst (pc := 38) dX11_row_38 ?_
      refine r_istore_n (pc := 39) (L2 := [(3, (.int (iI (0)))), (2, (.int (iI (0)))), (1, (.int (iI (((t : Nat) : Int))))), (0, (.ref 164))]) dX11_row_39 rfl (by decide) rfl ?_
      refine r_sub (L2 := [(2, (.int (iI (0)))), (3, (.int (iI (0)))), (0, (.ref 164)), (1, (.int (iI (((t : Nat) : Int)))))]) [1, 0, 3, 2] rfl ?_
      rw [rwM_0, stF_n _ _ _ (show (166 : Nat) ≠ 164 by decide)]
      exact loop 1 (by first | (rw [if_pos (by omega)]; done) | (rw [if_neg (by omega)])) (by omega) (t / 3 + 1) 0 rfl (by omega)
    · refine r_iconst (pc := 30) dX11_row_30 ?_
      refine r_goto (pc := 31) (tgt := 35) dX11_row_31 (by decide) ?_
      refine r_putI (pc := 35) dX11_row_35 fl_X11_153 rfl rfl hM.k ?_
      refine r_iconst (pc := 38) dX11_row_38 ?_
      refine r_istore_n (pc := 39) (L2 := [(3, (.int (iI (0)))), (2, (.int (iI (0)))), (1, (.int (iI (((t : Nat) : Int))))), (0, (.ref 164))]) dX11_row_39 rfl (by decide) rfl ?_
      refine r_sub (L2 := [(2, (.int (iI (0)))), (3, (.int (iI (0)))), (0, (.ref 164)), (1, (.int (iI (((t : Nat) : Int)))))]) [1, 0, 3, 2] rfl ?_
      rw [rwM_0, stF_n _ _ _ (show (166 : Nat) ≠ 164 by decide)]
      exact loop 0 (by first | (rw [if_pos (by omega)]; done) | (rw [if_neg (by omega)])) (by omega) (t / 3 + 1) 0 rfl (by omega)
  · refine r_aload_n (pc := 14) 1 dX11_row_14 rfl rfl ?_
    refine r_bipush (pc := 15) dX11_row_15 (by decide) ?_
    refine r_callV (pc := 17) (As := [(.int (iI (-6)))]) (S := []) dX11_row_17 cv_X11_114 hM.k rfl (Nat.le_of_ble_eq_true rfl) (m_refuses l z _ hM (by omega)) (Nat.zero_le _) (Nat.zero_le _) (fun r_17 g_17 f_17 q_17 => ?_)
    obtain ⟨rfl, rfl, rfl⟩ := q_17
    exact r_iret (pc := 20) dX11_row_20 rfl rfl ⟨by rw [aRow, if_pos (by omega)], rfl, by rw [nRow, if_pos (by omega)]⟩

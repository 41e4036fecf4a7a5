/-- the token from q on: where it begins, where it ends, its kind, its number -/
def tkP (B : Nat → Int) (t q : Nat) : Nat := adv (blB B) t (t - q) q
def tkE (B : Nat → Int) (t p : Nat) : Nat := if t ≤ p then p else if ltB B p = true then adv (ltB B) t (t - p) p else if dgB B p = true then adv (dgB B) t (t - p) p else p + 1
def tkK (B : Nat → Int) (t p : Nat) : Int := if t ≤ p then 256 else if ltB B p = true then wnC B p (tkE B t p) else if dgB B p = true then 257 else B p
def tkN (B : Nat → Int) (t p : Nat) (old : Int) : Int := if t ≤ p then old else if ltB B p = true then old else if dgB B p = true then nuV B p (tkE B t p - p) else old
def tkF (f : Fm) (b p e : Nat) (k n : Int) : Fm := stF (stF (stF (stF f b 9 ((p : Nat) : Int)) b 10 ((e : Nat) : Int)) b 8 k) b 11 n
def advF (f : Fm) (b t q : Nat) : Fm := tkF f b (tkP (f (b + 1)) t q) (tkE (f (b + 1)) t (tkP (f (b + 1)) t q)) (tkK (f (b + 1)) t (tkP (f (b + 1)) t q)) (tkN (f (b + 1)) t (tkP (f (b + 1)) t q) (f b 11))
def st9 (f : Fm) (b p : Nat) : Fm := stF f b 9 ((p : Nat) : Int)
def s910 (f : Fm) (b p e : Nat) : Fm := stF (stF f b 9 ((p : Nat) : Int)) b 10 ((e : Nat) : Int)
theorem st9_s (f : Fm) (b p p' : Nat) : stF (st9 f b p) b 9 ((p' : Nat) : Int) = st9 f b p' := by
  funext q i; by_cases h : q = b ∧ i = 9
  · simp [st9, stF, h]
  · simp [st9, stF, h]
theorem s910_s (f : Fm) (b p e e' : Nat) : stF (s910 f b p e) b 10 ((e' : Nat) : Int) = s910 f b p e' := by
  funext q i; by_cases h : q = b ∧ i = 10
  · simp [s910, stF, h]
  · simp [s910, stF, h]
theorem tkF_1 (f : Fm) (b p e : Nat) (k : Int) : stF (s910 f b p e) b 8 k = tkF f b p e k (f b 11) := by
  funext q i
  by_cases h : q = b
  · subst h
    by_cases h1 : i = 11
    · subst h1; simp [tkF, s910, stF]
    · simp [tkF, s910, stF, h1]
  · simp [tkF, s910, stF, h]
theorem tkF_2 (f : Fm) (b p e : Nat) (k : Int) : stF (stF (s910 f b p p) b 8 k) b 10 ((e : Nat) : Int) = tkF f b p e k (f b 11) := by
  funext q i
  by_cases h : q = b
  · subst h
    by_cases h1 : i = 11
    · subst h1; simp [tkF, s910, stF]
    · by_cases h2 : i = 8
      · subst h2; simp [tkF, s910, stF]
      · by_cases h3 : i = 10
        · subst h3; simp [tkF, s910, stF]
        · simp [tkF, s910, stF, h1, h2, h3]
  · simp [tkF, s910, stF, h]
theorem tkF_3 (f : Fm) (b p e : Nat) (v : Int) : stF (tmF (s910 f b p p) b v e) b 8 257 = tkF f b p e 257 v := by
  funext q i
  by_cases h : q = b
  · subst h
    by_cases h1 : i = 11
    · subst h1; simp [tkF, tmF, s910, stF]
    · by_cases h2 : i = 8
      · subst h2; simp [tkF, tmF, s910, stF]
      · by_cases h3 : i = 10
        · subst h3; simp [tkF, tmF, s910, stF]
        · simp [tkF, tmF, s910, stF, h1, h2, h3]
  · simp [tkF, tmF, s910, stF, h]
theorem s910_o (f : Fm) (b p e : Nat) {a : Nat} (h : a ≠ b) : s910 f b p e a = f a := by rw [s910, stF_n _ _ _ h, stF_n _ _ _ h]
theorem s910_9 (f : Fm) (b p e : Nat) : s910 f b p e b 9 = ((p : Nat) : Int) := by rw [s910, stF_i _ _ _ (by decide), stF_s]
theorem s910_10 (f : Fm) (b p e : Nat) : s910 f b p e b 10 = ((e : Nat) : Int) := stF_s _ _ _ _
theorem s910_4 (f : Fm) (b p e : Nat) : s910 f b p e b 4 = f b 4 := by rw [s910, stF_i _ _ _ (by decide), stF_i _ _ _ (by decide)]

set_option maxRecDepth 100000 in
set_option maxHeartbeats 4000000 in
theorem x_advance (l : Launch) (z : Zv) (d : Nat) {g : Gm} {f : Fm} {b q t : Nat} (hT : TL g b) (hq : f b 10 = ((q : Nat) : Int)) (ht : f b 4 = ((t : Nat) : Int)) (hqt : q ≤ t) (ht4 : t ≤ 400) (hby : ∀ i, 0 ≤ f (b + 1) i ∧ f (b + 1) i ≤ 255) : PM l z (d + 6) mX8_advance [(.ref b)] g f 0 0 (fun r g' f' => r = none ∧ g = g' ∧ advF f b t q = f') := by
  refine PM.of (by decide +kernel) (Nat.le_of_ble_eq_true rfl) ?_
  have tail : ∀ p : Nat, p ≤ t → tkP (f (b + 1)) t q = p → PW l z (d + 6) mX8_advance 0 0 (fun r g' f' => r = none ∧ g = g' ∧ advF f b t q = f') 54 [(0, (.ref b))] [] g (s910 f b p p) 0 0 := by
    intro p hj hpe
    refine r_aload_n (pc := 54) 0 dX8_advance_54 rfl rfl ?_
    refine r_getIv (pc := 55) (x := ((p : Nat) : Int)) dX8_advance_55 fl_X8_108 rfl hT.k (s910_9 _ _ _ _) ?_
    refine r_aload_n (pc := 58) 0 dX8_advance_58 rfl rfl ?_
    refine r_getIv (pc := 59) (x := ((t : Nat) : Int)) dX8_advance_59 fl_X8_27 rfl hT.k (by rw [s910_4]; exact ht) ?_
    refine r_icmp_lt (pc := 62) (tgt := 75) dX8_advance_62 (by decide) (by omega) (by omega) (fun c_62 => ?_) (fun c_62 => ?_)
    · refine r_aload_n (pc := 75) 0 dX8_advance_75 rfl rfl ?_
      refine r_getR (pc := 76) (b := (b + 1)) dX8_advance_76 fl_X8_9 rfl hT.k hT.r0 ?_
      refine r_aload_n (pc := 79) 0 dX8_advance_79 rfl rfl ?_
      refine r_getIv (pc := 80) (x := ((p : Nat) : Int)) dX8_advance_80 fl_X8_108 rfl hT.k (s910_9 _ _ _ _) ?_
      refine r_ialdv (pc := 83) (w := (f (b + 1)) p) dX8_advance_83 hT.a0 (by omega) (by decide) (by rw [s910_o _ _ _ _ (by omega)]; rfl) ?_
      refine r_callS (pc := 84) (As := [(.int (iI ((f (b + 1)) p)))]) (S := []) dX8_advance_84 cs_X8_111 rfl (Nat.le_of_ble_eq_true rfl) (x_letter l z _ (by have := hby p; omega)) (Nat.zero_le _) (Nat.zero_le _) (fun r_84 g_84 f_84 q_84 => ?_)
      obtain ⟨rfl, rfl, rfl⟩ := q_84
      refine r_if_eq (pc := 87) (tgt := 140) dX8_advance_87 (by decide) (b01_r) (fun c_87 => ?_) (fun c_87 => ?_)
      · replace c_87 := b01_z c_87
        refine r_aload_n (pc := 140) 0 dX8_advance_140 rfl rfl ?_
        refine r_getR (pc := 141) (b := (b + 1)) dX8_advance_141 fl_X8_9 rfl hT.k hT.r0 ?_
        refine r_aload_n (pc := 144) 0 dX8_advance_144 rfl rfl ?_
        refine r_getIv (pc := 145) (x := ((p : Nat) : Int)) dX8_advance_145 fl_X8_108 rfl hT.k (s910_9 _ _ _ _) ?_
        refine r_ialdv (pc := 148) (w := (f (b + 1)) p) dX8_advance_148 hT.a0 (by omega) (by decide) (by rw [s910_o _ _ _ _ (by omega)]; rfl) ?_
        refine r_callS (pc := 149) (As := [(.int (iI ((f (b + 1)) p)))]) (S := []) dX8_advance_149 cs_X8_117 rfl (Nat.le_of_ble_eq_true rfl) (x_digit l z _ (by have := hby p; omega)) (Nat.zero_le _) (Nat.zero_le _) (fun r_149 g_149 f_149 q_149 => ?_)
        obtain ⟨rfl, rfl, rfl⟩ := q_149
        refine r_if_eq (pc := 152) (tgt := 162) dX8_advance_152 (by decide) (b01_r) (fun c_152 => ?_) (fun c_152 => ?_)
        · replace c_152 := b01_z c_152
          refine r_aload_n (pc := 162) 0 dX8_advance_162 rfl rfl ?_
          refine r_aload_n (pc := 163) 0 dX8_advance_163 rfl rfl ?_
          refine r_getR (pc := 164) (b := (b + 1)) dX8_advance_164 fl_X8_9 rfl hT.k hT.r0 ?_
          refine r_aload_n (pc := 167) 0 dX8_advance_167 rfl rfl ?_
          refine r_getIv (pc := 168) (x := ((p : Nat) : Int)) dX8_advance_168 fl_X8_108 rfl hT.k (s910_9 _ _ _ _) ?_
          refine r_ialdv (pc := 171) (w := (f (b + 1)) p) dX8_advance_171 hT.a0 (by omega) (by decide) (by rw [s910_o _ _ _ _ (by omega)]; rfl) ?_
          refine r_putI (pc := 172) dX8_advance_172 fl_X8_63 rfl rfl hT.k ?_
          refine r_aload_n (pc := 175) 0 dX8_advance_175 rfl rfl ?_
          refine r_dup (pc := 176) dX8_advance_176 rfl ?_
          refine r_getIv (pc := 177) (x := ((p : Nat) : Int)) dX8_advance_177 fl_X8_40 rfl hT.k (by rw [stF_i _ _ _ (by decide)]; exact s910_10 _ _ _ _) ?_
          refine r_iconst (pc := 180) dX8_advance_180 ?_
          refine r_iadd (pc := 181) dX8_advance_181 ?_
          refine r_eqI (y := ((p + 1 : Nat) : Int)) (by omega) ?_
          refine r_putI (pc := 182) dX8_advance_182 fl_X8_40 rfl rfl hT.k ?_
          exact r_vret (pc := 185) dX8_advance_185 rfl ⟨rfl, rfl, by rw [advF, hpe]; rw [tkF_2]; simp only [tkE, tkK, tkN]; rw [if_neg (by omega), if_neg (by simpa [ltB] using c_87), if_neg (by simpa [dgB] using c_152), if_neg (by omega), if_neg (by simpa [ltB] using c_87), if_neg (by simpa [dgB] using c_152), if_neg (by omega), if_neg (by simpa [ltB] using c_87), if_neg (by simpa [dgB] using c_152)]⟩
        · replace c_152 := b01_nz c_152
          refine r_aload_n (pc := 155) 0 dX8_advance_155 rfl rfl ?_
          refine r_callV (pc := 156) (As := []) (S := []) dX8_advance_156 cv_X8_120 hT.k rfl (Nat.le_of_ble_eq_true rfl) (x_takeNumber (p := p) (t := t) l z _ hT (s910_10 _ _ _ _) (by rw [s910_4]; exact ht) (by omega) ht4 (fun i => by rw [s910_o _ _ _ _ (by omega)]; exact hby i)) (Nat.zero_le _) (Nat.zero_le _) (fun r_156 g_156 f_156 q_156 => ?_)
          obtain ⟨rfl, rfl, rfl⟩ := q_156
          rw [s910_o _ _ _ _ (show b + 1 ≠ b by omega), tkF_3]
          refine r_goto (pc := 159) (tgt := 185) dX8_advance_159 (by decide) ?_
          exact r_vret (pc := 185) dX8_advance_185 rfl ⟨rfl, rfl, by rw [advF, hpe]; simp only [tkE, tkK, tkN]; rw [if_neg (by omega), if_neg (by simpa [ltB] using c_87), if_pos (by simp [dgB]; exact c_152), if_neg (by omega), if_neg (by simpa [ltB] using c_87), if_pos (by simp [dgB]; exact c_152), if_neg (by omega), if_neg (by simpa [ltB] using c_87), if_pos (by simp [dgB]; exact c_152)]⟩
      · replace c_87 := b01_nz c_87
        have hlt : ¬ t ≤ p := by omega
        have hle : ltB (f (b + 1)) p = true := by simp [ltB]; exact c_87
        have loop2 : ∀ m j : Nat, m = t - (p + j) → p + j ≤ t → adv (ltB (f (b + 1))) t (t - (p + j)) (p + j) = adv (ltB (f (b + 1))) t (t - p) p → PW l z (d + 6) mX8_advance 0 0 (fun r g' f' => r = none ∧ g = g' ∧ advF f b t q = f') 90 [(0, (.ref b))] [] g (s910 f b p (p + j)) 0 0 := by
          intro m
          induction m using Nat.strongRecOn with
          | _ m ih =>
            intro j hm hj hadv
            refine r_aload_n (pc := 90) 0 dX8_advance_90 rfl rfl ?_
            refine r_getIv (pc := 91) (x := ((p + j : Nat) : Int)) dX8_advance_91 fl_X8_40 rfl hT.k (s910_10 _ _ _ _) ?_
            refine r_aload_n (pc := 94) 0 dX8_advance_94 rfl rfl ?_
            refine r_getIv (pc := 95) (x := ((t : Nat) : Int)) dX8_advance_95 fl_X8_27 rfl hT.k (by rw [s910_4]; exact ht) ?_
            refine r_icmp_ge (pc := 98) (tgt := 129) dX8_advance_98 (by decide) (by omega) (by omega) (fun c_98 => ?_) (fun c_98 => ?_)
            · refine r_aload_n (pc := 129) 0 dX8_advance_129 rfl rfl ?_
              refine r_aload_n (pc := 130) 0 dX8_advance_130 rfl rfl ?_
              refine r_callV (pc := 131) (As := []) (S := [(.ref b)]) dX8_advance_131 cv_X8_114 hT.k rfl (Nat.le_of_ble_eq_true rfl) (x_wordNumber (p := p) (e := p + j) l z _ hT (s910_9 _ _ _ _) (s910_10 _ _ _ _) (by omega) (by omega) (fun i => by rw [s910_o _ _ _ _ (by omega)]; exact hby i)) (Nat.zero_le _) (Nat.zero_le _) (fun r_131 g_131 f_131 q_131 => ?_)
              obtain ⟨rfl, rfl, rfl⟩ := q_131
              rw [s910_o _ _ _ _ (show b + 1 ≠ b by omega)]
              refine r_putI (pc := 134) dX8_advance_134 fl_X8_63 rfl rfl hT.k ?_
              refine r_goto (pc := 137) (tgt := 185) dX8_advance_137 (by decide) ?_
              have he : adv (ltB (f (b + 1))) t (t - p) p = p + j := by rw [← hadv]; exact adv_off (by first | (intro h; omega) | (intro h; exact c_113 (by simpa [ltB] using h.2)))
              exact r_vret (pc := 185) dX8_advance_185 rfl ⟨rfl, rfl, by rw [advF, hpe]; rw [tkF_1]; simp only [tkE, tkK, tkN]; rw [if_neg hlt, if_pos hle, if_neg hlt, if_pos hle, if_neg hlt, if_pos hle, he]⟩
            · refine r_aload_n (pc := 101) 0 dX8_advance_101 rfl rfl ?_
              refine r_getR (pc := 102) (b := (b + 1)) dX8_advance_102 fl_X8_9 rfl hT.k hT.r0 ?_
              refine r_aload_n (pc := 105) 0 dX8_advance_105 rfl rfl ?_
              refine r_getIv (pc := 106) (x := ((p + j : Nat) : Int)) dX8_advance_106 fl_X8_40 rfl hT.k (s910_10 _ _ _ _) ?_
              refine r_ialdv (pc := 109) (w := (f (b + 1)) (p + j)) dX8_advance_109 hT.a0 (by omega) (by decide) (by rw [s910_o _ _ _ _ (by omega)]; rfl) ?_
              refine r_callS (pc := 110) (As := [(.int (iI ((f (b + 1)) (p + j))))]) (S := []) dX8_advance_110 cs_X8_111 rfl (Nat.le_of_ble_eq_true rfl) (x_letter l z _ (by have := hby (p + j); omega)) (Nat.zero_le _) (Nat.zero_le _) (fun r_110 g_110 f_110 q_110 => ?_)
              obtain ⟨rfl, rfl, rfl⟩ := q_110
              refine r_if_eq (pc := 113) (tgt := 129) dX8_advance_113 (by decide) (b01_r) (fun c_113 => ?_) (fun c_113 => ?_)
              · replace c_113 := b01_z c_113
                refine r_aload_n (pc := 129) 0 dX8_advance_129 rfl rfl ?_
                refine r_aload_n (pc := 130) 0 dX8_advance_130 rfl rfl ?_
                refine r_callV (pc := 131) (As := []) (S := [(.ref b)]) dX8_advance_131 cv_X8_114 hT.k rfl (Nat.le_of_ble_eq_true rfl) (x_wordNumber (p := p) (e := p + j) l z _ hT (s910_9 _ _ _ _) (s910_10 _ _ _ _) (by omega) (by omega) (fun i => by rw [s910_o _ _ _ _ (by omega)]; exact hby i)) (Nat.zero_le _) (Nat.zero_le _) (fun r_131 g_131 f_131 q_131 => ?_)
                obtain ⟨rfl, rfl, rfl⟩ := q_131
                rw [s910_o _ _ _ _ (show b + 1 ≠ b by omega)]
                refine r_putI (pc := 134) dX8_advance_134 fl_X8_63 rfl rfl hT.k ?_
                refine r_goto (pc := 137) (tgt := 185) dX8_advance_137 (by decide) ?_
                have he : adv (ltB (f (b + 1))) t (t - p) p = p + j := by rw [← hadv]; exact adv_off (by first | (intro h; omega) | (intro h; exact c_113 (by simpa [ltB] using h.2)))
                exact r_vret (pc := 185) dX8_advance_185 rfl ⟨rfl, rfl, by rw [advF, hpe]; rw [tkF_1]; simp only [tkE, tkK, tkN]; rw [if_neg hlt, if_pos hle, if_neg hlt, if_pos hle, if_neg hlt, if_pos hle, he]⟩
              · replace c_113 := b01_nz c_113
                refine r_aload_n (pc := 116) 0 dX8_advance_116 rfl rfl ?_
                refine r_dup (pc := 117) dX8_advance_117 rfl ?_
                refine r_getIv (pc := 118) (x := ((p + j : Nat) : Int)) dX8_advance_118 fl_X8_40 rfl hT.k (s910_10 _ _ _ _) ?_
                refine r_iconst (pc := 121) dX8_advance_121 ?_
                refine r_iadd (pc := 122) dX8_advance_122 ?_
                refine r_eqI (y := ((p + (j + 1) : Nat) : Int)) (by omega) ?_
                refine r_putI (pc := 123) dX8_advance_123 fl_X8_40 rfl rfl hT.k ?_
                refine r_goto (pc := 126) (tgt := 90) dX8_advance_126 (by decide) ?_
                rw [s910_s]
                exact ih (t - (p + (j + 1))) (by omega) (j + 1) rfl (by omega) (by rw [← hadv, show t - (p + j) = (t - (p + (j + 1))) + 1 by omega, adv_on (by omega) (by simp [ltB]; exact c_113)]; rfl)
        exact loop2 (t - p) 0 rfl (by omega) rfl
    · refine r_aload_n (pc := 65) 0 dX8_advance_65 rfl rfl ?_
      refine r_sipush (pc := 66) dX8_advance_66 (by decide) ?_
      refine r_putI (pc := 69) dX8_advance_69 fl_X8_63 rfl rfl hT.k ?_
      refine r_goto (pc := 72) (tgt := 185) dX8_advance_72 (by decide) ?_
      exact r_vret (pc := 185) dX8_advance_185 rfl ⟨rfl, rfl, by rw [advF, hpe]; rw [tkF_1]; simp only [tkE, tkK, tkN]; rw [if_pos (by omega), if_pos (by omega), if_pos (by omega)]⟩
  have loop1 : ∀ m p : Nat, m = t - p → p ≤ t → adv (blB (f (b + 1))) t (t - p) p = adv (blB (f (b + 1))) t (t - q) q → PW l z (d + 6) mX8_advance 0 0 (fun r g' f' => r = none ∧ g = g' ∧ advF f b t q = f') 8 [(0, (.ref b))] [] g (st9 f b p) 0 0 := by
    intro m
    induction m using Nat.strongRecOn with
    | _ m ih =>
      intro p hm hj hadv
      refine r_aload_n (pc := 8) 0 dX8_advance_8 rfl rfl ?_
      refine r_getIv (pc := 9) (x := ((p : Nat) : Int)) dX8_advance_9 fl_X8_108 rfl hT.k (stF_s _ _ _ _) ?_
      refine r_aload_n (pc := 12) 0 dX8_advance_12 rfl rfl ?_
      refine r_getIv (pc := 13) (x := ((t : Nat) : Int)) dX8_advance_13 fl_X8_27 rfl hT.k (by rw [st9, stF_i _ _ _ (by decide)]; exact ht) ?_
      refine r_icmp_ge (pc := 16) (tgt := 46) dX8_advance_16 (by decide) (by omega) (by omega) (fun c_16 => ?_) (fun c_16 => ?_)
      · refine r_aload_n (pc := 46) 0 dX8_advance_46 rfl rfl ?_
        refine r_aload_n (pc := 47) 0 dX8_advance_47 rfl rfl ?_
        refine r_getIv (pc := 48) (x := ((p : Nat) : Int)) dX8_advance_48 fl_X8_108 rfl hT.k (stF_s _ _ _ _) ?_
        refine r_putI (pc := 51) dX8_advance_51 fl_X8_40 rfl rfl hT.k ?_
        have hpe : tkP (f (b + 1)) t q = p := by rw [tkP, ← hadv]; exact adv_off (by first | (intro h; omega) | (intro h; exact c_30 (by simpa [blB] using h.2)))
        exact tail p hj hpe
      · refine r_aload_n (pc := 19) 0 dX8_advance_19 rfl rfl ?_
        refine r_getR (pc := 20) (b := (b + 1)) dX8_advance_20 fl_X8_9 rfl hT.k hT.r0 ?_
        refine r_aload_n (pc := 23) 0 dX8_advance_23 rfl rfl ?_
        refine r_getIv (pc := 24) (x := ((p : Nat) : Int)) dX8_advance_24 fl_X8_108 rfl hT.k (stF_s _ _ _ _) ?_
        refine r_ialdv (pc := 27) (w := (f (b + 1)) p) dX8_advance_27 hT.a0 (by omega) (by decide) (by rw [st9, stF_n _ _ _ (by omega)]; rfl) ?_
        refine r_bipush (pc := 28) dX8_advance_28 (by decide) ?_
        refine r_icmp_ne (pc := 30) (tgt := 46) dX8_advance_30 (by decide) (by have := hby p; omega) (by omega) (fun c_30 => ?_) (fun c_30 => ?_)
        · refine r_aload_n (pc := 46) 0 dX8_advance_46 rfl rfl ?_
          refine r_aload_n (pc := 47) 0 dX8_advance_47 rfl rfl ?_
          refine r_getIv (pc := 48) (x := ((p : Nat) : Int)) dX8_advance_48 fl_X8_108 rfl hT.k (stF_s _ _ _ _) ?_
          refine r_putI (pc := 51) dX8_advance_51 fl_X8_40 rfl rfl hT.k ?_
          have hpe : tkP (f (b + 1)) t q = p := by rw [tkP, ← hadv]; exact adv_off (by first | (intro h; omega) | (intro h; exact c_30 (by simpa [blB] using h.2)))
          exact tail p hj hpe
        · refine r_aload_n (pc := 33) 0 dX8_advance_33 rfl rfl ?_
          refine r_dup (pc := 34) dX8_advance_34 rfl ?_
          refine r_getIv (pc := 35) (x := ((p : Nat) : Int)) dX8_advance_35 fl_X8_108 rfl hT.k (stF_s _ _ _ _) ?_
          refine r_iconst (pc := 38) dX8_advance_38 ?_
          refine r_iadd (pc := 39) dX8_advance_39 ?_
          refine r_eqI (y := ((p + 1 : Nat) : Int)) (by omega) ?_
          refine r_putI (pc := 40) dX8_advance_40 fl_X8_108 rfl rfl hT.k ?_
          refine r_goto (pc := 43) (tgt := 8) dX8_advance_43 (by decide) ?_
          rw [st9_s]
          exact ih (t - (p + 1)) (by omega) (p + 1) rfl (by omega) (by rw [← hadv, show t - p = (t - (p + 1)) + 1 by omega, adv_on (by omega) (by simp [blB]; exact c_30)])
  refine r_aload_n (pc := 0) 0 dX8_advance_0 rfl rfl ?_
  refine r_aload_n (pc := 1) 0 dX8_advance_1 rfl rfl ?_
  refine r_getIv (pc := 2) (x := ((q : Nat) : Int)) dX8_advance_2 fl_X8_40 rfl hT.k (hq) ?_
  refine r_putI (pc := 5) dX8_advance_5 fl_X8_108 rfl rfl hT.k ?_
  exact loop1 (t - q) q rfl (by omega) rfl

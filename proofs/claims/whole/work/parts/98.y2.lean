/-! Bits of longs. -/
theorem lI_t (x : Int64) : lI x.toInt = x := by unfold lI; exact Int64.ofInt_toInt x
def lB (v : Int) (j : Nat) : Bool := (lI v).toBitVec.getLsbD j
theorem lB_or (x y : Int) (j : Nat) : lB ((lI x ||| lI y).toInt) j = (lB x j || lB y j) := by
  unfold lB
  rw [lI_t, Int64.toBitVec_or, BitVec.getLsbD_or]
theorem sh63 : ∀ k, k < 64 → ((iI ((k : Nat) : Int)).toInt64 &&& 63) = Int64.ofNat k := by decide +kernel
theorem sm64 : ∀ k, k < 64 → (Int64.ofNat k).toBitVec.smod 64 = BitVec.ofNat 64 k := by decide +kernel
theorem lB_shl (x : Int) {k : Nat} (j : Nat) (hk : k < 64) : lB ((lI x <<< ((iI ((k : Nat) : Int)).toInt64 &&& 63)).toInt) j = (decide (j < 64) && !decide (j < k) && lB x (j - k)) := by
  unfold lB
  rw [lI_t, sh63 k hk, Int64.toBitVec_shiftLeft, sm64 k hk, BitVec.shiftLeft_eq', BitVec.getLsbD_shiftLeft, BitVec.toNat_ofNat, Nat.mod_eq_of_lt (Nat.lt_of_lt_of_le hk (by decide))]
theorem lB_0 (j : Nat) : lB 0 j = false := by
  unfold lB lI
  simp
theorem lB_1 (j : Nat) : lB 1 j = decide (j = 0) := by
  unfold lB lI
  simp
theorem lB_hi (v : Int) {j : Nat} (h : 64 ≤ j) : lB v j = false := by unfold lB; exact BitVec.getLsbD_of_ge _ _ h
theorem lB_shr {x : Int} {k : Nat} (hk : k < 64) : lI x >>> ((iI ((k : Nat) : Int)).toInt64 &&& 63) &&& 1 = (if lB x k = true then 1 else 0) := by
  apply Int64.toBitVec_inj.mp
  rw [Int64.toBitVec_and, sh63 k hk, Int64.toBitVec_shiftRight, sm64 k hk]
  apply BitVec.eq_of_getLsbD_eq
  intro i hi
  rw [BitVec.getLsbD_and]
  unfold lB
  by_cases h0 : i = 0
  · subst h0
    rw [BitVec.sshiftRight_eq', BitVec.getLsbD_sshiftRight, BitVec.toNat_ofNat, Nat.mod_eq_of_lt (Nat.lt_of_lt_of_le hk (by decide))]
    by_cases hb : (lI x).toBitVec.getLsbD k = true
    · rw [if_pos hb]; simp [hk, hb]
    · have hb' := Bool.eq_false_iff.mpr hb
      rw [if_neg hb]
      simp only [Nat.add_zero, if_pos hk, hb', Bool.and_false, Bool.false_and]
      rfl
  · have h1 : (1 : Int64).toBitVec.getLsbD i = false := by
      show (1#64).getLsbD i = false
      rw [BitVec.getLsbD_one]; simp [h0]
    rw [h1]
    split
    · rw [show (1 : Int64).toBitVec.getLsbD i = false from h1]; simp
    · simp
theorem lB_cmp {x : Int} {k : Nat} (hk : k < 64) : lg_cmp (lI x >>> ((iI ((k : Nat) : Int)).toInt64 &&& 63) &&& 1) (lI 0) = iI (b01 (lB x k = true)) := by
  rw [lB_shr hk]
  by_cases h : lB x k = true
  · rw [if_pos h, b01_t h]; rfl
  · rw [if_neg h, b01_f h]; rfl
theorem lB_z {x : Int} (h : ∀ j, j < 64 → lB x j = false) : lI x = 0 := by
  apply Int64.toBitVec_inj.mp
  apply BitVec.eq_of_getLsbD_eq
  intro i hi
  have := h i hi
  unfold lB at this
  rw [this]
  simp
/-- the memory with its longs anew -/
def gwJ (g : Gm) (J : Nat → Nat → Int) : Gm := (g.1, g.2.1, g.2.2.1, J, g.2.2.2.2)
def jS (J : Nat → Nat → Int) (a i : Nat) (v : Int) : Nat → Nat → Int := fun b k => if b = a ∧ k = i then v else J b k
theorem jS_s (J : Nat → Nat → Int) (a i : Nat) (v : Int) : jS J a i v a i = v := by unfold jS; rw [if_pos ⟨rfl, rfl⟩]
theorem jS_n (J : Nat → Nat → Int) {a b : Nat} (i k : Nat) (v : Int) (h : b ≠ a) : jS J a i v b k = J b k := by unfold jS; rw [if_neg (fun q => h q.1)]
theorem jS_i (J : Nat → Nat → Int) (a : Nat) {i k : Nat} (v : Int) (h : k ≠ i) : jS J a i v a k = J a k := by unfold jS; rw [if_neg (fun q => h q.2)]
theorem stJ_L (g : Gm) (J : Nat → Nat → Int) (a i : Nat) (v : Int) : stJ (gwJ g J) a i v = gwJ g (jS J a i v) := rfl
/-- a family of sets in a row of longs, four a day: whether it holds s -/
def fmB (J : Nat → Nat → Int) (a d s : Nat) : Bool := lB (J a (4 * d + s / 64)) (s % 64)
theorem YL.L {g : Gm} {J : Nat → Nat → Int} {p : Nat} (h : YL g p) : YL (gwJ g J) p := h
theorem XL.L {g : Gm} {J : Nat → Nat → Int} (h : XL g) : XL (gwJ g J) := h
theorem DL.L {g : Gm} {J : Nat → Nat → Int} {p : Nat} (h : DL g p) : DL (gwJ g J) p := h

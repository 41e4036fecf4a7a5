def iI (z : Int) : Int32 := Int32.ofInt z
def lI (z : Int) : Int64 := Int64.ofInt z
abbrev Gm : Type := Nat × (Nat → Nat) × (Nat → Nat) × (Nat → Nat → Int) × (Nat → Nat → Option Nat)
abbrev Fm : Type := Nat → Nat → Int
def gnx (g : Gm) : Nat := g.1
def gkd (g : Gm) : Nat → Nat := g.2.1
def gln (g : Gm) : Nat → Nat := g.2.2.1
def glm (g : Gm) : Nat → Nat → Int := g.2.2.2.1
def grm (g : Gm) : Nat → Nat → Option Nat := g.2.2.2.2
abbrev Zv : Type := va_G × (Nat → ClassId) × Nat × (Nat → Nat)
def zad (z : Zv) (a : Nat) : Nat := if a < 64 then z.2.2.2 a else z.2.2.1 + (a - 64)
def zsh (z : Zv) : Value → Value
  | .ref a => .ref (zad z a)
  | v => v
def zor (z : Zv) : Option Nat → Value
  | some a => .ref (zad z a)
  | none => .null
def isR (c k : Nat) : Bool := match tyT c k with
  | .object _ => true
  | .array _ => true
  | _ => false
def zfv (z : Zv) (g : Gm) (f : Fm) (a c k : Nat) : Value := if isR c k = true then zor z (grm g a k) else .int (iI (f a k))
def zcon (z : Zv) (g : Gm) (f : Fm) (a : Nat) : (Nat → Int32) ⊕ (Nat → Int64) ⊕ (Nat → UInt32) ⊕ (Nat → UInt64) ⊕ (Nat → Option Nat) :=
  if gkd g a = 12 then .inr (.inl (fun i => lI (glm g a i))) else if gkd g a < 15 then .inl (fun i => iI (f a i)) else .inr (.inr (.inr (.inr (fun i => (grm g a i).map (zad z)))))
def zpic (z : Zv) (g : Gm) (f : Fm) (a : Nat) : va_E :=
  if gkd g a < 11 then .inr (gkd g a, (List.range (nF (gkd g a))).map (zfv z g f a (gkd g a))) else .inl (z.2.1 (gkd g a), gln g a, zcon z g f a)
def zws (z : Zv) (g : Gm) (f : Fm) : va_W := (List.range (gnx g - 64)).map (fun j => (z.2.2.1 + j, zpic z g f (64 + j)))
def zA (z : Zv) : Nat → Prop := fun q => z.2.2.1 ≤ q
def zH (z : Zv) (g : Gm) (f : Fm) (H : Heap) : Prop := H.size = z.2.2.1 + (gnx g - 64) ∧ 64 ≤ gnx g ∧ va_P z.1 vwCl (zws z g f) H
def ztys (z : Zv) : List (ClassId × FieldType) := [(z.2.1 11, .int), (z.2.1 12, .long), (z.2.1 13, .boolean), (z.2.1 14, .byte), (z.2.1 15, .object "ThirteenthLoaf$Law"), (z.2.1 16, .object "ThirteenthLoaf$Bakery")]
def zR (d mc ms : Nat) : Room := { frames := d + 1, cells := mc, slots := ms, locals := 64 * (d + 1) }
theorem zws_at {z : Zv} {g : Gm} {f : Fm} {a : Nat} (ha : 64 ≤ a) (hb : a < gnx g) : (zws z g f)[a - 64]? = some (zad z a, zpic z g f a) := by
  have h1 : a - 64 < gnx g - 64 := by omega
  have h2 : 64 + (a - 64) = a := by omega
  simp [zws, List.getElem?_range h1, h2, zad, Nat.not_lt.mpr ha]
theorem zws_get {z : Zv} {g : Gm} {f : Fm} {k : Nat} {q : Nat × va_E} (h : (zws z g f)[k]? = some q) : k < gnx g - 64 ∧ q = (z.2.2.1 + k, zpic z g f (64 + k)) := by
  have hk : k < gnx g - 64 := by
    have h1 := (List.getElem?_eq_some_iff.mp h).1
    simpa [zws] using h1
  refine ⟨hk, ?_⟩
  simp [zws, List.getElem?_range hk] at h
  exact h.symm
theorem zws_D {z : Zv} {g : Gm} {f : Fm} : va_D (zA z) (zws z g f) := by
  refine ⟨fun i j p q hi hj e => ?_, fun k q hk => ?_⟩
  · obtain ⟨-, rfl⟩ := zws_get hi
    obtain ⟨-, rfl⟩ := zws_get hj
    simp only at e
    omega
  · obtain ⟨-, rfl⟩ := zws_get hk
    exact Nat.le_add_right _ _
theorem zws_set {z : Zv} {g g' : Gm} {f f' : Fm} {a : Nat} {e : va_E} (ha : 64 ≤ a) (hb : a < gnx g) (hn : gnx g' = gnx g) (he : zpic z g' f' a = e) (ho : ∀ b, b ≠ a → zpic z g' f' b = zpic z g f b) : (zws z g f).set (a - 64) (zad z a, e) = zws z g' f' := by
  apply List.ext_getElem?
  intro i
  by_cases hi : i < gnx g - 64
  · rw [List.getElem?_set]
    by_cases h : a - 64 = i
    · subst h
      have h2 : 64 + (a - 64) = a := by omega
      have h3 : a - 64 < (zws z g f).length := by simp [zws]; omega
      simp only [if_true, h3]
      rw [zws_at ha (by rw [hn]; exact hb), he]
    · rw [if_neg h]
      have h4 := zws_at (z := z) (g := g) (f := f) (a := 64 + i) (by omega) (by omega)
      have h5 := zws_at (z := z) (g := g') (f := f') (a := 64 + i) (by omega) (by omega)
      rw [show 64 + i - 64 = i by omega] at h4 h5
      rw [h4, h5, ho (64 + i) (by omega)]
  · rw [List.getElem?_eq_none (by simp [zws]; omega), List.getElem?_eq_none (by simp [zws]; omega)]
theorem zws_app {z : Zv} {g g' : Gm} {f f' : Fm} {e : va_E} (h64 : 64 ≤ gnx g) (hn : gnx g' = gnx g + 1) (he : zpic z g' f' (gnx g) = e) (ho : ∀ b, b < gnx g → zpic z g' f' b = zpic z g f b) : zws z g f ++ [(zad z (gnx g), e)] = zws z g' f' := by
  have h1 : gnx g' - 64 = (gnx g - 64) + 1 := by omega
  have h2 : 64 + (gnx g - 64) = gnx g := by omega
  unfold zws
  rw [h1, List.range_succ, List.map_append, List.map_singleton, h2, he]
  have h3 : zad z (gnx g) = z.2.2.1 + (gnx g - 64) := by simp [zad, Nat.not_lt.mpr h64]
  rw [h3]
  congr 1
  apply List.map_congr_left
  intro j hj
  have := List.mem_range.mp hj
  rw [ho (64 + j) (by omega)]
theorem zH.in_ {z : Zv} {g : Gm} {f : Fm} {H : Heap} (h : zH z g f H) : va_P z.1 vwCl (zws z g f) H := h.2.2
theorem zad_A {z : Zv} {a : Nat} (ha : 64 ≤ a) : zA z (zad z a) := by simp [zad, zA, Nat.not_lt.mpr ha]
theorem zcat (z : Zv) (v : Value) : (zsh z v).category = v.category := by cases v <;> rfl
theorem iI_add (x y : Int) : iI x + iI y = iI (x + y) := by simp [iI, Int32.ofInt_add]
theorem iI_sub (x y : Int) : iI x - iI y = iI (x - y) := by simp [iI, Int32.ofInt_sub]
theorem iI_mul (x y : Int) : iI x * iI y = iI (x * y) := by simp [iI, Int32.ofInt_mul]
theorem iI_neg (x : Int) : -iI x = iI (-x) := by simp [iI, Int32.ofInt_neg]
theorem iI_toInt {x : Int} (h : -2147483648 ≤ x ∧ x ≤ 2147483647) : (iI x).toInt = x := by
  unfold iI
  rw [Int32.toInt_ofInt]
  have h2 : (Int32.size : Int) = 4294967296 := rfl
  exact Int.bmod_eq_of_le (by omega) (by omega)
theorem iI_of (x : Int32) : iI x.toInt = x := by simp [iI]
theorem iI_lt {x y : Int} (hx : -2147483648 ≤ x ∧ x ≤ 2147483647) (hy : -2147483648 ≤ y ∧ y ≤ 2147483647) : iI x < iI y ↔ x < y := by
  rw [Int32.lt_iff_toInt_lt, iI_toInt hx, iI_toInt hy]
theorem iI_le {x y : Int} (hx : -2147483648 ≤ x ∧ x ≤ 2147483647) (hy : -2147483648 ≤ y ∧ y ≤ 2147483647) : iI x ≤ iI y ↔ x ≤ y := by
  rw [Int32.le_iff_toInt_le, iI_toInt hx, iI_toInt hy]
theorem iI_eq {x y : Int} (hx : -2147483648 ≤ x ∧ x ≤ 2147483647) (hy : -2147483648 ≤ y ∧ y ≤ 2147483647) : iI x = iI y ↔ x = y := by
  constructor
  · intro h
    have h2 := congrArg Int32.toInt h
    rwa [iI_toInt hx, iI_toInt hy] at h2
  · intro h; rw [h]
theorem iI_nat (n : Nat) : iI (n : Int) = nI n := by simp [iI, nI, Int32.ofInt_eq_ofNat]
theorem iI_in {x : Int} {n : Nat} (h : 0 ≤ x ∧ x < n) (hn : n ≤ 2147483647) : vp_in (iI x) n := by
  rw [vp_in_iff, iI_toInt (by omega)]
  exact h
theorem iI_cl {x : Int} (h : 0 ≤ x ∧ x ≤ 2147483647) : (iI x).toNatClampNeg = x.toNat := by
  have h1 : (iI x).toNatClampNeg = (iI x).toInt.toNat := rfl
  rw [h1, iI_toInt (by omega)]

/-! What the document's laws mean: a SUM and a TEST as trees (Term is used as a type of trees alone: .arg n a number, .index k a word; .add .sub .mul .div of SUMs; of TESTs .add or, .mul and, .sum not, .sub <, .div >, .rem =). -/
abbrev Cl : Type := Bool × Term × Option Term
def bnd (v : Int) : Option Int := if -1000000000 ≤ v ∧ v ≤ 1000000000 then some v else none
def evS (e : Nat → Int) : Term → Option Int
  | .arg n => some (n : Int)
  | .index k => some (e k)
  | .add a b => match evS e a, evS e b with
    | some x, some y => bnd (x + y)
    | _, _ => none
  | .sub a b => match evS e a, evS e b with
    | some x, some y => bnd (x - y)
    | _, _ => none
  | .mul a b => match evS e a, evS e b with
    | some x, some y => bnd (x * y)
    | _, _ => none
  | .div a b => match evS e a, evS e b with
    | some x, some y => if y = 0 then none else bnd (x.tdiv y)
    | _, _ => none
  | _ => none
def evT (e : Nat → Int) : Term → Option Bool
  | .add a b => match evT e a with
    | some true => some true
    | some false => evT e b
    | none => none
  | .mul a b => match evT e a with
    | some true => evT e b
    | some false => some false
    | none => none
  | .sum a => match evT e a with
    | some x => some (!x)
    | none => none
  | .sub a b => match evS e a, evS e b with
    | some x, some y => some (decide (x < y))
    | _, _ => none
  | .div a b => match evS e a, evS e b with
    | some x, some y => some (decide (y < x))
    | _, _ => none
  | .rem a b => match evS e a, evS e b with
    | some x, some y => some (decide (x = y))
    | _, _ => none
  | _ => none
/-- what a clause tells, if it holds -/
def clV (e : Nat → Int) (c : Cl) : Option Int := if (match c.2.2 with
  | none => true
  | some t => evT e t == some true) = true then (if c.1 = true then evS e c.2.1 else some 0) else none
def cl40 (v : Int) : Int := if v < 0 then 0 else if 40 < v then 40 else v
def wantsL (e : Nat → Int) (base : Int) (cls : List Cl) : Int := cls.foldl (fun acc c => if c.1 = true then (match clV e c with
  | some v => cl40 v
  | none => acc) else acc) base
def waitsL (e : Nat → Int) (cls : List Cl) : Bool := cls.any (fun c => !c.1 && (clV e c).isSome)
/-! The grammar, over tokens as the model has them (c: kinds, v: values). none: the fuel didn't do; an error: the token that can't go on. Modes: 0 test, 1 its rest, 2 both, 3 its rest, 4 5 plain (an even, an odd number of nots so far), 6 without not, 7 sum, 8 its rest, 9 term, 10 its rest, 11 part. -/
abbrev PRes : Type := Option (Except Nat (Term × Nat × Nat))
def thenP (r : PRes) (h : Term → Nat → Nat → PRes) : PRes := match r with
  | none => none
  | some (.error e) => some (.error e)
  | some (.ok q) => h q.1 q.2.1 q.2.2
def okP (t : Term) (j lv : Nat) : PRes := some (.ok (t, j, lv))
def erP (j : Nat) : PRes := some (.error j)
def pr (c v : Nat → Int) : Nat → Nat → Nat → Nat → Nat → Term → PRes
  | 0, _, _, _, _, _ => none
  | k + 1, 0, dp, j, lv, acc => thenP (pr c v k 2 dp j lv acc) (fun t j1 l1 => pr c v k 1 dp j1 l1 t)
  | k + 1, 1, dp, j, lv, acc => if c j = 4 then thenP (pr c v k 2 dp (j + 1) lv acc) (fun t j1 l1 => pr c v k 1 dp j1 l1 (.add acc t)) else okP acc j lv
  | k + 1, 2, dp, j, lv, acc => thenP (pr c v k 4 dp j lv acc) (fun t j1 l1 => pr c v k 3 dp j1 l1 t)
  | k + 1, 3, dp, j, lv, acc => if c j = 5 then thenP (pr c v k 4 dp (j + 1) lv acc) (fun t j1 l1 => pr c v k 3 dp j1 l1 (.mul acc t)) else okP acc j lv
  | k + 1, 4, dp, j, lv, acc => if c j = 6 then pr c v k 5 dp (j + 1) lv acc else pr c v k 6 dp j lv acc
  | k + 1, 5, dp, j, lv, acc => if c j = 6 then pr c v k 4 dp (j + 1) lv acc else thenP (pr c v k 6 dp j lv acc) (fun t j1 l1 => okP (.sum t) j1 l1)
  | k + 1, 6, dp, j, lv, acc => if c j = 140 then (if dp = 8 then erP j else thenP (pr c v k 0 (dp + 1) (j + 1) lv acc) (fun t j1 l1 => if c j1 = 141 then okP t (j1 + 1) l1 else erP j1))
      else thenP (pr c v k 7 dp j lv acc) (fun a j1 l1 => if c j1 = 160 then thenP (pr c v k 7 dp (j1 + 1) l1 acc) (fun b j2 l2 => okP (.sub a b) j2 l2)
        else if c j1 = 162 then thenP (pr c v k 7 dp (j1 + 1) l1 acc) (fun b j2 l2 => okP (.div a b) j2 l2)
        else if c j1 = 161 then thenP (pr c v k 7 dp (j1 + 1) l1 acc) (fun b j2 l2 => okP (.rem a b) j2 l2) else erP j1)
  | k + 1, 7, dp, j, lv, acc => thenP (pr c v k 9 dp j lv acc) (fun t j1 l1 => pr c v k 8 dp j1 l1 t)
  | k + 1, 8, dp, j, lv, acc => if c j = 143 then thenP (pr c v k 9 dp (j + 1) lv acc) (fun t j1 l1 => pr c v k 8 dp j1 l1 (.add acc t))
      else if c j = 145 then thenP (pr c v k 9 dp (j + 1) lv acc) (fun t j1 l1 => pr c v k 8 dp j1 l1 (.sub acc t)) else okP acc j lv
  | k + 1, 9, dp, j, lv, acc => thenP (pr c v k 11 dp j lv acc) (fun t j1 l1 => pr c v k 10 dp j1 l1 t)
  | k + 1, 10, dp, j, lv, acc => if c j = 142 then thenP (pr c v k 11 dp (j + 1) lv acc) (fun t j1 l1 => pr c v k 10 dp j1 l1 (.mul acc t))
      else if c j = 147 then thenP (pr c v k 11 dp (j + 1) lv acc) (fun t j1 l1 => pr c v k 10 dp j1 l1 (.div acc t)) else okP acc j lv
  | k + 1, _ + 11, dp, j, lv, acc => if c j = 191 then (if dp = 8 then erP j else thenP (pr c v k 7 (dp + 1) (j + 1) lv acc) (fun t j1 l1 => if c j1 = 193 then okP t (j1 + 1) l1 else erP j1))
      else if c j = 50 ∧ v j ≤ 1000 then (if lv = 50 then erP j else okP (.arg (v j).toNat) (j + 1) (lv + 1))
      else if 7 ≤ c j ∧ c j ≤ 14 then (if lv = 50 then erP j else okP (.index (c j - 7).toNat) (j + 1) (lv + 1)) else erP j
/-- a clause -/
def prC (c v : Nat → Int) (k j lv : Nat) : Option (Except Nat (Cl × Nat × Nat)) :=
  let r : PRes := if c j = 1 then pr c v k 7 0 (j + 1) lv .null else if c j = 2 then okP .null (j + 1) lv else erP j
  match r with
  | none => none
  | some (.error e) => some (.error e)
  | some (.ok (t, j1, l1)) => if c j1 = 3 then (match pr c v k 0 0 (j1 + 1) l1 .null with
      | none => none
      | some (.error e) => some (.error e)
      | some (.ok (t2, j2, l2)) => some (.ok ((decide (c j = 1), t, some t2), j2, l2))) else some (.ok ((decide (c j = 1), t, none), j1, l1))
/-- clauses from the token j on, m more at most; T tokens in all -/
def prL (c v : Nat → Int) (T k : Nat) : Nat → Nat → Nat → List Cl → Option (Except Nat (List Cl))
  | 0, j, _, _ => some (.error j)
  | m + 1, j, lv, acc => match prC c v k j lv with
    | none => none
    | some (.error e) => some (.error e)
    | some (.ok (cl, j1, l1)) => if j1 = T then some (.ok (acc ++ [cl])) else if c j1 = 159 then prL c v T k m (j1 + 1) l1 (acc ++ [cl]) else some (.error j1)

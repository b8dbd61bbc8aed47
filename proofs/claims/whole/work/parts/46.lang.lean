/-! the two languages: one parse of a row of tokens, its meaning, its code -/
abbrev Mn : Type := (Int → Int) → Option Int
def bnd (v : Int) : Option Int := if v < -1000000000 ∨ 1000000000 < v then none else some v
/-- what an operation of the machine tells -/
def opV (o a b : Int) : Option Int :=
  if o = 6 then bnd (a + b) else if o = 7 then bnd (a - b) else if o = 8 then bnd (a * b)
  else if o = 9 then (if b = 0 then none else bnd (a.tdiv b)) else if o = 10 then (if b = 0 then none else bnd (a.tmod b))
  else if o = 11 then some (if a < b then 1 else 0) else if o = 12 then some (if b < a then 1 else 0) else if o = 13 then some (if a = b then 1 else 0) else none
def ob (m : Option Int) (k : Int → Option Int) : Option Int := match m with
  | none => none
  | some x => k x
theorem ob_n {k : Int → Option Int} : ob none k = none := rfl
theorem ob_s {k : Int → Option Int} {x : Int} : ob (some x) k = k x := rfl
def mOp (o : Int) (m1 m2 : Mn) : Mn := fun W => ob (m1 W) (fun a => if o = 5 then (if a = 0 then m2 W else some a) else if o = 4 then (if a = 0 then some a else m2 W) else ob (m2 W) (fun b => opV o a b))
def mNot (m : Mn) : Mn := fun W => ob (m W) (fun a => some (1 - a))
abbrev PrR : Type := Nat × Option (Nat × Mn × List Int)
/-- place, parts so far, place in the code: where it stops; parts, meaning, code -/
abbrev Pr : Type := Nat → Nat → Nat → PrR
/-- what stands behind a first one: signs or words between others -/
def pLoop (c : Nat → Int) (op : Int → Int) (j : Bool) (pp : Pr) : Nat → Mn → Pr
  | 0, m, t, l, _ => (t, some (l, m, []))
  | f + 1, m, t, l, w =>
    if op (c t) = 0 then (t, some (l, m, []))
    else match pp (t + 1) l (if j = true then w + 1 else w) with
      | (t1, none) => (t1, none)
      | (t1, some (l1, m1, c1)) =>
        match pLoop c op j pp f (mOp (op (c t)) m m1) t1 l1 (w + c1.length + 1) with
        | (t2, none) => (t2, none)
        | (t2, some (l2, m2, c2)) => (t2, some (l2, m2, (if j = true then (op (c t) * 4096 + ((w + c1.length + 1 : Nat) : Int)) :: c1 else c1 ++ [op (c t) * 4096]) ++ c2))
def pRow (c : Nat → Int) (op : Int → Int) (j : Bool) (pp : Pr) : Pr := fun t l w =>
  match pp t l w with
  | (t1, none) => (t1, none)
  | (t1, some (l1, m1, c1)) =>
    match pLoop c op j pp 400 m1 t1 l1 (w + c1.length) with
    | (t2, none) => (t2, none)
    | (t2, some (l2, m2, c2)) => (t2, some (l2, m2, c1 ++ c2))
def oTerm (x : Int) : Int := if x = 142 then 8 else if x = 147 then 9 else if x = 137 then 10 else 0
def oSum (x : Int) : Int := if x = 143 then 6 else if x = 145 then 7 else 0
def oBoth (x : Int) : Int := if x = 7 then 4 else 0
def oTest (x : Int) : Int := if x = 6 then 5 else 0
def oCmp (x : Int) : Int := if x = 160 then 11 else if x = 162 then 12 else if x = 161 then 13 else 0
/-- the place of a word of orders -/
def ordI (x : Int) : Int := if x = 17 then 0 else x - 18
def pPart (o : Bool) (c v : Nat → Int) (S : Option Pr) : Pr := fun t l w =>
  if c t = 191 then
    match S with
    | none => (t, none)
    | some s => match s (t + 1) l w with
      | (t1, none) => (t1, none)
      | (t1, some r) => if c t1 = 193 then (t1 + 1, some r) else (t1, none)
  else if 50 ≤ l then (t, none)
  else if c t = 50 then (if v t ≤ 1000 then (t + 1, some (l + 1, fun _ => some (v t), [4096 + v t])) else (t, none))
  else if o = true then
    (if c t = 17 ∨ (19 ≤ c t ∧ c t ≤ 21) then (t + 1, some (l + 1, fun W => some (W (ordI (c t))), [8192 + ordI (c t)]))
     else if c t = 22 ∨ c t = 23 then
       (if c (t + 1) = 50 ∧ v (t + 1) ≤ 6 then
          (if c t = 22 then (t + 2, some (l + 1, fun W => some (W (4 + v (t + 1))), [8192 + (4 + v (t + 1))]))
           else if c (t + 2) = 50 ∧ v (t + 2) ≤ 6 then (t + 3, some (l + 1, fun W => some (W (11 + 7 * v (t + 1) + v (t + 2))), [8192 + (11 + 7 * v (t + 1) + v (t + 2))]))
           else (t + 2, none))
        else (t + 1, none))
     else (t, none))
  else if 9 ≤ c t ∧ c t ≤ 18 then (t + 1, some (l + 1, fun W => some (W (c t - 9)), [8192 + (c t - 9)])) else (t, none)
def nNot (c : Nat → Int) : Nat → Nat → Nat
  | 0, _ => 0
  | f + 1, t => if c t = 8 then nNot c f (t + 1) + 1 else 0
def pNeg (n : Nat) (r : PrR) : PrR := if n % 2 = 1 then (match r with
  | (t, none) => (t, none)
  | (t, some (l, m, c)) => (t, some (l, mNot m, c ++ [12288]))) else r
def pPos (c : Nat → Int) (S : Pr) (T : Option Pr) : Pr := fun t l w =>
  if c t = 140 then
    match T with
    | none => (t, none)
    | some q => match q (t + 1) l w with
      | (t1, none) => (t1, none)
      | (t1, some r) => if c t1 = 141 then (t1 + 1, some r) else (t1, none)
  else match S t l w with
    | (t1, none) => (t1, none)
    | (t1, some (l1, m1, c1)) =>
      if oCmp (c t1) = 0 then (t1, none)
      else match S (t1 + 1) l1 (w + c1.length) with
        | (t2, none) => (t2, none)
        | (t2, some (l2, m2, c2)) => (t2, some (l2, mOp (oCmp (c t1)) m1 m2, c1 ++ c2 ++ [oCmp (c t1) * 4096]))
def pPlain (c : Nat → Int) (S : Pr) (T : Option Pr) : Pr := fun t l w => pNeg (nNot c 400 t) (pPos c S T (t + nNot c 400 t) l w)
def mkS (o : Bool) (c v : Nat → Int) (S : Option Pr) : Pr := pRow c oSum false (pRow c oTerm false (pPart o c v S))
def mkT (c : Nat → Int) (S : Pr) (T : Option Pr) : Pr := pRow c oTest true (pRow c oBoth true (pPlain c S T))
/-- sums, tests in which so many brackets may still be -/
def lvS (o : Bool) (c v : Nat → Int) : Nat → Pr
  | 0 => mkS o c v none
  | k + 1 => mkS o c v (some (lvS o c v k))
def lvT (o : Bool) (c v : Nat → Int) : Nat → Pr
  | 0 => mkT c (lvS o c v 0) none
  | k + 1 => mkT c (lvS o c v (k + 1)) (some (lvT o c v k))
/-! the machine, by itself -/
def mSt (p W : Int → Int) (a : Nat) (st : List Int) (k : Nat → List Int → Option Int) : Option Int :=
  if p a / 4096 = 1 ∨ p a / 4096 = 2 then
    (if 64 ≤ st.length ∨ (p a / 4096 = 2 ∧ 60 ≤ p a % 4096) then none
     else k (a + 1) ((if p a / 4096 = 1 then p a % 4096 else W (p a % 4096)) :: st))
  else match st with
    | [] => none
    | x :: r =>
      if p a / 4096 = 3 then k (a + 1) ((1 - x) :: r)
      else if p a / 4096 = 4 ∨ p a / 4096 = 5 then
        (if (x ≠ 0 ↔ p a / 4096 = 5) then k (max (a + 1) (p a % 4096).toNat) (x :: r)
         else k (a + 1) r)
      else match r with
        | [] => none
        | y :: r2 => ob (opV (p a / 4096) y x) (fun z => k (a + 1) (z :: r2))
def mR (p W : Int → Int) (to : Nat) : Nat → Nat → List Int → Option Int
  | 0, _, st => st.head?
  | f + 1, a, st => if to ≤ a then st.head? else mSt p W a st (mR p W to f)
theorem mSt_c {p W : Int → Int} {a : Nat} {st : List Int} {k k' : Nat → List Int → Option Int} (h : ∀ b s, a + 1 ≤ b → k b s = k' b s) : mSt p W a st k = mSt p W a st k' := by
  unfold mSt
  simp only [h (a + 1) _ (Nat.le_refl _), h (max (a + 1) (p a % 4096).toNat) _ (by omega)]
theorem mR_fuel {p W : Int → Int} {to : Nat} : ∀ (f g a : Nat) (st : List Int), to ≤ a + f → to ≤ a + g → mR p W to f a st = mR p W to g a st
  | 0, 0, a, st, _, _ => rfl
  | 0, g + 1, a, st, h, _ => by
    show st.head? = if to ≤ a then st.head? else _
    rw [if_pos (by omega)]
  | f + 1, 0, a, st, _, h => by
    show (if to ≤ a then st.head? else _) = st.head?
    rw [if_pos (by omega)]
  | f + 1, g + 1, a, st, h1, h2 => by
    show (if to ≤ a then st.head? else mSt p W a st (mR p W to f)) = if to ≤ a then st.head? else mSt p W a st (mR p W to g)
    by_cases h : to ≤ a
    · rw [if_pos h, if_pos h]
    · rw [if_neg h, if_neg h]
      exact mSt_c (fun b s hb => mR_fuel f g b s (by omega) (by omega))
def mRf (p W : Int → Int) (to a : Nat) (st : List Int) : Option Int := mR p W to (to - a) a st
theorem mRf_s {p W : Int → Int} {to a : Nat} {st : List Int} (h : a < to) : mRf p W to a st = mSt p W a st (mRf p W to) := by
  unfold mRf
  rw [show to - a = (to - a - 1) + 1 by omega]
  show (if to ≤ a then st.head? else mSt p W a st (mR p W to (to - a - 1))) = _
  rw [if_neg (by omega)]
  exact mSt_c (fun b s hb => mR_fuel _ _ b s (by omega) (by omega))
theorem mRf_e {p W : Int → Int} {to a : Nat} {st : List Int} (h : to ≤ a) : mRf p W to a st = st.head? := by
  unfold mRf
  rw [show to - a = 0 by omega]
  rfl


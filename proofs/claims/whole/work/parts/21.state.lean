/-! the mathematical state -/
/-- n places as a list -/
def tL {α : Type} (n : Nat) (f : Int → α) : List α := (List.range n).map (fun (i : Nat) => f i)
theorem tL_len {α : Type} {n : Nat} {f : Int → α} : (tL n f).length = n := by simp [tL]
theorem tL_get {α : Type} {n i : Nat} {f : Int → α} (h : i < n) : (tL n f)[i]? = some (f i) := by simp [tL, h]
theorem tL_succ {α : Type} {n : Nat} {f : Int → α} : tL (n + 1) f = tL n f ++ [f n] := by simp [tL, List.range_succ]
theorem tL_congr {α : Type} {n : Nat} {f g : Int → α} (h : ∀ i : Int, 0 ≤ i → i < n → f i = g i) : tL n f = tL n g := List.map_congr_left (fun i hi => h i (by omega) (by have := List.mem_range.mp hi; omega))
theorem tL_set {α : Type} {n i : Nat} {f : Int → α} {v : α} (h : i < n) : (tL n f).set i v = tL n (fun j => if j = i then v else f j) := by
  apply List.ext_getElem?
  intro j
  rw [List.getElem?_set, tL_len]
  by_cases e : i = j
  · subst e
    rw [if_pos rfl, if_pos h, tL_get h, if_pos rfl]
  · rw [if_neg e]
    by_cases hj : j < n
    · rw [tL_get hj, tL_get hj, if_neg (by omega)]
    · rw [List.getElem?_eq_none (by rw [tL_len]; omega), List.getElem?_eq_none (by rw [tL_len]; omega)]
/-- a place of a list by an int -/
def gL {α : Type} (d : α) (l : List α) (i : Int) : α := l.getD i.toNat d
theorem gL_tL {α : Type} {d : α} {n : Nat} {f : Int → α} {i : Int} (h0 : 0 ≤ i) (h : i < n) : gL d (tL n f) i = f i := by
  unfold gL
  rw [List.getD_eq_getElem?_getD, tL_get (by omega)]
  simp only [Option.getD_some]
  congr 1
  omega
abbrev D4 : Type := Int × Int × Int × Int
/-- purses, debts, the day -/
abbrev Lg : Type := List Int × List D4 × Int
abbrev zMean : Type := (Int → Int) → Option Int
abbrev zTest : Type := (Int → Int) → Option Bool
/-- a law: its clauses: kind, sum, test -/
abbrev zLaw : Type := List (Int × zMean × zTest)
/-- ledger, rooms, wary, people, mood, visits, scuffs, laws, the law in force -/
abbrev Tn : Type := Lg × List Int × List Int × Int × Int × List D4 × List D4 × List zLaw × Int
def owL (f t : Int) : List D4 → Int
  | [] => 0
  | (a, b, m, _) :: l => (if a = f ∧ b = t then m else 0) + owL f t l
def blL (p : Int) : List D4 → Int
  | [] => 0
  | (a, b, m, _) :: l => (if b = p then m else if a = p then -m else 0) + blL p l


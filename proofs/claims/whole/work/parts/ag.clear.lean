/-! a ring is cleared -/
def edA (l : List Nat) (i : Nat) : Int × Int := ((l.getD i 0 : Nat), (l.getD ((i + 1) % l.length) 0 : Nat))
/-- the least of the first owings of a ring -/
noncomputable def rlA (A : Lg) (l : List Nat) (M : Int) : Nat → Int
  | 0 => M
  | j + 1 => min (rlA A l M j) (owL (edA l j).1 (edA l j).2 A.2.1)
noncomputable def clA (l : List Nat) (by' : Int) (A : Lg) : Nat → Lg
  | 0 => A
  | j + 1 => ((clA l by' A j).1, dpL (lsL (edA l j).1 (edA l j).2 by' (clA l by' A j).2.1), (clA l by' A j).2.2)
theorem clA_ok {l : List Nat} {m : Int} {A : Lg} (hA : okA A) (hm : 0 ≤ m) : ∀ j : Nat, okA (clA l m A j) ∧ (clA l m A j).1 = A.1 ∧ (clA l m A j).2.2 = A.2.2
  | 0 => ⟨hA, rfl, rfl⟩
  | j + 1 => by
    obtain ⟨i1, i2, i3⟩ := clA_ok (l := l) (m := m) hA hm j
    exact ⟨⟨i1.1, okL_low i1.2.1 hm, i1.2.2⟩, i2, i3⟩
theorem rlA_in {A : Lg} {l : List Nat} {M : Int} (hA : okA A) (hM : 159984 ≤ M) : ∀ j : Nat, 0 ≤ rlA A l M j ∧ rlA A l M j ≤ M ∧ (1 ≤ j → rlA A l M j ≤ 159984 ∧ ∀ M', 159984 ≤ M' → rlA A l M' j = rlA A l M j)
  | 0 => ⟨by show 0 ≤ M; omega, Int.le_refl _, fun q => by omega⟩
  | j + 1 => by
    obtain ⟨i1, i2, i3⟩ := rlA_in (l := l) hA hM j
    have ho := owA (a := (edA l j).1) (b := (edA l j).2) hA
    have e : ∀ N, rlA A l N (j + 1) = min (rlA A l N j) (owL (edA l j).1 (edA l j).2 A.2.1) := fun _ => rfl
    rw [e]
    refine ⟨by omega, by omega, fun _ => ⟨by omega, fun M' hM' => ?_⟩⟩
    rw [e]
    by_cases c : 1 ≤ j
    · rw [(i3 c).2 M' hM']
    · have : j = 0 := by omega
      subst this
      show min M' _ = min M _
      omega


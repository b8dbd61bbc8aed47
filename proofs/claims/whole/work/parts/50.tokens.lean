/-! tokens: their bytes, codes, numbers, places -/
def WL : List (List Int) := [[100, 101, 112, 116, 104], [103, 114, 111, 119, 115], [115, 101, 108, 108, 115], [98, 97, 114, 115], [105, 102], [111, 114], [97, 110, 100], [110, 111, 116], [111, 119, 110, 101, 114], [118, 105, 115, 105, 116, 111, 114], [111, 119, 101, 115], [98, 97, 99, 107], [114, 111, 111, 109, 115], [119, 97, 114, 121], [97, 109, 111, 117, 110, 116], [97, 103, 101], [100, 97, 121], [109, 111, 111, 100], [100, 101, 98, 116, 115], [100, 111, 110, 101], [108, 97, 115, 116], [112, 117, 114, 115, 101], [111, 119, 101, 100], [108, 101, 110, 100], [114, 101, 112, 97, 121], [119, 97, 105, 116], [116, 111], [111, 102], [116, 105, 109, 101, 115]]
def wcode (bs : List Int) : Int := if bs ∈ WL then ((WL.idxOf bs : Nat) : Int) + 1 else 0
def WF : List Int := WL.flatMap (fun w => w ++ [32])
def wTab (i : Int) : Int := WF.getD i.toNat 0
def wOff (j : Nat) : Nat := ((WL.take j).map (fun w => w.length + 1)).sum
theorem WL_at : (List.range 29).all (fun j => (wcode (WL.getD j []) == (j : Int) + 1) && (wOff (j + 1) == wOff j + (WL.getD j []).length + 1) && (wTab ((wOff j + (WL.getD j []).length : Nat) : Int) == 32) && decide ((WL.getD j []).length < 8) && decide (wOff j + (WL.getD j []).length < 147) && (List.range 8).all (fun i => !decide (i < (WL.getD j []).length) || ((wTab ((wOff j + i : Nat) : Int) == (WL.getD j []).getD i 0) && !(wTab ((wOff j + i : Nat) : Int) == 32)))) = true := by decide +kernel
theorem wOff_e : wOff 29 = 147 := by decide +kernel
theorem wOff_0 : wOff 0 = 0 := by decide +kernel
theorem WL_j {j : Nat} (h : j < 29) : wcode (WL.getD j []) = (j : Int) + 1 ∧ wOff (j + 1) = wOff j + (WL.getD j []).length + 1 ∧ wTab ((wOff j + (WL.getD j []).length : Nat) : Int) = 32 ∧ (WL.getD j []).length < 8 ∧ wOff j + (WL.getD j []).length < 147 ∧ ∀ i : Nat, i < (WL.getD j []).length → wTab ((wOff j + i : Nat) : Int) = (WL.getD j []).getD i 0 ∧ wTab ((wOff j + i : Nat) : Int) ≠ 32 := by
  have h1 := List.all_eq_true.mp WL_at j (List.mem_range.mpr h)
  rw [Bool.and_eq_true, Bool.and_eq_true, Bool.and_eq_true, Bool.and_eq_true, Bool.and_eq_true, beq_iff_eq, beq_iff_eq, beq_iff_eq, decide_eq_true_eq, decide_eq_true_eq] at h1
  obtain ⟨⟨⟨⟨⟨a1, a2⟩, a3⟩, a4⟩, a5⟩, a6⟩ := h1
  refine ⟨a1, a2, a3, a4, a5, fun i hi => ?_⟩
  have h2 := List.all_eq_true.mp a6 i (List.mem_range.mpr (by omega))
  rw [Bool.or_eq_true, Bool.and_eq_true, Bool.not_eq_true', Bool.not_eq_true', beq_iff_eq, decide_eq_false_iff_not, beq_eq_false_iff_ne] at h2
  rcases h2 with h2 | h2
  · exact absurd hi h2
  · exact h2
theorem WL_len : WL.length = 29 := by decide +kernel
theorem wcode_0 {bs : List Int} (h : ∀ j : Nat, j < 29 → bs ≠ WL.getD j []) : wcode bs = 0 := by
  unfold wcode
  rw [if_neg]
  intro hm
  obtain ⟨i, hi⟩ := List.getElem?_of_mem hm
  have hl := (List.getElem?_eq_some_iff.mp hi).1
  rw [WL_len] at hl
  refine h i hl ?_
  rw [List.getD_eq_getElem?_getD, hi]
  rfl
theorem wcode_j {bs : List Int} (h : wcode bs ≠ 0) : ∃ j : Nat, j < 29 ∧ bs = WL.getD j [] := by
  apply Classical.byContradiction
  intro q
  exact h (wcode_0 (fun j hj e => q ⟨j, hj, e⟩))
theorem wcode_in (bs : List Int) : 0 ≤ wcode bs ∧ wcode bs ≤ 29 := by
  by_cases h : wcode bs = 0
  · omega
  · obtain ⟨j, hj, rfl⟩ := wcode_j h
    rw [(WL_j hj).1]
    omega
theorem wcode_8 {bs : List Int} (h : wcode bs = 8) : bs.length = 3 := by
  obtain ⟨j, hj, rfl⟩ := wcode_j (by rw [h]; decide)
  rw [(WL_j hj).1] at h
  rw [show j = 7 by omega]
  rfl
/-- on over places of a kind -/
def onW (p : Int → Bool) (B : Int → Int) (n : Nat) : Nat → Nat → Nat
  | 0, k => k
  | f + 1, k => if k < n ∧ p (B k) = true then onW p B n f (k + 1) else k
def onE (p : Int → Bool) (B : Int → Int) (n k : Nat) : Nat := onW p B n (n - k) k
theorem onE_t {p : Int → Bool} {B : Int → Int} {n k : Nat} (h : k < n) (hp : p (B k) = true) : onE p B n k = onE p B n (k + 1) := by
  unfold onE
  rw [show n - k = n - (k + 1) + 1 by omega, onW, if_pos ⟨h, hp⟩]
theorem onE_f {p : Int → Bool} {B : Int → Int} {n k : Nat} (h : ¬ (k < n ∧ p (B k) = true)) : onE p B n k = k := by
  unfold onE
  cases n - k with
  | zero => rfl
  | succ f => rw [onW, if_neg h]
theorem onW_le {p : Int → Bool} {B : Int → Int} {n : Nat} : ∀ (f k : Nat), k ≤ onW p B n f k ∧ (k ≤ n → onW p B n f k ≤ n) ∧ ∀ i : Nat, k ≤ i → i < onW p B n f k → p (B i) = true
  | 0, k => ⟨Nat.le_refl _, fun h => h, fun i h1 h2 => by rw [onW] at h2; omega⟩
  | f + 1, k => by
    rw [onW]
    split
    · next h =>
      obtain ⟨h1, h2, h3⟩ := onW_le (p := p) (B := B) (n := n) f (k + 1)
      refine ⟨by omega, fun _ => h2 (by omega), fun i g1 g2 => ?_⟩
      by_cases e : i = k
      · rw [e]; exact h.2
      · exact h3 i (by omega) g2
    · exact ⟨Nat.le_refl _, fun h => h, fun i h1 h2 => by omega⟩
theorem onE_le {p : Int → Bool} {B : Int → Int} {n k : Nat} : k ≤ onE p B n k ∧ (k ≤ n → onE p B n k ≤ n) ∧ ∀ i : Nat, k ≤ i → i < onE p B n k → p (B i) = true := onW_le _ _
def isB (b : Int) : Bool := decide (b = 32)
def isL (b : Int) : Bool := decide (97 ≤ b ∧ b ≤ 122)
def isD (b : Int) : Bool := decide (48 ≤ b ∧ b ≤ 57)
def bsL (B : Int → Int) (k e : Nat) : List Int := tL (e - k) (fun i => B (k + i))
/-- a token's end, code, number -/
def tE (B : Int → Int) (n k : Nat) : Nat := if isL (B k) = true then onE isL B n (k + 1) else if isD (B k) = true then onE isD B n (k + 1) else k + 1
def tC (B : Int → Int) (n k : Nat) : Int := if isL (B k) = true then wcode (bsL B k (tE B n k)) else if isD (B k) = true then 50 else 100 + B k
def dV (B : Int → Int) (k : Nat) : Nat → Int
  | 0 => 0
  | j + 1 => if 1000000 < dV B k j then dV B k j else 10 * dV B k j + B (k + j) - 48
def tV (B : Int → Int) (n k : Nat) : Int := if isD (B k) = true then dV B k (tE B n k - k) else 0
/-- where tokens begin -/
def ps (B : Int → Int) (n : Nat) : Nat → Nat
  | 0 => onE isB B n 0
  | t + 1 => if ps B n t < n then onE isB B n (tE B n (ps B n t)) else ps B n t
def cT (B : Int → Int) (n t : Nat) : Int := if ps B n t < n then tC B n (ps B n t) else 0
def vT (B : Int → Int) (n t : Nat) : Int := if ps B n t < n then tV B n (ps B n t) else 0
theorem tE_in {B : Int → Int} {n k : Nat} (h : k < n) : k < tE B n k ∧ tE B n k ≤ n := by
  unfold tE
  have h1 := onE_le (p := isL) (B := B) (n := n) (k := k + 1)
  have h2 := onE_le (p := isD) (B := B) (n := n) (k := k + 1)
  split
  · exact ⟨by omega, h1.2.1 (by omega)⟩
  · split
    · exact ⟨by omega, h2.2.1 (by omega)⟩
    · omega
theorem ps_le {B : Int → Int} {n : Nat} : ∀ t, ps B n t ≤ n
  | 0 => onE_le.2.1 (Nat.zero_le _)
  | t + 1 => by
    rw [ps]
    split
    · next h => exact onE_le.2.1 (tE_in h).2
    · exact ps_le t
theorem ps_lt {B : Int → Int} {n t : Nat} (h : ps B n t < n) : tE B n (ps B n t) ≤ ps B n (t + 1) := by
  rw [ps, if_pos h]
  exact onE_le.1
theorem ps_t {B : Int → Int} {n : Nat} : ∀ t, t ≤ ps B n t ∨ ps B n t = n
  | 0 => Or.inl (Nat.zero_le _)
  | t + 1 => by
    by_cases h : ps B n t < n
    · have h1 := ps_lt h
      have h2 := tE_in (B := B) h
      have h3 := ps_t (B := B) (n := n) t
      left
      omega
    · have h1 := ps_le (B := B) (n := n) t
      right
      rw [ps, if_neg h]
      omega
theorem cT_N {B : Int → Int} {n : Nat} (u : Nat) (h : n ≤ u) : cT B n u = 0 := by
  have h1 := ps_t (B := B) (n := n) u
  have h2 := ps_le (B := B) (n := n) u
  unfold cT
  rw [if_neg (by omega)]
theorem dV_in {B : Int → Int} {k : Nat} : ∀ j : Nat, (∀ i : Nat, i < j → 48 ≤ B (k + i) ∧ B (k + i) ≤ 57) → 0 ≤ dV B k j ∧ dV B k j ≤ 10000019
  | 0, _ => by simp [dV]
  | j + 1, h => by
    have h1 := dV_in (B := B) (k := k) j (fun i hi => h i (by omega))
    have h2 := h j (by omega)
    rw [dV]
    split <;> omega
theorem isD_L {b : Int} (h : isD b = true) : isL b = false := by
  unfold isL
  unfold isD at h
  rw [decide_eq_true_eq] at h
  rw [decide_eq_false_iff_not]
  omega
theorem tE_D {B : Int → Int} {n k : Nat} (h : isD (B k) = true) : tE B n k = onE isD B n (k + 1) := by
  unfold tE
  rw [if_neg (by rw [isD_L h]; decide), if_pos h]
theorem tE_dig {B : Int → Int} {n k : Nat} (h : isD (B k) = true) (i : Nat) (hi : i < tE B n k - k) : 48 ≤ B (k + i) ∧ B (k + i) ≤ 57 := by
  rw [tE_D h] at hi
  have h8 : isD (B ((k + i : Nat) : Int)) = true := by
    cases i with
    | zero => simpa using h
    | succ i =>
      have := onE_le (p := isD) (B := B) (n := n) (k := k + 1)
      exact this.2.2 (k + (i + 1)) (by omega) (by omega)
  unfold isD at h8
  rw [decide_eq_true_eq] at h8
  rwa [show ((k + i : Nat) : Int) = (k : Int) + i by omega] at h8
theorem tV_in {B : Int → Int} {n k : Nat} : 0 ≤ tV B n k ∧ tV B n k ≤ 10000019 := by
  unfold tV
  split
  · next h => exact dV_in _ (tE_dig h)
  · omega
theorem vT_in {B : Int → Int} {n t : Nat} : 0 ≤ vT B n t := by
  unfold vT
  split
  · exact tV_in.1
  · omega
theorem NT_ps {B : Int → Int} {n : Nat} (hB : ∀ i : Nat, i < n → 0 ≤ B i) : ∀ t, 3 * NT (cT B n) t ≤ ps B n t
  | 0 => by simp [NT]
  | t + 1 => by
    have h1 := NT_ps (n := n) hB t
    by_cases h : ps B n t < n
    · have h2 := ps_lt h
      have h3 := tE_in (B := B) h
      rw [NT]
      split
      · next e =>
        unfold cT tC at e
        rw [if_pos h] at e
        have h5 : tE B n (ps B n t) - ps B n t = 3 := by
          split at e
          · have := wcode_8 e
            unfold bsL at this
            rwa [tL_len] at this
          · have := hB (ps B n t) h
            split at e <;> omega
        omega
      · omega
    · have h2 := ps_le (B := B) (n := n) t
      have e : cT B n t = 0 := by unfold cT; rw [if_neg h]
      rw [NT, ps, if_neg h, e]
      simpa using h1


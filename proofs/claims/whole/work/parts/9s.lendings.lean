/-! lendings: what both sides come to -/
theorem bit8_all : (List.range 256).all (fun c => (List.range 8).all (fun i => c.testBit i || ((c ||| 2 ^ i == c + 2 ^ i) && (pcN 8 (c + 2 ^ i) == pcN 8 c + 1) && Nat.ble (c + 2 ^ i) 255))) = true := by decide +kernel
theorem bit8 {c i : Nat} (hc : c < 256) (hi : i < 8) (h : c.testBit i = false) : c ||| 2 ^ i = c + 2 ^ i ∧ pcN 8 (c + 2 ^ i) = pcN 8 c + 1 ∧ c + 2 ^ i < 256 := by
  have := List.all_eq_true.mp (List.all_eq_true.mp bit8_all c (List.mem_range.mpr hc)) i (List.mem_range.mpr hi)
  rw [h, Bool.false_or, Bool.and_eq_true, Bool.and_eq_true, beq_iff_eq, beq_iff_eq, Nat.ble_eq] at this
  exact ⟨this.1.1, this.1.2, by omega⟩
theorem zor_set {c i : Nat} (hc : c < 256) (hi : i < 8) (h : ¬ zbit (c : Int) (i : Int)) : zor (c : Int) (zshl 1 (i : Int)) = ((c + 2 ^ i : Nat) : Int) ∧ pcN 8 (c + 2 ^ i) = pcN 8 c + 1 ∧ c + 2 ^ i < 256 := by
  have hb : c.testBit i = false := by
    cases q : c.testBit i with
    | false => rfl
    | true => exact absurd (zbit_n.mpr q) h
  obtain ⟨b1, b2, b3⟩ := bit8 hc hi hb
  have : 2 ^ i < 256 := by omega
  rw [zshl_n (by omega), zor_n (by omega) (by omega), b1]
  exact ⟨rfl, b2, b3⟩
theorem sub_all {n c i : Nat} (hn : n ≤ 8) (hc : c < 2 ^ n) (hi : i < n) (h : c.testBit i = false) : c + 2 ^ i < 2 ^ n := by
  have h8 : 2 ^ n ≤ 2 ^ 8 := Nat.pow_le_pow_right (by decide) hn
  have b1 := (bit8 (c := c) (i := i) (by omega) (by omega) h).1
  rw [← b1]
  exact Nat.or_lt_two_pow hc (Nat.pow_lt_pow_right (by decide) hi)
theorem pc_all {n : Nat} (hn : n ≤ 8) : pcN 8 (2 ^ n - 1) = n ∧ ∀ c, c < 2 ^ n → pcN 8 c = n → c = 2 ^ n - 1 := by
  have : (List.range 9).all (fun n => (pcN 8 (2 ^ n - 1) == n) && (List.range (2 ^ n)).all (fun c => (pcN 8 c != n) || c == 2 ^ n - 1)) = true := by decide +kernel
  have := List.all_eq_true.mp this n (List.mem_range.mpr (by omega))
  rw [Bool.and_eq_true, beq_iff_eq] at this
  refine ⟨this.1, fun c hc hp => ?_⟩
  have := List.all_eq_true.mp this.2 c (List.mem_range.mpr hc)
  rw [hp] at this
  simpa using this
theorem pc_le {n c : Nat} (hn : n ≤ 8) (hc : c < 2 ^ n) : pcN 8 c ≤ n := by
  have : (List.range 9).all (fun n => (List.range (2 ^ n)).all (fun c => Nat.ble (pcN 8 c) n)) = true := by decide +kernel
  have := List.all_eq_true.mp (List.all_eq_true.mp this n (List.mem_range.mpr (by omega))) c (List.mem_range.mpr hc)
  exact Nat.le_of_ble_eq_true this
/-- a lending: giver, taker, amount, its visit -/
def alk (V : List D4) (k i : Int) : Prop := (dfV V k).1 = (dfV V i).1 ∧ (dfV V k).2.1 = (dfV V i).2.1
noncomputable def mxR (V : List D4) (i : Int) : Nat → Int
  | 0 => 0
  | o + 1 => zit (alk V o i) (max (mxR V i o) (dfV V o).2.2.1) (mxR V i o)
theorem mxR_in {V : List D4} {i : Int} (h : ∀ x, x ∈ V → ok4 999 x) : ∀ o : Nat, o ≤ V.length → 0 ≤ mxR V i o ∧ mxR V i o ≤ 3
  | 0, _ => by
    unfold mxR
    omega
  | o + 1, ho => by
    have h1 := mxR_in (i := i) h o (by omega)
    have h2 := (h _ (List.mem_of_getElem? (dfV_m (V := V) (k := o) (by omega) (by omega)))).2.2.2.1
    unfold mxR zit
    split <;> omega
noncomputable def lgS (nd : Int → Int → Int → Int) (V : List D4) : Nat → Option (List D4)
  | 0 => some []
  | i + 1 => match lgS nd V i with
    | none => none
    | some L => @ite (Option (List D4)) (∃ k : Nat, k < i ∧ alk V k i) (Classical.propDecidable _) (some L) (if nd (dfV V i).1 (dfV V i).2.1 (mxR V i V.length) = -1 then none else if nd (dfV V i).1 (dfV V i).2.1 (mxR V i V.length) = 0 then some L else some (L ++ [((dfV V i).1, (dfV V i).2.1, nd (dfV V i).1 (dfV V i).2.1 (mxR V i V.length), (i : Int))]))
def okL4 (x : D4) : Prop := (0 ≤ x.1 ∧ x.1 ≤ 6) ∧ (0 ≤ x.2.1 ∧ x.2.1 ≤ 6) ∧ x.1 ≠ x.2.1 ∧ (1 ≤ x.2.2.1 ∧ x.2.2.1 ≤ 1000)
theorem lgS_in {nd : Int → Int → Int → Int} {V : List D4} (hV : ∀ x, x ∈ V → ok4 999 x) (hn : ∀ a b c, -1 ≤ nd a b c ∧ nd a b c ≤ 1000) : ∀ (i : Nat), i ≤ V.length → ∀ L, lgS nd V i = some L → L.length ≤ i ∧ ∀ x, x ∈ L → okL4 x
  | 0, _, L, e => by
    unfold lgS at e
    cases e
    exact ⟨Nat.le_refl _, fun x hx => by cases hx⟩
  | i + 1, hi, L, e => by
    have o := hV _ (List.mem_of_getElem? (dfV_m (V := V) (k := i) (by omega) (by omega)))
    rw [lgS] at e
    rcases e1 : lgS nd V i with _ | L1
    · rw [e1] at e
      cases e
    · rw [e1] at e
      simp only at e
      have h1 := lgS_in hV hn i (by omega) L1 e1
      have h2 := hn (dfV V i).1 (dfV V i).2.1 (mxR V i V.length)
      split at e
      · cases e
        exact ⟨by omega, h1.2⟩
      · split at e
        · cases e
        · split at e
          · cases e
            exact ⟨by omega, h1.2⟩
          · next c1 c2 =>
            cases e
            refine ⟨by rw [List.length_append, List.length_singleton]; omega, fun x hx => ?_⟩
            rw [List.mem_append, List.mem_singleton] at hx
            rcases hx with hx | rfl
            · exact h1.2 x hx
            · exact ⟨o.1, o.2.1, o.2.2.1, by show 1 ≤ nd _ _ _ ∧ nd _ _ _ ≤ 1000; omega⟩
/-- a purse when some lendings have been -/
noncomputable def pbS (L : List D4) (pu : Int → Int) (b p : Int) : Nat → Int
  | 0 => pu p
  | i + 1 => pbS L pu b p i + zit (zbit b i) (zit ((dfV L i).1 = p) (-(dfV L i).2.2.1) (zit ((dfV L i).2.1 = p) (dfV L i).2.2.1 0)) 0
theorem pbS_in {L : List D4} {pu : Int → Int} {b p : Int} (hp : 0 ≤ pu p ∧ pu p ≤ 9999) (hL : ∀ x, x ∈ L → okL4 x) : ∀ i : Nat, i ≤ L.length → -(1000 * (i : Int)) ≤ pbS L pu b p i ∧ pbS L pu b p i ≤ 9999 + 1000 * i
  | 0, _ => by
    unfold pbS
    omega
  | i + 1, hi => by
    have h1 := pbS_in (b := b) hp hL i (by omega)
    have h2 := (hL _ (List.mem_of_getElem? (dfV_m (V := L) (k := i) (by omega) (by omega)))).2.2.2
    unfold pbS zit
    repeat' split
    all_goals omega
def lcS (L : List D4) (pu : Int → Int) (b i : Int) : Prop := ¬ zbit b i ∧ (dfV L i).2.2.1 ≤ pbS L pu b (dfV L i).1 L.length ∧ pbS L pu b (dfV L i).2.1 L.length + (dfV L i).2.2.1 ≤ 9999
/-- how many rows lead on from a set -/
noncomputable def rwS (L : List D4) (pu : Int → Int) (f : Nat → Int) (b : Nat) : Nat → Int
  | 0 => 0
  | i + 1 => rwS L pu f b i + zit (lcS L pu b i) (f (b + 2 ^ i)) 0
noncomputable def lnR (L : List D4) (pu : Int → Int) : Nat → Nat → Int
  | 0, _ => 1
  | m + 1, b => rwS L pu (lnR L pu m) b L.length
theorem rwS_in {L : List D4} {pu : Int → Int} {f : Nat → Int} {b : Nat} {M : Int} (hM : 0 ≤ M) (hf : ∀ x, 0 ≤ f x ∧ f x ≤ M) : ∀ i : Nat, 0 ≤ rwS L pu f b i ∧ rwS L pu f b i ≤ M * i
  | 0 => by
    unfold rwS
    omega
  | i + 1 => by
    have h1 := rwS_in (L := L) (pu := pu) (b := b) hM hf i
    have h2 := hf (b + 2 ^ i)
    rw [show M * ((i + 1 : Nat) : Int) = M * i + M by rw [Int.natCast_succ, Int.mul_add, Int.mul_one]]
    unfold rwS zit
    split <;> omega
theorem lnR_in {L : List D4} {pu : Int → Int} (hL : L.length ≤ 8) : ∀ (m b : Nat), 0 ≤ lnR L pu m b ∧ lnR L pu m b ≤ ((8 ^ m : Nat) : Int)
  | 0, b => by
    unfold lnR
    omega
  | m + 1, b => by
    have h1 := rwS_in (L := L) (pu := pu) (f := lnR L pu m) (b := b) (M := ((8 ^ m : Nat) : Int)) (Int.natCast_nonneg _) (fun x => lnR_in hL m x) L.length
    have h2 : ((8 ^ m : Nat) : Int) * (L.length : Int) ≤ ((8 ^ (m + 1) : Nat) : Int) := by
      have : 8 ^ m * L.length ≤ 8 ^ (m + 1) := by
        rw [Nat.pow_succ]
        exact Nat.mul_le_mul_left _ hL
      exact_mod_cast this
    unfold lnR
    omega
theorem rwS_pos {L : List D4} {pu : Int → Int} {f : Nat → Int} {b : Nat} (hf : ∀ x, 0 ≤ f x) : ∀ i : Nat, 0 < rwS L pu f b i → ∃ k, k < i ∧ lcS L pu b k ∧ 0 < f (b + 2 ^ k)
  | 0, h => by
    unfold rwS at h
    omega
  | i + 1, h => by
    by_cases c : 0 < rwS L pu f b i
    · obtain ⟨k, h1, h2⟩ := rwS_pos hf i c
      exact ⟨k, by omega, h2⟩
    · unfold rwS at h
      by_cases c2 : lcS L pu b i
      · rw [zit_t c2] at h
        exact ⟨i, by omega, c2, by omega⟩
      · rw [zit_f c2] at h
        omega
def toS : List D4 → Int
  | [] => 0
  | x :: l => x.2.2.1 + toS l
theorem toS_app {x : D4} : ∀ l : List D4, toS (l ++ [x]) = toS l + x.2.2.1
  | [] => by
    show x.2.2.1 + 0 = 0 + x.2.2.1
    omega
  | y :: l => by
    show y.2.2.1 + toS (l ++ [x]) = y.2.2.1 + toS l + x.2.2.1
    rw [toS_app l]
    omega
theorem toS_in : ∀ {l : List D4}, (∀ x, x ∈ l → okL4 x) → 0 ≤ toS l ∧ toS l ≤ 1000 * l.length
  | [], _ => ⟨Int.le_refl _, Int.le_refl _⟩
  | x :: l, h => by
    have h1 := toS_in (l := l) (fun y hy => h y (List.mem_cons_of_mem _ hy))
    have h2 := (h x List.mem_cons_self).2.2.2
    show 0 ≤ x.2.2.1 + toS l ∧ x.2.2.1 + toS l ≤ 1000 * ((l.length + 1 : Nat) : Int)
    omega
theorem dfV_app {L : List D4} {x : D4} {i : Int} (h0 : 0 ≤ i) : dfV (L ++ [x]) i = if i < (L.length : Int) then dfV L i else if i = (L.length : Int) then x else (0, 0, 0, 0) := by
  unfold dfV gL
  rw [List.getD_eq_getElem?_getD, List.getD_eq_getElem?_getD]
  by_cases c : i < (L.length : Int)
  · rw [if_pos c, List.getElem?_append_left (by omega)]
  · rw [if_neg c, List.getElem?_append_right (by omega)]
    by_cases c2 : i = (L.length : Int)
    · rw [if_pos c2, show i.toNat - L.length = 0 by omega]
      rfl
    · rw [if_neg c2, List.getElem?_eq_none (by rw [List.length_singleton]; omega)]
      rfl


/-! rings: what both sides look for -/
def lx : List Nat → List Nat → Prop
  | [], _ => True
  | _ :: _, [] => False
  | a :: x, b :: y => a < b ∨ (a = b ∧ lx x y)
theorem lx_rf : ∀ x : List Nat, lx x x
  | [] => trivial
  | _ :: x => Or.inr ⟨rfl, lx_rf x⟩
theorem lx_an : ∀ {x y : List Nat}, x.length = y.length → lx x y → lx y x → x = y
  | [], [], _, _, _ => rfl
  | [], _ :: _, h, _, _ => by cases h
  | _ :: _, [], h, _, _ => by cases h
  | a :: x, b :: y, h, h1, h2 => by
    rcases h1 with h1 | ⟨rfl, h1⟩
    · rcases h2 with h2 | ⟨rfl, h2⟩ <;> omega
    · rcases h2 with h2 | ⟨_, h2⟩
      · omega
      · rw [lx_an (by simpa using h) h1 h2]
theorem lx_app {r : List Nat} : ∀ {x y : List Nat}, lx x y → lx (r ++ x) (r ++ y) := by
  induction r with
  | nil => intro x y h; exact h
  | cons a r ih => intro x y h; exact Or.inr ⟨rfl, ih h⟩
def rgB : List Nat → Nat
  | [] => 0
  | p :: l => 2 ^ p + rgB l
theorem tb_or {c p i : Nat} (hc : c < 256) (hp : p < 8) (h : c.testBit p = false) : (c + 2 ^ p).testBit i = (c.testBit i || decide (p = i)) := by
  rw [← (bit8 hc hp h).1, Nat.testBit_or, Nat.testBit_two_pow]
/-- ways on, back to the first -/
def ER (E : Nat → Nat → Prop) (n p0 : Nat) : Nat → Nat → List Nat → Prop
  | last, _, [] => E last p0
  | last, used, p :: l => (p0 < p ∧ p < n ∧ used.testBit p = false ∧ E last p) ∧ ER E n p0 p (used + 2 ^ p) l
/-- ways on through just these, back to the first -/
def XR (E : Nat → Nat → Prop) (p0 : Nat) : Nat → Nat → List Nat → Prop
  | last, left, [] => left = 0 ∧ E last p0
  | last, left, p :: l => (left.testBit p = true ∧ E last p) ∧ XR E p0 p (left - 2 ^ p) l
theorem ER_X {E : Nat → Nat → Prop} {n p0 : Nat} (hn : n ≤ 7) : ∀ {l : List Nat} {last used : Nat}, used < 128 → ER E n p0 last used l → XR E p0 last (rgB l) l ∧ (∀ i, (rgB l).testBit i = true → p0 < i ∧ i < n ∧ used.testBit i = false) ∧ rgB l < 128 ∧ used + rgB l < 128 ∧ pcN 8 (used + rgB l) = pcN 8 used + l.length
  | [], last, used, hu, h => by
    refine ⟨⟨rfl, h⟩, fun i hi => ?_, by decide, ?_, rfl⟩
    · change (0 : Nat).testBit i = true at hi
      rw [Nat.zero_testBit] at hi
      cases hi
    · show used + 0 < 128
      omega
  | p :: l, last, used, hu, ⟨⟨h1, h2, h3, h4⟩, h5⟩ => by
    have b8 := bit8 (c := used) (i := p) (by omega) (by omega) h3
    have hu2 : used + 2 ^ p < 2 ^ 7 := by
      have h1 : used < 2 ^ 7 := by omega
      rw [← b8.1]
      exact Nat.or_lt_two_pow h1 (Nat.pow_lt_pow_right (by decide) (by omega))
    have h27 : (2 : Nat) ^ 7 = 128 := by decide
    obtain ⟨i1, i2, i3, i4, i5⟩ := ER_X hn (l := l) (last := p) (used := used + 2 ^ p) (by omega) h5
    have hnp : (rgB l).testBit p = false := by
      cases q : (rgB l).testBit p with
      | false => rfl
      | true =>
        have := (i2 p q).2.2
        rw [tb_or (by omega) (by omega) h3] at this
        simp at this
    have e : rgB (p :: l) = rgB l + 2 ^ p := by rw [rgB]; omega
    have b9 := bit8 (c := rgB l) (i := p) (by omega) (by omega) hnp
    have hl2 : rgB l + 2 ^ p < 2 ^ 7 := by
      rw [← b9.1]
      exact Nat.or_lt_two_pow (show rgB l < 2 ^ 7 by omega) (Nat.pow_lt_pow_right (by decide) (by omega))
    refine ⟨⟨⟨?_, h4⟩, ?_⟩, fun i hi => ?_, by omega, by omega, ?_⟩
    · rw [e, tb_or (by omega) (by omega) hnp]
      simp
    · rw [e, Nat.add_sub_cancel]
      exact i1
    · rw [e, tb_or (by omega) (by omega) hnp, Bool.or_eq_true, decide_eq_true_iff] at hi
      rcases hi with hi | rfl
      · obtain ⟨j1, j2, j3⟩ := i2 i hi
        rw [tb_or (by omega) (by omega) h3, Bool.or_eq_false_iff] at j3
        exact ⟨j1, j2, j3.1⟩
      · exact ⟨h1, h2, h3⟩
    · rw [e, show used + (rgB l + 2 ^ p) = used + 2 ^ p + rgB l by omega, i5, b8.2.1, List.length_cons]
      omega
theorem sub_tb {c p : Nat} (hc : c < 256) (hp : p < 8) (h : c.testBit p = true) : 2 ^ p ≤ c ∧ ∀ i, (c - 2 ^ p).testBit i = (c.testBit i && !decide (i = p)) := by
  have h1 := Nat.ge_two_pow_of_testBit h
  have : (List.range 256).all (fun c => (List.range 8).all (fun p => !(c.testBit p) || ((c - 2 ^ p).testBit p == false))) = true := by decide +kernel
  have := List.all_eq_true.mp (List.all_eq_true.mp this c (List.mem_range.mpr hc)) p (List.mem_range.mpr hp)
  rw [h, Bool.not_true, Bool.false_or, beq_iff_eq] at this
  refine ⟨h1, fun i => ?_⟩
  have e := tb_or (c := c - 2 ^ p) (p := p) (i := i) (Nat.lt_of_le_of_lt (Nat.sub_le _ _) hc) hp this
  rw [show c - 2 ^ p + 2 ^ p = c by omega] at e
  rw [e]
  by_cases q : p = i
  · subst q
    rw [this]
    simp
  · rw [decide_eq_false q, decide_eq_false (fun z => q z.symm)]
    simp
theorem XR_E {E : Nat → Nat → Prop} {n p0 : Nat} (hn : n ≤ 7) : ∀ {l : List Nat} {last left used : Nat}, left < 128 → used < 128 → (∀ i, left.testBit i = true → p0 < i ∧ i < n ∧ used.testBit i = false) → XR E p0 last left l → ER E n p0 last used l ∧ rgB l = left
  | [], last, left, used, _, _, _, h => ⟨h.2, h.1.symm⟩
  | p :: l, last, left, used, hl, hu, hb, ⟨⟨h1, h2⟩, h3⟩ => by
    obtain ⟨q1, q2, q3⟩ := hb p h1
    obtain ⟨s1, s2⟩ := sub_tb (c := left) (p := p) (by omega) (by omega) h1
    have b8 := bit8 (c := used) (i := p) (by omega) (by omega) q3
    have h27 : (2 : Nat) ^ 7 = 128 := by decide
    have hu2 : used + 2 ^ p < 2 ^ 7 := by
      rw [← b8.1]
      exact Nat.or_lt_two_pow (show used < 2 ^ 7 by omega) (Nat.pow_lt_pow_right (by decide) (by omega))
    have ih := XR_E hn (l := l) (last := p) (left := left - 2 ^ p) (used := used + 2 ^ p) (Nat.lt_of_le_of_lt (Nat.sub_le _ _) hl) (by omega) (fun i hi => by
      rw [s2 i, Bool.and_eq_true, Bool.not_eq_true', decide_eq_false_iff_not] at hi
      obtain ⟨r1, r2, r3⟩ := hb i hi.1
      refine ⟨r1, r2, ?_⟩
      rw [tb_or (by omega) (by omega) q3, r3, decide_eq_false (fun z => hi.2 z.symm)]
      rfl) h3
    exact ⟨⟨⟨q1, q2, q3, h2⟩, ih.1⟩, by rw [rgB, ih.2]; omega⟩
/-- a ring -/
def CP (E : Nat → Nat → Prop) (n : Nat) (l : List Nat) : Prop := ∃ p0 r, l = p0 :: r ∧ r ≠ [] ∧ p0 < n ∧ ER E n p0 p0 (2 ^ p0) r
def kyL (l : List Nat) : Nat := 128 * l.length + rgB l
/-- the least ring -/
def LR (E : Nat → Nat → Prop) (n : Nat) (B : Option (List Nat)) : Prop := match B with
  | none => ∀ l, ¬ CP E n l
  | some l => CP E n l ∧ ∀ l', CP E n l' → kyL l ≤ kyL l' ∧ (kyL l = kyL l' → lx l l')
theorem CP_b {E : Nat → Nat → Prop} {n : Nat} (hn : n ≤ 7) {l : List Nat} (h : CP E n l) : rgB l < 128 ∧ pcN 8 (rgB l) = l.length ∧ 2 ≤ l.length := by
  obtain ⟨p0, r, rfl, h1, h2, h3⟩ := h
  have hp : 2 ^ p0 < 128 := by
    have : 2 ^ p0 ≤ 2 ^ 6 := Nat.pow_le_pow_right (by decide) (by omega)
    have h26 : (2 : Nat) ^ 6 = 64 := by decide
    omega
  obtain ⟨-, -, -, i4, i5⟩ := ER_X hn hp h3
  have hpc : pcN 8 (2 ^ p0) = 1 := by
    have := (bit8 (c := 0) (i := p0) (by decide) (by omega) (Nat.zero_testBit _)).2.1
    rw [Nat.zero_add] at this
    exact this
  refine ⟨i4, ?_, ?_⟩
  · show pcN 8 (2 ^ p0 + rgB r) = _
    rw [i5, hpc, List.length_cons]
    omega
  · rw [List.length_cons]
    cases r with
    | nil => exact absurd rfl h1
    | cons a b =>
      rw [List.length_cons]
      omega
theorem LR_u {E : Nat → Nat → Prop} {n : Nat} (hn : n ≤ 7) {B C : Option (List Nat)} (h1 : LR E n B) (h2 : LR E n C) : B = C := by
  cases B with
  | none =>
    cases C with
    | none => rfl
    | some c => exact absurd h2.1 (h1 c)
  | some b =>
    cases C with
    | none => exact absurd h1.1 (h2 b)
    | some c =>
      obtain ⟨q1, q2⟩ := h1.2 c h2.1
      obtain ⟨q3, q4⟩ := h2.2 b h1.1
      have e : kyL b = kyL c := by omega
      have b1 := CP_b hn h1.1
      have b2 := CP_b hn h2.1
      unfold kyL at e
      rw [lx_an (by omega) (q2 (by unfold kyL; omega)) (q4 (by unfold kyL; omega))]


/-! rings: the reference's search -/
def TrP (S : List Nat → Prop) (B B' : Option (List Nat)) : Prop := (B' = B ∨ ∃ l, B' = some l ∧ S l ∧ (∀ b, B = some b → kyL l < kyL b) ∧ ∀ l', S l' → kyL l = kyL l' → lx l l') ∧ ∀ l', S l' → ∃ b, B' = some b ∧ kyL b ≤ kyL l'
theorem TrP.nil {S : List Nat → Prop} {B : Option (List Nat)} (h : ∀ l, ¬ S l) : TrP S B B := ⟨Or.inl rfl, fun l hl => absurd hl (h l)⟩
theorem TrP.co {S T : List Nat → Prop} {B B' : Option (List Nat)} (h : TrP S B B') (hS : ∀ l, S l ↔ T l) : TrP T B B' := by
  have : S = T := funext (fun l => propext (hS l))
  rw [← this]
  exact h
theorem TrP.tr {S1 S2 : List Nat → Prop} {B B1 B2 : Option (List Nat)} (h1 : TrP S1 B B1) (h2 : TrP S2 B1 B2) (hx : ∀ l1 l2, S1 l1 → S2 l2 → kyL l1 = kyL l2 → lx l1 l2) : TrP (fun l => S1 l ∨ S2 l) B B2 := by
  obtain ⟨a1, a2⟩ := h1
  obtain ⟨b1, b2⟩ := h2
  refine ⟨?_, fun l' hl' => ?_⟩
  · rcases b1 with rfl | ⟨l, rfl, c1, c2, c3⟩
    · rcases a1 with rfl | ⟨l, rfl, c1, c2, c3⟩
      · exact Or.inl rfl
      · refine Or.inr ⟨l, rfl, Or.inl c1, c2, fun l' hl' e => ?_⟩
        rcases hl' with hl' | hl'
        · exact c3 l' hl' e
        · exact hx l l' c1 hl' e
    · refine Or.inr ⟨l, rfl, Or.inr c1, fun b hb => ?_, fun l' hl' e => ?_⟩
      · rcases a1 with rfl | ⟨l1, rfl, d1, d2, d3⟩
        · exact c2 b hb
        · have := d2 b hb
          have := c2 l1 rfl
          omega
      · rcases hl' with hl' | hl'
        · obtain ⟨b, rfl, hb⟩ := a2 l' hl'
          have := c2 b rfl
          omega
        · exact c3 l' hl' e
  · rcases hl' with hl' | hl'
    · obtain ⟨b, rfl, hb⟩ := a2 l' hl'
      rcases b1 with rfl | ⟨l, rfl, c1, c2, c3⟩
      · exact ⟨b, rfl, hb⟩
      · have := c2 b rfl
        exact ⟨l, rfl, by omega⟩
    · exact b2 l' hl'
theorem TrP.lr {E : Nat → Nat → Prop} {n : Nat} {B : Option (List Nat)} (h : TrP (CP E n) none B) : LR E n B := by
  obtain ⟨h1, h2⟩ := h
  rcases h1 with rfl | ⟨l, rfl, c1, c2, c3⟩
  · intro l hl
    obtain ⟨b, hb, _⟩ := h2 l hl
    cases hb
  · refine ⟨c1, fun l' hl' => ⟨?_, c3 l' hl'⟩⟩
    obtain ⟨b, hb, hb2⟩ := h2 l' hl'
    cases hb
    exact hb2
def RgM (B : Option (List Nat)) (μ : zMem) : Prop := match B with
  | none => μ 355 43 = 0
  | some l => (μ 355 43 = (l.length : Int) ∧ l ≠ [] ∧ l.length ≤ 7) ∧ (μ 355 44 = (rgB l : Int) ∧ rgB l < 128) ∧ ∀ i : Nat, i < l.length → μ 380 (i : Int) = ((l.getD i 0 : Nat) : Int)
/-- all rings that begin so -/
def StR (E : Nat → Nat → Prop) (n p0 last used : Nat) (r : List Nat) : List Nat → Prop := fun l => ∃ x, l = r ++ x ∧ ER E n p0 last used x ∧ 2 ≤ l.length
def RFr (μ μ' : zMem) : Prop := zfc [355, 379, 380] μ μ' ∧ ∀ j : Int, j ≠ 43 → j ≠ 44 → μ' 355 j = μ 355 j
theorem RFr.rf {μ : zMem} : RFr μ μ := ⟨zfc.rf, fun _ _ _ => rfl⟩
theorem RFr.tr {a b c : zMem} (h1 : RFr a b) (h2 : RFr b c) : RFr a c := ⟨(h1.1.tr h2.1).mo (by simp), fun j p q => (h2.2 j p q).trans (h1.2 j p q)⟩
theorem rgB_app : ∀ {r x : List Nat}, rgB (r ++ x) = rgB r + rgB x
  | [], x => by
    show rgB x = 0 + rgB x
    omega
  | p :: r, x => by
    show 2 ^ p + rgB (r ++ x) = 2 ^ p + rgB r + rgB x
    rw [rgB_app]
    omega
theorem getD_app {r : List Nat} {p i : Nat} : (r ++ [p]).getD i 0 = if i < r.length then r.getD i 0 else if i = r.length then p else 0 := by
  rw [List.getD_eq_getElem?_getD, List.getD_eq_getElem?_getD]
  by_cases c : i < r.length
  · rw [if_pos c, List.getElem?_append_left c]
  · rw [if_neg c, List.getElem?_append_right (by omega)]
    by_cases c2 : i = r.length
    · rw [if_pos c2, c2, Nat.sub_self]
      rfl
    · rw [if_neg c2, List.getElem?_eq_none (by rw [List.length_singleton]; omega)]
      rfl
def SjR (E : Nat → Nat → Prop) (n p0 last used : Nat) (r : List Nat) (q : Nat) : List Nat → Prop := fun l => (l = r ∧ E last p0 ∧ 2 ≤ l.length) ∨ ∃ p x, p < q ∧ l = r ++ (p :: x) ∧ ER E n p0 last used (p :: x)
theorem SjR_0 {E : Nat → Nat → Prop} {n p0 last used : Nat} {r : List Nat} {B B1 : Option (List Nat)} (h : TrP (fun l => l = r ∧ E last p0 ∧ 2 ≤ l.length) B B1) : TrP (SjR E n p0 last used r (p0 + 1)) B B1 := h.co (fun l => ⟨fun q => Or.inl q, fun q => q.resolve_right (fun ⟨p, x, p1, _, p3⟩ => by
  have := p3.1.1
  omega)⟩)
theorem SjR_n {E : Nat → Nat → Prop} {n p0 last used : Nat} {r : List Nat} {B B1 : Option (List Nat)} (hr : r ≠ []) (h : TrP (SjR E n p0 last used r n) B B1) : TrP (StR E n p0 last used r) B B1 := h.co (fun l => by
  constructor
  · rintro (⟨rfl, h1, h2⟩ | ⟨p, x, p1, rfl, p3⟩)
    · exact ⟨[], by rw [List.append_nil], h1, h2⟩
    · refine ⟨p :: x, rfl, p3, ?_⟩
      have := List.length_pos_iff.mpr hr
      rw [List.length_append, List.length_cons]
      omega
  · rintro ⟨x, rfl, h1, h2⟩
    cases x with
    | nil =>
      rw [List.append_nil] at h2 ⊢
      exact Or.inl ⟨rfl, h1, h2⟩
    | cons p x => exact Or.inr ⟨p, x, h1.1.2.1, rfl, h1⟩)
theorem SjR_k {E : Nat → Nat → Prop} {n p0 last used q : Nat} {r : List Nat} {B B1 : Option (List Nat)} (hq : ¬ (used.testBit q = false ∧ E last q)) (h : TrP (SjR E n p0 last used r q) B B1) : TrP (SjR E n p0 last used r (q + 1)) B B1 := h.co (fun l => by
  constructor
  · rintro (h1 | ⟨p, x, p1, p2⟩)
    · exact Or.inl h1
    · exact Or.inr ⟨p, x, by omega, p2⟩
  · rintro (h1 | ⟨p, x, p1, p2, p3⟩)
    · exact Or.inl h1
    · by_cases e : p = q
      · subst e
        exact absurd ⟨p3.1.2.2.1, p3.1.2.2.2⟩ hq
      · exact Or.inr ⟨p, x, by omega, p2, p3⟩)
theorem SjR_s {E : Nat → Nat → Prop} {n p0 last used q : Nat} {r : List Nat} {B B1 B2 : Option (List Nat)} (hn : n ≤ 7) (hr : r ≠ []) (hu : used = rgB r) (hu2 : used < 128) (hq : p0 < q ∧ q < n ∧ used.testBit q = false ∧ E last q) (h : TrP (SjR E n p0 last used r q) B B1) (h2 : TrP (StR E n p0 q (used + 2 ^ q) (r ++ [q])) B1 B2) : TrP (SjR E n p0 last used r (q + 1)) B B2 := by
  have h27 : (2 : Nat) ^ 7 = 128 := by decide
  have b8 := bit8 (c := used) (i := q) (by omega) (by omega) hq.2.2.1
  have hu3 : used + 2 ^ q < 2 ^ 7 := by
    rw [← b8.1]
    exact Nat.or_lt_two_pow (show used < 2 ^ 7 by omega) (Nat.pow_lt_pow_right (by decide) (by omega))
  refine (h.tr h2 ?_).co (fun l => ?_)
  · rintro l1 l2 (⟨rfl, g1, g2⟩ | ⟨p, x1, g1, rfl, g3⟩) ⟨x, rfl, k1, k2⟩ e
    · exfalso
      have := (ER_X hn (by omega) k1).2.2.2.1
      unfold kyL at e
      rw [rgB_app, rgB_app, List.length_append, List.length_append, List.length_singleton] at e
      have e1 : rgB [q] = 2 ^ q := by show 2 ^ q + 0 = 2 ^ q; omega
      omega
    · rw [List.append_assoc]
      exact lx_app (Or.inl g1)
  · constructor
    · rintro (h1 | ⟨x, rfl, k1, k2⟩)
      · rcases h1 with h1 | ⟨p, x, p1, p2⟩
        · exact Or.inl h1
        · exact Or.inr ⟨p, x, by omega, p2⟩
      · exact Or.inr ⟨q, x, by omega, by rw [List.append_assoc]; rfl, hq, k1⟩
    · rintro (h1 | ⟨p, x, p1, rfl, p3⟩)
      · exact Or.inl (Or.inl h1)
      · by_cases e : p = q
        · subst e
          refine Or.inr ⟨x, by rw [List.append_assoc]; rfl, p3.2, ?_⟩
          have := List.length_pos_iff.mpr hr
          rw [List.length_append, List.length_cons]
          omega
        · exact Or.inl (Or.inr ⟨p, x, by omega, rfl, p3⟩)
theorem RgM.k {B : Option (List Nat)} {μ μ' : zMem} (h : RgM B μ) (h1 : μ' 355 43 = μ 355 43) (h2 : μ' 355 44 = μ 355 44) (h3 : μ' 380 = μ 380) : RgM B μ' := by
  unfold RgM at *
  rw [h1, h2, h3]
  exact h


/-! a code's entries -/
def PC (pp : Pr) : Prop := ∀ t l w t1 l1 m c, pp t l w = (t1, some (l1, m, c)) → w + c.length ≤ 4000 → ∀ x, x ∈ c → 0 ≤ x ∧ x ≤ 1000000
theorem PC_loop {c : Nat → Int} {op : Int → Int} {j : Bool} {pp : Pr} (ho : ∀ x, 0 ≤ op x ∧ op x ≤ 13) (h : PC pp) : ∀ (f : Nat) (m : Mn) (t l w t1 l1 : Nat) (m1 : Mn) (cd : List Int), pLoop c op j pp f m t l w = (t1, some (l1, m1, cd)) → w + cd.length ≤ 4000 → ∀ x, x ∈ cd → 0 ≤ x ∧ x ≤ 1000000
  | 0, m, t, l, w, t1, l1, m1, cd, e, hw, x, hx => by
    rw [pLoop] at e
    cases e
    simp at hx
  | f + 1, m, t, l, w, t1, l1, m1, cd, e, hw, x, hx => by
    by_cases e0 : op (c t) = 0
    · rw [pLoop_0 e0] at e
      cases e
      simp at hx
    rcases e1 : pp (t + 1) l (if j = true then w + 1 else w) with ⟨t2, _ | ⟨l2, m2, c2⟩⟩
    · rw [pLoop_n e0 e1] at e
      cases e
    rw [pLoop_s e0 e1] at e
    rcases e3 : pLoop c op j pp f (mOp (op (c t)) m m2) t2 l2 (w + c2.length + 1) with ⟨t3, _ | ⟨l3, m3, c3⟩⟩
    · rw [e3] at e
      cases e
    rw [e3] at e
    have hop := ho (c t)
    have ih := PC_loop ho h f _ _ _ _ _ _ _ _ e3
    have h1 := h _ _ _ _ _ _ _ e1
    cases j with
    | true =>
      rw [if_pos rfl] at e
      cases e
      rw [if_pos rfl] at h1
      rw [List.length_append, List.length_cons] at hw
      rw [List.mem_append, List.mem_cons] at hx
      rcases hx with (hx | hx) | hx
      · omega
      · exact h1 (by omega) x hx
      · exact ih (by omega) x hx
    | false =>
      rw [if_neg (by decide)] at e
      cases e
      rw [if_neg (by decide)] at h1
      rw [List.length_append, List.length_append, List.length_singleton] at hw
      rw [List.mem_append, List.mem_append, List.mem_singleton] at hx
      rcases hx with (hx | hx) | hx
      · exact h1 (by omega) x hx
      · omega
      · exact ih (by omega) x hx
theorem PC_row {c : Nat → Int} {op : Int → Int} {j : Bool} {pp : Pr} (ho : ∀ x, 0 ≤ op x ∧ op x ≤ 13) (h : PC pp) : PC (pRow c op j pp) := by
  intro t l w t2 l2 m2 cd e hw x hx
  rcases e1 : pp t l w with ⟨t1, _ | ⟨l1, m1, c1⟩⟩
  · rw [pRow_n e1] at e
    cases e
  rw [pRow_s e1] at e
  rcases e2 : pLoop c op j pp 400 m1 t1 l1 (w + c1.length) with ⟨t3, _ | ⟨l3, m3, c3⟩⟩
  · rw [e2] at e
    cases e
  rw [e2] at e
  cases e
  rw [List.length_append] at hw
  rw [List.mem_append] at hx
  rcases hx with hx | hx
  · exact h _ _ _ _ _ _ _ e1 (by omega) x hx
  · exact PC_loop ho h _ _ _ _ _ _ _ _ _ e2 (by omega) x hx
theorem PC_part {o : Bool} {c v : Nat → Int} {S : Option Pr} (hv : ∀ t, 0 ≤ v t) (h : ∀ s, S = some s → PC s) : PC (pPart o c v S) := by
  intro t l w t2 l2 m2 cd e hw x hx
  have h0 := hv t
  have h1 := hv (t + 1)
  have h2 := hv (t + 2)
  unfold pPart ordI at e
  split at e
  · cases S with
    | none => cases e
    | some s =>
      simp only at e
      rcases e1 : s (t + 1) l w with ⟨t1, _ | ⟨l1, m1, c1⟩⟩
      · rw [e1] at e
        cases e
      rw [e1] at e
      simp only at e
      split at e
      · cases e
        exact h s rfl _ _ _ _ _ _ _ e1 hw x hx
      · cases e
  · repeat' split at e
    all_goals first | (cases e; done) | (cases e; simp only [List.mem_singleton] at hx; omega)
theorem oP {x : Int} : (0 ≤ oTerm x ∧ oTerm x ≤ 13) ∧ (0 ≤ oSum x ∧ oSum x ≤ 13) ∧ (0 ≤ oBoth x ∧ oBoth x ≤ 13) ∧ (0 ≤ oTest x ∧ oTest x ≤ 13) ∧ 0 ≤ oCmp x ∧ oCmp x ≤ 13 := by
  unfold oTerm oSum oBoth oTest oCmp
  refine ⟨?_, ?_, ?_, ?_, ?_⟩ <;> (repeat' split) <;> omega
theorem PC_pos {c : Nat → Int} {S : Pr} {T : Option Pr} (hS : PC S) (hT : ∀ q, T = some q → PC q) : PC (pPos c S T) := by
  intro t l w t2 l2 m2 cd e hw x hx
  unfold pPos at e
  split at e
  · cases T with
    | none => cases e
    | some s =>
      simp only at e
      rcases e1 : s (t + 1) l w with ⟨t1, _ | ⟨l1, m1, c1⟩⟩
      · rw [e1] at e
        cases e
      rw [e1] at e
      simp only at e
      split at e
      · cases e
        exact hT s rfl _ _ _ _ _ _ _ e1 hw x hx
      · cases e
  · rcases e1 : S t l w with ⟨t1, _ | ⟨l1, m1, c1⟩⟩
    · rw [e1] at e
      cases e
    rw [e1] at e
    simp only at e
    split at e
    · cases e
    · rcases e3 : S (t1 + 1) l1 (w + c1.length) with ⟨t3, _ | ⟨l3, m3, c3⟩⟩
      · rw [e3] at e
        cases e
      rw [e3] at e
      have hop := (oP (x := c t1)).2.2.2.2
      cases e
      rw [List.length_append, List.length_append, List.length_singleton] at hw
      rw [List.mem_append, List.mem_append, List.mem_singleton] at hx
      rcases hx with (hx | hx) | hx
      · exact hS _ _ _ _ _ _ _ e1 (by omega) x hx
      · exact hS _ _ _ _ _ _ _ e3 (by omega) x hx
      · omega
theorem PC_plain {c : Nat → Int} {S : Pr} {T : Option Pr} (hS : PC S) (hT : ∀ q, T = some q → PC q) : PC (pPlain c S T) := by
  intro t l w t2 l2 m2 cd e hw x hx
  unfold pPlain pNeg at e
  rcases e1 : pPos c S T (t + nNot c 400 t) l w with ⟨t1, _ | ⟨l1, m1, c1⟩⟩
  · rw [e1] at e
    split at e <;> cases e
  rw [e1] at e
  split at e
  · cases e
    rw [List.length_append, List.length_singleton] at hw
    rw [List.mem_append, List.mem_singleton] at hx
    rcases hx with hx | hx
    · exact PC_pos hS hT _ _ _ _ _ _ _ e1 (by omega) x hx
    · omega
  · cases e
    exact PC_pos hS hT _ _ _ _ _ _ _ e1 hw x hx
theorem PC_S {o : Bool} {c v : Nat → Int} (hv : ∀ t, 0 ≤ v t) : ∀ k, PC (lvS o c v k)
  | 0 => PC_row (fun _ => oP.2.1) (PC_row (fun _ => oP.1) (PC_part hv (fun s h => by cases h)))
  | k + 1 => by
    rw [lvS]
    exact PC_row (fun _ => oP.2.1) (PC_row (fun _ => oP.1) (PC_part hv (fun s h => by cases h; exact PC_S hv k)))
theorem PC_T {o : Bool} {c v : Nat → Int} (hv : ∀ t, 0 ≤ v t) : ∀ k, PC (lvT o c v k)
  | 0 => PC_row (fun _ => oP.2.2.2.1) (PC_row (fun _ => oP.2.2.1) (PC_plain (PC_S hv 0) (fun q h => by cases h)))
  | k + 1 => by
    rw [lvT]
    exact PC_row (fun _ => oP.2.2.2.1) (PC_row (fun _ => oP.2.2.1) (PC_plain (PC_S hv (k + 1)) (fun q h => by cases h; exact PC_T hv k)))
/-- a clause as the class keeps it -/
def ClC (o : Bool) (κ : Int → Int) (cl : Cls) : Prop := Sem o κ cl ∧ ((cl.2.2.1.1 ≤ cl.2.2.1.2.1 ∧ (o = true → cl.2.2.1.2.1 ≤ cl.2.2.1.2.2.1 ∧ cl.2.2.1.2.2.1 ≤ cl.2.2.1.2.2.2.1) ∧ cl.2.2.1.2.1 ≤ cl.2.2.1.2.2.2.1 ∧ cl.2.2.1.2.2.2.1 ≤ cl.2.2.1.2.2.2.2 ∧ cl.2.2.1.2.2.2.2 ≤ 385)) ∧ (∀ i : Int, (cl.2.2.1.1 : Int) ≤ i → i < (cl.2.2.1.2.2.2.2 : Int) → 0 ≤ κ i ∧ κ i ≤ 1000000) ∧ (o = false → cl.1 = 3 → ∀ W, cl.2.2.2.1 W = some 1)
theorem Seg_in {κ : Int → Int} {w : Nat} {cd : List Int} (hs : Seg κ w cd) (h : ∀ x, x ∈ cd → 0 ≤ x ∧ x ≤ 1000000) (i : Int) (h0 : (w : Int) ≤ i) (h1 : i < ((w + cd.length : Nat) : Int)) : 0 ≤ κ i ∧ κ i ≤ 1000000 := by
  have hj : (i - w).toNat < cd.length := by omega
  have := hs (i - w).toNat hj
  rw [show ((w + (i - w).toNat : Nat) : Int) = i by omega] at this
  rw [this, List.getD_eq_getElem?_getD, List.getElem?_eq_getElem hj]
  exact h _ (List.getElem_mem hj)
theorem PC_MT {o : Bool} {c v : Nat → Int} (hv : ∀ t, 0 ≤ v t) {t l w t1 l1 : Nat} {mt : Option Mn} {cd : List Int} (e : pMT o c v t l w = (t1, some (l1, mt, cd))) (hw : w + cd.length ≤ 4000) : ∀ x, x ∈ cd → 0 ≤ x ∧ x ≤ 1000000 := by
  unfold pMT at e
  by_cases h : c t = 5
  · rw [if_pos h] at e
    rcases e1 : lvT o c v 8 (t + 1) l w with ⟨t2, _ | ⟨l2, m2, c2⟩⟩
    · rw [e1] at e
      cases e
    rw [e1] at e
    cases e
    exact PC_T hv 8 _ _ _ _ _ _ _ e1 hw
  · rw [if_neg h] at e
    cases e
    exact fun x hx => by simp at hx
theorem pLawC_C {c v : Nat → Int} (hv : ∀ t, 0 ≤ v t) {t l w t1 l1 : Nat} {cl : Cls} {cd : List Int} (e : pLawC c v t l w = (t1, some (l1, cl, cd))) {κ : Int → Int} (hs : Seg κ w cd) (hw : w + cd.length ≤ 385) : ClC false κ cl := by
  refine ⟨pLawC_run hv e hs (by omega), ?_⟩
  unfold pLawC at e
  split at e
  next h =>
    rcases e1 : pLw c v t l w with ⟨t2, _ | ⟨l2, m2, c2⟩⟩
    · rw [e1] at e
      cases e
    rw [e1] at e
    simp only at e
    rcases e2 : pMT false c v t2 l2 (w + c2.length) with ⟨t3, _ | ⟨l3, m3, c3⟩⟩
    · rw [e2] at e
      cases e
    rw [e2] at e
    cases e
    rw [List.length_append] at hw
    have p2 := PC_MT hv e2 (by omega)
    have p1 : ∀ x, x ∈ c2 → 0 ≤ x ∧ x ≤ 1000000 := by
      unfold pLw at e1
      split at e1
      · cases e1
        exact fun x hx => by simp at hx
      · exact PC_S hv 8 _ _ _ _ _ _ _ e1 (by omega)
    refine ⟨⟨?_, fun q => (by cases q), ?_, ?_, ?_⟩, fun i h0 h1 => ?_, fun _ q3 W => ?_⟩
    · show w ≤ w + c2.length
      omega
    · show w + c2.length ≤ w + c2.length
      omega
    · show w + c2.length ≤ w + c2.length + c3.length
      omega
    · show w + c2.length + c3.length ≤ 385
      omega
    · refine Seg_in hs (fun x hx => ?_) i h0 ?_
      · rw [List.mem_append] at hx
        rcases hx with hx | hx
        · exact p1 x hx
        · exact p2 x hx
      · rw [List.length_append]
        have h1 : i < ((w + c2.length + c3.length : Nat) : Int) := h1
        omega
    · have q3 : c t - 1 = 3 := q3
      unfold pLw at e1
      rw [if_pos (by omega)] at e1
      cases e1
      rfl
  next => cases e


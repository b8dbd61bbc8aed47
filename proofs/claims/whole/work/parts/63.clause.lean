/-! clauses -/
/-- kind, times, places of its sums and test in the code, their meanings -/
abbrev Cls : Type := Int × Int × (Nat × Nat × Nat × Nat × Nat) × (Mn × Mn × Mn × Option Mn)
abbrev PcR : Type := Nat × Option (Nat × Cls × List Int)
def pMT (o : Bool) (c v : Nat → Int) (t l w : Nat) : Nat × Option (Nat × Option Mn × List Int) :=
  if c t = 5 then (match lvT o c v 8 (t + 1) l w with
    | (t1, none) => (t1, none)
    | (t1, some (l1, m, cd)) => (t1, some (l1, some m, cd))) else (t, some (l, none, []))
def pLw (c v : Nat → Int) (t l w : Nat) : PrR := if c t = 4 then (t + 1, some (l, fun _ => some 1, [])) else lvS false c v 8 (t + 1) l w
def pLawC (c v : Nat → Int) (t l w : Nat) : PcR :=
  if 1 ≤ c t ∧ c t ≤ 4 then
    (match pLw c v t l w with
    | (t1, none) => (t1, none)
    | (t1, some (l1, m1, c1)) =>
      match pMT false c v t1 l1 (w + c1.length) with
      | (t2, none) => (t2, none)
      | (t2, some (l2, mt, c2)) => (t2, some (l2, (c t - 1, 1, (w, w + c1.length, 0, w + c1.length, w + c1.length + c2.length), (m1, m1, m1, mt)), c1 ++ c2)))
  else (t, none)
abbrev P3R : Type := Nat × Option (Nat × (Nat × Nat) × (Mn × Mn × Mn) × List Int)
def p3S (c v : Nat → Int) (t l w : Nat) : P3R :=
  match lvS true c v 8 t l w with
  | (t1, none) => (t1, none)
  | (t1, some (l1, m1, c1)) =>
    if c t1 = 27 then
      (match lvS true c v 8 (t1 + 1) l1 (w + c1.length) with
      | (t2, none) => (t2, none)
      | (t2, some (l2, m2, c2)) =>
        if c t2 = 28 then
          (match lvS true c v 8 (t2 + 1) l2 (w + c1.length + c2.length) with
          | (t3, none) => (t3, none)
          | (t3, some (l3, m3, c3)) => (t3, some (l3, (w + c1.length, w + c1.length + c2.length), (m1, m2, m3), c1 ++ c2 ++ c3)))
        else (t2, none))
    else (t1, none)
def p3O (c v : Nat → Int) (t l w : Nat) : P3R := if c t = 26 then (t + 1, some (l, (w, w), (fun _ => some 0, fun _ => some 0, fun _ => some 0), [])) else p3S c v (t + 1) l w
def pTm (c v : Nat → Int) (t : Nat) : Nat × Option Int := if c t = 29 then (if c (t + 1) = 50 ∧ 1 ≤ v (t + 1) ∧ v (t + 1) ≤ 20 then (t + 2, some (v (t + 1))) else (t + 1, none)) else (t, some 1)
def pOrdC (c v : Nat → Int) (t l w : Nat) : PcR :=
  if 24 ≤ c t ∧ c t ≤ 26 then
    (match p3O c v t l w with
    | (t1, none) => (t1, none)
    | (t1, some (l1, (a2, a3), (m1, m2, m3), c1)) =>
      match pTm c v t1 with
      | (t2, none) => (t2, none)
      | (t2, some k) =>
        match pMT true c v t2 l1 (w + c1.length) with
        | (t3, none) => (t3, none)
        | (t3, some (l3, mt, c3)) => (t3, some (l3, (c t - 24, k, (w, a2, a3, w + c1.length, w + c1.length + c3.length), (m1, m2, m3, mt)), c1 ++ c3)))
  else (t, none)
/-- clauses, one behind the other -/
def pCls (c : Nat → Int) (fin : Nat → Bool) (pc : Nat → Nat → Nat → PcR) : Nat → Nat → Nat → Nat → Nat × Option (List Cls × List Int)
  | 0, t, _, _ => (t, none)
  | f + 1, t, l, w => match pc t l w with
    | (t1, none) => (t1, none)
    | (t1, some (l1, cl, c1)) =>
      if c t1 = 159 then
        (match pCls c fin pc f (t1 + 1) l1 (w + c1.length) with
        | (t2, none) => (t2, none)
        | (t2, some (cs, c2)) => (t2, some (cl :: cs, c1 ++ c2)))
      else if fin t1 = true then (t1, some ([cl], c1)) else (t1, none)
/-- its code is something -/
def PN (pp : Pr) : Prop := ∀ t l w t1 l1 m c, pp t l w = (t1, some (l1, m, c)) → 0 < c.length
theorem PN_row {c : Nat → Int} {op : Int → Int} {j : Bool} {pp : Pr} (h : PN pp) : PN (pRow c op j pp) := by
  intro t l w t2 l2 m2 c2 e
  rcases e1 : pp t l w with ⟨t1, _ | ⟨l1, m1, c1⟩⟩
  · rw [pRow_n e1] at e
    cases e
  rw [pRow_s e1] at e
  have h1 := h _ _ _ _ _ _ _ e1
  rcases e2 : pLoop c op j pp 400 m1 t1 l1 (w + c1.length) with ⟨t3, _ | ⟨l3, m3, c3⟩⟩
  · rw [e2] at e
    cases e
  rw [e2] at e
  cases e
  rw [List.length_append]
  omega
theorem PN_part {o : Bool} {c v : Nat → Int} {S : Option Pr} (h : ∀ s, S = some s → PN s) : PN (pPart o c v S) := by
  intro t l w t2 l2 m2 c2 e
  unfold pPart at e
  split at e
  · cases S with
    | none => cases e
    | some s =>
      simp only at e
      rcases e1 : s (t + 1) l w with ⟨t1, _ | ⟨l1, m1, c1⟩⟩
      · rw [e1] at e
        cases e
      rw [e1] at e
      simp only at e
      split at e
      · cases e
        exact h s rfl _ _ _ _ _ _ _ e1
      · cases e
  · repeat' split at e
    all_goals first | (cases e; done) | (cases e; simp)
theorem PN_pos {c : Nat → Int} {S : Pr} {T : Option Pr} (hT : ∀ q, T = some q → PN q) : PN (pPos c S T) := by
  intro t l w t2 l2 m2 c2 e
  unfold pPos at e
  split at e
  · cases T with
    | none => cases e
    | some s =>
      simp only at e
      rcases e1 : s (t + 1) l w with ⟨t1, _ | ⟨l1, m1, c1⟩⟩
      · rw [e1] at e
        cases e
      rw [e1] at e
      simp only at e
      split at e
      · cases e
        exact hT s rfl _ _ _ _ _ _ _ e1
      · cases e
  · rcases e1 : S t l w with ⟨t1, _ | ⟨l1, m1, c1⟩⟩
    · rw [e1] at e
      cases e
    rw [e1] at e
    simp only at e
    split at e
    · cases e
    · rcases e3 : S (t1 + 1) l1 (w + c1.length) with ⟨t3, _ | ⟨l3, m3, c3⟩⟩
      · rw [e3] at e
        cases e
      rw [e3] at e
      cases e
      simp only [List.length_append, List.length_cons]
      omega
theorem PN_plain {c : Nat → Int} {S : Pr} {T : Option Pr} (hT : ∀ q, T = some q → PN q) : PN (pPlain c S T) := by
  intro t l w t2 l2 m2 c2 e
  unfold pPlain pNeg at e
  rcases e1 : pPos c S T (t + nNot c 400 t) l w with ⟨t1, _ | ⟨l1, m1, c1⟩⟩
  · rw [e1] at e
    split at e <;> cases e
  rw [e1] at e
  split at e
  · cases e
    simp
  · cases e
    exact PN_pos hT _ _ _ _ _ _ _ e1
theorem PN_T {o : Bool} {c v : Nat → Int} : ∀ k, PN (lvT o c v k)
  | 0 => PN_row (PN_row (PN_plain (fun q h => by cases h)))
  | k + 1 => by
    rw [lvT]
    exact PN_row (PN_row (PN_plain (fun q h => by cases h; exact PN_T k)))
/-! the code of a clause tells what it means -/
def runs1 (p : Int → Int) (a b : Nat) (m : Mn) : Prop := ∀ W : Int → Int, mRf p W b a [] = m W
def runT (p : Int → Int) (a b : Nat) : Option Mn → Prop
  | none => a = b
  | some m => a < b ∧ runs1 p a b m
/-- a clause's code: its sums, its test -/
def Sem (o : Bool) (p : Int → Int) (cl : Cls) : Prop := (if o = true then (cl.1 = 2 ∨ (runs1 p cl.2.2.1.1 cl.2.2.1.2.1 cl.2.2.2.1 ∧ runs1 p cl.2.2.1.2.1 cl.2.2.1.2.2.1 cl.2.2.2.2.1 ∧ runs1 p cl.2.2.1.2.2.1 cl.2.2.1.2.2.2.1 cl.2.2.2.2.2.1)) else (cl.1 = 3 ∨ runs1 p cl.2.2.1.1 cl.2.2.1.2.1 cl.2.2.2.1)) ∧ runT p cl.2.2.1.2.2.2.1 cl.2.2.1.2.2.2.2 cl.2.2.2.2.2.2
theorem RN.run {D : Nat} {pp : Pr} (h : RN D pp) (hD : D ≤ 64) {t l w t1 l1 : Nat} {m : Mn} {c : List Int} (e : pp t l w = (t1, some (l1, m, c))) {p : Int → Int} (hs : Seg p w c) (hw : w + c.length ≤ 4000) : runs1 p w (w + c.length) m := by
  intro W
  rw [h _ _ _ _ _ _ _ e p W (w + c.length) [] hs (Nat.le_refl _) hw (by simpa using hD)]
  cases m W with
  | none => rfl
  | some x =>
    rw [ob_s, mRf_e (Nat.le_refl _)]
    rfl
theorem pMT_run {o : Bool} {c v : Nat → Int} (hv : ∀ t, 0 ≤ v t) {t l w t1 l1 : Nat} {mt : Option Mn} {cd : List Int} (e : pMT o c v t l w = (t1, some (l1, mt, cd))) {p : Int → Int} (hs : Seg p w cd) (hw : w + cd.length ≤ 4000) : runT p w (w + cd.length) mt := by
  unfold pMT at e
  by_cases h : c t = 5
  · rw [if_pos h] at e
    rcases e1 : lvT o c v 8 (t + 1) l w with ⟨t2, _ | ⟨l2, m2, c2⟩⟩
    · rw [e1] at e
      cases e
    rw [e1] at e
    cases e
    exact ⟨by have := PN_T 8 _ _ _ _ _ _ _ e1; omega, RN.run (RN_T hv 8) (by decide) e1 hs hw⟩
  · rw [if_neg h] at e
    cases e
    rfl
theorem pLawC_run {c v : Nat → Int} (hv : ∀ t, 0 ≤ v t) {t l w t1 l1 : Nat} {cl : Cls} {cd : List Int} (e : pLawC c v t l w = (t1, some (l1, cl, cd))) {p : Int → Int} (hs : Seg p w cd) (hw : w + cd.length ≤ 4000) : Sem false p cl := by
  unfold pLawC at e
  split at e
  next h =>
    rcases e1 : pLw c v t l w with ⟨t2, _ | ⟨l2, m2, c2⟩⟩
    · rw [e1] at e
      cases e
    rw [e1] at e
    simp only at e
    rcases e2 : pMT false c v t2 l2 (w + c2.length) with ⟨t3, _ | ⟨l3, m3, c3⟩⟩
    · rw [e2] at e
      cases e
    rw [e2] at e
    cases e
    rw [Seg_app] at hs
    rw [List.length_append] at hw
    refine ⟨?_, pMT_run hv e2 hs.2 (by omega)⟩
    rw [if_neg (by decide)]
    unfold pLw at e1
    by_cases q : c t = 4
    · left
      show c t - 1 = 3
      omega
    · right
      rw [if_neg q] at e1
      exact RN.run (RN_S hv 8) (by decide) e1 hs.1 (by omega)
  next => cases e
theorem p3S_run {c v : Nat → Int} (hv : ∀ t, 0 ≤ v t) {t l w t1 l1 a2 a3 : Nat} {m1 m2 m3 : Mn} {cd : List Int} (e : p3S c v t l w = (t1, some (l1, (a2, a3), (m1, m2, m3), cd))) {p : Int → Int} (hs : Seg p w cd) (hw : w + cd.length ≤ 4000) : runs1 p w a2 m1 ∧ runs1 p a2 a3 m2 ∧ runs1 p a3 (w + cd.length) m3 := by
  unfold p3S at e
  rcases e1 : lvS true c v 8 t l w with ⟨t2, _ | ⟨l2, n2, c2⟩⟩
  · rw [e1] at e
    cases e
  rw [e1] at e
  simp only at e
  split at e
  · rcases e2 : lvS true c v 8 (t2 + 1) l2 (w + c2.length) with ⟨t3, _ | ⟨l3, n3, c3⟩⟩
    · rw [e2] at e
      cases e
    rw [e2] at e
    simp only at e
    split at e
    · rcases e3 : lvS true c v 8 (t3 + 1) l3 (w + c2.length + c3.length) with ⟨t4, _ | ⟨l4, n4, c4⟩⟩
      · rw [e3] at e
        cases e
      rw [e3] at e
      cases e
      rw [Seg_app, Seg_app, List.length_append] at hs
      rw [List.length_append, List.length_append] at hw ⊢
      refine ⟨RN.run (RN_S hv 8) (by decide) e1 hs.1.1 (by omega), RN.run (RN_S hv 8) (by decide) e2 hs.1.2 (by omega), ?_⟩
      have := RN.run (RN_S hv 8) (by decide) e3 (p := p) (by rw [show w + c2.length + c3.length = w + (c2.length + c3.length) by omega]; exact hs.2) (by omega)
      rwa [show w + (c2.length + c3.length + c4.length) = w + c2.length + c3.length + c4.length by omega]
    · cases e
  · cases e
theorem pOrdC_run {c v : Nat → Int} (hv : ∀ t, 0 ≤ v t) {t l w t1 l1 : Nat} {cl : Cls} {cd : List Int} (e : pOrdC c v t l w = (t1, some (l1, cl, cd))) {p : Int → Int} (hs : Seg p w cd) (hw : w + cd.length ≤ 4000) : Sem true p cl := by
  unfold pOrdC at e
  split at e
  next h =>
    rcases e1 : p3O c v t l w with ⟨t2, _ | ⟨l2, ⟨a2, a3⟩, ⟨m1, m2, m3⟩, c2⟩⟩
    · rw [e1] at e
      cases e
    rw [e1] at e
    simp only at e
    rcases e2 : pTm c v t2 with ⟨t3, _ | k⟩
    · rw [e2] at e
      cases e
    rw [e2] at e
    simp only at e
    rcases e3 : pMT true c v t3 l2 (w + c2.length) with ⟨t4, _ | ⟨l4, m4, c4⟩⟩
    · rw [e3] at e
      cases e
    rw [e3] at e
    cases e
    rw [Seg_app] at hs
    rw [List.length_append] at hw
    refine ⟨?_, pMT_run hv e3 hs.2 (by omega)⟩
    rw [if_pos rfl]
    unfold p3O at e1
    by_cases q : c t = 26
    · left
      show c t - 24 = 2
      omega
    · right
      rw [if_neg q] at e1
      exact p3S_run hv e1 hs.1 (by omega)
  next => cases e


/-! code runs to its meaning -/
def Seg (p : Int → Int) (w : Nat) (c : List Int) : Prop := ∀ i : Nat, i < c.length → p ((w + i : Nat) : Int) = c.getD i 0
theorem Seg_nil {p : Int → Int} {w : Nat} : Seg p w [] := fun i h => by simp at h
theorem Seg_cons {p : Int → Int} {w : Nat} {x : Int} {c : List Int} : Seg p w (x :: c) ↔ p (w : Int) = x ∧ Seg p (w + 1) c := by
  constructor
  · intro h
    refine ⟨h 0 (by simp), fun i hi => ?_⟩
    have := h (i + 1) (by simp; omega)
    rw [show w + 1 + i = w + (i + 1) by omega, this]
    simp
  · rintro ⟨h1, h2⟩ i hi
    cases i with
    | zero => simpa using h1
    | succ i =>
      have := h2 i (by simpa using hi)
      rw [show w + (i + 1) = w + 1 + i by omega, this]
      simp
theorem Seg_app {p : Int → Int} : ∀ {w : Nat} {a b : List Int}, Seg p w (a ++ b) ↔ Seg p w a ∧ Seg p (w + a.length) b
  | w, [], b => by simp [Seg_nil]
  | w, x :: a, b => by
    rw [List.cons_append, Seg_cons, Seg_cons, Seg_app, List.length_cons, show w + 1 + a.length = w + (a.length + 1) by omega, and_assoc]
theorem mRf_num {p W : Int → Int} {to a : Nat} {st : List Int} {n : Int} (h : p a = 4096 + n) (h0 : 0 ≤ n) (h1 : n < 4096) (ha : a < to) (hs : st.length < 64) : mRf p W to a st = mRf p W to (a + 1) (n :: st) := by
  have e1 : p a / 4096 = 1 := by omega
  have e2 : p a % 4096 = n := by omega
  rw [mRf_s ha]
  unfold mSt
  rw [if_pos (Or.inl e1), if_neg (by omega), if_pos e1, e2]
theorem mRf_word {p W : Int → Int} {to a : Nat} {st : List Int} {n : Int} (h : p a = 8192 + n) (h0 : 0 ≤ n) (h1 : n < 60) (ha : a < to) (hs : st.length < 64) : mRf p W to a st = mRf p W to (a + 1) (W n :: st) := by
  have e1 : p a / 4096 = 2 := by omega
  have e2 : p a % 4096 = n := by omega
  rw [mRf_s ha]
  unfold mSt
  rw [if_pos (Or.inr e1), if_neg (by omega), if_neg (by omega), e2]
theorem mRf_op {p W : Int → Int} {to a : Nat} {r : List Int} {o x y : Int} (h : p a = o * 4096) (h0 : 6 ≤ o) (h1 : o ≤ 13) (ha : a < to) : mRf p W to a (x :: y :: r) = ob (opV o y x) (fun z => mRf p W to (a + 1) (z :: r)) := by
  have e1 : p a / 4096 = o := by omega
  rw [mRf_s ha]
  unfold mSt
  rw [if_neg (by omega)]
  simp only
  rw [if_neg (by omega), if_neg (by omega), e1]
theorem mRf_not {p W : Int → Int} {to a : Nat} {r : List Int} {x : Int} (h : p a = 12288) (ha : a < to) : mRf p W to a (x :: r) = mRf p W to (a + 1) ((1 - x) :: r) := by
  have e1 : p a / 4096 = 3 := by omega
  rw [mRf_s ha]
  unfold mSt
  rw [if_neg (by omega)]
  simp only
  rw [if_pos e1]
theorem mRf_jmp {p W : Int → Int} {to a g : Nat} {r : List Int} {o x : Int} (h : p a = o * 4096 + (g : Int)) (ho : o = 4 ∨ o = 5) (hg : a < g) (hg2 : g < 4096) (ha : a < to) : mRf p W to a (x :: r) = if (x ≠ 0 ↔ o = 5) then mRf p W to g (x :: r) else mRf p W to (a + 1) r := by
  have e1 : p a / 4096 = o := by omega
  have e2 : p a % 4096 = g := by omega
  rw [mRf_s ha]
  unfold mSt
  rw [if_neg (by omega)]
  simp only
  rw [if_neg (by omega), if_pos (by omega), e1, e2, Int.toNat_natCast, show max (a + 1) g = g by omega]
/-- what it tells runs so -/
def RN (D : Nat) (pp : Pr) : Prop := ∀ t l w t1 l1 m c, pp t l w = (t1, some (l1, m, c)) → ∀ (p W : Int → Int) (to : Nat) (st : List Int), Seg p w c → w + c.length ≤ to → to ≤ 4000 → st.length + D ≤ 64 → mRf p W to w st = ob (m W) (fun x => mRf p W to (w + c.length) (x :: st))
theorem RN.mo {D E : Nat} {pp : Pr} (h : RN D pp) (hE : D ≤ E) : RN E pp := fun t l w t1 l1 m c e p W to st h1 h2 h3 h4 => h t l w t1 l1 m c e p W to st h1 h2 h3 (by omega)
def okOp (op : Int → Int) (j : Bool) : Prop := ∀ x, op x = 0 ∨ (if j = true then (op x = 4 ∨ op x = 5) else (6 ≤ op x ∧ op x ≤ 13))
theorem mOp_n {o : Int} {m1 m2 : Mn} {W : Int → Int} (h : m1 W = none) : mOp o m1 m2 W = none := by
  unfold mOp
  rw [h, ob_n]
theorem mOp_a {o a : Int} {m1 m2 : Mn} {W : Int → Int} (h1 : m1 W = some a) (ho : 6 ≤ o) : mOp o m1 m2 W = ob (m2 W) (fun b => opV o a b) := by
  unfold mOp
  rw [h1, ob_s]
  rw [if_neg (by omega), if_neg (by omega)]
theorem mOp_j {o a : Int} {m1 m2 : Mn} {W : Int → Int} (h1 : m1 W = some a) (ho : o = 4 ∨ o = 5) : mOp o m1 m2 W = if (a ≠ 0 ↔ o = 5) then some a else m2 W := by
  unfold mOp
  rw [h1, ob_s]
  rcases ho with rfl | rfl
  · by_cases e : a = 0 <;> simp [e]
  · by_cases e : a = 0 <;> simp [e]
theorem RN_loop {D : Nat} {pp : Pr} {c : Nat → Int} {op : Int → Int} {j : Bool} (h : RN D pp) (ho : okOp op j) : ∀ (f : Nat) (m : Mn) (t l w t2 l2 : Nat) (m2 : Mn) (c2 : List Int), pLoop c op j pp f m t l w = (t2, some (l2, m2, c2)) → (∀ W, m W = none → m2 W = none) ∧ ∀ (p W : Int → Int) (to : Nat) (st : List Int) (x : Int), m W = some x → Seg p w c2 → w + c2.length ≤ to → to ≤ 4000 → st.length + 1 + D ≤ 64 → mRf p W to w (x :: st) = ob (m2 W) (fun y => mRf p W to (w + c2.length) (y :: st))
  | 0, m, t, l, w, t2, l2, m2, c2, e => by
    rw [pLoop] at e
    cases e
    exact ⟨fun _ q => q, fun p W to st x hx _ _ _ _ => by rw [hx]; rfl⟩
  | f + 1, m, t, l, w, t2, l2, m2, c2, e => by
    rw [pLoop] at e
    by_cases e0 : op (c t) = 0
    · rw [if_pos e0] at e
      cases e
      exact ⟨fun _ q => q, fun p W to st x hx _ _ _ _ => by rw [hx]; rfl⟩
    rw [if_neg e0] at e
    rcases e1 : pp (t + 1) l (if j = true then w + 1 else w) with ⟨t1, _ | ⟨l1, m1, c1⟩⟩
    · rw [e1] at e
      cases e
    rw [e1] at e
    simp only at e
    rcases e2 : pLoop c op j pp f (mOp (op (c t)) m m1) t1 l1 (w + c1.length + 1) with ⟨t3, _ | ⟨l3, m3, c3⟩⟩
    · rw [e2] at e
      cases e
    rw [e2] at e
    simp only at e
    obtain ⟨ih1, ih2⟩ := RN_loop h ho f _ _ _ _ _ _ _ _ e2
    have hop := ho (c t)
    generalize op (c t) = o at *
    cases j with
    | false =>
      simp only [Bool.false_eq_true, if_false] at e e1 hop
      cases e
      have ho6 : 6 ≤ o ∧ o ≤ 13 := by omega
      refine ⟨fun W q => ih1 W (mOp_n q), fun p W to st x hx hs h1 h2 h3 => ?_⟩
      rw [Seg_app, Seg_app, Seg_cons] at hs
      obtain ⟨⟨hs1, hs2, -⟩, hs3⟩ := hs
      simp only [List.length_append, List.length_cons, List.length_nil] at h1 hs3 ⊢
      rw [h _ _ _ _ _ _ _ e1 p W to (x :: st) hs1 (by omega) h2 (by rw [List.length_cons]; omega)]
      have hm := mOp_a (m2 := m1) hx ho6.1
      cases hy : m1 W with
      | none =>
        rw [hy, ob_n] at hm
        rw [ob_n, ih1 W hm, ob_n]
      | some y =>
        rw [hy, ob_s] at hm
        rw [ob_s]
        rw [mRf_op hs2 ho6.1 ho6.2 (by omega)]
        cases hz : opV o x y with
        | none =>
          rw [hz] at hm
          rw [ob_n, ih1 W hm, ob_n]
        | some z =>
          rw [hz] at hm
          rw [ob_s, ih2 p W to st z hm (by rw [show w + c1.length + 1 = w + (c1.length + (0 + 1)) by omega]; exact hs3) (by omega) h2 h3]
          rw [show w + c1.length + 1 + c3.length = w + (c1.length + (0 + 1) + c3.length) by omega]
    | true =>
      simp only [if_true] at e e1 hop
      cases e
      have ho6 : o = 4 ∨ o = 5 := by omega
      refine ⟨fun W q => ih1 W (mOp_n q), fun p W to st x hx hs h1 h2 h3 => ?_⟩
      rw [List.cons_append, Seg_cons, Seg_app] at hs
      obtain ⟨hs1, hs2, hs3⟩ := hs
      simp only [List.length_append, List.length_cons] at h1 hs3 ⊢
      rw [mRf_jmp hs1 ho6 (by omega) (by omega) (by omega)]
      have hm := mOp_j (m2 := m1) hx ho6
      by_cases q : (x ≠ 0 ↔ o = 5)
      · rw [if_pos q] at hm ⊢
        rw [ih2 p W to st x hm (by rw [show w + c1.length + 1 = w + 1 + c1.length by omega]; exact hs3) (by omega) h2 h3]
        rw [show w + c1.length + 1 + c3.length = w + (c1.length + 1 + c3.length) by omega]
      · rw [if_neg q] at hm ⊢
        rw [h _ _ _ _ _ _ _ e1 p W to st hs2 (by omega) h2 (by omega)]
        cases hy : m1 W with
        | none =>
          rw [hy] at hm
          rw [ob_n, ih1 W hm, ob_n]
        | some y =>
          rw [hy] at hm
          rw [ob_s, show w + 1 + c1.length = w + c1.length + 1 by omega, ih2 p W to st y hm (by rw [show w + c1.length + 1 = w + 1 + c1.length by omega]; exact hs3) (by omega) h2 h3]
          rw [show w + c1.length + 1 + c3.length = w + (c1.length + 1 + c3.length) by omega]
theorem RN_row {D : Nat} {pp : Pr} {c : Nat → Int} {op : Int → Int} {j : Bool} (h : RN D pp) (ho : okOp op j) : RN (D + 1) (pRow c op j pp) := by
  intro t l w t2 l2 m2 c2 e p W to st hs h1 h2 h3
  rw [pRow] at e
  rcases e1 : pp t l w with ⟨t1, _ | ⟨l1, m1, c1⟩⟩
  · rw [e1] at e
    cases e
  rw [e1] at e
  simp only at e
  rcases e2 : pLoop c op j pp 400 m1 t1 l1 (w + c1.length) with ⟨t3, _ | ⟨l3, m3, c3⟩⟩
  · rw [e2] at e
    cases e
  rw [e2] at e
  cases e
  obtain ⟨ih1, ih2⟩ := RN_loop h ho _ _ _ _ _ _ _ _ _ e2
  rw [Seg_app] at hs
  rw [List.length_append] at h1 ⊢
  rw [h _ _ _ _ _ _ _ e1 p W to st hs.1 (by omega) h2 (by omega)]
  cases hy : m1 W with
  | none => rw [ob_n, ih1 W hy, ob_n]
  | some y =>
    rw [ob_s, ih2 p W to st y hy hs.2 (by omega) h2 (by omega), show w + c1.length + c3.length = w + (c1.length + c3.length) by omega]
theorem RN_part {D : Nat} {o : Bool} {c v : Nat → Int} {S : Option Pr} (hv : ∀ t, 0 ≤ v t) (hD : 1 ≤ D) (h : ∀ s, S = some s → RN D s) : RN D (pPart o c v S) := by
  intro t l w t2 l2 m2 c2 e p W to st hs h1 h2 h3
  unfold pPart at e
  by_cases e0 : c t = 191
  · rw [if_pos e0] at e
    cases S with
    | none => cases e
    | some s =>
      simp only at e
      rcases e1 : s (t + 1) l w with ⟨t1, _ | ⟨l1, m1, c1⟩⟩
      · rw [e1] at e
        cases e
      rw [e1] at e
      simp only at e
      by_cases e3 : c t1 = 193
      · rw [if_pos e3] at e
        cases e
        exact h s rfl _ _ _ _ _ _ _ e1 p W to st hs h1 h2 h3
      · rw [if_neg e3] at e
        cases e
  rw [if_neg e0] at e
  by_cases e1 : 50 ≤ l
  · rw [if_pos e1] at e
    cases e
  rw [if_neg e1] at e
  by_cases e2 : c t = 50
  · rw [if_pos e2] at e
    by_cases e3 : v t ≤ 1000
    · rw [if_pos e3] at e
      cases e
      rw [Seg_cons] at hs
      simp only [List.length_cons, List.length_nil] at h1 ⊢
      rw [mRf_num hs.1 (hv t) (by omega) (by omega) (by omega)]
      rfl
    · rw [if_neg e3] at e
      cases e
  rw [if_neg e2] at e
  have key : ∀ {n : Int} {t3 l3 : Nat}, 0 ≤ n → n < 60 → (t3, some (l3, (fun W : Int → Int => some (W n)), [8192 + n])) = (t2, some (l2, m2, c2)) → mRf p W to w st = ob (m2 W) (fun x => mRf p W to (w + c2.length) (x :: st)) := by
    intro n t3 l3 n0 n1 q
    cases q
    rw [Seg_cons] at hs
    simp only [List.length_cons, List.length_nil] at h1 ⊢
    rw [mRf_word hs.1 n0 n1 (by omega) (by omega)]
    rfl
  cases o with
  | true =>
    rw [if_pos rfl] at e
    by_cases e3 : c t = 17 ∨ (19 ≤ c t ∧ c t ≤ 21)
    · rw [if_pos e3] at e
      exact key (by unfold ordI; split <;> omega) (by unfold ordI; split <;> omega) e
    rw [if_neg e3] at e
    by_cases e4 : c t = 22 ∨ c t = 23
    · rw [if_pos e4] at e
      by_cases e5 : c (t + 1) = 50 ∧ v (t + 1) ≤ 6
      · rw [if_pos e5] at e
        have v1 := hv (t + 1)
        have v2 := hv (t + 2)
        by_cases e6 : c t = 22
        · rw [if_pos e6] at e
          exact key (by omega) (by omega) e
        rw [if_neg e6] at e
        by_cases e7 : c (t + 2) = 50 ∧ v (t + 2) ≤ 6
        · rw [if_pos e7] at e
          exact key (by omega) (by omega) e
        · rw [if_neg e7] at e
          cases e
      · rw [if_neg e5] at e
        cases e
    · rw [if_neg e4] at e
      cases e
  | false =>
    rw [if_neg (by decide)] at e
    by_cases e3 : 9 ≤ c t ∧ c t ≤ 18
    · rw [if_pos e3] at e
      exact key (by omega) (by omega) e
    · rw [if_neg e3] at e
      cases e
theorem oCmp_in (x : Int) : oCmp x = 0 ∨ (6 ≤ oCmp x ∧ oCmp x ≤ 13) := by
  unfold oCmp
  split
  · omega
  · split
    · omega
    · split <;> omega
theorem RN_pos {D : Nat} {c : Nat → Int} {S : Pr} {T : Option Pr} (hS : RN D S) (hT : ∀ q, T = some q → RN (D + 1) q) : RN (D + 1) (pPos c S T) := by
  intro t l w t2 l2 m2 c2 e p W to st hs h1 h2 h3
  unfold pPos at e
  by_cases e0 : c t = 140
  · rw [if_pos e0] at e
    cases T with
    | none => cases e
    | some s =>
      simp only at e
      rcases e1 : s (t + 1) l w with ⟨t1, _ | ⟨l1, m1, c1⟩⟩
      · rw [e1] at e
        cases e
      rw [e1] at e
      simp only at e
      by_cases e3 : c t1 = 141
      · rw [if_pos e3] at e
        cases e
        exact hT s rfl _ _ _ _ _ _ _ e1 p W to st hs h1 h2 h3
      · rw [if_neg e3] at e
        cases e
  rw [if_neg e0] at e
  rcases e1 : S t l w with ⟨t1, _ | ⟨l1, m1, c1⟩⟩
  · rw [e1] at e
    cases e
  rw [e1] at e
  simp only at e
  by_cases e2 : oCmp (c t1) = 0
  · rw [if_pos e2] at e
    cases e
  rw [if_neg e2] at e
  rcases e3 : S (t1 + 1) l1 (w + c1.length) with ⟨t3, _ | ⟨l3, m3, c3⟩⟩
  · rw [e3] at e
    cases e
  rw [e3] at e
  have ho : 6 ≤ oCmp (c t1) ∧ oCmp (c t1) ≤ 13 := (oCmp_in _).resolve_left e2
  generalize oCmp (c t1) = o at *
  cases e
  rw [Seg_app, Seg_app, Seg_cons] at hs
  obtain ⟨⟨hs1, hs2⟩, hs3, -⟩ := hs
  simp only [List.length_append, List.length_cons, List.length_nil] at h1 hs3 ⊢
  rw [hS _ _ _ _ _ _ _ e1 p W to st hs1 (by omega) h2 (by omega)]
  cases hx : m1 W with
  | none => rw [ob_n, mOp_n hx, ob_n]
  | some x =>
    rw [ob_s, mOp_a hx ho.1, hS _ _ _ _ _ _ _ e3 p W to (x :: st) hs2 (by omega) h2 (by rw [List.length_cons]; omega)]
    cases hy : m3 W with
    | none => rfl
    | some y =>
      rw [ob_s, ob_s, mRf_op (by rw [show w + c1.length + c3.length = w + (c1.length + c3.length) by omega]; exact hs3) ho.1 ho.2 (by omega), show w + c1.length + c3.length + 1 = w + (c1.length + c3.length + (0 + 1)) by omega]
theorem RN_plain {D : Nat} {c : Nat → Int} {S : Pr} {T : Option Pr} (hS : RN D S) (hT : ∀ q, T = some q → RN (D + 1) q) : RN (D + 1) (pPlain c S T) := by
  intro t l w t2 l2 m2 c2 e p W to st hs h1 h2 h3
  unfold pPlain pNeg at e
  rcases e1 : pPos c S T (t + nNot c 400 t) l w with ⟨t1, _ | ⟨l1, m1, c1⟩⟩
  · rw [e1] at e
    split at e <;> cases e
  rw [e1] at e
  have hp := RN_pos hS hT _ _ _ _ _ _ _ e1
  split at e
  · cases e
    rw [Seg_app, Seg_cons] at hs
    simp only [List.length_append, List.length_cons, List.length_nil] at h1 ⊢
    rw [hp p W to st hs.1 (by omega) h2 h3]
    unfold mNot
    cases hx : m1 W with
    | none => rfl
    | some x =>
      rw [ob_s, ob_s, ob_s, mRf_not hs.2.1 (by omega), show w + c1.length + 1 = w + (c1.length + (0 + 1)) by omega]
  · cases e
    exact hp p W to st hs h1 h2 h3
theorem oTerm_ok : okOp oTerm false := fun x => by
  simp only [Bool.false_eq_true, if_false]
  unfold oTerm
  split
  · omega
  · split
    · omega
    · split <;> omega
theorem oSum_ok : okOp oSum false := fun x => by
  simp only [Bool.false_eq_true, if_false]
  unfold oSum
  split
  · omega
  · split <;> omega
theorem oBoth_ok : okOp oBoth true := fun x => by
  simp only [if_true]
  unfold oBoth
  split <;> omega
theorem oTest_ok : okOp oTest true := fun x => by
  simp only [if_true]
  unfold oTest
  split <;> omega
theorem RN_mkS {D : Nat} {o : Bool} {c v : Nat → Int} {S : Option Pr} (hv : ∀ t, 0 ≤ v t) (hD : 1 ≤ D) (h : ∀ s, S = some s → RN D s) : RN (D + 2) (mkS o c v S) := RN_row (RN_row (RN_part hv hD h) oTerm_ok) oSum_ok
theorem RN_mkT {D : Nat} {c : Nat → Int} {S : Pr} {T : Option Pr} (hS : RN D S) (hT : ∀ q, T = some q → RN (D + 1) q) : RN (D + 3) (mkT c S T) := RN_row (RN_row (RN_plain hS hT) oBoth_ok) oTest_ok
theorem RN_S {o : Bool} {c v : Nat → Int} (hv : ∀ t, 0 ≤ v t) : ∀ k, RN (2 * k + 3) (lvS o c v k)
  | 0 => RN_mkS hv (Nat.le_refl 1) (fun s h => by cases h)
  | k + 1 => by
    rw [lvS]
    exact RN_mkS (D := 2 * k + 3) hv (by omega) (fun s h => by cases h; exact RN_S hv k)
theorem RN_T {o : Bool} {c v : Nat → Int} (hv : ∀ t, 0 ≤ v t) : ∀ k, RN (2 * k + 6) (lvT o c v k)
  | 0 => RN_mkT (D := 3) (RN_S hv 0) (fun q h => by cases h)
  | k + 1 => by
    rw [lvT]
    exact (RN_mkT (D := 2 * k + 5) (RN_S hv (k + 1)) (fun q h => by cases h; exact RN_T hv k)).mo (by omega)


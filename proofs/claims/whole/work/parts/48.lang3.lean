/-! a parse goes on; how long its code is -/
def NT (c : Nat → Int) : Nat → Nat
  | 0 => 0
  | t + 1 => NT c t + (if c t = 8 then 1 else 0)
theorem NT_mono {c : Nat → Int} {t : Nat} : ∀ k, NT c t ≤ NT c (t + k)
  | 0 => Nat.le_refl _
  | k + 1 => by
    have := NT_mono (c := c) (t := t) k
    rw [show t + (k + 1) = t + k + 1 by omega, NT]
    omega
theorem NT_le {c : Nat → Int} {t u : Nat} (h : t ≤ u) : NT c t ≤ NT c u := by
  have := NT_mono (c := c) (t := t) (u - t)
  rwa [show t + (u - t) = u by omega] at this
theorem nNot_NT {c : Nat → Int} : ∀ (f t : Nat), NT c (t + nNot c f t) = NT c t + nNot c f t
  | 0, t => by simp [nNot]
  | f + 1, t => by
    rw [nNot]
    split
    · next h =>
      have := nNot_NT (c := c) f (t + 1)
      rw [show t + (nNot c f (t + 1) + 1) = t + 1 + nNot c f (t + 1) by omega, this, NT, if_pos h]
      omega
    · simp
theorem nNot_N {c : Nat → Int} {N : Nat} (hN : ∀ u, N ≤ u → c u = 0) : ∀ (f t : Nat), t ≤ N → t + nNot c f t ≤ N
  | 0, t, h => by simpa [nNot] using h
  | f + 1, t, h => by
    rw [nNot]
    split
    · next h2 =>
      have h3 : t < N := by
        rcases Nat.lt_or_ge t N with q | q
        · exact q
        · rw [hN t q] at h2
          cases h2
      have := nNot_N hN f (t + 1) (by omega)
      omega
    · omega
theorem zNlt {c : Nat → Int} {N t : Nat} (hN : ∀ u, N ≤ u → c u = 0) (h : c t ≠ 0) : t < N := by
  rcases Nat.lt_or_ge t N with q | q
  · exact q
  · exact absurd (hN t q) h
/-- it goes on, within the row; its code is short -/
def PG (c : Nat → Int) (N : Nat) (pp : Pr) : Prop := ∀ t l w, l ≤ 50 → t ≤ N → (∀ t1, pp t l w = (t1, none) → t ≤ t1 ∧ t1 ≤ N) ∧ ∀ t1 l1 m cd, pp t l w = (t1, some (l1, m, cd)) → t < t1 ∧ t1 ≤ N ∧ l < l1 ∧ l1 ≤ 50 ∧ cd.length + 1 + NT c t + 2 * l ≤ 2 * l1 + NT c t1
theorem PG_loop {c : Nat → Int} {N : Nat} {pp : Pr} {op : Int → Int} {j : Bool} (hN : ∀ u, N ≤ u → c u = 0) (h0 : op 0 = 0) (h : PG c N pp) : ∀ (f : Nat) (m : Mn) (t l w : Nat), l ≤ 50 → t ≤ N → (∀ t1, pLoop c op j pp f m t l w = (t1, none) → t ≤ t1 ∧ t1 ≤ N) ∧ ∀ t1 l1 m1 cd, pLoop c op j pp f m t l w = (t1, some (l1, m1, cd)) → t ≤ t1 ∧ t1 ≤ N ∧ l ≤ l1 ∧ l1 ≤ 50 ∧ cd.length + NT c t + 2 * l ≤ 2 * l1 + NT c t1
  | 0, m, t, l, w, hl, ht => by
    rw [pLoop]
    refine ⟨fun t1 e => ?_, fun t1 l1 m1 cd e => ?_⟩
    · cases e
    · cases e
      simp [hl, ht]
      omega
  | f + 1, m, t, l, w, hl, ht => by
    rw [pLoop]
    by_cases e0 : op (c t) = 0
    · rw [if_pos e0]
      refine ⟨fun t1 e => ?_, fun t1 l1 m1 cd e => ?_⟩
      · cases e
      · cases e
        simp [hl, ht]
        omega
    rw [if_neg e0]
    have hlt : t < N := zNlt hN (fun q => e0 (by rw [q]; exact h0))
    have hp := h (t + 1) l (if j = true then w + 1 else w) hl hlt
    have hmo := NT_mono (c := c) (t := t) 1
    rcases e1 : pp (t + 1) l (if j = true then w + 1 else w) with ⟨t1, _ | ⟨l1, m1, c1⟩⟩
    · simp only
      have := hp.1 _ e1
      refine ⟨fun t2 e => ?_, fun t2 l2 m2 cd e => ?_⟩
      · cases e
        omega
      · cases e
    · simp only
      have h1 := hp.2 _ _ _ _ e1
      have h2 := PG_loop (j := j) hN h0 h f (mOp (op (c t)) m m1) t1 l1 (w + c1.length + 1) h1.2.2.2.1 h1.2.1
      rcases e2 : pLoop c op j pp f (mOp (op (c t)) m m1) t1 l1 (w + c1.length + 1) with ⟨t3, _ | ⟨l3, m3, c3⟩⟩
      · simp only
        have := h2.1 _ e2
        refine ⟨fun t2 e => ?_, fun t2 l2 m2 cd e => ?_⟩
        · cases e
          omega
        · cases e
      · simp only
        have h4 := h2.2 _ _ _ _ e2
        refine ⟨fun t2 e => ?_, fun t2 l2 m2 cd e => ?_⟩
        · cases e
        · cases e
          refine ⟨by omega, by omega, by omega, by omega, ?_⟩
          rw [List.length_append]
          split
          · rw [List.length_cons]
            omega
          · rw [List.length_append, List.length_cons, List.length_nil]
            omega
theorem PG_row {c : Nat → Int} {N : Nat} {pp : Pr} {op : Int → Int} {j : Bool} (hN : ∀ u, N ≤ u → c u = 0) (h0 : op 0 = 0) (h : PG c N pp) : PG c N (pRow c op j pp) := by
  intro t l w hl ht
  rw [pRow]
  have hp := h t l w hl ht
  rcases e1 : pp t l w with ⟨t1, _ | ⟨l1, m1, c1⟩⟩
  · simp only
    have := hp.1 _ e1
    refine ⟨fun t2 e => ?_, fun t2 l2 m2 cd e => ?_⟩
    · cases e
      omega
    · cases e
  · simp only
    have h1 := hp.2 _ _ _ _ e1
    have h2 := PG_loop (j := j) hN h0 h 400 m1 t1 l1 (w + c1.length) h1.2.2.2.1 h1.2.1
    rcases e2 : pLoop c op j pp 400 m1 t1 l1 (w + c1.length) with ⟨t3, _ | ⟨l3, m3, c3⟩⟩
    · simp only
      have := h2.1 _ e2
      refine ⟨fun t2 e => ?_, fun t2 l2 m2 cd e => ?_⟩
      · cases e
        omega
      · cases e
    · simp only
      have h4 := h2.2 _ _ _ _ e2
      refine ⟨fun t2 e => ?_, fun t2 l2 m2 cd e => ?_⟩
      · cases e
      · cases e
        rw [List.length_append]
        omega
theorem PG_part {o : Bool} {c v : Nat → Int} {N : Nat} {S : Option Pr} (hN : ∀ u, N ≤ u → c u = 0) (h : ∀ s, S = some s → PG c N s) : PG c N (pPart o c v S) := by
  intro t l w hl ht
  unfold pPart
  have hm1 := NT_mono (c := c) (t := t) 1
  have hm2 := NT_mono (c := c) (t := t) 2
  have hm3 := NT_mono (c := c) (t := t) 3
  have one : ∀ {k : Nat} {m : Mn} {x : Int}, 1 ≤ k → k ≤ 3 → t + k ≤ N → ¬ 50 ≤ l → (∀ t1, (t + k, some (l + 1, m, [x])) = (t1, none) → t ≤ t1 ∧ t1 ≤ N) ∧ ∀ t1 l1 m1 cd, (t + k, some (l + 1, m, [x])) = (t1, some (l1, m1, cd)) → t < t1 ∧ t1 ≤ N ∧ l < l1 ∧ l1 ≤ 50 ∧ cd.length + 1 + NT c t + 2 * l ≤ 2 * l1 + NT c t1 := by
    intro k m x k1 k3 hk hl2
    refine ⟨fun t1 e => (by cases e), fun t1 l1 m1 cd e => ?_⟩
    cases e
    have : NT c t ≤ NT c (t + k) := NT_mono k
    simp only [List.length_cons, List.length_nil]
    omega
  have non : ∀ {k : Nat}, t + k ≤ N → (∀ t1, ((t + k, none) : PrR) = (t1, none) → t ≤ t1 ∧ t1 ≤ N) ∧ ∀ t1 l1 m1 cd, ((t + k, none) : PrR) = (t1, some (l1, m1, cd)) → t < t1 ∧ t1 ≤ N ∧ l < l1 ∧ l1 ≤ 50 ∧ cd.length + 1 + NT c t + 2 * l ≤ 2 * l1 + NT c t1 := by
    intro k hk
    refine ⟨fun t1 e => ?_, fun t1 l1 m1 cd e => (by cases e)⟩
    cases e
    omega
  by_cases e0 : c t = 191
  · rw [if_pos e0]
    have hlt : t < N := zNlt hN (by omega)
    cases S with
    | none => exact non (k := 0) (by omega)
    | some s =>
      simp only
      have hp := h s rfl (t + 1) l w hl (by omega)
      rcases e1 : s (t + 1) l w with ⟨t1, _ | ⟨l1, m1, c1⟩⟩
      · simp only
        have := hp.1 _ e1
        refine ⟨fun t2 e => ?_, fun t2 l2 m2 cd e => ?_⟩
        · cases e
          omega
        · cases e
      · simp only
        have h1 := hp.2 _ _ _ _ e1
        by_cases e3 : c t1 = 193
        · rw [if_pos e3]
          have hlt1 : t1 < N := zNlt hN (by omega)
          have := NT_mono (c := c) (t := t1) 1
          refine ⟨fun t2 e => ?_, fun t2 l2 m2 cd e => ?_⟩
          · cases e
          · cases e
            omega
        · rw [if_neg e3]
          refine ⟨fun t2 e => ?_, fun t2 l2 m2 cd e => ?_⟩
          · cases e
            omega
          · cases e
  rw [if_neg e0]
  by_cases e1 : 50 ≤ l
  · rw [if_pos e1]
    exact non (k := 0) (by omega)
  rw [if_neg e1]
  by_cases e2 : c t = 50
  · rw [if_pos e2]
    have hlt : t < N := zNlt hN (by omega)
    split
    · exact one (k := 1) (by omega) (by omega) (by omega) e1
    · exact non (k := 0) (by omega)
  rw [if_neg e2]
  cases o with
  | true =>
    rw [if_pos rfl]
    by_cases e3 : c t = 17 ∨ (19 ≤ c t ∧ c t ≤ 21)
    · rw [if_pos e3]
      have hlt : t < N := zNlt hN (by omega)
      exact one (k := 1) (by omega) (by omega) (by omega) e1
    rw [if_neg e3]
    by_cases e4 : c t = 22 ∨ c t = 23
    · rw [if_pos e4]
      have hlt : t < N := zNlt hN (by omega)
      by_cases e5 : c (t + 1) = 50 ∧ v (t + 1) ≤ 6
      · rw [if_pos e5]
        have hlt1 : t + 1 < N := zNlt hN (by omega)
        by_cases e6 : c t = 22
        · rw [if_pos e6]
          exact one (k := 2) (by omega) (by omega) (by omega) e1
        rw [if_neg e6]
        by_cases e7 : c (t + 2) = 50 ∧ v (t + 2) ≤ 6
        · rw [if_pos e7]
          have hlt2 : t + 2 < N := zNlt hN (by omega)
          exact one (k := 3) (by omega) (by omega) (by omega) e1
        · rw [if_neg e7]
          exact non (k := 2) (by omega)
      · rw [if_neg e5]
        exact non (k := 1) (by omega)
    · rw [if_neg e4]
      exact non (k := 0) (by omega)
  | false =>
    rw [if_neg (by decide)]
    by_cases e3 : 9 ≤ c t ∧ c t ≤ 18
    · rw [if_pos e3]
      have hlt : t < N := zNlt hN (by omega)
      exact one (k := 1) (by omega) (by omega) (by omega) e1
    · rw [if_neg e3]
      exact non (k := 0) (by omega)
theorem PG_pos {c : Nat → Int} {N : Nat} {S : Pr} {T : Option Pr} (hN : ∀ u, N ≤ u → c u = 0) (hS : PG c N S) (hT : ∀ q, T = some q → PG c N q) : PG c N (pPos c S T) := by
  intro t l w hl ht
  unfold pPos
  have hm1 := NT_mono (c := c) (t := t) 1
  by_cases e0 : c t = 140
  · rw [if_pos e0]
    have hlt : t < N := zNlt hN (by omega)
    cases T with
    | none =>
      refine ⟨fun t2 e => ?_, fun t2 l2 m2 cd e => ?_⟩
      · cases e
        omega
      · cases e
    | some s =>
      simp only
      have hp := hT s rfl (t + 1) l w hl (by omega)
      rcases e1 : s (t + 1) l w with ⟨t1, _ | ⟨l1, m1, c1⟩⟩
      · simp only
        have := hp.1 _ e1
        refine ⟨fun t2 e => ?_, fun t2 l2 m2 cd e => ?_⟩
        · cases e
          omega
        · cases e
      · simp only
        have h1 := hp.2 _ _ _ _ e1
        by_cases e3 : c t1 = 141
        · rw [if_pos e3]
          have hlt1 : t1 < N := zNlt hN (by omega)
          have := NT_mono (c := c) (t := t1) 1
          refine ⟨fun t2 e => ?_, fun t2 l2 m2 cd e => ?_⟩
          · cases e
          · cases e
            omega
        · rw [if_neg e3]
          refine ⟨fun t2 e => ?_, fun t2 l2 m2 cd e => ?_⟩
          · cases e
            omega
          · cases e
  rw [if_neg e0]
  have hp := hS t l w hl ht
  rcases e1 : S t l w with ⟨t1, _ | ⟨l1, m1, c1⟩⟩
  · simp only
    have := hp.1 _ e1
    refine ⟨fun t2 e => ?_, fun t2 l2 m2 cd e => ?_⟩
    · cases e
      omega
    · cases e
  simp only
  have h1 := hp.2 _ _ _ _ e1
  by_cases e2 : oCmp (c t1) = 0
  · rw [if_pos e2]
    refine ⟨fun t2 e => ?_, fun t2 l2 m2 cd e => ?_⟩
    · cases e
      omega
    · cases e
  rw [if_neg e2]
  have hlt1 : t1 < N := zNlt hN (fun q => e2 (by rw [q]; rfl))
  have hm2 := NT_mono (c := c) (t := t1) 1
  have hp2 := hS (t1 + 1) l1 (w + c1.length) h1.2.2.2.1 (by omega)
  rcases e3 : S (t1 + 1) l1 (w + c1.length) with ⟨t3, _ | ⟨l3, m3, c3⟩⟩
  · simp only
    have := hp2.1 _ e3
    refine ⟨fun t2 e => ?_, fun t2 l2 m2 cd e => ?_⟩
    · cases e
      omega
    · cases e
  simp only
  have h3 := hp2.2 _ _ _ _ e3
  refine ⟨fun t2 e => ?_, fun t2 l2 m2 cd e => ?_⟩
  · cases e
  · cases e
    simp only [List.length_append, List.length_cons, List.length_nil]
    omega
theorem PG_plain {c : Nat → Int} {N : Nat} {S : Pr} {T : Option Pr} (hN : ∀ u, N ≤ u → c u = 0) (hS : PG c N S) (hT : ∀ q, T = some q → PG c N q) : PG c N (pPlain c S T) := by
  intro t l w hl ht
  unfold pPlain pNeg
  have hn := nNot_N hN 400 t ht
  have hm := nNot_NT (c := c) 400 t
  have hp := PG_pos hN hS hT (t + nNot c 400 t) l w hl hn
  generalize nNot c 400 t = n at *
  rcases e1 : pPos c S T (t + n) l w with ⟨t1, _ | ⟨l1, m1, c1⟩⟩
  · have := hp.1 _ e1
    split
    · refine ⟨fun t2 e => ?_, fun t2 l2 m2 cd e => ?_⟩
      · cases e
        omega
      · cases e
    · refine ⟨fun t2 e => ?_, fun t2 l2 m2 cd e => ?_⟩
      · cases e
        omega
      · cases e
  · have h1 := hp.2 _ _ _ _ e1
    split
    · refine ⟨fun t2 e => ?_, fun t2 l2 m2 cd e => ?_⟩
      · cases e
      · cases e
        simp only [List.length_append, List.length_cons, List.length_nil]
        omega
    · refine ⟨fun t2 e => ?_, fun t2 l2 m2 cd e => ?_⟩
      · cases e
      · cases e
        omega
theorem PG_mkS {o : Bool} {c v : Nat → Int} {N : Nat} {S : Option Pr} (hN : ∀ u, N ≤ u → c u = 0) (h : ∀ s, S = some s → PG c N s) : PG c N (mkS o c v S) := PG_row hN rfl (PG_row hN rfl (PG_part hN h))
theorem PG_mkT {c : Nat → Int} {N : Nat} {S : Pr} {T : Option Pr} (hN : ∀ u, N ≤ u → c u = 0) (hS : PG c N S) (hT : ∀ q, T = some q → PG c N q) : PG c N (mkT c S T) := PG_row hN rfl (PG_row hN rfl (PG_plain hN hS hT))
theorem PG_S {o : Bool} {c v : Nat → Int} {N : Nat} (hN : ∀ u, N ≤ u → c u = 0) : ∀ k, PG c N (lvS o c v k)
  | 0 => PG_mkS hN (fun s h => by cases h)
  | k + 1 => by
    rw [lvS]
    exact PG_mkS hN (fun s h => by cases h; exact PG_S hN k)
theorem PG_T {o : Bool} {c v : Nat → Int} {N : Nat} (hN : ∀ u, N ≤ u → c u = 0) : ∀ k, PG c N (lvT o c v k)
  | 0 => PG_mkT hN (PG_S hN 0) (fun q h => by cases h)
  | k + 1 => by
    rw [lvT]
    exact PG_mkT hN (PG_S hN (k + 1)) (fun q h => by cases h; exact PG_T hN k)


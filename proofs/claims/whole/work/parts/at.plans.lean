/-! visits in a row: what both sides count -/
noncomputable def ppS (V : List D4) (P : Int → Int) (p : Int) : Nat → Int
  | 0 => 0
  | i + 1 => ppS V P p i + (zit ((dfV V i).1 = p) (P i) 0 - zit ((dfV V i).2.1 = p) (P i) 0)
noncomputable def poS (V : List D4) (P : Int → Int) (h v : Int) : Nat → Int
  | 0 => 0
  | i + 1 => poS V P h v i + zit ((dfV V i).2.1 = h ∧ (dfV V i).1 = v) (P i) 0
noncomputable def puP (A : Lg) (V : List D4) (P : Int → Int) (p : Int) : Int := puA A p + ppS V P p V.length
noncomputable def owP (A : Lg) (V : List D4) (P : Int → Int) (h v : Int) : Int := owL h v A.2.1 - poS V P h v V.length
noncomputable def upF (P : Int → Int) (i x : Int) : Int → Int := fun j => zit (j = i) x (P j)
theorem upF_s {P : Int → Int} {i x : Int} : upF P i x i = x := zit_t rfl
theorem upF_o {P : Int → Int} {i j x : Int} (h : j ≠ i) : upF P i x j = P j := zit_f h
theorem ppS_up {V : List D4} {P : Int → Int} {p x : Int} {i : Nat} (h0 : P i = 0) : ∀ n : Nat, ppS V (upF P i x) p n = ppS V P p n + zit (i < n) (zit ((dfV V i).1 = p) x 0 - zit ((dfV V i).2.1 = p) x 0) 0
  | 0 => by rw [zit_f (show ¬ i < 0 by omega)]; rfl
  | n + 1 => by
    rw [ppS, ppS, ppS_up h0 n]
    by_cases e : n = i
    · subst e
      rw [zit_f (show ¬ n < n by omega), zit_t (show n < n + 1 by omega), upF_s, h0]
      unfold zit
      repeat' split
      all_goals omega
    · rw [upF_o (show (n : Int) ≠ (i : Int) by omega)]
      by_cases c : i < n
      · rw [zit_t c, zit_t (show i < n + 1 by omega)]
        omega
      · rw [zit_f c, zit_f (show ¬ i < n + 1 by omega)]
        omega
theorem poS_up {V : List D4} {P : Int → Int} {h v x : Int} {i : Nat} (h0 : P i = 0) : ∀ n : Nat, poS V (upF P i x) h v n = poS V P h v n + zit (i < n) (zit ((dfV V i).2.1 = h ∧ (dfV V i).1 = v) x 0) 0
  | 0 => by rw [zit_f (show ¬ i < 0 by omega)]; rfl
  | n + 1 => by
    rw [poS, poS, poS_up h0 n]
    by_cases e : n = i
    · subst e
      rw [zit_f (show ¬ n < n by omega), zit_t (show n < n + 1 by omega), upF_s, h0]
      unfold zit
      repeat' split
      all_goals omega
    · rw [upF_o (show (n : Int) ≠ (i : Int) by omega)]
      by_cases c : i < n
      · rw [zit_t c, zit_t (show i < n + 1 by omega)]
        omega
      · rw [zit_f c, zit_f (show ¬ i < n + 1 by omega)]
        omega
theorem ppS_c {V : List D4} {P Q : Int → Int} {p : Int} : ∀ n : Nat, (∀ i : Nat, i < n → P i = Q i) → ppS V P p n = ppS V Q p n
  | 0, _ => rfl
  | n + 1, h => by rw [ppS, ppS, ppS_c n (fun i hi => h i (by omega)), h n (by omega)]
theorem poS_c {V : List D4} {P Q : Int → Int} {a b : Int} : ∀ n : Nat, (∀ i : Nat, i < n → P i = Q i) → poS V P a b n = poS V Q a b n
  | 0, _ => rfl
  | n + 1, h => by rw [poS, poS, poS_c n (fun i hi => h i (by omega)), h n (by omega)]
section ZPL
variable {Z : Zt} {F : Option (List Cls)} {A : Lg} {w : Int → Int} {V : List D4} {P : Int → Int}
theorem puP_up {p x : Int} {i : Nat} (h0 : P i = 0) (hi : i < V.length) : puP A V (upF P i x) p = puP A V P p + (zit ((dfV V i).1 = p) x 0 - zit ((dfV V i).2.1 = p) x 0) := by
  unfold puP
  rw [ppS_up h0, zit_t hi]
  omega
theorem owP_up {h v x : Int} {i : Nat} (h0 : P i = 0) (hi : i < V.length) : owP A V (upF P i x) h v = owP A V P h v - zit ((dfV V i).2.1 = h ∧ (dfV V i).1 = v) x 0 := by
  unfold owP
  rw [poS_up h0, zit_t hi]
  omega
noncomputable def plX (A : Lg) (V : List D4) (P : Int → Int) (i : Int) : Int := min (min (dfV V i).2.2.2 (min (puP A V P (dfV V i).2.1) (9999 - puP A V P (dfV V i).1))) (owP A V P (dfV V i).2.1 (dfV V i).1)
noncomputable def plD (Z : Zt) (F : Option (List Cls)) (A : Lg) (w : Int → Int) (V : List D4) (P : Int → Int) (i : Int) : Prop := (dfV V i).2.2.1 ≤ dpA Z F A w (dfV V i).2.1 (dfV V i).1 (owP A V P (dfV V i).2.1 (dfV V i).1) (owP A V P (dfV V i).1 (dfV V i).2.1)
def okQ (A : Lg) (V : List D4) (P : Int → Int) : Prop := (∀ p : Int, 0 ≤ p → p < 7 → 0 ≤ puP A V P p ∧ puP A V P p ≤ 9999) ∧ ∀ h v : Int, 0 ≤ h → h < 7 → 0 ≤ v → v < 7 → h ≠ v → 0 ≤ owP A V P h v ∧ owP A V P h v ≤ 159984
theorem plX_in {i : Nat} (hQ : okQ A V P) (hV : ∀ x, x ∈ V → ok4 999 x) (hi : i < V.length) : (0 ≤ plX A V P i ∧ plX A V P i ≤ (dfV V i).2.2.2) ∧ (plX A V P i ≤ puP A V P (dfV V i).2.1 ∧ plX A V P i ≤ 9999 - puP A V P (dfV V i).1) ∧ plX A V P i ≤ owP A V P (dfV V i).2.1 (dfV V i).1 := by
  obtain ⟨o1, o2, o3, o4, o5⟩ := hV _ (List.mem_of_getElem? (dfV_m (V := V) (k := i) (by omega) (by omega)))
  have h1 := hQ.1 (dfV V i).2.1 (by omega) (by omega)
  have h2 := hQ.1 (dfV V i).1 (by omega) (by omega)
  have h3 := hQ.2 (dfV V i).2.1 (dfV V i).1 (by omega) (by omega) (by omega) (by omega) (fun q => o3 q.symm)
  unfold plX
  omega
theorem okQ_up {i : Nat} (hQ : okQ A V P) (hV : ∀ x, x ∈ V → ok4 999 x) (hi : i < V.length) (h0 : P i = 0) : okQ A V (upF P i (plX A V P i)) := by
  obtain ⟨h1, h2, h3⟩ := plX_in hQ hV hi
  obtain ⟨o1, o2, o3, o4, o5⟩ := hV _ (List.mem_of_getElem? (dfV_m (V := V) (k := i) (by omega) (by omega)))
  generalize plX A V P i = x at *
  refine ⟨fun p p0 p1 => ?_, fun h v a b c e g => ?_⟩
  · rw [puP_up h0 hi]
    have := hQ.1 p p0 p1
    unfold zit
    split
    · next e1 =>
      rw [e1] at h2
      split <;> omega
    · split
      · next e2 =>
        rw [e2] at h2
        omega
      · omega
  · rw [owP_up h0 hi]
    have := hQ.2 h v a b c e g
    unfold zit
    split
    · next e1 =>
      rw [e1.1, e1.2] at h3
      omega
    · omega
def oOr {α : Type} (a b : Option α) : Option α := match a with
  | some x => some x
  | none => b
noncomputable def plC (Z : Zt) (F : Option (List Cls)) (A : Lg) (w : Int → Int) (V : List D4) (used : Nat) (P : Int → Int) (j : Nat) : Prop := ¬ zbit (used : Int) (j : Int) ∧ plD Z F A w V P j
noncomputable def plJ (Z : Zt) (F : Option (List Cls)) (A : Lg) (w : Int → Int) (V : List D4) (g : Nat → (Int → Int) → Int × Option (List Nat)) (used : Nat) (P : Int → Int) : Nat → Int × Option (List Nat)
  | 0 => (0, none)
  | j + 1 => @ite (Int × Option (List Nat)) (plC Z F A w V used P j) (Classical.propDecidable _) ((plJ Z F A w V g used P j).1 + (g (used + 2 ^ j) (upF P j (plX A V P j))).1, oOr (plJ Z F A w V g used P j).2 ((g (used + 2 ^ j) (upF P j (plX A V P j))).2.map (fun l => j :: l))) (plJ Z F A w V g used P j)
noncomputable def plN (Z : Zt) (F : Option (List Cls)) (A : Lg) (w : Int → Int) (V : List D4) : Nat → Nat → (Int → Int) → Int × Option (List Nat)
  | 0, _, _ => (1, some [])
  | f + 1, used, P => plJ Z F A w V (plN Z F A w V f) used P V.length
theorem plJ_y {g : Nat → (Int → Int) → Int × Option (List Nat)} {used j : Nat} (h : plC Z F A w V used P j) : plJ Z F A w V g used P (j + 1) = ((plJ Z F A w V g used P j).1 + (g (used + 2 ^ j) (upF P j (plX A V P j))).1, oOr (plJ Z F A w V g used P j).2 ((g (used + 2 ^ j) (upF P j (plX A V P j))).2.map (fun l => j :: l))) := by
  rw [plJ, if_pos h]
theorem plJ_n {g : Nat → (Int → Int) → Int × Option (List Nat)} {used j : Nat} (h : ¬ plC Z F A w V used P j) : plJ Z F A w V g used P (j + 1) = plJ Z F A w V g used P j := by
  rw [plJ, if_neg h]
def plK (M : Int) (f : Nat) (x : Int × Option (List Nat)) : Prop := (0 ≤ x.1 ∧ x.1 ≤ M) ∧ (x.1 = 0 ↔ x.2 = none) ∧ ∀ l, x.2 = some l → l.length = f
theorem plJ_in {g : Nat → (Int → Int) → Int × Option (List Nat)} {used f : Nat} {M : Int} (hM : 0 ≤ M) (hg : ∀ u Q, plK M f (g u Q)) : ∀ j : Nat, plK (M * j) (f + 1) (plJ Z F A w V g used P j)
  | 0 => ⟨⟨Int.le_refl _, by simp [plJ]⟩, ⟨fun _ => rfl, fun _ => rfl⟩, fun l e => by cases e⟩
  | j + 1 => by
    have ih := plJ_in (used := used) hM hg j
    have e1 : M * ((j + 1 : Nat) : Int) = M * j + M := by rw [Int.natCast_succ, Int.mul_add, Int.mul_one]
    by_cases c : plC Z F A w V used P j
    · rw [plJ_y c]
      obtain ⟨g1, g2, g3⟩ := hg (used + 2 ^ j) (upF P j (plX A V P j))
      obtain ⟨i1, i2, i3⟩ := ih
      generalize plJ Z F A w V g used P j = X at *
      generalize g (used + 2 ^ j) (upF P j (plX A V P j)) = Y at *
      refine ⟨⟨by show 0 ≤ X.1 + Y.1; omega, by show X.1 + Y.1 ≤ _; omega⟩, ?_, fun l e => ?_⟩
      · show X.1 + Y.1 = 0 ↔ oOr X.2 (Y.2.map _) = none
        rcases hX : X.2 with _ | lx
        · have := i2.mpr hX
          rcases hY : Y.2 with _ | ly
          · have := g2.mpr hY
            exact ⟨fun _ => rfl, fun _ => by omega⟩
          · have : ¬ Y.1 = 0 := fun q => by rw [g2.mp q] at hY; cases hY
            exact ⟨fun q => by omega, fun q => by cases q⟩
        · have : ¬ X.1 = 0 := fun q => by rw [i2.mp q] at hX; cases hX
          exact ⟨fun q => by omega, fun q => by cases q⟩
      · have e : oOr X.2 (Y.2.map (fun l => j :: l)) = some l := e
        rcases hX : X.2 with _ | lx
        · rw [hX] at e
          rcases hY : Y.2 with _ | ly
          · rw [hY] at e
            cases e
          · rw [hY] at e
            cases e
            rw [List.length_cons, g3 ly hY]
        · rw [hX] at e
          cases e
          exact i3 _ hX
    · rw [plJ_n c]
      exact ⟨⟨ih.1.1, by have := ih.1.2; omega⟩, ih.2⟩
theorem plN_in (hV : V.length ≤ 8) : ∀ (f used : Nat) (P : Int → Int), plK ((8 ^ f : Nat) : Int) f (plN Z F A w V f used P)
  | 0, used, P => ⟨⟨by simp [plN], by simp [plN]⟩, ⟨fun q => (by cases q), fun q => (by cases q)⟩, fun l e => (by cases e; rfl)⟩
  | f + 1, used, P => by
    have h := plJ_in (Z := Z) (F := F) (A := A) (w := w) (V := V) (used := used) (P := P) (f := f) (M := ((8 ^ f : Nat) : Int)) (Int.natCast_nonneg _) (fun u Q => plN_in hV f u Q) V.length
    have h2 : ((8 ^ f : Nat) : Int) * (V.length : Int) ≤ ((8 ^ (f + 1) : Nat) : Int) := by
      have : 8 ^ f * V.length ≤ 8 ^ (f + 1) := by
        rw [Nat.pow_succ]
        exact Nat.mul_le_mul_left _ hV
      exact_mod_cast this
    exact ⟨⟨h.1.1, Int.le_trans h.1.2 h2⟩, h.2⟩
/-- only what was paid for counts -/
def eqQ (P Q : Int → Int) : Prop := ∀ i : Int, 0 ≤ i → i < 8 → P i = Q i
theorem eqQ_p {Q : Int → Int} (hV : V.length ≤ 8) (h : eqQ P Q) : (∀ p, puP A V P p = puP A V Q p) ∧ ∀ a b, owP A V P a b = owP A V Q a b := by
  have : ∀ i : Nat, i < V.length → P i = Q i := fun i hi => h i (by omega) (by omega)
  exact ⟨fun p => by unfold puP; rw [ppS_c _ this], fun a b => by unfold owP; rw [poS_c _ this]⟩
theorem plX_c {Q : Int → Int} (hV : V.length ≤ 8) (h : eqQ P Q) (i : Int) : plX A V P i = plX A V Q i ∧ (plD Z F A w V P i ↔ plD Z F A w V Q i) := by
  have e := eqQ_p (A := A) hV h
  refine ⟨?_, ?_⟩
  · unfold plX
    rw [e.1, e.1, e.2]
  · unfold plD
    rw [e.2, e.2]
theorem plJ_c {g : Nat → (Int → Int) → Int × Option (List Nat)} {used : Nat} {Q : Int → Int} (hV : V.length ≤ 8) (h : eqQ P Q) (hg : ∀ u R S, eqQ R S → g u R = g u S) : ∀ j : Nat, plJ Z F A w V g used P j = plJ Z F A w V g used Q j
  | 0 => rfl
  | j + 1 => by
    have ih := plJ_c (used := used) hV h hg j
    have hx := plX_c (Z := Z) (F := F) (A := A) (w := w) hV h j
    have hu : eqQ (upF P j (plX A V P j)) (upF Q j (plX A V Q j)) := fun i a b => by
      unfold upF
      rw [hx.1, h i a b]
    by_cases c : plC Z F A w V used P j
    · rw [plJ_y c, plJ_y (show plC Z F A w V used Q j from ⟨c.1, hx.2.mp c.2⟩), ih, hg _ _ _ hu]
    · rw [plJ_n c, plJ_n (fun q : plC Z F A w V used Q j => c ⟨q.1, hx.2.mpr q.2⟩), ih]
theorem plN_c (hV : V.length ≤ 8) : ∀ (f used : Nat) (P Q : Int → Int), eqQ P Q → plN Z F A w V f used P = plN Z F A w V f used Q
  | 0, _, _, _, _ => rfl
  | f + 1, used, P, Q, h => plJ_c hV h (fun u R S e => plN_c hV f u R S e) V.length
end ZPL


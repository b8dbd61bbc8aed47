/-! what deeds do to a ledger -/
def ok0 (x : D4) : Prop := (0 ≤ x.1 ∧ x.1 < 7) ∧ (0 ≤ x.2.1 ∧ x.2.1 < 7) ∧ x.1 ≠ x.2.1 ∧ (0 ≤ x.2.2.1 ∧ x.2.2.1 ≤ 9999) ∧ 0 ≤ x.2.2.2 ∧ x.2.2.2 ≤ 999
theorem okd.z {x : D4} (h : okd x) : ok0 x := ⟨h.1, h.2.1, h.2.2.1, by have := h.2.2.2.1; omega, h.2.2.2.2⟩
theorem lsL_ok {f t : Int} : ∀ {r : Int} {l : List D4}, 0 ≤ r → (∀ x, x ∈ l → ok0 x) → (lsL f t r l).length = l.length ∧ ∀ x, x ∈ lsL f t r l → ok0 x
  | _, [], _, _ => ⟨rfl, fun x hx => by cases hx⟩
  | r, (a, b, m, s) :: l, hr, h => by
    have h1 := h (a, b, m, s) List.mem_cons_self
    have h2 : ∀ x, x ∈ l → ok0 x := fun x hx => h x (List.mem_cons_of_mem _ hx)
    have hm := h1.2.2.2.1
    simp only at hm
    rw [lsL]
    split
    · have ih := lsL_ok (f := f) (t := t) (r := r - min r m) (l := l) (by omega) h2
      refine ⟨by rw [List.length_cons, List.length_cons, ih.1], fun x hx => ?_⟩
      rcases List.mem_cons.mp hx with rfl | hx
      · exact ⟨h1.1, h1.2.1, h1.2.2.1, by show 0 ≤ m - min r m ∧ m - min r m ≤ 9999; omega, h1.2.2.2.2⟩
      · exact ih.2 x hx
    · have ih := lsL_ok (f := f) (t := t) (r := r) (l := l) hr h2
      refine ⟨by rw [List.length_cons, List.length_cons, ih.1], fun x hx => ?_⟩
      rcases List.mem_cons.mp hx with rfl | hx
      · exact h1
      · exact ih.2 x hx
theorem dpL_ok {l : List D4} (h : ∀ x, x ∈ l → ok0 x) : (dpL l).length ≤ l.length ∧ ∀ x, x ∈ dpL l → okd x := by
  refine ⟨List.length_filter_le _ _, fun x hx => ?_⟩
  unfold dpL at hx
  rw [List.mem_filter, decide_eq_true_iff] at hx
  have := h x hx.1
  exact ⟨this.1, this.2.1, this.2.2.1, by have := this.2.2.2.1; omega, this.2.2.2.2⟩
theorem okL_low {f t r : Int} {l : List D4} (h : okL l) (hr : 0 ≤ r) : okL (dpL (lsL f t r l)) := by
  have h1 := lsL_ok (f := f) (t := t) (r := r) (l := l) hr (fun x hx => (h.2 x hx).z)
  have h2 := dpL_ok h1.2
  exact ⟨by have := h.1; omega, h2.2⟩
theorem owL_dp {a b : Int} : ∀ {l : List D4}, (∀ x, x ∈ l → ok0 x) → owL a b (dpL l) = owL a b l
  | [], _ => rfl
  | (p, q, m, s) :: l, h => by
    have h1 := (h (p, q, m, s) List.mem_cons_self).2.2.2.1
    simp only at h1
    have ih := owL_dp (a := a) (b := b) (l := l) (fun x hx => h x (List.mem_cons_of_mem _ hx))
    unfold dpL at *
    rw [List.filter_cons]
    by_cases c : 0 < m
    · rw [if_pos (decide_eq_true c), owL, owL, ih]
    · rw [if_neg (by simpa using c), owL, ih]
      split <;> omega
theorem owL_ls {f t a b : Int} : ∀ {r : Int} {l : List D4}, 0 ≤ r → (∀ x, x ∈ l → ok0 x) → 0 ≤ owL a b l ∧ owL a b (lsL f t r l) = if a = f ∧ b = t then owL a b l - min r (owL a b l) else owL a b l
  | r, [], hr, _ => by
    refine ⟨Int.le_refl _, ?_⟩
    show (0 : Int) = if a = f ∧ b = t then 0 - min r 0 else 0
    split <;> omega
  | r, (p, q, m, s) :: l, hr, h => by
    have h1 := (h (p, q, m, s) List.mem_cons_self).2.2.2.1
    simp only at h1
    have h2 : ∀ x, x ∈ l → ok0 x := fun x hx => h x (List.mem_cons_of_mem _ hx)
    have e0 : owL a b ((p, q, m, s) :: l) = (if p = a ∧ q = b then m else 0) + owL a b l := by rw [owL]
    by_cases c : p = f ∧ q = t
    · obtain ⟨i1, i2⟩ := owL_ls (f := f) (t := t) (a := a) (b := b) (r := r - min r m) (l := l) (by omega) h2
      have e1 : owL a b ((p, q, m - min r m, s) :: lsL f t (r - min r m) l) = (if p = a ∧ q = b then m - min r m else 0) + owL a b (lsL f t (r - min r m) l) := by rw [owL]
      rw [lsL, if_pos c, e1, i2, e0]
      by_cases c2 : a = f ∧ b = t
      · have c3 : p = a ∧ q = b := ⟨c.1.trans c2.1.symm, c.2.trans c2.2.symm⟩
        rw [if_pos c2, if_pos c2, if_pos c3, if_pos c3]
        omega
      · have c3 : ¬ (p = a ∧ q = b) := fun z => c2 ⟨z.1.symm.trans c.1, z.2.symm.trans c.2⟩
        rw [if_neg c2, if_neg c2, if_neg c3, if_neg c3]
        omega
    · obtain ⟨i1, i2⟩ := owL_ls (f := f) (t := t) (a := a) (b := b) (r := r) (l := l) hr h2
      have e1 : owL a b ((p, q, m, s) :: lsL f t r l) = (if p = a ∧ q = b then m else 0) + owL a b (lsL f t r l) := by rw [owL]
      rw [lsL, if_neg c, e1, i2, e0]
      by_cases c2 : a = f ∧ b = t
      · have c3 : ¬ (p = a ∧ q = b) := fun z => c ⟨z.1.trans c2.1, z.2.trans c2.2⟩
        rw [if_pos c2, if_pos c2, if_neg c3]
        omega
      · rw [if_neg c2, if_neg c2]
        split <;> omega
theorem owL_low {f t r a b : Int} {l : List D4} (h : okL l) (hr : 0 ≤ r) : owL a b (dpL (lsL f t r l)) = if a = f ∧ b = t then owL a b l - min r (owL a b l) else owL a b l := by
  have h1 := lsL_ok (f := f) (t := t) (r := r) (l := l) hr (fun x hx => (h.2 x hx).z)
  rw [owL_dp h1.2, (owL_ls hr (fun x hx => (h.2 x hx).z)).2]
theorem CTx.up {μ μ' : zMem} {Z : Zt} {F : Option (List Cls)} {A A' : Lg} {w : Int → Int} (h : CTx μ Z F A w) (hA : okA A') (hl : lgO μ' 2 = A') (h0 : 0 ≤ μ' 2 5) (hf : ∀ c : Nat, (c = 1 ∨ 8 ≤ c ∧ c ≤ 9 ∨ 29 ≤ c ∧ c < 35) → μ' c = μ c) (hw : wK w (μ' 326)) : CTx μ' Z F A' w := by
  obtain ⟨a, b, c, e, f, g⟩ := h
  exact ⟨a, hA, by rw [hf 1 (by decide), hf 8 (by decide), hf 9 (by decide)]; exact c, ⟨hl, h0⟩, f.c (hf 1 (by decide)) (fun c p q => hf c (by omega)), hw⟩
theorem MTx.up {μ μ' : zMem} {Z : Zt} {F : Option (List Cls)} {A A' : Lg} {w : Int → Int} (h : MTx μ Z F A w) (hA : okA A') (hl : lgM μ' = A') (h0 : 0 ≤ μ' 357 71) (hf : ∀ i : Int, 73 ≤ i → μ' 357 i = μ 357 i) : MTx μ' Z F A' w := by
  obtain ⟨a, b, c, e, f, g⟩ := h
  refine ⟨a, hA, ⟨by rw [hf _ (by decide)]; exact c.1, fun i x y => by rw [hf _ (by omega), hf _ (by omega)]; exact c.2.1 i x y, by rw [hf _ (by decide)]; exact c.2.2⟩, ⟨hl, h0⟩, f.c (fun i x _ => hf i (by omega)), g⟩
theorem CTx.p {μ : zMem} {Z : Zt} {F : Option (List Cls)} {A : Lg} {w : Int → Int} (h : CTx μ Z F A w) : (∀ i : Int, 0 ≤ i → i < 7 → μ 3 i = puA A i) ∧ okP (μ 3) := by
  have h1 : ∀ i : Int, 0 ≤ i → i < 7 → μ 3 i = puA A i := fun i a b => by
    unfold puA
    rw [← h.d.2.2.1, gL_tL a (by omega)]
  exact ⟨h1, fun i a b => by rw [h1 i a b]; exact h.2.1.1 i a b⟩
theorem MTx.p {μ : zMem} {Z : Zt} {F : Option (List Cls)} {A : Lg} {w : Int → Int} (h : MTx μ Z F A w) : (∀ i : Int, 0 ≤ i → i < 7 → μ 357 i = puA A i) ∧ okP (μ 357) := by
  have h1 : ∀ i : Int, 0 ≤ i → i < 7 → μ 357 i = puA A i := fun i a b => by
    unfold puA
    rw [← h.d.2.2.1, gL_tL a (by omega)]
  exact ⟨h1, fun i a b => by rw [h1 i a b]; exact h.2.1.1 i a b⟩
noncomputable def lendA (Z : Zt) (A : Lg) (g t m : Int) : Int := lendC Z.1 (puA A) (A.2.1.length : Int) g t m
noncomputable def mvP (pu : Int → Int) (a b m : Int) : List Int := tL 7 (fun j => zit (j = b) (pu b + m) (zit (j = a) (pu a - m) (pu j)))
noncomputable def ldA (A : Lg) (g t m : Int) : Lg := (mvP (puA A) g t m, A.2.1 ++ [(t, g, m, A.2.2)], A.2.2)
noncomputable def payA (Z : Zt) (A : Lg) (a b m : Int) : Int := payC Z.1 (puA A) A.2.1 a b m
noncomputable def pdA (A : Lg) (a b m : Int) : Lg := (mvP (puA A) a b m, dpL (lsL a b m A.2.1), A.2.2)
theorem lendC_c {n nd g t m : Int} {pu pv : Int → Int} (hn : n ≤ 7) (h : ∀ i : Int, 0 ≤ i → i < 7 → pu i = pv i) : lendC n pu nd g t m = lendC n pv nd g t m := by
  unfold lendC
  by_cases c : (0 ≤ g ∧ g < n) ∧ 0 ≤ t ∧ t < n
  · rw [h g c.1.1 (by omega), h t c.2.1 (by omega)]
  · rw [zit_t c, zit_t c]
theorem payC_c {n a b m : Int} {pu pv : Int → Int} {D : List D4} (hn : n ≤ 7) (h : ∀ i : Int, 0 ≤ i → i < 7 → pu i = pv i) : payC n pu D a b m = payC n pv D a b m ∧ (((0 ≤ a ∧ a < n) ∧ 0 ≤ b ∧ b < n) → muchC pu D a b m = muchC pv D a b m) := by
  have hm : ((0 ≤ a ∧ a < n) ∧ 0 ≤ b ∧ b < n) → muchC pu D a b m = muchC pv D a b m := fun c => by
    unfold muchC
    rw [h a c.1.1 (by omega), h b c.2.1 (by omega)]
  refine ⟨?_, hm⟩
  unfold payC
  by_cases c : (0 ≤ a ∧ a < n) ∧ 0 ≤ b ∧ b < n
  · rw [hm c]
  · rw [zit_t c, zit_t c]
theorem lendC_0 {n nd g t m : Int} {pu : Int → Int} (h : 0 ≤ lendC n pu nd g t m) : (1 ≤ m ∧ m ≤ 9999) ∧ ((0 ≤ g ∧ g < n) ∧ 0 ≤ t ∧ t < n) ∧ g ≠ t ∧ (m ≤ pu g ∧ pu t + m ≤ 9999) ∧ nd < 16 ∧ lendC n pu nd g t m = m := by
  unfold lendC zit at h ⊢
  split at h
  · omega
  · next c1 =>
    split at h
    · omega
    · next c2 =>
      split at h
      · omega
      · next c3 =>
        split at h
        · omega
        · next c4 =>
          rw [if_neg c1, if_neg c2, if_neg c3, if_neg c4]
          exact ⟨Classical.not_not.mp c1, Classical.not_not.mp c2, by omega, by omega, by omega, rfl⟩
theorem payC_0 {n a b m : Int} {pu : Int → Int} {D : List D4} (h : 0 ≤ payC n pu D a b m) : (1 ≤ m ∧ m ≤ 9999) ∧ ((0 ≤ a ∧ a < n) ∧ 0 ≤ b ∧ b < n) ∧ a ≠ b ∧ 0 < muchC pu D a b m ∧ payC n pu D a b m = muchC pu D a b m := by
  unfold payC zit at h ⊢
  split at h
  · omega
  · next c1 =>
    split at h
    · omega
    · next c2 =>
      split at h
      · omega
      · next c3 =>
        rw [if_neg c1, if_neg c2, if_neg c3]
        exact ⟨Classical.not_not.mp c1, Classical.not_not.mp c2, by omega, by omega, rfl⟩
theorem mvP_ok {A : Lg} {a b m : Int} (hA : okA A) (hm : 0 ≤ m) (hab : (0 ≤ a ∧ a < 7) ∧ 0 ≤ b ∧ b < 7) (h1 : m ≤ puA A a) (h2 : puA A b + m ≤ 9999) : ∀ i : Int, 0 ≤ i → i < 7 → 0 ≤ gL 0 (mvP (puA A) a b m) i ∧ gL 0 (mvP (puA A) a b m) i ≤ 9999 := by
  intro i x y
  unfold mvP
  rw [gL_tL x (by omega)]
  have e1 := hA.1 i x y
  have e2 := hA.1 a hab.1.1 hab.1.2
  have e3 := hA.1 b hab.2.1 hab.2.2
  unfold puA at *
  unfold zit
  split
  · omega
  · split <;> omega
theorem ldA_ok {Z : Zt} {A : Lg} {g t m : Int} (hZ : okZ Z) (hA : okA A) (h : 0 ≤ lendA Z A g t m) : okA (ldA A g t m) := by
  obtain ⟨h1, h2, h3, h4, h5, h6⟩ := lendC_0 h
  have hn := hZ.1
  have hd := hA.2.2
  have hx : okd (t, g, m, A.2.2) := by
    refine ⟨?_, ?_, fun q => h3 q.symm, ?_, hd⟩
    · show 0 ≤ t ∧ t < 7
      omega
    · show 0 ≤ g ∧ g < 7
      omega
    · show 1 ≤ m ∧ m ≤ 9999
      omega
  have h7 : A.2.1.length < 16 := by omega
  exact ⟨mvP_ok hA (by omega) (by omega) h4.1 h4.2, hA.2.1.app h7 hx, hd⟩
theorem pdA_ok {Z : Zt} {A : Lg} {a b m : Int} (hZ : okZ Z) (hA : okA A) (h : 0 ≤ payA Z A a b m) : okA (pdA A a b (muchC (puA A) A.2.1 a b m)) := by
  obtain ⟨h1, h2, h3, h4, h5⟩ := payC_0 h
  have hn := hZ.1
  refine ⟨mvP_ok hA (by omega) (by omega) ?_ ?_, okL_low hA.2.1 (by omega), hA.2.2⟩
  · unfold muchC
    omega
  · unfold muchC
    omega


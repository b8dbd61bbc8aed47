/-! the town as both sides ask it: people, rooms, wary, mood; ledger; law in force; the words' rest -/
abbrev Zt : Type := Int × (Int → Int) × (Int → Int) × Int
def okZ (Z : Zt) : Prop := (0 ≤ Z.1 ∧ Z.1 ≤ 7) ∧ (∀ i : Int, 0 ≤ i → i < 7 → (0 ≤ Z.2.1 i ∧ Z.2.1 i ≤ 3) ∧ 0 ≤ Z.2.2.1 i ∧ Z.2.2.1 i ≤ 99) ∧ 0 ≤ Z.2.2.2 ∧ Z.2.2.2 ≤ 9
def okA (A : Lg) : Prop := (∀ i : Int, 0 ≤ i → i < 7 → 0 ≤ gL 0 A.1 i ∧ gL 0 A.1 i ≤ 9999) ∧ okL A.2.1 ∧ 0 ≤ A.2.2 ∧ A.2.2 ≤ 999
def wE (w f : Int → Int) : Prop := ∀ i : Int, ¬ (0 ≤ i ∧ i < 10) → f i = w i
def wK (w f : Int → Int) : Prop := wE w f ∧ bW f
def CTx (μ : zMem) (Z : Zt) (F : Option (List Cls)) (A : Lg) (w : Int → Int) : Prop := okZ Z ∧ okA A ∧ (μ 1 6 = Z.1 ∧ (∀ i : Int, 0 ≤ i → i < 7 → μ 8 i = Z.2.1 i ∧ μ 9 i = Z.2.2.1 i) ∧ μ 1 7 = Z.2.2.2) ∧ (lgO μ 2 = A ∧ 0 ≤ μ 2 5) ∧ FoC μ F ∧ wK w (μ 326)
def lgM (μ : zMem) : Lg := (tL 7 (μ 357), dbM μ, μ 357 72)
def MTx (μ : zMem) (Z : Zt) (F : Option (List Cls)) (A : Lg) (w : Int → Int) : Prop := okZ Z ∧ okA A ∧ (μ 357 152 = Z.1 ∧ (∀ i : Int, 0 ≤ i → i < 7 → μ 357 (73 + 2 * i) = Z.2.1 i ∧ μ 357 (74 + 2 * i) = Z.2.2.1 i) ∧ μ 357 151 = Z.2.2.2) ∧ (lgM μ = A ∧ 0 ≤ μ 357 71) ∧ FoM μ F ∧ bW w
theorem fillW_E {w f : Int → Int} (h : wE w f) {a0 a1 a2 a3 a4 a5 a6 a7 a8 a9 : Int} : fillW a0 a1 a2 a3 a4 a5 a6 a7 a8 a9 f = fillW a0 a1 a2 a3 a4 a5 a6 a7 a8 a9 w := by
  funext i
  by_cases c : 0 ≤ i ∧ i < 10
  · exact fillW_in c
  · have := h i c
    unfold fillW
    rw [this]
theorem fillW_o {w : Int → Int} {a0 a1 a2 a3 a4 a5 a6 a7 a8 a9 : Int} : wE w (fillW a0 a1 a2 a3 a4 a5 a6 a7 a8 a9 w) := by
  intro i c
  unfold fillW
  simp only [zit_f (show ¬ i = 9 by omega), zit_f (show ¬ i = 8 by omega), zit_f (show ¬ i = 7 by omega), zit_f (show ¬ i = 6 by omega), zit_f (show ¬ i = 5 by omega), zit_f (show ¬ i = 4 by omega), zit_f (show ¬ i = 3 by omega), zit_f (show ¬ i = 2 by omega), zit_f (show ¬ i = 1 by omega), zit_f (show ¬ i = 0 by omega)]
theorem WB_b {W : Int → Int} (h : bW W) : WB W := fun i a b => by
  have := h i a b
  unfold okV
  omega
noncomputable def wdA (Z : Zt) (A : Lg) (w : Int → Int) (o v owed back : Int) : Int → Int := fillW o v owed back (Z.2.1 o) (Z.2.2.1 o) (-1) (-1) A.2.2 Z.2.2.2 w
noncomputable def dpA (Z : Zt) (F : Option (List Cls)) (A : Lg) (w : Int → Int) (o v owed back : Int) : Int := dpS (wdA Z A w o v owed back) F (Z.2.1 o) owed
/-- how deep one gets now -/
noncomputable def dnA (Z : Zt) (F : Option (List Cls)) (A : Lg) (w : Int → Int) (o v : Int) : Int := dpA Z F A w o v (owL o v A.2.1) (owL v o A.2.1)
theorem wdA_b {Z : Zt} {A : Lg} {w : Int → Int} {o v owed back : Int} (hZ : okZ Z) (hA : okA A) (hw : bW w) (ho : 0 ≤ o ∧ o ≤ 6) (hv : 0 ≤ v ∧ v ≤ 6) (h1 : -1000000 ≤ owed ∧ owed ≤ 1000000) (h2 : -1000000 ≤ back ∧ back ≤ 1000000) : bW (wdA Z A w o v owed back) := by
  have hz := hZ.2.1 o (by omega) (by omega)
  have hm := hZ.2.2
  have hd := hA.2.2
  exact fillW_b (X := fun x => -1000000 ≤ x ∧ x ≤ 1000000) ⟨by omega, by omega, h1, h2, by omega, by omega, by omega, by omega, by omega, by omega⟩ hw
theorem bW_E {w f : Int → Int} {a0 a1 a2 a3 a4 a5 a6 a7 a8 a9 : Int} (h : wE w f) (hb : bW (fillW a0 a1 a2 a3 a4 a5 a6 a7 a8 a9 f)) : bW (fillW a0 a1 a2 a3 a4 a5 a6 a7 a8 a9 w) := by
  rw [← fillW_E h]
  exact hb
/-- what the class's, the reference's asking writes -/
def CF (w : Int → Int) (μ μ' : zMem) : Prop := zfc [325, 326, 327] μ μ' ∧ wK w (μ' 326)
def MF (μ μ' : zMem) : Prop := (∀ j : Int, j ≠ 20 → j ≠ 21 → j ≠ 22 → j ≠ 23 → μ' 355 j = μ 355 j) ∧ zfc [355, 367] μ μ'
theorem CF.rf {w : Int → Int} {μ : zMem} (h : wK w (μ 326)) : CF w μ μ := ⟨zfc.rf, h⟩
theorem MF.rf {μ : zMem} : MF μ μ := ⟨fun _ _ _ _ _ => rfl, zfc.rf⟩
theorem CF.tr {w : Int → Int} {a b c : zMem} (h1 : CF w a b) (h2 : CF w b c) : CF w a c := ⟨(h1.1.tr h2.1).mo (by simp), h2.2⟩
theorem MF.tr {a b c : zMem} (h1 : MF a b) (h2 : MF b c) : MF a c := ⟨fun j p q r s => (h2.1 j p q r s).trans (h1.1 j p q r s), (h1.2.tr h2.2).mo (by simp)⟩
theorem CF.kc {w : Int → Int} {a b : zMem} (h : CF w a b) : KC a b := h.1.kc2 (fun k hk _ => by
  simp only [List.mem_cons, List.not_mem_nil, or_false] at hk
  unfold scC
  omega) (fun _ => h.2.2)
theorem CF.hm {w : Int → Int} {a b : zMem} (h : CF w a b) : HM a b := h.1.hm (by simp)
theorem MF.hc {a b : zMem} (h : MF a b) : HC a b := h.2.hc (by simp)
theorem MF.km {a b : zMem} (h : MF a b) : KM a b := h.2.km (fun k hk _ => by
  simp only [List.mem_cons, List.not_mem_nil, or_false] at hk
  unfold scM
  omega) (fun j hj => by unfold kfM at hj; exact h.1 j (by omega) (by omega) (by omega) (by omega))
theorem FoC.c {μ μ' : zMem} {F : Option (List Cls)} (h : FoC μ F) (h1 : μ' 1 = μ 1) (h2 : ∀ c : Nat, 29 ≤ c → c < 35 → μ' c = μ c) : FoC μ' F := by
  rcases h with h | ⟨f, cls, a, b, c⟩
  · exact Or.inl (by rw [h1]; exact h)
  · exact Or.inr ⟨f, cls, by rw [h1]; exact a, b, by rw [h2 _ (by omega) (by omega)]; exact c⟩
theorem FoM.c {μ μ' : zMem} {F : Option (List Cls)} (h : FoM μ F) (h1 : ∀ i : Int, 156 ≤ i → i < 5764 → μ' 357 i = μ 357 i) : FoM μ' F := by
  rcases h with h | ⟨f, Q, cls, code, a, b, c, e, g⟩
  · exact Or.inl (by rw [h1 156 (by decide) (by decide)]; exact h)
  · exact Or.inr ⟨f, Q, cls, code, by rw [h1 156 (by decide) (by decide)]; exact a, b, c, LwM_c e b g.1.1.1 (fun i x y => h1 i (by omega) y), g⟩
theorem CTx.k {μ μ' : zMem} {Z : Zt} {F : Option (List Cls)} {A : Lg} {w : Int → Int} (h : CTx μ Z F A w) (h1 : ∀ c : Nat, (1 ≤ c ∧ c ≤ 9 ∨ 29 ≤ c ∧ c < 35) → μ' c = μ c) (h2 : wK w (μ' 326)) : CTx μ' Z F A w := by
  obtain ⟨a, b, c, e, f, g⟩ := h
  refine ⟨a, b, by rw [h1 1 (by decide), h1 8 (by decide), h1 9 (by decide)]; exact c, ⟨(lgO_c (fun c hc => h1 _ (by omega))).trans e.1, by rw [h1 2 (by decide)]; exact e.2⟩, f.c (h1 1 (by decide)) (fun c p q => h1 c (Or.inr ⟨p, q⟩)), h2⟩
theorem CTx.f {μ μ' : zMem} {Z : Zt} {F : Option (List Cls)} {A : Lg} {w : Int → Int} (h : CTx μ Z F A w) (h1 : CF w μ μ') : CTx μ' Z F A w := h.k (fun c hc => h1.1 c (by simp only [List.mem_cons, List.not_mem_nil, or_false]; omega)) h1.2
theorem MTx.k {μ μ' : zMem} {Z : Zt} {F : Option (List Cls)} {A : Lg} {w : Int → Int} (h : MTx μ Z F A w) (h1 : μ' 357 = μ 357) : MTx μ' Z F A w := by
  obtain ⟨a, b, c, e, f, g⟩ := h
  refine ⟨a, b, by rw [h1]; exact c, ⟨?_, by rw [h1]; exact e.2⟩, f.c (fun i _ _ => by rw [h1]), g⟩
  rw [← e.1]
  unfold lgM dbM fM
  rw [h1]
theorem MTx.f {μ μ' : zMem} {Z : Zt} {F : Option (List Cls)} {A : Lg} {w : Int → Int} (h : MTx μ Z F A w) (h1 : MF μ μ') : MTx μ' Z F A w := h.k (h1.2 357 (by decide))
theorem owL_l {a b : Int} : ∀ {l : List D4}, (∀ x, x ∈ l → okd x) → 0 ≤ owL a b l ∧ owL a b l ≤ 9999 * l.length
  | [], _ => by simp [owL]
  | (p, q, m, s) :: l, h => by
    have h1 := owL_l (a := a) (b := b) (l := l) (fun x hx => h x (List.mem_cons_of_mem _ hx))
    have h2 := (h (p, q, m, s) List.mem_cons_self).2.2.2.1
    rw [owL, List.length_cons]
    split <;> (simp only at h2; omega)
theorem owA {a b : Int} {A : Lg} (h : okA A) : 0 ≤ owL a b A.2.1 ∧ owL a b A.2.1 ≤ 159984 := by
  have := owL_l (a := a) (b := b) h.2.1.2
  have := h.2.1.1
  omega
/-- the parts of a class's town -/
theorem CTx.d {μ : zMem} {Z : Zt} {F : Option (List Cls)} {A : Lg} {w : Int → Int} (h : CTx μ Z F A w) : dbD μ = A.2.1 ∧ μ 2 6 = A.2.2 ∧ tL 7 (μ 3) = A.1 ∧ okT (μ 2 5) (fD μ) ∧ μ 2 5 = (A.2.1.length : Int) := by
  obtain ⟨a, b, c, e, f, g⟩ := h
  have e1 : dbD μ = A.2.1 := by rw [← e.1]; rfl
  have el : (dbD μ).length = (μ 2 5).toNat := tL_len
  have := b.2.1
  rw [← e1] at this
  have h5 := this.1
  refine ⟨e1, by rw [← e.1]; rfl, by rw [← e.1]; rfl, ⟨by omega, fun j p q => this.2 _ ?_⟩, by rw [← e1]; omega⟩
  have : (dbD μ)[j.toNat]? = some (fD μ j) := by
    unfold dbD
    rw [tL_get (by omega), show ((j.toNat : Nat) : Int) = j by omega]
  exact List.mem_of_getElem? this
theorem MTx.d {μ : zMem} {Z : Zt} {F : Option (List Cls)} {A : Lg} {w : Int → Int} (h : MTx μ Z F A w) : dbM μ = A.2.1 ∧ μ 357 72 = A.2.2 ∧ tL 7 (μ 357) = A.1 ∧ okT (μ 357 71) (fM μ) ∧ μ 357 71 = (A.2.1.length : Int) := by
  obtain ⟨a, b, c, e, f, g⟩ := h
  have e1 : dbM μ = A.2.1 := by rw [← e.1]; rfl
  have el : (dbM μ).length = (μ 357 71).toNat := tL_len
  have := b.2.1
  rw [← e1] at this
  have h5 := this.1
  refine ⟨e1, by rw [← e.1]; rfl, by rw [← e.1]; rfl, ⟨by omega, fun j p q => this.2 _ ?_⟩, by rw [← e1]; omega⟩
  have : (dbM μ)[j.toNat]? = some (fM μ j) := by
    unfold dbM
    rw [tL_get (by omega), show ((j.toNat : Nat) : Int) = j by omega]
  exact List.mem_of_getElem? this
theorem q_C_depth {d : Nat} (hd : 6 ≤ d) {μ : zMem} {Z : Zt} {F : Option (List Cls)} {A : Lg} {w : Int → Int} {o v owed back : Int} (h : CTx μ Z F A w) (ho : 0 ≤ o ∧ o ≤ 6) (hv : 0 ≤ v ∧ v ≤ 6) (h1 : 0 ≤ owed ∧ owed ≤ 1000000) (h2 : -1000000 ≤ back ∧ back ≤ 1000000) : zSp d 0 0 y_Ru_depth zT0 [vr 324, vr 1, vi o, vi v, vi owed, vi back] μ zT0 (fun r μ' => r = some (vi (dpA Z F A w o v owed back)) ∧ CF w μ μ') := by
  have hd1 := h.d
  obtain ⟨hZ, hA, ⟨n1, n2, n3⟩, e, f, g⟩ := h
  have hro := n2 o (by omega) (by omega)
  have hZo := hZ.2.1 o (by omega) (by omega)
  have hb : bW (wdA Z A (μ 326) o v owed back) := wdA_b hZ hA g.2 ho hv (by omega) h2
  have hE : wdA Z A (μ 326) o v owed back = wdA Z A w o v owed back := fillW_E g.1
  refine (q_Ru_depth hd (F := F) (W := wdA Z A w o v owed back) ho f ?_ (WB_b (hE ▸ hb)) (by rw [hro.1]; exact hZo.1) h1).imp (fun r μ' e => ?_)
  · rw [← hE, hro.1, hro.2, hd1.2.1, n3]
    rfl
  · obtain ⟨rfl, ⟨w2, p1, p2, p3⟩, p4⟩ := e
    rw [hro.1]
    refine ⟨rfl, p4, ?_⟩
    rw [p1]
    by_cases c : F = none
    · rw [p2 c]
      exact g
    · rw [p3 c, ← hE]
      refine ⟨?_, hb⟩
      rw [hE]
      exact fillW_o
theorem q_R_deepBy {d : Nat} (hd : 48 ≤ d) {μ : zMem} {Z : Zt} {F : Option (List Cls)} {A : Lg} {w : Int → Int} {o v owed back : Int} (h : MTx μ Z F A w) (ho : 0 ≤ o ∧ o ≤ 6) (hv : 0 ≤ v ∧ v ≤ 6) (h1 : 0 ≤ owed ∧ owed ≤ 1000000) (h2 : -1000000 ≤ back ∧ back ≤ 1000000) : zSp d 0 0 y_M_deepBy zT0 [vr 355, vi o, vi v, vi owed, vi back] μ zT0 (fun r μ' => r = some (vi (dpA Z F A w o v owed back)) ∧ MF μ μ') := by
  have hd1 := h.d
  obtain ⟨hZ, hA, ⟨n1, n2, n3⟩, e, f, g⟩ := h
  have hro := n2 o (by omega) (by omega)
  have hZo := hZ.2.1 o (by omega) (by omega)
  have hb : bW (wdA Z A w o v owed back) := wdA_b hZ hA g ho hv (by omega) h2
  refine (q_M_deepBy hd (F := F) (W := wdA Z A w o v owed back) ho f ⟨w, ?_⟩ hb (by rw [hro.1]; exact hZo.1) h1).imp (fun r μ' e => ?_)
  · rw [hro.1, hro.2, hd1.2.1, n3]
    rfl
  · obtain ⟨rfl, p1, p2⟩ := e
    rw [hro.1]
    exact ⟨rfl, p1, p2⟩


/-! the groups stay where their cells stay -/
theorem JU.c {a a' b b' : zMem} (h : JU a b) (h1 : ∀ c : Nat, 111 ≤ c → c < 216 → a' c = a c) (h2 : b' 369 = b 369) (h3 : b' 355 28 = b 355 28) : JU a' b' := by
  obtain ⟨p, q, r, s⟩ := h
  have e1 : unD a' 111 = unD a 111 := by
    unfold unD slI
    rw [h1 111 (by decide) (by decide), h1 (111 + 2) (by decide) (by decide)]
    refine tL_congr (fun i x y => ?_)
    congr 1
    refine lgO_c (fun c hc => h1 _ ?_ ?_)
    all_goals
      unfold slC
      omega
  have e2 : unM b' = unM b := by
    unfold unM rwM
    rw [h2, h3]
  refine ⟨by rw [h1 111 (by decide) (by decide)]; exact p, by rw [h1 111 (by decide) (by decide), h3]; exact q, fun s x y => ?_, by rw [e1, e2]; exact s⟩
  rw [h1 _ (by unfold slC; omega) (by unfold slC; omega)]
  exact r s x y
theorem JI.c {a a' b b' : zMem} (h : JI a b) (h1 : ∀ c : Nat, 36 ≤ c → c ≤ 104 → a' c = a c) (h2 : b' 358 = b 358) (h3 : b' 359 = b 359) : JI a' b' := by
  intro k hk
  have := h k hk
  have hs : imS k = 35 ∨ imS k = 69 := by
    unfold imS
    split
    · exact Or.inl rfl
    · exact Or.inr rfl
  rw [h3, h1 104 (by decide) (by decide)]
  refine ⟨this.1, this.2.imp id (fun q => ⟨q.1, q.2.c (fun c p1 p2 i _ _ => ?_) (fun i _ _ => ?_)⟩)⟩
  · unfold imT
    rw [h1 _ (by omega) (by omega)]
  · unfold imK
    rw [h2]
theorem JT.c {a a' b b' : zMem} (h : JT a b) (h1 : a' 321 2 = a 321 2) (h2 : a' 321 3 = a 321 3) (h3 : a' 322 = a 322) (h4 : b' 355 11 = b 355 11) (h5 : b' 355 12 = b 355 12) (h6 : b' 361 = b 361) (h7 : b' 362 = b 362) : JT a' b' := by
  unfold JT at *
  rw [h1, h2, h3, h4, h5, h6, h7]
  exact h
theorem JS.mo {k l : Int} {a b : zMem} (h : JS k a b) (hk : k ≤ l) : JS l a b := ⟨h.1, h.2.1, h.2.2.1, fun i p q => by have := h.2.2.2 i p q; omega⟩
theorem JS.c {k l : Int} {a a' b b' : zMem} (h : JS k a b) (hk : k ≤ l) (h1 : a' 0 15 = a 0 15) (h2 : a' 0 16 = a 0 16) (h3 : a' 0 17 = a 0 17) (h4 : a' 354 = a 354) (h5 : b' 355 0 = b 355 0) (h6 : b' 355 6 = b 355 6) (h7 : b' 355 47 = b 355 47) (h8 : b' 356 = b 356) : JS l a' b' := by
  have := h.mo hk
  unfold JS at *
  rw [h1, h2, h3, h4, h5, h6, h7, h8]
  exact this
/-- accepted -/
theorem JS.ok {k l : Int} {a a' b b' : zMem} (h : JS k a b) (hk : k ≤ l) (h1 : a' 0 15 = b' 355 0) (h2 : a' 0 16 = a 0 16) (h3 : a' 0 17 = a 0 17) (h4 : a' 354 = a 354) (h6 : b' 355 6 = b 355 6) (h7 : b' 355 47 = b 355 47) (h8 : b' 356 = b 356) : JS l a' b' := by
  have := h.mo hk
  unfold JS at *
  rw [h1, h2, h3, h4, h6, h7, h8]
  exact ⟨rfl, this.2⟩
/-- refused -/
theorem JS.no {k c : Int} {a a' b b' : zMem} (h : JS k a b) (hc : -6 ≤ c ∧ c ≤ 0) (h1 : a' 0 15 = b' 355 0) (h2 : a' 0 16 = a 0 16) (h3 : a' 0 17 = a 0 17) (h4 : ∀ i : Int, a' 354 i = zit (i = -c) (a 354 (-c) + 1) (a 354 i)) (h6 : b' 355 6 = b 355 6) (h7 : b' 355 47 = b 355 47) (h8 : ∀ i : Int, b' 356 i = zit (i = -c) (b 356 (-c) + 1) (b 356 i)) : JS (k + 1) a' b' := by
  refine ⟨h1.symm, by rw [h2, h6]; exact h.2.1, by rw [h3, h7]; exact h.2.2.1, fun i p q => ?_⟩
  rw [h4, h8]
  have x1 := h.2.2.2 i p q
  have x2 := h.2.2.2 (-c) (by omega) (by omega)
  by_cases e : i = -c
  · rw [zit_t e, zit_t e]
    omega
  · rw [zit_f e, zit_f e]
    omega
theorem JM.c {a a' b b' : zMem} (h : JM a b) (h1 : a' 351 2 = a 351 2) (h2 : a' 352 = a 352) (h3 : b' 355 59 = b 355 59) (h4 : b' 384 = b 384) (h5 : b' 385 = b 385) (h6 : b' 386 = b 386) : JM a' b' := by
  unfold JM at *
  rw [h1, h2, h3, h4, h5, h6]
  exact h
/-- the class's halves, the reference's halves -/
def HC (a a' : zMem) : Prop := ∀ c : Nat, c < 355 → a' c = a c
def HM (b b' : zMem) : Prop := ∀ c : Nat, 355 ≤ c → b' c = b c
theorem HC.rf {a : zMem} : HC a a := fun _ _ => rfl
theorem HM.rf {a : zMem} : HM a a := fun _ _ => rfl
theorem zfc.hm {cs : List Nat} {a b : zMem} (h : zfc cs a b) (hc : ∀ k, k ∈ cs → k < 355) : HM a b := fun c q => h c (fun m => by have := hc c m; omega)
theorem zfc.hc {cs : List Nat} {a b : zMem} (h : zfc cs a b) (hc : ∀ k, k ∈ cs → 355 ≤ k) : HC a b := fun c q => h c (fun m => by have := hc c m; omega)
theorem HC.tr {a b c : zMem} (h1 : HC a b) (h2 : HC b c) : HC a c := fun k hk => (h2 k hk).trans (h1 k hk)
theorem HM.tr {a b c : zMem} (h1 : HM a b) (h2 : HM b c) : HM a c := fun k hk => (h2 k hk).trans (h1 k hk)
theorem TJ.f {a a' b b' : zMem} (h : TJ a (b 357)) (h1 : HC a a') (h2 : HM b b') : TJ a' (b' 357) := h.c (fun c _ _ i _ _ => by rw [h1 c (by omega)]) (fun i _ _ => by rw [h2 357 (by decide)])
theorem JJ.m {k : Int} {a a' b b' : zMem} (h : JJ k a b) (h1 : HC a a') (h2 : HM b b') : JJ k a' b' := by
  obtain ⟨x1, x2, x3, x4, x5, x6, x7⟩ := h
  have e0 := h1 0 (by decide)
  have e5 := h2 355 (by decide)
  refine ⟨x1.f h1 h2, x2.c (fun c p q => h1 c (by omega)) (h2 369 (by decide)) (by rw [e5]), x3.c (fun c p q => h1 c (by omega)) (h2 358 (by decide)) (h2 359 (by decide)), x4.c (by rw [h1 321 (by decide)]) (by rw [h1 321 (by decide)]) (h1 322 (by decide)) (by rw [e5]) (by rw [e5]) (h2 361 (by decide)) (h2 362 (by decide)), x5.c (Int.le_refl _) (by rw [e0]) (by rw [e0]) (by rw [e0]) (h1 354 (by decide)) (by rw [e5]) (by rw [e5]) (by rw [e5]) (h2 356 (by decide)), x6.c (by rw [h1 351 (by decide)]) (h1 352 (by decide)) (by rw [e5]) (h2 384 (by decide)) (h2 385 (by decide)) (h2 386 (by decide)), by rw [h1 326 (by decide)]; exact x7⟩
/-- cells that are written anew at each call -/
def scC (c : Nat) : Prop := (105 ≤ c ∧ c < 111) ∨ (216 ≤ c ∧ c ≤ 320) ∨ (323 ≤ c ∧ c ≤ 325) ∨ (327 ≤ c ∧ c ≤ 350) ∨ c = 353
def scM (c : Nat) : Prop := c = 360 ∨ (363 ≤ c ∧ c ≤ 368) ∨ (370 ≤ c ∧ c ≤ 383)
/-- nothing that is kept has changed -/
def KC (a a' : zMem) : Prop := (∀ c : Nat, c < 355 → ¬ scC c → c ≠ 0 → c ≠ 321 → c ≠ 351 → c ≠ 326 → a' c = a c) ∧ (∀ j : Int, 15 ≤ j → j ≤ 17 → a' 0 j = a 0 j) ∧ (a' 321 2 = a 321 2 ∧ a' 321 3 = a 321 3) ∧ a' 351 2 = a 351 2 ∧ (bW (a 326) → bW (a' 326))
def kfM (j : Int) : Prop := j = 0 ∨ j = 6 ∨ j = 11 ∨ j = 12 ∨ j = 28 ∨ j = 47 ∨ j = 59
def KM (b b' : zMem) : Prop := (∀ c : Nat, 355 < c → ¬ scM c → b' c = b c) ∧ ∀ j : Int, kfM j → b' 355 j = b 355 j
theorem KC.rf {a : zMem} : KC a a := ⟨fun _ _ _ _ _ _ _ => rfl, fun _ _ _ => rfl, ⟨rfl, rfl⟩, rfl, id⟩
theorem KM.rf {a : zMem} : KM a a := ⟨fun _ _ _ => rfl, fun _ _ => rfl⟩
theorem KC.tr {a b c : zMem} (h1 : KC a b) (h2 : KC b c) : KC a c := ⟨fun k p q r s t u => (h2.1 k p q r s t u).trans (h1.1 k p q r s t u), fun j p q => (h2.2.1 j p q).trans (h1.2.1 j p q), ⟨h2.2.2.1.1.trans h1.2.2.1.1, h2.2.2.1.2.trans h1.2.2.1.2⟩, h2.2.2.2.1.trans h1.2.2.2.1, fun z => h2.2.2.2.2 (h1.2.2.2.2 z)⟩
theorem KM.tr {a b c : zMem} (h1 : KM a b) (h2 : KM b c) : KM a c := ⟨fun k p q => (h2.1 k p q).trans (h1.1 k p q), fun j p => (h2.2 j p).trans (h1.2 j p)⟩
theorem zfc.kc2 {cs : List Nat} {a b : zMem} (h : zfc cs a b) (hc : ∀ k, k ∈ cs → k < 355 → scC k ∨ k = 326) (hb : bW (a 326) → bW (b 326)) : KC a b := by
  have : ∀ k : Nat, k < 355 → ¬ scC k → k ≠ 326 → b k = a k := fun k p q r => h k (fun m => (hc k m p).elim q r)
  refine ⟨fun k p q _ _ _ r => this k p q r, fun j _ _ => ?_, ⟨?_, ?_⟩, ?_, hb⟩
  all_goals rw [this _ (by decide) (by unfold scC; omega) (by decide)]
theorem zfc.kc {cs : List Nat} {a b : zMem} (h : zfc cs a b) (hc : ∀ k, k ∈ cs → k < 355 → scC k) : KC a b :=
  h.kc2 (fun k p q => Or.inl (hc k p q)) (fun z => by
    rw [h 326 (fun m => by have := hc 326 m (by decide); unfold scC at this; omega)]
    exact z)
theorem zfc.km {cs : List Nat} {a b : zMem} (h : zfc cs a b) (hc : ∀ k, k ∈ cs → 355 < k → scM k) (h5 : ∀ j : Int, kfM j → b 355 j = a 355 j) : KM a b :=
  ⟨fun k p q => h k (fun m => q (hc k m p)), h5⟩
theorem HC.kc {a b : zMem} (h : HC a b) : KC a b := ⟨fun k p _ _ _ _ _ => h k p, fun j _ _ => by rw [h 0 (by decide)], ⟨by rw [h 321 (by decide)], by rw [h 321 (by decide)]⟩, by rw [h 351 (by decide)], fun z => by rw [h 326 (by decide)]; exact z⟩
theorem HM.km {a b : zMem} (h : HM a b) : KM a b := ⟨fun k p _ => h k (by omega), fun j _ => by rw [h 355 (by decide)]⟩
theorem TJ.k {a a' b b' : zMem} (h : TJ a (b 357)) (h1 : KC a a') (h2 : KM b b') : TJ a' (b' 357) := h.c (fun c _ _ i _ _ => by rw [h1.1 c (by omega) (by unfold scC; omega) (by omega) (by omega) (by omega) (by omega)]) (fun i _ _ => by rw [h2.1 357 (by decide) (by unfold scM; omega)])
theorem JJ.t {k l : Int} {a a' b b' : zMem} (h : JJ k a b) (hk : k ≤ l) (h1 : KC a a') (h2 : KM b b') : JJ l a' b' := by
  obtain ⟨x1, x2, x3, x4, x5, x6, x7⟩ := h
  have f := h1.1
  have g := h2.1
  have r := h2.2
  refine ⟨x1.k h1 h2, x2.c (fun c p q => f c (by omega) (by unfold scC; omega) (by omega) (by omega) (by omega) (by omega)) (g 369 (by decide) (by unfold scM; omega)) (r _ (by unfold kfM; omega)), x3.c (fun c p q => f c (by omega) (by unfold scC; omega) (by omega) (by omega) (by omega) (by omega)) (g 358 (by decide) (by unfold scM; omega)) (g 359 (by decide) (by unfold scM; omega)), x4.c h1.2.2.1.1 h1.2.2.1.2 (f 322 (by decide) (by unfold scC; omega) (by decide) (by decide) (by decide) (by decide)) (r _ (by unfold kfM; omega)) (r _ (by unfold kfM; omega)) (g 361 (by decide) (by unfold scM; omega)) (g 362 (by decide) (by unfold scM; omega)), x5.c hk (h1.2.1 15 (by decide) (by decide)) (h1.2.1 16 (by decide) (by decide)) (h1.2.1 17 (by decide) (by decide)) (f 354 (by decide) (by unfold scC; omega) (by decide) (by decide) (by decide) (by decide)) (r _ (by unfold kfM; omega)) (r _ (by unfold kfM; omega)) (r _ (by unfold kfM; omega)) (g 356 (by decide) (by unfold scM; omega)), x6.c h1.2.2.2.1 (f 352 (by decide) (by unfold scC; omega) (by decide) (by decide) (by decide) (by decide)) (r _ (by unfold kfM; omega)) (g 384 (by decide) (by unfold scM; omega)) (g 385 (by decide) (by unfold scM; omega)) (g 386 (by decide) (by unfold scM; omega)), h1.2.2.2.2 x7⟩
/-- one call on each side: the same answer, and both hold the same again -/
def LC (yD yM : zMt) (as : List zV) : Prop := ∀ (k : Int) (μ : zMem), 0 ≤ k → k ≤ 1000 → JJ k μ μ → zCw 101 yD (vr 0 :: as) μ (fun q μ1 => ∃ v, q = some (vi v) ∧ zCw 101 yM (vr 355 :: as) μ1 (fun q μ2 => q = some (vi v) ∧ JJ (k + 1) μ2 μ2))
theorem JJ.ok {k l : Int} {a b : zMem} (h : JJ k a b) (hk : k ≤ l) {v w : Int} (hv : v = w) : JJ l (zm a 0 15 v) (zm b 355 0 w) := by
  obtain ⟨x1, x2, x3, x4, x5, x6, x7⟩ := h
  subst hv
  refine ⟨x1.c (fun c _ _ i _ _ => by rw [zm_o (by omega)]) (fun i _ _ => by rw [zm_o (by omega)]), x2.c (fun c p q => zm_off c (by omega)) (zm_off _ (by decide)) (zm_o (by omega)), x3.c (fun c p q => zm_off c (by omega)) (zm_off _ (by decide)) (zm_off _ (by decide)), x4.c (zm_o (by omega)) (zm_o (by omega)) (zm_off _ (by decide)) (zm_o (by omega)) (zm_o (by omega)) (zm_off _ (by decide)) (zm_off _ (by decide)), x5.ok hk (by rw [zm_s, zm_s]) (zm_o (by omega)) (zm_o (by omega)) (zm_off _ (by decide)) (zm_o (by omega)) (zm_o (by omega)) (zm_off _ (by decide)), x6.c (zm_o (by omega)) (zm_off _ (by decide)) (zm_o (by omega)) (zm_off _ (by decide)) (zm_off _ (by decide)) (zm_off _ (by decide)), by rw [zm_off _ (by decide)]; exact x7⟩
theorem JJ.no {k c : Int} {a b : zMem} (h : JJ k a b) (hc : -6 ≤ c ∧ c ≤ 0) : JJ (k + 1) (rfD a c) (rfM b c) := by
  obtain ⟨x1, x2, x3, x4, x5, x6, x7⟩ := h
  unfold rfD rfM
  refine ⟨x1.c (fun c _ _ i _ _ => by (repeat rw [zm_o (by omega)])) (fun i _ _ => by (repeat rw [zm_o (by omega)])), x2.c (fun c p q => by rw [zm_off c (by omega), zm_off c (by omega)]) (by rw [zm_off _ (by decide), zm_off _ (by decide)]) (by (repeat rw [zm_o (by omega)])), x3.c (fun c p q => by rw [zm_off c (by omega), zm_off c (by omega)]) (by rw [zm_off _ (by decide), zm_off _ (by decide)]) (by rw [zm_off _ (by decide), zm_off _ (by decide)]), x4.c (by (repeat rw [zm_o (by omega)])) (by (repeat rw [zm_o (by omega)])) (by rw [zm_off _ (by decide), zm_off _ (by decide)]) (by (repeat rw [zm_o (by omega)])) (by (repeat rw [zm_o (by omega)])) (by rw [zm_off _ (by decide), zm_off _ (by decide)]) (by rw [zm_off _ (by decide), zm_off _ (by decide)]), x5.no hc (by rw [zm_s, zm_o (by omega), zm_s]) (by (repeat rw [zm_o (by omega)])) (by (repeat rw [zm_o (by omega)])) (fun i => ?_) (by (repeat rw [zm_o (by omega)])) (by (repeat rw [zm_o (by omega)])) (fun i => ?_), x6.c (by (repeat rw [zm_o (by omega)])) (by rw [zm_off _ (by decide), zm_off _ (by decide)]) (by (repeat rw [zm_o (by omega)])) (by rw [zm_off _ (by decide), zm_off _ (by decide)]) (by rw [zm_off _ (by decide), zm_off _ (by decide)]) (by rw [zm_off _ (by decide), zm_off _ (by decide)]), by rw [zm_off _ (by decide), zm_off _ (by decide)]; exact x7⟩
  · rw [zm_o (by omega), zm_r, zit_t rfl]
  · rw [zm_r, zit_t rfl, zm_o (by omega)]
/-- only the town has changed -/
def KCt (a a' : zMem) : Prop := (∀ c : Nat, 36 ≤ c → c < 355 → ¬ scC c → c ≠ 321 → c ≠ 351 → c ≠ 326 → a' c = a c) ∧ (∀ j : Int, 15 ≤ j → j ≤ 17 → a' 0 j = a 0 j) ∧ (a' 321 2 = a 321 2 ∧ a' 321 3 = a 321 3) ∧ a' 351 2 = a 351 2 ∧ (bW (a 326) → bW (a' 326))
def KMt (b b' : zMem) : Prop := (∀ c : Nat, 355 < c → ¬ scM c → c ≠ 357 → b' c = b c) ∧ ∀ j : Int, kfM j → b' 355 j = b 355 j
theorem KC.kt {a a' : zMem} (h : KC a a') : KCt a a' := ⟨fun c p q r s t u => h.1 c q r (by omega) s t u, h.2⟩
theorem KM.kt {a a' : zMem} (h : KM a a') : KMt a a' := ⟨fun c p q r => h.1 c p q, h.2⟩
theorem KCt.tr {a b c : zMem} (h1 : KCt a b) (h2 : KCt b c) : KCt a c := ⟨fun k p q r s t u => (h2.1 k p q r s t u).trans (h1.1 k p q r s t u), fun j p q => (h2.2.1 j p q).trans (h1.2.1 j p q), ⟨h2.2.2.1.1.trans h1.2.2.1.1, h2.2.2.1.2.trans h1.2.2.1.2⟩, h2.2.2.2.1.trans h1.2.2.2.1, fun z => h2.2.2.2.2 (h1.2.2.2.2 z)⟩
theorem KMt.tr {a b c : zMem} (h1 : KMt a b) (h2 : KMt b c) : KMt a c := ⟨fun k p q r => (h2.1 k p q r).trans (h1.1 k p q r), fun j p => (h2.2 j p).trans (h1.2 j p)⟩
theorem zfc.kt {cs : List Nat} {a b : zMem} (h : zfc cs a b) (hc : ∀ k, k ∈ cs → k < 355 → scC k ∨ 1 ≤ k ∧ k ≤ 35) : KCt a b := by
  have : ∀ k : Nat, k < 355 → ¬ scC k → ¬ (1 ≤ k ∧ k ≤ 35) → b k = a k := fun k p q r => h k (fun m => (hc k m p).elim q r)
  refine ⟨fun k p p2 q _ _ _ => this k p2 q (by omega), fun j _ _ => ?_, ⟨?_, ?_⟩, ?_, ?_⟩
  all_goals rw [this _ (by decide) (by unfold scC; omega) (by decide)]
  exact id
theorem zfc.kmt {cs : List Nat} {a b : zMem} (h : zfc cs a b) (hc : ∀ k, k ∈ cs → 355 < k → scM k ∨ k = 357) (h5 : ∀ j : Int, kfM j → b 355 j = a 355 j) : KMt a b :=
  ⟨fun k p q r => h k (fun m => (hc k m p).elim q r), h5⟩
theorem JJ.tw {k : Int} {a a' b b' : zMem} (h : JJ k a b) (hT : TJ a' (b' 357)) (h1 : KCt a a') (h2 : KMt b b') : JJ k a' b' := by
  obtain ⟨x1, x2, x3, x4, x5, x6, x7⟩ := h
  have f := h1.1
  have g := h2.1
  have r := h2.2
  refine ⟨hT, x2.c (fun c p q => f c (by omega) (by omega) (by unfold scC; omega) (by omega) (by omega) (by omega)) (g 369 (by decide) (by unfold scM; omega) (by decide)) (r _ (by unfold kfM; omega)), x3.c (fun c p q => f c (by omega) (by omega) (by unfold scC; omega) (by omega) (by omega) (by omega)) (g 358 (by decide) (by unfold scM; omega) (by decide)) (g 359 (by decide) (by unfold scM; omega) (by decide)), x4.c h1.2.2.1.1 h1.2.2.1.2 (f 322 (by decide) (by decide) (by unfold scC; omega) (by decide) (by decide) (by decide)) (r _ (by unfold kfM; omega)) (r _ (by unfold kfM; omega)) (g 361 (by decide) (by unfold scM; omega) (by decide)) (g 362 (by decide) (by unfold scM; omega) (by decide)), x5.c (Int.le_refl _) (h1.2.1 15 (by decide) (by decide)) (h1.2.1 16 (by decide) (by decide)) (h1.2.1 17 (by decide) (by decide)) (f 354 (by decide) (by decide) (by unfold scC; omega) (by decide) (by decide) (by decide)) (r _ (by unfold kfM; omega)) (r _ (by unfold kfM; omega)) (r _ (by unfold kfM; omega)) (g 356 (by decide) (by unfold scM; omega) (by decide)), x6.c h1.2.2.2.1 (f 352 (by decide) (by decide) (by unfold scC; omega) (by decide) (by decide) (by decide)) (r _ (by unfold kfM; omega)) (g 384 (by decide) (by unfold scM; omega) (by decide)) (g 385 (by decide) (by unfold scM; omega) (by decide)) (g 386 (by decide) (by unfold scM; omega) (by decide)), h1.2.2.2.2 x7⟩
/-- what was done can't be undone any more -/
theorem JJ.fo {k : Int} {a b : zMem} (h : JJ k a b) : JJ k (zm a 111 3 0) (zm b 355 28 0) := by
  obtain ⟨x1, x2, x3, x4, x5, x6, x7⟩ := h
  refine ⟨x1.c (fun c _ _ i _ _ => by rw [zm_o (by omega)]) (fun i _ _ => by rw [zm_o (by omega)]), ?_, x3.c (fun c p q => zm_off c (by omega)) (zm_off _ (by decide)) (zm_off _ (by decide)), x4.c (zm_o (by omega)) (zm_o (by omega)) (zm_off _ (by decide)) (zm_o (by omega)) (zm_o (by omega)) (zm_off _ (by decide)) (zm_off _ (by decide)), x5.c (Int.le_refl _) (zm_o (by omega)) (zm_o (by omega)) (zm_o (by omega)) (zm_off _ (by decide)) (zm_o (by omega)) (zm_o (by omega)) (zm_o (by omega)) (zm_off _ (by decide)), x6.c (zm_o (by omega)) (zm_off _ (by decide)) (zm_o (by omega)) (zm_off _ (by decide)) (zm_off _ (by decide)) (zm_off _ (by decide)), by rw [zm_off _ (by decide)]; exact x7⟩
  obtain ⟨p, q, r, s⟩ := x2
  refine ⟨⟨by rw [zm_o (by omega)]; exact p.1, by rw [zm_s]; decide⟩, by rw [zm_s, zm_s], fun i x y => by rw [zm_o (by unfold slC; omega)]; exact r i x y, ?_⟩
  have e1 : unD (zm a 111 3 0) 111 = [] := by
    unfold unD
    rw [zm_s]
    rfl
  have e2 : unM (zm b 355 28 0) = [] := by
    unfold unM
    rw [zm_s]
    rfl
  rw [e1, e2]
  exact ⟨rfl, fun i x r hx _ => by cases hx⟩
theorem TD.n {T : zMem} {κ : Int → Int} (h0 : 0 ≤ T 2 5) (h1 : okL (dbD T)) (h2 : κ 71 = T 2 5) (h3 : dbM (fun _ => κ) = dbD T) : TD T κ := by
  have hl : (dbD T).length = (T 2 5).toNat := tL_len
  have := h1.1
  refine ⟨⟨by omega, fun j a b => h1.2 _ ?_⟩, h2, h3⟩
  have : (dbD T)[j.toNat]? = some (fD T j) := by
    unfold dbD
    rw [tL_get (by omega), show ((j.toNat : Nat) : Int) = j by omega]
  exact List.mem_of_getElem? this
theorem TD.l {T : zMem} {κ : Int → Int} (h : TD T κ) : okL (dbD T) := by
  have := h.1.1
  refine ⟨by unfold dbD; rw [tL_len]; omega, fun x hx => ?_⟩
  unfold dbD tL at hx
  rw [List.mem_map] at hx
  obtain ⟨i, hi, rfl⟩ := hx
  rw [List.mem_range] at hi
  exact h.1.2 i (by omega) (by omega)
theorem okL.app {l : List D4} {x : D4} (h : okL l) (hn : l.length < 16) (hx : okd x) : okL (l ++ [x]) := by
  refine ⟨by rw [List.length_append]; exact hn, fun y hy => ?_⟩
  rw [List.mem_append, List.mem_singleton] at hy
  rcases hy with hy | rfl
  · exact h.2 y hy
  · exact hx
/-- what keeps the class's half, the reference's half -/
def PJc (k : Int) (a a' : zMem) : Prop := HM a a' ∧ ∀ b, JJ k a b → JJ k a' b
def PJm (k : Int) (b b' : zMem) : Prop := HC b b' ∧ ∀ a, JJ k a b → JJ k a b'
theorem PJc.rf {k : Int} {a : zMem} : PJc k a a := ⟨HM.rf, fun _ h => h⟩
theorem PJm.rf {k : Int} {a : zMem} : PJm k a a := ⟨HC.rf, fun _ h => h⟩
theorem PJc.k {k : Int} {a a' : zMem} (h1 : HM a a') (h2 : KC a a') : PJc k a a' := ⟨h1, fun _ h => h.t (Int.le_refl _) h2 KM.rf⟩
theorem PJm.k {k : Int} {a a' : zMem} (h1 : HC a a') (h2 : KM a a') : PJm k a a' := ⟨h1, fun _ h => h.t (Int.le_refl _) KC.rf h2⟩
theorem PJc.tr {k : Int} {a b c : zMem} (h1 : PJc k a b) (h2 : PJc k b c) : PJc k a c := ⟨h1.1.tr h2.1, fun x h => h2.2 x (h1.2 x h)⟩
theorem PJm.tr {k : Int} {a b c : zMem} (h1 : PJm k a b) (h2 : PJm k b c) : PJm k a c := ⟨h1.1.tr h2.1, fun x h => h2.2 x (h1.2 x h)⟩
theorem HM_rfD {a : zMem} {c : Int} : HM a (rfD a c) := fun i hi => by unfold rfD; rw [zm_off _ (by omega), zm_off _ (by omega)]
theorem HC_rfM {a : zMem} {c : Int} : HC a (rfM a c) := fun i hi => by unfold rfM; rw [zm_off _ (by omega), zm_off _ (by omega)]
theorem HM.sm {a b : zMem} {c : Nat} {j v : Int} (h : HM a b) (hc : c < 355) : HM a (zm b c j v) := fun i hi => by rw [zm_off _ (by omega)]; exact h i hi
theorem HC.sm {a b : zMem} {c : Nat} {j v : Int} (h : HC a b) (hc : 355 ≤ c) : HC a (zm b c j v) := fun i hi => by rw [zm_off _ (by omega)]; exact h i hi
/-- what the class's call comes to: refused by a code, or an answer -/
def OD (k : Int) (μ : zMem) (c : Int) (RD : Int → zMem → Prop) : zRo := fun q μ1 => HM μ μ1 ∧ ((c < 0 ∧ q = some (vi c) ∧ ∃ X, PJc k μ X ∧ μ1 = rfD X c) ∨ (0 ≤ c ∧ ∃ v, q = some (vi v) ∧ RD v μ1))
def OM (k : Int) (μ1 : zMem) (c : Int) (RM : Int → zMem → Prop) : zRo := fun q μ2 => HC μ1 μ2 ∧ ((c < 0 ∧ q = some (vi c) ∧ ∃ Y, PJm k μ1 Y ∧ μ2 = rfM Y c) ∨ (0 ≤ c ∧ ∃ v, q = some (vi v) ∧ RM v μ2))
theorem OD.no {k c cd : Int} {μ X : zMem} {RD : Int → zMem → Prop} (e : cd = c) (hc : c < 0) (h : PJc k μ X) : OD k μ cd RD (some (vi c)) (rfD X c) := ⟨h.1.tr HM_rfD, Or.inl ⟨e ▸ hc, e ▸ rfl, X, h, e ▸ rfl⟩⟩
theorem OM.no {k c cd : Int} {μ X : zMem} {RD : Int → zMem → Prop} (e : cd = c) (hc : c < 0) (h : PJm k μ X) : OM k μ cd RD (some (vi c)) (rfM X c) := ⟨h.1.tr HC_rfM, Or.inl ⟨e ▸ hc, e ▸ rfl, X, h, e ▸ rfl⟩⟩
theorem OD.yes {k c v : Int} {μ μ1 : zMem} {RD : Int → zMem → Prop} (hc : 0 ≤ c) (h : HM μ μ1) (hr : RD v μ1) : OD k μ c RD (some (vi v)) μ1 := ⟨h, Or.inr ⟨hc, v, rfl, hr⟩⟩
theorem OM.yes {k c v : Int} {μ μ1 : zMem} {RD : Int → zMem → Prop} (hc : 0 ≤ c) (h : HC μ μ1) (hr : RD v μ1) : OM k μ c RD (some (vi v)) μ1 := ⟨h, Or.inr ⟨hc, v, rfl, hr⟩⟩
theorem LC.mk {yD yM : zMt} {as : List zV} (h : ∀ (k : Int) (μ : zMem), 0 ≤ k → k ≤ 1000 → JJ k μ μ → ∃ (c : Int) (RD : Int → zMem → Prop) (RM : zMem → Int → zMem → Prop), -6 ≤ c ∧ zCw 101 yD (vr 0 :: as) μ (OD k μ c RD) ∧ (∀ μ1, HM μ μ1 → zCw 101 yM (vr 355 :: as) μ1 (OM k μ1 c (RM μ1))) ∧ (0 ≤ c → ∀ v w μ1 μ2, HM μ μ1 → RD v μ1 → HC μ1 μ2 → RM μ1 w μ2 → v = w ∧ JJ (k + 1) μ1 μ2)) : LC yD yM as := by
  intro k μ h0 h1 hJ
  obtain ⟨c, RD, RM, hc, s1, s2, s3⟩ := h k μ h0 h1 hJ
  obtain ⟨d1, R1, a1, a2, a3⟩ := s1
  refine zCw.use a2 a1 (fun q μ1 e => ?_)
  obtain ⟨hM, e⟩ := a3 q μ1 e
  obtain ⟨d2, R2, b1, b2, b3⟩ := s2 μ1 hM
  rcases e with ⟨c0, rfl, X, hX, rfl⟩ | ⟨c0, v, rfl, hr⟩
  · refine ⟨c, rfl, zCw.use b2 b1 (fun q μ2 e => ?_)⟩
    obtain ⟨hC, e⟩ := b3 q μ2 e
    rcases e with ⟨-, rfl, Y, hY, rfl⟩ | ⟨c1, -⟩
    · have := ((hX.2 _ hJ).m HC.rf (hX.1.tr (HM_rfD (c := c))))
      have := hY.2 _ (this.m HC.rf (fun i hi => by rw [HM_rfD (c := c) i hi, hX.1 i hi]))
      exact ⟨rfl, (this.no (c := c) (by omega)).m hC HM.rf⟩
    · omega
  · refine ⟨v, rfl, zCw.use b2 b1 (fun q μ2 e => ?_)⟩
    obtain ⟨hC, e⟩ := b3 q μ2 e
    rcases e with ⟨c1, -⟩ | ⟨-, w, rfl, hs⟩
    · omega
    · obtain ⟨rfl, hJ2⟩ := s3 c0 v w μ1 μ2 hM hr hC hs
      exact ⟨rfl, hJ2.m hC HM.rf⟩
theorem KCt.rf {a : zMem} : KCt a a := KC.rf.kt
theorem KMt.rf {a : zMem} : KMt a a := KM.rf.kt
theorem KCt.sm {a b : zMem} {c : Nat} {j v : Int} (h : KCt a b) (hc : scC c ∨ 1 ≤ c ∧ c ≤ 35) : KCt a (zm b c j v) := by
  have hn : c ≠ 0 ∧ c ≠ 321 ∧ c ≠ 351 ∧ c ≠ 326 := by unfold scC at hc; omega
  refine ⟨fun k p q r s t u => ?_, fun j p q => ?_, ⟨?_, ?_⟩, ?_, ?_⟩
  · rw [zm_off k (fun e => by subst e; exact hc.elim r (by omega))]
    exact h.1 k p q r s t u
  · rw [zm_off _ (Ne.symm hn.1)]
    exact h.2.1 j p q
  · rw [zm_off _ (Ne.symm hn.2.1)]
    exact h.2.2.1.1
  · rw [zm_off _ (Ne.symm hn.2.1)]
    exact h.2.2.1.2
  · rw [zm_off _ (Ne.symm hn.2.2.1)]
    exact h.2.2.2.1
  · rw [zm_off _ (Ne.symm hn.2.2.2)]
    exact h.2.2.2.2
theorem KMt.sm {a b : zMem} {c : Nat} {j v : Int} (h : KMt a b) (hc : scM c ∨ c = 357) : KMt a (zm b c j v) := by
  have hn : c ≠ 355 := by unfold scM at hc; omega
  refine ⟨fun k p q r => ?_, fun j p => ?_⟩
  · rw [zm_off k (fun e => by subst e; exact hc.elim q r)]
    exact h.1 k p q r
  · rw [zm_off _ (Ne.symm hn)]
    exact h.2 j p
theorem KMt.zf {a b : zMem} {j v : Int} (h : KMt a b) (hj : ¬ kfM j) : KMt a (zm b 355 j v) := by
  refine ⟨fun k p q r => ?_, fun i p => ?_⟩
  · rw [zm_off k (by omega)]
    exact h.1 k p q r
  · rw [zm_o (Or.inr (fun e => by subst e; exact hj p))]
    exact h.2 i p


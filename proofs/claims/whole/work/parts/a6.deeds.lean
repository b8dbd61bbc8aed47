/-! deeds that can be undone -/
theorem gL_app {κ : Int → Int} {n : Nat} {w i : Int} (h0 : 0 ≤ i) (h1 : i < n) : gL 0 (tL n κ ++ [w]) i = κ i := by
  unfold gL
  rw [List.getD_eq_getElem?_getD, List.getElem?_append_left (by rw [tL_len]; omega), tL_get (by omega), show ((i.toNat : Nat) : Int) = i by omega]
  rfl
theorem gL_apl {κ : Int → Int} {n : Nat} {w : Int} : gL 0 (tL n κ ++ [w]) (n : Int) = w := by
  unfold gL
  rw [List.getD_eq_getElem?_getD, List.getElem?_append_right (by rw [tL_len]; omega), tL_len, Int.toNat_natCast, Nat.sub_self]
  rfl
/-- what is kept of a town's ledger is the same on both sides -/
theorem TJ.rw {a : zMem} {κ : Int → Int} {w : Int} (h : TJ a κ) (hw : 0 ≤ w ∧ w ≤ 5) : RwR (lgO a 2, w) (tL 73 κ ++ [w]) := by
  obtain ⟨a1, a2, a3, a4, a5, -⟩ := h
  have hl := a4.l
  have hn := a4.1.1
  have hlen : (dbD a).length = (a 2 5).toNat := tL_len
  refine ⟨fun i x y => ?_, ⟨hl, ?_, ?_⟩, ⟨?_, a5.1⟩, gL_apl, hw⟩
  · have e1 : gL 0 (lgO a 2).1 i = a 3 i := gL_tL x (by omega)
    show gL 0 (lgO a 2).1 i = _ ∧ _
    rw [e1, gL_app x (by omega), a2.2 i x y]
    exact ⟨rfl, a2.1 i x y⟩
  · rw [gL_app (by decide) (by decide), a4.2.1]
    show a 2 5 = (((dbD a).length : Nat) : Int)
    omega
  · rw [show (lgO a 2, w).1.2.1 = dbD a from rfl, ← a4.2.2]
    exact dbM_c (μ := fun _ => κ) (μ' := fun _ => gL 0 (tL 73 κ ++ [w])) (by show κ 71 ≤ 16; rw [a4.2.1]; omega) (fun j p q => gL_app (by omega) (by omega))
  · rw [gL_app (by decide) (by decide)]
    exact a5.2
theorem UR.kp {D : List (Lg × Int)} {M : List (List Int)} {x : Lg × Int} {r : List Int} (h : UR D M) (hx : RwR x r) : UR (kpD D x) (kpL M r) := by
  obtain ⟨h1, h2⟩ := h
  have app : ∀ {D : List (Lg × Int)} {M : List (List Int)}, D.length = M.length → (∀ (i : Nat) (x : Lg × Int) (r : List Int), D[i]? = some x → M[i]? = some r → RwR x r) → UR (D ++ [x]) (M ++ [r]) := by
    intro D M e1 e2
    refine ⟨by rw [List.length_append, List.length_append, e1]; rfl, fun i y s hy hs => ?_⟩
    by_cases c : i < D.length
    · rw [List.getElem?_append_left c] at hy
      rw [List.getElem?_append_left (by omega)] at hs
      exact e2 i y s hy hs
    · rw [List.getElem?_append_right (by omega)] at hy
      rw [List.getElem?_append_right (by omega), ← e1] at hs
      rcases q : i - D.length with _ | k
      · rw [q] at hy hs
        cases hy
        cases hs
        exact hx
      · rw [q] at hy
        cases hy
  unfold kpD kpL
  rw [h1]
  split
  · refine app (by rw [List.length_tail, List.length_tail, h1]) (fun i y s hy hs => ?_)
    rw [List.getElem?_tail] at hy hs
    exact h2 (i + 1) y s hy hs
  · exact app h1 h2
/-- the class's slots are in order -/
def SlO (a : zMem) : Prop := ((0 ≤ a 111 2 ∧ a 111 2 < 17) ∧ 0 ≤ a 111 3 ∧ a 111 3 ≤ 16) ∧ ∀ s : Int, 0 ≤ s → s < 17 → 0 ≤ a (slC 111 s) 5 ∧ a (slC 111 s) 5 ≤ 16
theorem JU.so {a b : zMem} (h : JU a b) : SlO a := ⟨h.1, h.2.2.1⟩
theorem JU.mk {a b : zMem} (h1 : SlO a) (h2 : 0 ≤ b 355 28 ∧ b 355 28 ≤ 16) (h3 : UR (unD a 111) (unM b)) : JU a b := by
  refine ⟨h1.1, ?_, h1.2, h3⟩
  have e := h3.1
  unfold unD unM at e
  rw [tL_len, tL_len] at e
  have := h1.1
  omega
/-- held, but for a deed that can't be -/
theorem PJc.hold {k : Int} {a X : zMem} (hs : SlO a → SlO X) (h1 : ∀ c : Nat, (c < 111 ∨ 216 ≤ c) → X c = a c) (h2 : unD X 111 = unD a 111) (h3 : X 111 = a 111) : PJc k a X := by
  refine ⟨fun c hc => h1 c (by omega), fun b hJ => ?_⟩
  obtain ⟨x1, x2, x3, x4, x5, x6, x7⟩ := hJ
  refine ⟨x1.c (fun c p q i _ _ => by rw [h1 c (by omega)]) (fun i _ _ => rfl), JU.mk (hs x2.so) (by rw [x2.2.1]; exact x2.1.2) (by rw [h2]; exact x2.2.2.2), x3.c (fun c p q => h1 c (by omega)) rfl rfl, x4.c (by rw [h1 321 (by omega)]) (by rw [h1 321 (by omega)]) (h1 322 (by omega)) rfl rfl rfl rfl, x5.c (Int.le_refl _) (by rw [h1 0 (by omega)]) (by rw [h1 0 (by omega)]) (by rw [h1 0 (by omega)]) (h1 354 (by omega)) rfl rfl rfl rfl, x6.c (by rw [h1 351 (by omega)]) (h1 352 (by omega)) rfl rfl rfl rfl, by rw [h1 326 (by omega)]; exact x7⟩
/-- the class's half of a deed: held, done, kept -/
def DdC (w : Int) (a a' : zMem) : Prop := SlO a' ∧ unD a' 111 = kpD (unD a 111) (lgO a 2, w) ∧ (∀ c : Nat, 36 ≤ c → c < 355 → ¬ scC c → c ≠ 321 → c ≠ 351 → c ≠ 326 → ¬ (111 ≤ c ∧ c < 216) → a' c = a c) ∧ (∀ j : Int, 15 ≤ j → j ≤ 17 → a' 0 j = a 0 j) ∧ (a' 321 2 = a 321 2 ∧ a' 321 3 = a 321 3) ∧ a' 351 2 = a 351 2 ∧ (bW (a 326) → bW (a' 326))
def DdM (w : Int) (b b' : zMem) : Prop := (0 ≤ b' 355 28 ∧ b' 355 28 ≤ 16) ∧ unM b' = kpL (unM b) (tL 73 (b 357) ++ [w]) ∧ (∀ c : Nat, 355 < c → ¬ scM c → c ≠ 357 → c ≠ 369 → b' c = b c) ∧ ∀ j : Int, kfM j → j ≠ 28 → b' 355 j = b 355 j
theorem JJ.deed {k w : Int} {a a' b b' : zMem} (h : JJ k a b) (hw : 0 ≤ w ∧ w ≤ 5) (h1 : DdC w a a') (h2 : DdM w b b') (hT : TJ a' (b' 357)) : JJ k a' b' := by
  obtain ⟨x1, x2, x3, x4, x5, x6, x7⟩ := h
  obtain ⟨c1, c2, f, c4, c5, c6, c7⟩ := h1
  obtain ⟨m1, m2, g, r⟩ := h2
  refine ⟨hT, JU.mk c1 m1 (by rw [c2, m2]; exact x2.2.2.2.kp (x1.rw hw)), x3.c (fun c p q => f c (by omega) (by omega) (by unfold scC; omega) (by omega) (by omega) (by omega) (by omega)) (g 358 (by decide) (by unfold scM; omega) (by decide) (by decide)) (g 359 (by decide) (by unfold scM; omega) (by decide) (by decide)), x4.c c5.1 c5.2 (f 322 (by decide) (by decide) (by unfold scC; omega) (by decide) (by decide) (by decide) (by decide)) (r _ (by unfold kfM; omega) (by decide)) (r _ (by unfold kfM; omega) (by decide)) (g 361 (by decide) (by unfold scM; omega) (by decide) (by decide)) (g 362 (by decide) (by unfold scM; omega) (by decide) (by decide)), x5.c (Int.le_refl _) (c4 15 (by decide) (by decide)) (c4 16 (by decide) (by decide)) (c4 17 (by decide) (by decide)) (f 354 (by decide) (by decide) (by unfold scC; omega) (by decide) (by decide) (by decide) (by decide)) (r _ (by unfold kfM; omega) (by decide)) (r _ (by unfold kfM; omega) (by decide)) (r _ (by unfold kfM; omega) (by decide)) (g 356 (by decide) (by unfold scM; omega) (by decide) (by decide)), x6.c c6 (f 352 (by decide) (by decide) (by unfold scC; omega) (by decide) (by decide) (by decide) (by decide)) (r _ (by unfold kfM; omega) (by decide)) (g 384 (by decide) (by unfold scM; omega) (by decide) (by decide)) (g 385 (by decide) (by unfold scM; omega) (by decide) (by decide)) (g 386 (by decide) (by unfold scM; omega) (by decide) (by decide)), c7 x7⟩
/-- a town whose ledger alone has changed -/
theorem TJ.lg {a a' b b' : zMem} {A : Lg} (h : TJ a (b 357)) (hT : ∀ c : Nat, (c = 1 ∨ 8 ≤ c ∧ c ≤ 34) → a' c = a c) (hκ : ∀ i : Int, 73 ≤ i → b' 357 i = b 357 i) (hA : okA A) (c1 : lgO a' 2 = A) (c2 : 0 ≤ a' 2 5) (m1 : lgM b' = A) (m2 : 0 ≤ b' 357 71) : TJ a' (b' 357) := by
  obtain ⟨a1, a2, a3, a4, a5, a6, a7, a8, a9, a10⟩ := h
  have k1 := hT 1 (by decide)
  have eP : tL 7 (a' 3) = A.1 := by rw [← c1]; rfl
  have eM : tL 7 (b' 357) = A.1 := by rw [← m1]; rfl
  have eD : dbD a' = A.2.1 := by rw [← c1]; rfl
  have eN : dbM b' = A.2.1 := by rw [← m1]; rfl
  have hlD : (dbD a').length = (a' 2 5).toNat := tL_len
  have hlM : (dbM b').length = (b' 357 71).toNat := tL_len
  have p3 : ∀ i : Int, 0 ≤ i → i < 7 → a' 3 i = gL 0 A.1 i := fun i x y => by rw [← eP, gL_tL x (by omega)]
  have p7 : ∀ i : Int, 0 ≤ i → i < 7 → b' 357 i = gL 0 A.1 i := fun i x y => by rw [← eM, gL_tL x (by omega)]
  refine ⟨a1.c (by rw [k1]) (hκ _ (by decide)), ⟨fun i x y => by rw [p3 i x y]; exact hA.1 i x y, fun i x y => by rw [p3 i x y, p7 i x y]⟩, a3.c (fun i _ _ => by rw [hT 8 (by decide), hT 9 (by decide)]; exact ⟨rfl, rfl⟩) (fun i x _ => hκ i x), TD.n c2 (by rw [eD]; exact hA.2.1) (by rw [eD] at hlD; rw [eN] at hlM; omega) (by rw [eD]; exact eN), ⟨?_, ?_⟩, a6.c (by rw [k1]) (hκ _ (by decide)), a7.c (by rw [k1]) (fun c p q i _ _ => by rw [hT c (by omega)]) (hκ _ (by decide)) (fun i x _ => hκ i (by omega)), a8.c (by rw [k1]) (fun c p q i _ _ => by rw [hT c (by omega)]) (hκ _ (by decide)) (fun i x _ => hκ i (by omega)), a9.c (by rw [k1]) (fun c p q i _ _ => by rw [hT c (by omega)]) (fun i x _ => hκ i (by omega)), a10.c (by rw [k1]) (by rw [k1]) (hκ _ (by decide))⟩
  · have : a' 2 6 = A.2.2 := by rw [← c1]; rfl
    rw [this]
    exact hA.2.2
  · have h1 : a' 2 6 = A.2.2 := by rw [← c1]; rfl
    have h2 : b' 357 72 = A.2.2 := by rw [← m1]; rfl
    rw [h1, h2]
theorem SlO.c {a a' : zMem} (h : SlO a) (h1 : ∀ c : Nat, 111 ≤ c → c < 216 → a' c = a c) : SlO a' := by
  refine ⟨by rw [h1 111 (by decide) (by decide)]; exact h.1, fun s x y => ?_⟩
  rw [h1 _ (by unfold slC; omega) (by unfold slC; omega)]
  exact h.2 s x y


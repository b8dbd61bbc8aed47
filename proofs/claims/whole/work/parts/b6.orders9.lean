/-! orders: both sides -/
theorem JS.st {k : Int} {a b : zMem} (h : JS k a b) (v : Int) : JS k (zm a 0 17 v) (zm b 355 47 v) := ⟨by rw [zm_o (by decide), zm_o (by decide)]; exact h.1, by rw [zm_o (by decide), zm_o (by decide)]; exact h.2.1, by rw [zm_s, zm_s], fun i p q => by rw [zm_off 356 (by decide), zm_off 354 (by decide)]; exact h.2.2.2 i p q⟩
/-- behind orders that ran -/
theorem ord_J {k : Int} {a a' b b' : zMem} (hJ : JJ k a b) (h1 : OwC a a') (h2 : OwM b b') {A : Lg} (hA : okA A) (c1 : lgO a' 2 = A ∧ 0 ≤ a' 2 5) (m1 : lgM b' = A ∧ 0 ≤ b' 357 71) (hs : SlO a') (hu : 0 ≤ b' 355 28 ∧ b' 355 28 ≤ 16) (hU : UR (unD a' 111) (unM b')) (t1 : a' 321 2 = 0 ∧ a' 321 3 = -1) (t2 : b' 355 11 = 0 ∧ b' 355 12 = -1) (hS : JS (k + 1) a' b') (hb : bW (a' 326)) : JJ (k + 1) a' b' := by
  obtain ⟨x1, x2, x3, ⟨n, y1, y2, y3, y4, y5, y6⟩, x5, x6, x7⟩ := hJ
  obtain ⟨q1, q2, q3⟩ := h2
  have hT : TJ a' (b' 357) := by
    have h6 : TJ a (fun i => if 73 ≤ i then b' 357 i else b 357 i) := by
      refine TJ_6 x1 (fun i p q r => ?_)
      by_cases e : 73 ≤ i
      · rw [if_pos e]
        exact q1 i e p q r
      · rw [if_neg e]
    exact TJ.lg (b := fun _ i => if 73 ≤ i then b' 357 i else b 357 i) h6 (fun c hc => h1.1 c (by omega) (by omega) (by omega) (by omega) (by omega) (by omega)) (fun i hi => by rw [if_pos hi]) hA c1.1 c1.2 m1.1 m1.2
  refine ⟨hT, JU.mk hs hu hU, x3.c (fun c p q => h1.1 c (by omega) (by omega) (by omega) (by omega) (by omega) (by omega)) (q3 358 (by decide)) (q3 359 (by decide)), ⟨0, t1.1, t2.1, by omega, fun i i0 i1 => ?_, by rw [t2.2, t1.2], fun i i0 i1 => ?_⟩, hS, x6.c ?_ ?_ (q2 59 (by decide) (by decide) (by decide) (by decide) (by decide) (by decide) (by decide)) (q3 384 (by decide)) (q3 385 (by decide)) (q3 386 (by decide)), hb⟩
  · rw [h1.1 322 (by decide) (by decide) (by decide) (by decide) (by decide) (by decide), q3 362 (by decide)]
    exact y4 i i0 i1
  · rw [q3 361 (by decide)]
    exact y6 i i0 i1
  · rw [h1.1 351 (by decide) (by decide) (by decide) (by decide) (by decide) (by decide)]
  · exact h1.1 352 (by decide) (by decide) (by decide) (by decide) (by decide) (by decide)
theorem LC_orders : LC y_D_orders y_M_orders [] := LC.mk (fun k μ h0 h1 hJ => by
  obtain ⟨Z, F, A, w, hC, hM⟩ := hJ.ctx
  obtain ⟨n, t1, t2, t3, t4, t5, t6⟩ := hJ.2.2.2.1
  have hB : okB (μ 322) n := ⟨t3, fun i hi => (t4 i (by omega) (by omega)).1⟩
  have hs := hJ.2.1.so
  have hu : 0 ≤ μ 355 28 ∧ μ 355 28 ≤ 16 := by rw [hJ.2.1.2.1]; exact hJ.2.1.1.2
  have sD := q_D_orders (d := 53) (by decide) hC hs hB rfl t1 (hJ.rD h0 h1)
  have sM : ∀ μ1, HM μ μ1 → _ := fun μ1 hm => q_M_orders (d := 56) (μ := μ1) (B := μ 322) (n := n) (U := unD μ 111) (by decide) (hM.k (hm 357 (by decide))) (by rw [hm 355 (by decide)]; exact hu) (by
    have : unM μ1 = unM μ := by
      unfold unM rwM
      rw [hm 355 (by decide), hm 369 (by decide)]
    rw [this]
    exact hJ.2.1.2.2.2) hB (by rw [hm 355 (by decide)]; exact t2) (fun i hi => by rw [hm 362 (by decide)]; exact (t4 i (by omega) (by omega)).2) (fun i a b => by rw [hm 361 (by decide)]; exact t6 i a b) (hJ.rM h0 h1 hm)
  generalize hR : pCls (cT (μ 322) n) (fun t => decide (n ≤ ps (μ 322) n t)) (pcO true (cT (μ 322) n) (vT (μ 322) n)) 12 0 0 85 = R at *
  rcases R with ⟨t, _ | a⟩
  · refine ⟨0, fun v μ1 => v = -6 ∧ μ1 0 = (zm (zm μ 0 17 (-1)) 0 15 (-6)) 0 ∧ μ1 321 2 = 0 ∧ μ1 321 3 = (ps (μ 322) n t : Int) ∧ μ1 354 = (zm μ 354 6 (μ 354 6 + 1)) 354 ∧ zfc [0, 321, 323, 354] μ μ1, fun μ1 v μ2 => v = -6 ∧ (μ2 355 0 = -6 ∧ μ2 355 11 = 0 ∧ μ2 355 12 = (ps (μ 322) n t : Int) ∧ μ2 355 47 = -1) ∧ μ2 356 = (zm μ1 356 6 (μ1 356 6 + 1)) 356 ∧ (∀ j : Int, j ≠ 0 → j ≠ 8 → j ≠ 11 → j ≠ 12 → ¬ (16 ≤ j ∧ j ≤ 19) → j ≠ 47 → μ2 355 j = μ1 355 j) ∧ zfc [355, 356, 364, 365, 366] μ1 μ2, by decide, ?_, ?_, ?_⟩
    · refine zCw.use sD (by decide) (fun q μ1 e => ?_)
      obtain ⟨rfl, g⟩ := e.1 t rfl
      exact OD.yes (by decide) (g.2.2.2.2.hm (by simp)) ⟨rfl, g⟩
    · intro μ1 hm
      refine zCw.use (sM μ1 hm) (by decide) (fun q μ2 e => ?_)
      obtain ⟨rfl, g⟩ := e.1 t rfl
      exact OM.yes (by decide) (g.2.2.2.hc (by simp)) ⟨rfl, g⟩
    · rintro - v1 v2 μ1 μ2 hm ⟨rfl, d1, d2, d3, d4, d5⟩ hc ⟨rfl, ⟨m1, m2, m3, m7⟩, m4, m5, m6⟩
      obtain ⟨x1, x2, x3, x4, x5, x6, x7⟩ := hJ.m HC.rf hm
      refine ⟨rfl, x1.c (fun c p q i _ _ => by rw [d5 c (by simp only [List.mem_cons, List.not_mem_nil, or_false]; omega)]) (fun i _ _ => by rw [m6 357 (by decide)]), x2.c (fun c p q => d5 c (by simp only [List.mem_cons, List.not_mem_nil, or_false]; omega)) (m6 369 (by decide)) (m5 28 (by decide) (by decide) (by decide) (by decide) (by decide) (by decide)), x3.c (fun c p q => d5 c (by simp only [List.mem_cons, List.not_mem_nil, or_false]; omega)) (m6 358 (by decide)) (m6 359 (by decide)), ⟨0, d2, m2, by omega, fun i i0 i1 => ?_, by rw [m3, d3], fun i i0 i1 => ?_⟩, (x5.st (-1)).no (c := -6) (by decide) ?_ ?_ ?_ (fun i => ?_) ?_ ?_ (fun i => ?_), x6.c (by rw [d5 351 (by decide)]) (d5 352 (by decide)) (m5 59 (by decide) (by decide) (by decide) (by decide) (by decide) (by decide)) (m6 384 (by decide)) (m6 385 (by decide)) (m6 386 (by decide)), by rw [d5 326 (by decide)]; exact x7⟩
      · rw [d5 322 (by decide), m6 362 (by decide), hm 362 (by decide)]
        exact t4 i i0 i1
      · rw [m6 361 (by decide), hm 361 (by decide)]
        exact t6 i i0 i1
      · rw [d1, zm_s, m1]
      · rw [d1, zm_o (by omega)]
      · rw [d1, zm_o (by omega)]
      · rw [d4, zm_r, zm_off 354 (by decide), zit_t rfl]
        rfl
      · rw [m5 6 (by decide) (by decide) (by decide) (by decide) (by decide) (by decide), zm_o (by decide)]
      · rw [m7, zm_s]
      · rw [m4, zm_r, zm_off 356 (by decide), zit_t rfl]
        rfl
  · generalize hE : orL Z F a.1 (A, unD μ 111, 0, -1, w) a.1.length = E at *
    by_cases c : 0 ≤ E.1
    · refine ⟨0, fun v μ1 => v = E.2.2.2.1 ∧ OwC μ μ1 ∧ (μ1 321 2 = 0 ∧ μ1 321 3 = -1) ∧ CTx μ1 Z F E.2.1 E.2.2.2.2.2 ∧ SlO μ1 ∧ unD μ1 111 = E.2.2.1 ∧ μ1 0 15 = 0 ∧ μ1 0 17 = -1 ∧ μ1 354 = μ 354, fun μ1 v μ2 => v = E.2.2.2.1 ∧ OwM μ1 μ2 ∧ (μ2 355 11 = 0 ∧ μ2 355 12 = -1 ∧ 0 ≤ μ2 355 28 ∧ μ2 355 28 ≤ 16) ∧ MTx μ2 Z F E.2.1 E.2.2.2.2.2 ∧ UR E.2.2.1 (unM μ2) ∧ μ2 355 0 = 0 ∧ μ2 355 47 = -1 ∧ μ2 356 = μ1 356, by decide, ?_, ?_, ?_⟩
      · refine zCw.use sD (by decide) (fun q μ1 e => ?_)
        obtain ⟨g1, g2, g3, g4, -⟩ := e.2 t a rfl
        rw [hE] at g4
        obtain ⟨rfl, g5⟩ := g4 c
        exact OD.yes (by decide) (fun c hc => g1.1 c (by omega) (by omega) (by omega) (by omega) (by omega) (by omega)) ⟨rfl, g1, ⟨g2, g3⟩, g5⟩
      · intro μ1 hm
        refine zCw.use (sM μ1 hm) (by decide) (fun q μ2 e => ?_)
        obtain ⟨g1, g2, g4, -⟩ := e.2 t a rfl
        rw [hE] at g4
        obtain ⟨rfl, g5⟩ := g4 c
        exact OM.yes (by decide) (g1.2.2.hc (by simp)) ⟨rfl, g1, g2, g5⟩
      · rintro - v1 v2 μ1 μ2 hm ⟨rfl, d1, d2, d3, d4, d5, d6, d7, d8⟩ hc ⟨rfl, m1, ⟨m2, m3, m9⟩, m4, m5, m6, m7, m8⟩
        have hJ1 := hJ.m HC.rf hm
        have x5 := hJ1.2.2.2.2.1
        refine ⟨rfl, ord_J hJ1 d1 m1 d3.2.1 d3.2.2.2.1 m4.2.2.2.1 d4 m9 (by rw [d5]; exact m5) d2 ⟨m2, m3⟩ ⟨by rw [m6, d6], ?_, by rw [m7, d7], fun i p q => ?_⟩ d3.2.2.2.2.2.2⟩
        · rw [d1.2 16 (by decide) (by decide) (by decide) (by decide), m1.2.1 6 (by decide) (by decide) (by decide) (by decide) (by decide) (by decide) (by decide)]
          exact x5.2.1
        · rw [m8, d8]
          have := x5.2.2.2 i p q
          omega
    · have c' : E.1 < 0 := by omega
      refine ⟨0, fun v μ1 => OwC μ μ1 ∧ (μ1 321 2 = 0 ∧ μ1 321 3 = -1) ∧ v = zit (E.1 = -5) (-5) (-3) ∧ ∃ j : Nat, (orL Z F a.1 (A, unD μ 111, 0, -1, w) j).1 = 0 ∧ (orL Z F a.1 (A, unD μ 111, 0, -1, w) (j + 1)).1 < 0 ∧ (∃ w', CTx μ1 Z F A w') ∧ SlO μ1 ∧ unD μ1 111 = unD μ 111 ∧ μ1 0 15 = v ∧ μ1 0 17 = (j : Int) ∧ μ1 354 = (zm μ 354 (-v) (μ 354 (-v) + 1)) 354, fun μ1 v μ2 => OwM μ1 μ2 ∧ (μ2 355 11 = 0 ∧ μ2 355 12 = -1 ∧ 0 ≤ μ2 355 28 ∧ μ2 355 28 ≤ 16) ∧ v = zit (E.1 = -5) (-5) (-3) ∧ ∃ j : Nat, (orL Z F a.1 (A, unD μ 111, 0, -1, w) j).1 = 0 ∧ (orL Z F a.1 (A, unD μ 111, 0, -1, w) (j + 1)).1 < 0 ∧ MTx μ2 Z F A w ∧ UR (unD μ 111) (unM μ2) ∧ μ2 355 0 = v ∧ μ2 355 47 = (j : Int) ∧ μ2 356 = (zm μ1 356 (-v) (μ1 356 (-v) + 1)) 356, by decide, ?_, ?_, ?_⟩
      · refine zCw.use sD (by decide) (fun q μ1 e => ?_)
        obtain ⟨g1, g2, g3, -, g4⟩ := e.2 t a rfl
        rw [hE] at g4
        obtain ⟨v, j, hv, rfl, g5, g6, g7, g8⟩ := g4 c'
        exact OD.yes (by decide) (fun c hc => g1.1 c (by omega) (by omega) (by omega) (by omega) (by omega) (by omega)) ⟨g1, ⟨g2, g3⟩, hv, j, g6, g7, g8⟩
      · intro μ1 hm
        refine zCw.use (sM μ1 hm) (by decide) (fun q μ2 e => ?_)
        obtain ⟨g1, g2, -, g4⟩ := e.2 t a rfl
        rw [hE] at g4
        obtain ⟨v, j, hv, rfl, g5, g6, g7, g8⟩ := g4 c'
        exact OM.yes (by decide) (g1.2.2.hc (by simp)) ⟨g1, g2, hv, j, g6, g7, g8⟩
      · rintro - v1 v2 μ1 μ2 hm ⟨d1, d2, hv1, j1, o1, o2, ⟨w', d3⟩, d4, d5, d6, d7, d8⟩ hc ⟨m1, ⟨m2, m3, m9⟩, hv2, j2, p1, p2, m4, m5, m6, m7, m8⟩
        have hjj := orL_1 o1 o2 p1 p2
        subst hjj
        have hvv : v2 = v1 := hv2.trans hv1.symm
        subst hvv
        have hvb : -6 ≤ v2 ∧ v2 ≤ 0 := by
          rw [hv1]
          unfold zit
          split <;> omega
        have hJ1 := hJ.m HC.rf hm
        have x5 := hJ1.2.2.2.2.1
        refine ⟨rfl, ord_J hJ1 d1 m1 d3.2.1 d3.2.2.2.1 m4.2.2.2.1 d4 m9 (by rw [d5]; exact m5) d2 ⟨m2, m3⟩ ((x5.st (j1 : Int)).no (c := v2) hvb (by rw [d6, m6]) ?_ ?_ (fun i => ?_) ?_ ?_ (fun i => ?_)) d3.2.2.2.2.2.2⟩
        · rw [d1.2 16 (by decide) (by decide) (by decide) (by decide), zm_o (by decide)]
        · rw [d7, zm_s]
        · rw [d8, zm_r, zm_off 354 (by decide), zit_t rfl]
        · rw [m1.2.1 6 (by decide) (by decide) (by decide) (by decide) (by decide) (by decide) (by decide), zm_o (by decide)]
        · rw [m7, zm_s]
        · rw [m8, zm_r, zm_off 356 (by decide), zit_t rfl])


/-! law -/
theorem TL.add {T T' : zMem} {κ κ' : Int → Int} {f : Int} (h : TL T κ) (hf : T 1 10 = f) (h6 : f < 6) (h1 : T' 1 10 = f + 1) (h2 : ∀ c : Nat, 29 ≤ c → c < 35 → c ≠ 29 + f.toNat → T' c = T c) (h3 : κ' 155 = f + 1) (h4 : ∀ i : Int, 157 ≤ i → i ≠ 157 + f → ¬ (164 + 400 * f ≤ i ∧ i < 564 + 400 * f) → ¬ (2964 + 400 * f ≤ i ∧ i < 3364 + 400 * f) → κ' i = κ i) (hN : LwX (T' (29 + f.toNat)) κ' f) : TL T' κ' := by
  obtain ⟨p, q, r⟩ := h
  refine ⟨by omega, by omega, fun g g0 g1 => ?_⟩
  by_cases e : g = f
  · rw [e]
    exact hN
  · refine (r g g0 (by omega)).c (by omega) (fun i _ _ => by rw [h2 _ (by omega) (by omega) (by omega)]) (fun Q hQ hL => ⟨?_, fun u hu => ⟨?_, ?_⟩⟩)
    · rw [h4 _ (by omega) (by omega) (by omega) (by omega)]
      exact hL.1
    · rw [h4 _ (by omega) (by omega) (by omega) (by omega)]
      exact (hL.2 u hu).1
    · rw [h4 _ (by omega) (by omega) (by omega) (by omega)]
      exact (hL.2 u hu).2
theorem LC_law : LC y_D_law y_M_law [] := LC.mk (fun k μ h0 h1 hJ => by
  obtain ⟨n, t1, t2, t3, t4, t5, t6⟩ := hJ.2.2.2.1
  have hL := hJ.1.2.2.2.2.2.2.2.2.1
  have hF := hJ.1.2.2.2.2.2.2.2.2.2
  have hr := hJ.rD h0 h1
  have hB : okB (μ 322) n := ⟨t3, fun i hi => (t4 i (by omega) (by omega)).1⟩
  have sD := q_D_law (d := 53) (by decide) hB rfl t1 hL.1 ⟨hr 5 (by decide) (by decide), hr 6 (by decide) (by decide)⟩
  have sM : ∀ μ1, HM μ μ1 → _ := fun μ1 hm => q_M_law (d := 52) (μ := μ1) (B := μ 322) (n := n) (by decide) hB (by rw [hm 355 (by decide)]; exact t2) (fun i hi => by rw [hm 362 (by decide)]; exact (t4 i (by omega) (by omega)).2) (fun i a b => by rw [hm 361 (by decide)]; exact t6 i a b) (by rw [hm 357 (by decide), hL.2.1]; exact hL.1) ⟨hJ.rM h0 h1 hm 5 (by decide) (by decide), hJ.rM h0 h1 hm 6 (by decide) (by decide)⟩
  have e155 : ∀ μ1, HM μ μ1 → μ1 357 155 = μ 1 10 := fun μ1 hm => by rw [hm 357 (by decide), hL.2.1]
  by_cases c6 : μ 1 10 = 6
  · refine ⟨0, fun v μ1 => v = -5 ∧ μ1 = rfD (zm μ 321 2 0) (-5), fun μ1 v μ2 => v = -5 ∧ μ2 = rfM (zm μ1 355 11 0) (-5), by decide, ?_, ?_, ?_⟩
    · refine zCw.use sD (by decide) (fun q μ1 e => ?_)
      obtain ⟨rfl, rfl⟩ := e.1 c6
      exact OD.yes (by decide) (by ((repeat refine HM.sm ?_ (by omega)); exact HM.rf)) ⟨rfl, rfl⟩
    · intro μ1 hm
      refine zCw.use (sM μ1 hm) (by decide) (fun q μ2 e => ?_)
      obtain ⟨rfl, rfl⟩ := e.1 ((e155 μ1 hm).trans c6)
      exact OM.yes (by decide) (by ((repeat refine HC.sm ?_ (by omega)); exact HC.rf)) ⟨rfl, rfl⟩
    · rintro - v1 v2 μ1 μ2 hm ⟨rfl, eD⟩ hc ⟨rfl, rfl⟩
      refine ⟨rfl, JJ.eqD eD ?_⟩
      have := JJ.no (c := -5) (JJ.em (hJ.m HC.rf hm)) (by decide)
      exact this
  · generalize hR : pCls (cT (μ 322) n) (fun t => decide (n ≤ ps (μ 322) n t)) (pcO false (cT (μ 322) n) (vT (μ 322) n)) 12 0 0 85 = R at *
    rcases R with ⟨t, _ | a⟩
    · refine ⟨0, fun v μ1 => v = -6 ∧ μ1 0 = (zm μ 0 15 (-6)) 0 ∧ μ1 321 2 = 0 ∧ μ1 321 3 = (ps (μ 322) n t : Int) ∧ μ1 354 = (zm μ 354 6 (μ 354 6 + 1)) 354 ∧ zfc [0, 321, 323, 354] μ μ1, fun μ1 v μ2 => v = -6 ∧ μ2 355 0 = -6 ∧ μ2 355 11 = 0 ∧ μ2 355 12 = (ps (μ 322) n t : Int) ∧ μ2 356 = (zm μ1 356 6 (μ1 356 6 + 1)) 356 ∧ (∀ j : Int, j ≠ 0 → j ≠ 8 → j ≠ 11 → j ≠ 12 → j ≠ 16 → j ≠ 17 → j ≠ 18 → j ≠ 19 → μ2 355 j = μ1 355 j) ∧ zfc [355, 356, 364, 365, 366] μ1 μ2, by decide, ?_, ?_, ?_⟩
      · refine zCw.use sD (by decide) (fun q μ1 e => ?_)
        obtain ⟨rfl, g⟩ := (e.2 c6).1 t rfl
        exact OD.yes (by decide) (g.2.2.2.2.hm (by simp)) ⟨rfl, g⟩
      · intro μ1 hm
        refine zCw.use (sM μ1 hm) (by decide) (fun q μ2 e => ?_)
        obtain ⟨rfl, g⟩ := (e.2 (fun q => c6 ((e155 μ1 hm).symm.trans q))).1 t rfl
        exact OM.yes (by decide) (g.2.2.2.2.2.hc (by simp)) ⟨rfl, g⟩
      · rintro - v1 v2 μ1 μ2 hm ⟨rfl, d1, d2, d3, d4, d5⟩ hc ⟨rfl, m1, m2, m3, m4, m5, m6⟩
        obtain ⟨x1, x2, x3, x4, x5, x6, x7⟩ := hJ.m HC.rf hm
        refine ⟨rfl, x1.c (fun c p q i _ _ => by rw [d5 c (by simp only [List.mem_cons, List.not_mem_nil, or_false]; omega)]) (fun i _ _ => by rw [m6 357 (by decide)]), x2.c (fun c p q => d5 c (by simp only [List.mem_cons, List.not_mem_nil, or_false]; omega)) (m6 369 (by decide)) (m5 28 (by decide) (by decide) (by decide) (by decide) (by decide) (by decide) (by decide) (by decide)), x3.c (fun c p q => d5 c (by simp only [List.mem_cons, List.not_mem_nil, or_false]; omega)) (m6 358 (by decide)) (m6 359 (by decide)), ⟨0, d2, m2, by omega, fun i i0 i1 => ?_, by rw [m3, d3], fun i i0 i1 => ?_⟩, x5.no (c := -6) (by decide) ?_ ?_ ?_ (fun i => ?_) (m5 6 (by decide) (by decide) (by decide) (by decide) (by decide) (by decide) (by decide) (by decide)) (m5 47 (by decide) (by decide) (by decide) (by decide) (by decide) (by decide) (by decide) (by decide)) (fun i => ?_), x6.c (by rw [d5 351 (by decide)]) (d5 352 (by decide)) (m5 59 (by decide) (by decide) (by decide) (by decide) (by decide) (by decide) (by decide) (by decide)) (m6 384 (by decide)) (m6 385 (by decide)) (m6 386 (by decide)), by rw [d5 326 (by decide)]; exact x7⟩
        · rw [d5 322 (by decide), m6 362 (by decide), hm 362 (by decide)]
          exact t4 i i0 i1
        · rw [m6 361 (by decide), hm 361 (by decide)]
          exact t6 i i0 i1
        · rw [d1, zm_s, m1]
        · rw [d1, zm_o (by omega)]
        · rw [d1, zm_o (by omega)]
        · rw [d4, zm_r, zit_t rfl]
          rfl
        · rw [m4, zm_r, zit_t rfl]
          rfl
    · refine ⟨0, fun v μ1 => v = μ 1 10 ∧ μ1 0 = (zm μ 0 15 0) 0 ∧ μ1 321 2 = 0 ∧ μ1 321 3 = -1 ∧ μ1 1 = (zm μ 1 10 (μ 1 10 + 1)) 1 ∧ (∃ κ : Int → Int, κ 0 = (a.1.length : Int) ∧ a.1.length ≤ 12 ∧ (∀ (j : Nat) (cl : Cls), a.1[j]? = some cl → Hd false κ j cl) ∧ Seg κ 85 a.2 ∧ ∀ i : Int, 0 ≤ i → i < 385 → μ1 (29 + (μ 1 10).toNat) i = κ i) ∧ zfc [0, 1, 321, 323, 29 + (μ 1 10).toNat] μ μ1, fun μ1 v μ2 => v = μ1 357 155 ∧ μ2 355 0 = 0 ∧ μ2 355 11 = 0 ∧ μ2 355 12 = -1 ∧ (∃ N : Nat, okK (cT (μ 322) n, vT (μ 322) n, fun u => (ps (μ 322) n u : Int), N) ∧ (∀ u, u < N → ps (μ 322) n u < n) ∧ ps (μ 322) n N = n ∧ LwM (μ2 357) (μ1 357 155) (cT (μ 322) n, vT (μ 322) n, fun u => (ps (μ 322) n u : Int), N)) ∧ μ2 357 155 = μ1 357 155 + 1 ∧ (∀ i : Int, i ≠ 155 → i ≠ 157 + μ1 357 155 → ¬ (164 + 400 * μ1 357 155 ≤ i ∧ i < 564 + 400 * μ1 357 155) → ¬ (2964 + 400 * μ1 357 155 ≤ i ∧ i < 3364 + 400 * μ1 357 155) → μ2 357 i = μ1 357 i) ∧ (∀ j : Int, j ≠ 0 → j ≠ 8 → j ≠ 11 → j ≠ 12 → j ≠ 16 → j ≠ 17 → j ≠ 18 → j ≠ 19 → μ2 355 j = μ1 355 j) ∧ zfc [355, 357, 364, 365, 366] μ1 μ2, by decide, ?_, ?_, ?_⟩
      · refine zCw.use sD (by decide) (fun q μ1 e => ?_)
        obtain ⟨rfl, g⟩ := (e.2 c6).2 t a rfl
        refine OD.yes (by decide) (g.2.2.2.2.2.hm (fun k hk => ?_)) ⟨rfl, g⟩
        simp only [List.mem_cons, List.not_mem_nil, or_false] at hk
        have hl1 := hL.1
        omega
      · intro μ1 hm
        refine zCw.use (sM μ1 hm) (by decide) (fun q μ2 e => ?_)
        obtain ⟨rfl, g⟩ := (e.2 (fun q => c6 ((e155 μ1 hm).symm.trans q))).2 t a rfl
        exact OM.yes (by decide) (g.2.2.2.2.2.2.2.hc (by simp)) ⟨rfl, g⟩
      · rintro - v1 v2 μ1 μ2 hm ⟨rfl, d1, d2, d3, d4, ⟨κ, b1, b2, b3, b4, b5⟩, d5⟩ hc ⟨rfl, m1, m2, m3, ⟨N, s1, s2, s3, s4⟩, m4, m7, m5, m6⟩
        have ef := e155 μ1 hm
        rw [ef] at s4 m4 m7 ⊢
        obtain ⟨x1, x2, x3, x4, x5, x6, x7⟩ := hJ.m HC.rf hm
        have hf := hL.1
        generalize hff : μ 1 10 = f at *
        obtain ⟨l1, l2, l3, l4⟩ := law_taken hB s1 s2 s3 hR
        have kd : ∀ c : Nat, c ≠ 0 → c ≠ 1 → c ≠ 321 → c ≠ 323 → c ≠ 29 + f.toNat → μ1 c = μ c := fun c p0 p1 p2 p3 p4 => d5 c (by simp only [List.mem_cons, List.not_mem_nil, or_false]; omega)
        have k1 : ∀ j : Int, j ≠ 10 → μ1 1 j = μ 1 j := fun j hj => by rw [d4, zm_o (by omega)]
        have km : ∀ i : Int, i < 155 ∨ i = 156 → μ2 357 i = μ1 357 i := fun i hi => m7 i (by omega) (by omega) (by omega) (by omega)
        obtain ⟨a1, a2, a3, a4, a5, a6, a7, a8, a9, a10⟩ := x1
        refine ⟨rfl, ⟨a1.c (k1 _ (by decide)) (km _ (by decide)), a2.c (fun i _ _ => by rw [kd 3 (by omega) (by omega) (by omega) (by omega) (by omega)]) (fun i _ _ => km i (by omega)), a3.c (fun i _ _ => by rw [kd 8 (by omega) (by omega) (by omega) (by omega) (by omega), kd 9 (by omega) (by omega) (by omega) (by omega) (by omega)]; exact ⟨rfl, rfl⟩) (fun i _ _ => km i (by omega)), a4.c (by rw [kd 2 (by omega) (by omega) (by omega) (by omega) (by omega)]) (fun i _ _ => by unfold fD; rw [kd 4 (by omega) (by omega) (by omega) (by omega) (by omega), kd 5 (by omega) (by omega) (by omega) (by omega) (by omega), kd 6 (by omega) (by omega) (by omega) (by omega) (by omega), kd 7 (by omega) (by omega) (by omega) (by omega) (by omega)]) (fun i _ _ => km i (by omega)), a5.c (by rw [kd 2 (by omega) (by omega) (by omega) (by omega) (by omega)]) (km _ (by decide)), a6.c (k1 _ (by decide)) (km _ (by decide)), a7.c (k1 _ (by decide)) (fun c p q i _ _ => by rw [kd c (by omega) (by omega) (by omega) (by omega) (by omega)]) (km _ (by decide)) (fun i _ _ => km i (by omega)), a8.c (k1 _ (by decide)) (fun c p q i _ _ => by rw [kd c (by omega) (by omega) (by omega) (by omega) (by omega)]) (km _ (by decide)) (fun i _ _ => km i (by omega)), a9.add hff (by omega) (by rw [d4, zm_s]) (fun c p q r => kd c (by omega) (by omega) (by omega) (by omega) r) m4 (fun i p q r s => m7 i (by omega) q r s) ?_, ?_⟩, x2.c (fun c p q => kd c (by omega) (by omega) (by omega) (by omega) (by omega)) (m6 369 (by decide)) (m5 28 (by decide) (by decide) (by decide) (by decide) (by decide) (by decide) (by decide) (by decide)), x3.c (fun c p q => kd c (by omega) (by omega) (by omega) (by omega) (by omega)) (m6 358 (by decide)) (m6 359 (by decide)), ⟨0, d2, m2, by omega, fun i i0 i1 => ?_, by rw [m3, d3], fun i i0 i1 => ?_⟩, x5.ok (by omega) ?_ ?_ ?_ (kd 354 (by omega) (by omega) (by omega) (by omega) (by omega)) (m5 6 (by decide) (by decide) (by decide) (by decide) (by decide) (by decide) (by decide) (by decide)) (m5 47 (by decide) (by decide) (by decide) (by decide) (by decide) (by decide) (by decide) (by decide)) (m6 356 (by decide)), x6.c (by rw [kd 351 (by omega) (by omega) (by omega) (by omega) (by omega)]) (kd 352 (by omega) (by omega) (by omega) (by omega) (by omega)) (m5 59 (by decide) (by decide) (by decide) (by decide) (by decide) (by decide) (by decide) (by decide)) (m6 384 (by decide)) (m6 385 (by decide)) (m6 386 (by decide)), by rw [kd 326 (by omega) (by omega) (by omega) (by omega) (by omega)]; exact x7⟩
        · refine ⟨a.1, a.2, (cT (μ 322) n, vT (μ 322) n, fun u => (ps (μ 322) n u : Int), N), ⟨by rw [b5 0 (by decide) (by decide)]; exact b1, b2, fun j cl hj => Hd_c (b3 j cl hj) (fun i hi => ?_), Seg_d b4 (fun i q1 q2 => b5 i (by omega) (by omega))⟩, l2, l3, l4, s4, l1⟩
          have := (List.getElem?_eq_some_iff.mp hj).1
          unfold hd_in at hi
          exact b5 i (by omega) (by omega)
        · refine ⟨by rw [km 156 (by decide), k1 11 (by decide)]; exact a10.1, by rw [k1 11 (by decide)]; exact a10.2.1, ?_⟩
          rw [k1 11 (by decide), d4, zm_s]
          have := a10.2.2
          omega
        · rw [kd 322 (by omega) (by omega) (by omega) (by omega) (by omega), m6 362 (by decide), hm 362 (by decide)]
          exact t4 i i0 i1
        · rw [m6 361 (by decide), hm 361 (by decide)]
          exact t6 i i0 i1
        · rw [d1, zm_s, m1]
        · rw [d1, zm_o (by omega)]
        · rw [d1, zm_o (by omega)])


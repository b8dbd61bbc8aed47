/-! orders: the class runs all clauses -/
def clN : Cls := (0, 0, (0, 0, 0, 0, 0), (fun _ => none, fun _ => none, fun _ => none, none))
theorem orL_s {Z : Zt} {F : Option (List Cls)} {cls : List Cls} {x : OrS} {j : Nat} : orL Z F cls x (j + 1) = if (orL Z F cls x j).1 < 0 then orL Z F cls x j else orI Z F (cls.getD j clN) (orL Z F cls x j).2 (cls.getD j clN).2.1.toNat := rfl
theorem orI_n {Z : Zt} {F : Option (List Cls)} {cl : Cls} {x : OrS} {k : Nat} (h : (orI Z F cl x k).1 < 0) : ∀ m : Nat, orI Z F cl x (k + m) = orI Z F cl x k
  | 0 => rfl
  | m + 1 => by
    have ih := orI_n h m
    rw [← Nat.add_assoc, orI, ih, if_pos h]
theorem orL_n {Z : Zt} {F : Option (List Cls)} {cls : List Cls} {x : OrS} {k : Nat} (h : (orL Z F cls x k).1 < 0) : ∀ m : Nat, orL Z F cls x (k + m) = orL Z F cls x k
  | 0 => rfl
  | m + 1 => by
    have ih := orL_n h m
    rw [← Nat.add_assoc, orL_s, ih, if_pos h]
theorem orL_1 {Z : Zt} {F : Option (List Cls)} {cls : List Cls} {x : OrS} {j1 j2 : Nat} (a1 : (orL Z F cls x j1).1 = 0) (a2 : (orL Z F cls x (j1 + 1)).1 < 0) (b1 : (orL Z F cls x j2).1 = 0) (b2 : (orL Z F cls x (j2 + 1)).1 < 0) : j1 = j2 := by
  rcases Nat.lt_trichotomy j1 j2 with h | h | h
  · have := orL_n a2 (j2 - (j1 + 1))
    rw [show j1 + 1 + (j2 - (j1 + 1)) = j2 by omega] at this
    rw [this] at b1
    omega
  · exact h
  · have := orL_n b2 (j1 - (j2 + 1))
    rw [show j2 + 1 + (j1 - (j2 + 1)) = j1 by omega] at this
    rw [this] at a1
    omega
def OrC (Z : Zt) (F : Option (List Cls)) (x : OrS) (st : Int) (μ μ1 : zMem) : Prop := CTx μ1 Z F x.1 x.2.2.2.2 ∧ SlO μ1 ∧ unD μ1 111 = x.2.1 ∧ (μ1 0 17 = st ∧ μ1 0 18 = x.2.2.1 ∧ μ1 0 19 = x.2.2.2.1) ∧ (∀ c : Nat, c ≠ 0 → ¬ (2 ≤ c ∧ c ≤ 7) → ¬ (111 ≤ c ∧ c < 216) → ¬ (325 ≤ c ∧ c ≤ 327) → μ1 c = μ c) ∧ ∀ i : Int, i ≠ 17 → i ≠ 18 → i ≠ 19 → μ1 0 i = μ 0 i
/-- what one run leaves -/
theorem orR_0 {Z : Zt} {F : Option (List Cls)} {cl : Cls} {x : OrS} (h : hlT cl.2.2.2.2.2.2 (orW Z x) = false) : orR Z F cl x = (0, (x.1, x.2.1, x.2.2.1, x.2.2.2.1, orW Z x)) := by
  unfold orR
  rw [if_neg (by rw [h]; decide)]
theorem orR_1 {Z : Zt} {F : Option (List Cls)} {cl : Cls} {x : OrS} (h : hlT cl.2.2.2.2.2.2 (orW Z x) = true) (hc : orC Z F x.1 cl (orW Z x) < 0) : orR Z F cl x = (orC Z F x.1 cl (orW Z x), (x.1, x.2.1, x.2.2.1, x.2.2.2.1, orW Z x)) := by
  unfold orR
  rw [if_pos h, if_pos hc]
theorem orR_2 {Z : Zt} {F : Option (List Cls)} {cl : Cls} {x : OrS} (h : hlT cl.2.2.2.2.2.2 (orW Z x) = true) (hc : 0 ≤ orC Z F x.1 cl (orW Z x)) : orR Z F cl x = (0, (orA Z F x.1 cl (orW Z x), kpD x.2.1 (x.1, orK cl), x.2.2.1 + 1, zit (cl.1 = 2) x.2.2.2.1 (orC Z F x.1 cl (orW Z x)), orW Z x)) := by
  unfold orR
  rw [if_pos h, if_neg (by omega)]
theorem OrC.c {Z : Zt} {F : Option (List Cls)} {x : OrS} {st : Int} {μ μ1 μ2 : zMem} {A' : Lg} {U' : List (Lg × Int)} {W : Int → Int} (h : OrC Z F x st μ μ1) (h1 : OrF μ1 μ2) (h2 : SlO μ2) (h3 : CTx μ2 Z F A' W) (h4 : unD μ2 111 = U') : OrC Z F (A', U', x.2.2.1, x.2.2.2.1, W) st μ μ2 := by
  obtain ⟨a1, a2, a3, a4, a5, a6⟩ := h
  have e0 := h1 0 (by omega) (by omega) (by omega)
  exact ⟨h3, h2, h4, by rw [e0]; exact a4, fun c p q r s => (h1 c q r s).trans (a5 c p q r s), fun i p q r => by rw [e0]; exact a6 i p q r⟩
theorem OrC.m {Z : Zt} {F : Option (List Cls)} {x : OrS} {st : Int} {μ μ1 μ2 : zMem} {a b : Int} (h : OrC Z F x st μ μ1) (h1 : zfc [0] μ1 μ2) (h2 : ∀ i : Int, i ≠ 17 → i ≠ 18 → i ≠ 19 → μ2 0 i = μ1 0 i) {st' : Int} (h3 : μ2 0 17 = st' ∧ μ2 0 18 = a ∧ μ2 0 19 = b) : OrC Z F (x.1, x.2.1, a, b, x.2.2.2.2) st' μ μ2 := by
  obtain ⟨a1, a2, a3, a4, a5, a6⟩ := h
  exact ⟨a1.k (fun c hc => h1 c (by simp only [List.mem_cons, List.not_mem_nil, or_false]; omega)) (by rw [h1 326 (by decide)]; exact a1.2.2.2.2.2), a2.c (fun c p q => h1 c (by simp only [List.mem_cons, List.not_mem_nil, or_false]; omega)), (unD_same a2 (fun c p q => h1 c (by simp only [List.mem_cons, List.not_mem_nil, or_false]; omega))).1.trans a3, h3, fun c p q r s => (h1 c (by simp only [List.mem_cons, List.not_mem_nil, or_false]; omega)).trans (a5 c p q r s), fun i p q r => (h2 i p q r).trans (a6 i p q r)⟩
/-- the call at a state -/
theorem orc_w {d : Nat} (hd : 11 ≤ d) {Z : Zt} {F : Option (List Cls)} {x : OrS} {st : Int} {μ μ1 : zMem} {κ : Int → Int} {k : Int} {cl : Cls} {n : Nat} {K : zRo} (hZ : okZ Z) (h : OrC Z F x st μ μ1) (hx : okO2 n x) (hn : n ≤ 1000) (hκ : μ1 323 = κ) (hk : 0 ≤ k ∧ k < 12) (hH : Hd true κ k cl) (hL : ClC true κ cl) (hcl : 0 ≤ cl.1 ∧ cl.1 ≤ 2) (h0 : ∀ μ2, (orR Z F cl x).1 = 0 → OrC Z F (orR Z F cl x).2 st μ μ2 → K (some (vi (-100))) μ2) (h1 : ∀ μ2, (orR Z F cl x).1 < 0 → -5 ≤ (orR Z F cl x).1 → OrC Z F (orR Z F cl x).2 st μ μ2 → K (some (vi (orR Z F cl x).1)) μ2) (h2 : ∀ (c : Int) μ2, (orR Z F cl x).1 = 0 → 0 ≤ c → c ≤ 1000000 → OrC Z F ((orR Z F cl x).2.1, (orR Z F cl x).2.2.1, x.2.2.1, x.2.2.2.1, (orR Z F cl x).2.2.2.2.2) st μ μ2 → (orR Z F cl x).2.2.2.1 = x.2.2.1 + 1 → (orR Z F cl x).2.2.2.2.1 = zit (cl.1 = 2) x.2.2.2.1 c → μ2 323 = κ → K (some (vi c)) μ2) : zCw d y_D_runClause [vr 0, vr 323, vi k] μ1 K := by
  have hW : fillO Z x.1 (μ1 0 18) (μ1 0 19) (μ1 326) = orW Z x := by
    rw [h.2.2.2.1.2.1, h.2.2.2.1.2.2]
    exact fillO_E h.1.2.2.2.2.2.1
  have hb : bW (orW Z x) := fillO_b hx.1 (by have := hx.2.1; omega) hx.2.2
  refine zCw.use (q_D_runClause (d := 10) (by decide) h.1 h.2.1 hκ hk hH hL hcl hW hb) hd (fun q μ2 e => ?_)
  obtain ⟨n1, rfl, e1, e2, e3, e4⟩ := e
  have hU := h.2.2.1
  rcases hh : hlT cl.2.2.2.2.2.2 (orW Z x) with _ | _
  · obtain ⟨rfl, f1, f2⟩ := e3 hh
    have hR := orR_0 (F := F) hh
    refine h0 μ2 (by rw [hR]) ?_
    rw [hR]
    exact h.c e1 e2 f1 (f2.trans hU)
  · obtain ⟨rfl, f1, f2⟩ := e4 hh
    by_cases c : orC Z F x.1 cl (orW Z x) < 0
    · have hR := orR_1 (F := F) hh c
      have := (orC_in (F := F) (cl := cl) (W := orW Z x) hZ hx.1).1
      have := h1 μ2 (by rw [hR]; exact c) (by rw [hR]; exact this) (by rw [hR]; exact h.c e1 e2 (f1 c).1 ((f1 c).2.trans hU))
      rw [hR] at this
      exact this
    · have c : 0 ≤ orC Z F x.1 cl (orW Z x) := by omega
      have hR := orR_2 (F := F) hh c
      have := (orC_in (F := F) (cl := cl) (W := orW Z x) hZ hx.1).2.1
      refine h2 _ μ2 (by rw [hR]) c (by omega) ?_ (by rw [hR]) (by rw [hR]) ?_
      · rw [hR]
        exact h.c e1 e2 (f2 c).1 ((f2 c).2.trans (by rw [hU]))
      · rw [e1 323 (by omega) (by omega) (by omega)]
        exact hκ
def OrE (Z : Zt) (F : Option (List Cls)) (cls : List Cls) (x : OrS) (st : Int) (μ : zMem) (v : Int) (μ' : zMem) : Prop := (0 ≤ (orL Z F cls x cls.length).1 → v = 0 ∧ OrC Z F (orL Z F cls x cls.length).2 st μ μ') ∧ ((orL Z F cls x cls.length).1 < 0 → v = (orL Z F cls x cls.length).1 ∧ -5 ≤ v ∧ ∃ j : Nat, j < cls.length ∧ (orL Z F cls x j).1 = 0 ∧ (orL Z F cls x (j + 1)).1 < 0 ∧ OrC Z F (orL Z F cls x cls.length).2 j μ μ')
theorem q_D_runOrders {d : Nat} (hd : 12 ≤ d) {μ : zMem} {Z : Zt} {F : Option (List Cls)} {A : Lg} {w : Int → Int} {κ : Int → Int} {cls : List Cls} (h : CTx μ Z F A w) (hs : SlO μ) (hκ : μ 323 = κ) (hL : LwC true κ cls) (hcl : ∀ cl, cl ∈ cls → (0 ≤ cl.1 ∧ cl.1 ≤ 2) ∧ 1 ≤ cl.2.1 ∧ cl.2.1 ≤ 20) : zSp d 0 0 y_D_runOrders zT0 [vr 0, vr 323] μ zT0 (fun r μ' => ∃ v : Int, r = some (vi v) ∧ OrE Z F cls (A, unD μ 111, 0, -1, w) (μ 0 17) μ v μ') := by
  refine zSp.ss [vr 0, vr 323, vx 0, vx 0, vx 0, vx 0, vx 0] rfl (w_D_runOrders (Nat.le_trans (by decide) hd)) rfl rfl ?_
  (try simp only [zit_e, Bool.and_eq_true, Bool.or_eq_true, Bool.not_eq_true', Bool.and_eq_false_iff, Bool.or_eq_false_iff, Bool.not_eq_false', zbe, zdt, zdf, zb2_p, zbp_0, zbp_1, zbp_inj, zbp_01, Bool.true_eq_false, Bool.false_eq_true, true_and, and_true, Decidable.not_not, Classical.not_not, implies_true, List.nil_append, List.cons_append, List.append_assoc, Option.some.injEq, Sum.inl.injEq, zSw_c, zSw_n]); (try simp only [zit_e, Bool.and_eq_true, Bool.or_eq_true, Bool.not_eq_true', Bool.and_eq_false_iff, Bool.or_eq_false_iff, Bool.not_eq_false', zbe, zdt, zdf, zb2_p, zbp_0, zbp_1, zbp_inj, zbp_01, Bool.true_eq_false, Bool.false_eq_true, true_and, and_true, Decidable.not_not, Classical.not_not, implies_true, List.nil_append, List.cons_append, List.append_assoc, Option.some.injEq, Sum.inl.injEq, zSw_c, zSw_n, zc_0, f_D_column, g_D_column]); (try simp only [zi_cs, zi_c0, zii_cs, zii_c0, zl_cs, zl_c0, zll_cs, zll_c0, zr_cs, zr_c0, zrr_cs, zrr_c0, zxs_cs, zxs_c0, zxx_cs, zxx_c0, zfree_c0, zfree_c1, zfree_cs, zfree_cz, zlong_i, zlong_r, zlong_x, zset_0, zset_s, true_and, and_true, Option.some.injEq, Sum.inl.injEq, Sum.inr.injEq, zb2_p, zbp_0, zbp_1, zbp_inj, zbp_01, Nat.zero_add, Nat.reduceAdd, implies_true, List.nil_append, List.cons_append, List.append_assoc, Int.not_lt, Int.not_le, Decidable.not_not, Int.zero_add, Int.reduceLE, Int.reduceLT, Int.reduceEq, Int.reduceNe, Int.reduceAdd, Int.reduceSub, Int.reduceMul, Int.reduceNeg, Int.reduceToNat, Nat.reduceMul, Nat.reduceLT, Nat.reduceEqDiff, and_self, ite_true, ite_false, zx1, zx2, zRecv, List.length_cons, List.length_nil, ne_eq, not_true_eq_false, not_false_eq_true, true_or, or_true, or_false, false_or, and_false, false_and, zf01, zf10, reduceCtorEq, zSw_c, zSw_n, zm_r, zit_T, zit_F, false_implies, true_implies, zc_0, f_D_column, g_D_column])
  obtain ⟨hL0, hL1, hL2⟩ := hL
  rw [hκ, hL0]
  have hZ := h.1
  generalize hx0 : ((A, unD μ 111, 0, -1, w) : OrS) = x0
  generalize hst : μ 0 17 = st
  refine ⟨⟨rfl, by decide⟩, ?_⟩
  have hI : OrC Z F x0 st μ (zm (zm μ 0 18 0) 0 19 (-1)) := by
    have z : zfc [0] μ (zm (zm μ 0 18 0) 0 19 (-1)) := (zfc.rf.zm (by decide)).zm (by decide)
    rw [← hx0]
    refine ⟨h.k (fun c hc => z c (by simp only [List.mem_cons, List.not_mem_nil, or_false]; omega)) (by rw [z 326 (by decide)]; exact h.2.2.2.2.2), hs.c (fun c p q => z c (by simp only [List.mem_cons, List.not_mem_nil, or_false]; omega)), (unD_same hs (fun c p q => z c (by simp only [List.mem_cons, List.not_mem_nil, or_false]; omega))).1, ⟨?_, ?_, zm_s⟩, fun c p _ _ _ => z c (by simp only [List.mem_cons, List.not_mem_nil, or_false]; omega), fun i p q r => ?_⟩
    · rw [zm_o (by decide), zm_o (by decide)]
      exact hst
    · rw [zm_o (by decide), zm_s]
    · rw [zm_o (Or.inr r), zm_o (Or.inr q)]
  refine zLoop.up cls.length (fun j ρ μ1 => ∃ x4 x5 x6 : zV, ρ = [vr 0, vr 323, vi (cls.length : Int), vi j, x4, x5, x6] ∧ OrC Z F (orL Z F cls x0 j).2 st μ μ1 ∧ (orL Z F cls x0 j).1 = 0 ∧ ∃ m : Nat, m ≤ 20 * j ∧ okO2 m (orL Z F cls x0 j).2) ⟨_, _, _, rfl, hI, rfl, 0, by omega, ?_⟩ ?_
  · rw [← hx0]
    exact ⟨h.2.1, ⟨by show (0 : Int) ≤ 0; decide, by show (0 : Int) ≤ 0; decide⟩, by show (-1 : Int) ≤ -1; decide, by show (-1 : Int) ≤ 1000000; decide⟩
  rintro j ρ μ1 hj ⟨x4, x5, x6, rfl, hO, hz, m, hm, hok⟩
  have k323 : μ1 323 = κ := (hO.2.2.2.2.1 323 (by decide) (by decide) (by decide) (by decide)).trans hκ
  (try simp only [zit_e, Bool.and_eq_true, Bool.or_eq_true, Bool.not_eq_true', Bool.and_eq_false_iff, Bool.or_eq_false_iff, Bool.not_eq_false', zbe, zdt, zdf, zb2_p, zbp_0, zbp_1, zbp_inj, zbp_01, Bool.true_eq_false, Bool.false_eq_true, true_and, and_true, Decidable.not_not, Classical.not_not, implies_true, List.nil_append, List.cons_append, List.append_assoc, Option.some.injEq, Sum.inl.injEq, zSw_c, zSw_n]); (try simp only [zit_e, Bool.and_eq_true, Bool.or_eq_true, Bool.not_eq_true', Bool.and_eq_false_iff, Bool.or_eq_false_iff, Bool.not_eq_false', zbe, zdt, zdf, zb2_p, zbp_0, zbp_1, zbp_inj, zbp_01, Bool.true_eq_false, Bool.false_eq_true, true_and, and_true, Decidable.not_not, Classical.not_not, implies_true, List.nil_append, List.cons_append, List.append_assoc, Option.some.injEq, Sum.inl.injEq, zSw_c, zSw_n, zc_0, f_D_column, g_D_column]); (try simp only [zi_cs, zi_c0, zii_cs, zii_c0, zl_cs, zl_c0, zll_cs, zll_c0, zr_cs, zr_c0, zrr_cs, zrr_c0, zxs_cs, zxs_c0, zxx_cs, zxx_c0, zfree_c0, zfree_c1, zfree_cs, zfree_cz, zlong_i, zlong_r, zlong_x, zset_0, zset_s, true_and, and_true, Option.some.injEq, Sum.inl.injEq, Sum.inr.injEq, zb2_p, zbp_0, zbp_1, zbp_inj, zbp_01, Nat.zero_add, Nat.reduceAdd, implies_true, List.nil_append, List.cons_append, List.append_assoc, Int.not_lt, Int.not_le, Decidable.not_not, Int.zero_add, Int.reduceLE, Int.reduceLT, Int.reduceEq, Int.reduceNe, Int.reduceAdd, Int.reduceSub, Int.reduceMul, Int.reduceNeg, Int.reduceToNat, Nat.reduceMul, Nat.reduceLT, Nat.reduceEqDiff, and_self, ite_true, ite_false, zx1, zx2, zRecv, List.length_cons, List.length_nil, ne_eq, not_true_eq_false, not_false_eq_true, true_or, or_true, or_false, false_or, and_false, false_and, zf01, zf10, reduceCtorEq, zSw_c, zSw_n, zm_r, zit_T, zit_F, false_implies, true_implies, zc_0, f_D_column, g_D_column])
  refine zif (fun c => ?_) (fun c => ?_)
  · have hj1 : j < cls.length := by omega
    have hge : cls[j]? = some (cls[j]) := List.getElem?_eq_getElem hj1
    obtain ⟨hH, hCl⟩ := hL2 j _ hge
    obtain ⟨hc1, hc2, hc3⟩ := hcl _ (List.getElem_mem hj1)
    have hgd : cls.getD j clN = cls[j] := by
      rw [List.getD_eq_getElem?_getD, hge]
      rfl
    have hS : orL Z F cls x0 (j + 1) = orI Z F cls[j] (orL Z F cls x0 j).2 cls[j].2.1.toNat := by
      rw [orL_s, if_neg (by omega), hgd]
    generalize cls[j] = cl at *
    generalize hxj : (orL Z F cls x0 j).2 = xj at *
    rw [k323, hH.2.1 rfl]
    refine ⟨⟨⟨rfl, rfl⟩, by omega, by omega⟩, ?_⟩
    refine zLoop.up cl.2.1.toNat (fun k ρ μ2 => ∃ x6 : zV, ρ = [vr 0, vr 323, vi (cls.length : Int), vi j, vi cl.2.1, vi k, x6] ∧ OrC Z F (orI Z F cl xj k).2 st μ μ2 ∧ (orI Z F cl xj k).1 = 0) ⟨_, rfl, hO, rfl⟩ ?_
    rintro k ρ μ2 hk ⟨x6, rfl, hO2, hz2⟩
    have k323 : μ2 323 = κ := (hO2.2.2.2.2.1 323 (by decide) (by decide) (by decide) (by decide)).trans hκ
    have hok2 := (orI_ok (F := F) (cl := cl) hZ hok k).2
    (try simp only [zit_e, Bool.and_eq_true, Bool.or_eq_true, Bool.not_eq_true', Bool.and_eq_false_iff, Bool.or_eq_false_iff, Bool.not_eq_false', zbe, zdt, zdf, zb2_p, zbp_0, zbp_1, zbp_inj, zbp_01, Bool.true_eq_false, Bool.false_eq_true, true_and, and_true, Decidable.not_not, Classical.not_not, implies_true, List.nil_append, List.cons_append, List.append_assoc, Option.some.injEq, Sum.inl.injEq, zSw_c, zSw_n]); (try simp only [zit_e, Bool.and_eq_true, Bool.or_eq_true, Bool.not_eq_true', Bool.and_eq_false_iff, Bool.or_eq_false_iff, Bool.not_eq_false', zbe, zdt, zdf, zb2_p, zbp_0, zbp_1, zbp_inj, zbp_01, Bool.true_eq_false, Bool.false_eq_true, true_and, and_true, Decidable.not_not, Classical.not_not, implies_true, List.nil_append, List.cons_append, List.append_assoc, Option.some.injEq, Sum.inl.injEq, zSw_c, zSw_n, zc_0, f_D_column, g_D_column]); (try simp only [zi_cs, zi_c0, zii_cs, zii_c0, zl_cs, zl_c0, zll_cs, zll_c0, zr_cs, zr_c0, zrr_cs, zrr_c0, zxs_cs, zxs_c0, zxx_cs, zxx_c0, zfree_c0, zfree_c1, zfree_cs, zfree_cz, zlong_i, zlong_r, zlong_x, zset_0, zset_s, true_and, and_true, Option.some.injEq, Sum.inl.injEq, Sum.inr.injEq, zb2_p, zbp_0, zbp_1, zbp_inj, zbp_01, Nat.zero_add, Nat.reduceAdd, implies_true, List.nil_append, List.cons_append, List.append_assoc, Int.not_lt, Int.not_le, Decidable.not_not, Int.zero_add, Int.reduceLE, Int.reduceLT, Int.reduceEq, Int.reduceNe, Int.reduceAdd, Int.reduceSub, Int.reduceMul, Int.reduceNeg, Int.reduceToNat, Nat.reduceMul, Nat.reduceLT, Nat.reduceEqDiff, and_self, ite_true, ite_false, zx1, zx2, zRecv, List.length_cons, List.length_nil, ne_eq, not_true_eq_false, not_false_eq_true, true_or, or_true, or_false, false_or, and_false, false_and, zf01, zf10, reduceCtorEq, zSw_c, zSw_n, zm_r, zit_T, zit_F, false_implies, true_implies, zc_0, f_D_column, g_D_column])
    refine zif (fun c2 => ?_) (fun c2 => ?_)
    · have hR : orI Z F cl xj (k + 1) = orR Z F cl (orI Z F cl xj k).2 := by
        rw [orI, if_neg (by omega)]
      have hz18 := hO2.2.2.2.1.2.1
      have hzd := hok2.2.1
      refine orc_w (by omega) hZ hO2 hok2 (by omega) k323 (by omega) hH hCl hc1 (fun μ3 e1 e2 => ?_) (fun μ3 e1 e0 e2 => ?_) (fun v μ3 e1 e0 e9 e2 e3 e4 e5 => ?_)
      · exact ⟨_, rfl, zif (fun _ => ⟨by ((try simp only [zI_e]); (first | done | omega | skip)), znx (by omega) ⟨_, rfl, by rw [hR]; exact e2, by rw [hR]; exact e1⟩⟩) (fun q => absurd rfl q)⟩
      · refine ⟨_, rfl, zif (fun q => absurd q (by omega)) (fun _ => zif (fun _ => ⟨_, rfl, ?_⟩) (fun q => absurd e1 q))⟩
        rw [← hR] at e0 e1 e2 ⊢
        have hf := orI_n e1 (cl.2.1.toNat - (k + 1))
        rw [show k + 1 + (cl.2.1.toNat - (k + 1)) = cl.2.1.toNat by omega, ← hS] at hf
        rw [← hf] at e0 e1 e2 ⊢
        have hg := orL_n e1 (cls.length - (j + 1))
        rw [show j + 1 + (cls.length - (j + 1)) = cls.length by omega] at hg
        refine ⟨fun q => ?_, fun q => ⟨by rw [hg], e0, j, hj1, hz, e1, ?_⟩⟩
        · rw [hg] at q
          omega
        · rw [hg]
          exact e2.m (zfc.rf.zm (by decide)) (fun i p _ _ => zm_o (Or.inr p)) ⟨zm_s, by rw [zm_o (by decide)]; exact e2.2.2.2.1.2.1, by rw [zm_o (by decide)]; exact e2.2.2.2.1.2.2⟩
      · have h18 := e2.2.2.2.1.2.1
        have h19 := e2.2.2.2.1.2.2
        have h17 := e2.2.2.2.1.1
        refine ⟨_, rfl, zif (fun q => absurd q (by omega)) (fun _ => zif (fun q => absurd q (by omega)) (fun _ => ⟨?_, ⟨⟨rfl, rfl⟩, by omega, by omega⟩, ?_⟩))⟩
        · rw [h18]
          exact zI_s (by show _ ≤ (orI Z F cl xj k).2.2.2.1 + 1; omega) (by show (orI Z F cl xj k).2.2.2.1 + 1 ≤ _; omega)
        rw [e5, Int.add_zero, hH.1]
        have kp : ∀ {μ4 : zMem}, zfc [0] μ3 μ4 → (∀ i : Int, i ≠ 17 → i ≠ 18 → i ≠ 19 → μ4 0 i = μ3 0 i) → μ4 0 17 = st → μ4 0 18 = (orI Z F cl xj k).2.2.2.1 + 1 → μ4 0 19 = zit (cl.1 = 2) (orI Z F cl xj k).2.2.2.2.1 v → OrC Z F (orI Z F cl xj (k + 1)).2 st μ μ4 := by
          intro μ4 z z1 z2 z3 z4
          have := e2.m z z1 ⟨z2, z3, z4⟩
          rw [← e3, ← e4] at this
          rw [hR]
          exact this
        have e1' : (orI Z F cl xj (k + 1)).1 = 0 := by rw [hR]; exact e1
        refine zif (fun q => ⟨by ((try simp only [zI_e]); (first | done | omega | skip)), znx (by omega) ⟨_, rfl, kp ((zfc.rf.zm (by decide)).zm (by decide)) (fun i p q r => by rw [zm_o (Or.inr r), zm_o (Or.inr q)]) ?_ ?_ ?_, e1'⟩⟩) (fun q => ⟨by ((try simp only [zI_e]); (first | done | omega | skip)), znx (by omega) ⟨_, rfl, kp (zfc.rf.zm (by decide)) (fun i p q r => zm_o (Or.inr q)) ?_ ?_ ?_, e1'⟩⟩)
        · rw [zm_o (by decide), zm_o (by decide)]
          exact h17
        · rw [zm_o (by decide), zm_s, h18]
        · rw [zm_s, zit_f q]
        · rw [zm_o (by decide)]
          exact h17
        · rw [zm_s, h18]
        · rw [zm_o (by decide), h19, zit_t (by omega)]
    · have hk9 : k = cl.2.1.toNat := by omega
      subst hk9
      exact ⟨by ((try simp only [zI_e]); (first | done | omega | skip)), znx (by omega) ⟨_, _, _, rfl, by rw [hS]; exact hO2, by rw [hS]; exact hz2, m + cl.2.1.toNat, by omega, by rw [hS]; exact hok2⟩⟩
  · have hjn : j = cls.length := by omega
    subst hjn
    exact ⟨_, rfl, fun _ => ⟨rfl, hO⟩, fun q => by omega⟩


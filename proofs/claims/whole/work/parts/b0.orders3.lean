/-! orders: the class runs all clauses -/
def clN : Cls := (0, 0, (0, 0, 0, 0, 0), (fun _ => none, fun _ => none, fun _ => none, none))
theorem orL_s {Z : Zt} {F : Option (List Cls)} {cls : List Cls} {x : OrS} {j : Nat} : orL Z F cls x (j + 1) = if (orL Z F cls x j).1 < 0 then orL Z F cls x j else orI Z F (cls.getD j clN) (orL Z F cls x j).2 (cls.getD j clN).2.1.toNat := rfl
theorem orI_n {Z : Zt} {F : Option (List Cls)} {cl : Cls} {x : OrS} {k : Nat} (h : (orI Z F cl x k).1 < 0) : ∀ m : Nat, orI Z F cl x (k + m) = orI Z F cl x k
  | 0 => rfl
  | m + 1 => by
    have ih := orI_n h m
    rw [← Nat.add_assoc, orI, ih, if_pos h]
theorem orL_n {Z : Zt} {F : Option (List Cls)} {cls : List Cls} {x : OrS} {k : Nat} (h : (orL Z F cls x k).1 < 0) : ∀ m : Nat, orL Z F cls x (k + m) = orL Z F cls x k
  | 0 => rfl
  | m + 1 => by
    have ih := orL_n h m
    rw [← Nat.add_assoc, orL_s, ih, if_pos h]
theorem orL_1 {Z : Zt} {F : Option (List Cls)} {cls : List Cls} {x : OrS} {j1 j2 : Nat} (a1 : (orL Z F cls x j1).1 = 0) (a2 : (orL Z F cls x (j1 + 1)).1 < 0) (b1 : (orL Z F cls x j2).1 = 0) (b2 : (orL Z F cls x (j2 + 1)).1 < 0) : j1 = j2 := by
  rcases Nat.lt_trichotomy j1 j2 with h | h | h
  · have := orL_n a2 (j2 - (j1 + 1))
    rw [show j1 + 1 + (j2 - (j1 + 1)) = j2 by omega] at this
    rw [this] at b1
    omega
  · exact h
  · have := orL_n b2 (j1 - (j2 + 1))
    rw [show j2 + 1 + (j1 - (j2 + 1)) = j1 by omega] at this
    rw [this] at a1
    omega
def OrC (Z : Zt) (F : Option (List Cls)) (x : OrS) (st : Int) (μ μ1 : zMem) : Prop := CTx μ1 Z F x.1 x.2.2.2.2 ∧ SlO μ1 ∧ unD μ1 111 = x.2.1 ∧ (μ1 0 17 = st ∧ μ1 0 18 = x.2.2.1 ∧ μ1 0 19 = x.2.2.2.1) ∧ (∀ c : Nat, c ≠ 0 → ¬ (2 ≤ c ∧ c ≤ 7) → ¬ (111 ≤ c ∧ c < 216) → ¬ (325 ≤ c ∧ c ≤ 327) → μ1 c = μ c) ∧ ∀ i : Int, i ≠ 17 → i ≠ 18 → i ≠ 19 → μ1 0 i = μ 0 i
/-- what one run leaves -/
theorem orR_0 {Z : Zt} {F : Option (List Cls)} {cl : Cls} {x : OrS} (h : hlT cl.2.2.2.2.2.2 (orW Z x) = false) : orR Z F cl x = (0, (x.1, x.2.1, x.2.2.1, x.2.2.2.1, orW Z x)) := by
  unfold orR
  rw [if_neg (by rw [h]; decide)]
theorem orR_1 {Z : Zt} {F : Option (List Cls)} {cl : Cls} {x : OrS} (h : hlT cl.2.2.2.2.2.2 (orW Z x) = true) (hc : orC Z F x.1 cl (orW Z x) < 0) : orR Z F cl x = (orC Z F x.1 cl (orW Z x), (x.1, x.2.1, x.2.2.1, x.2.2.2.1, orW Z x)) := by
  unfold orR
  rw [if_pos h, if_pos hc]
theorem orR_2 {Z : Zt} {F : Option (List Cls)} {cl : Cls} {x : OrS} (h : hlT cl.2.2.2.2.2.2 (orW Z x) = true) (hc : 0 ≤ orC Z F x.1 cl (orW Z x)) : orR Z F cl x = (0, (orA Z F x.1 cl (orW Z x), kpD x.2.1 (x.1, orK cl), x.2.2.1 + 1, zit (cl.1 = 2) x.2.2.2.1 (orC Z F x.1 cl (orW Z x)), orW Z x)) := by
  unfold orR
  rw [if_pos h, if_neg (by omega)]
theorem OrC.c {Z : Zt} {F : Option (List Cls)} {x : OrS} {st : Int} {μ μ1 μ2 : zMem} {A' : Lg} {U' : List (Lg × Int)} {W : Int → Int} (h : OrC Z F x st μ μ1) (h1 : OrF μ1 μ2) (h2 : SlO μ2) (h3 : CTx μ2 Z F A' W) (h4 : unD μ2 111 = U') : OrC Z F (A', U', x.2.2.1, x.2.2.2.1, W) st μ μ2 := by
  obtain ⟨a1, a2, a3, a4, a5, a6⟩ := h
  have e0 := h1 0 (by omega) (by omega) (by omega)
  exact ⟨h3, h2, h4, by rw [e0]; exact a4, fun c p q r s => (h1 c q r s).trans (a5 c p q r s), fun i p q r => by rw [e0]; exact a6 i p q r⟩
theorem OrC.m {Z : Zt} {F : Option (List Cls)} {x : OrS} {st : Int} {μ μ1 μ2 : zMem} {a b : Int} (h : OrC Z F x st μ μ1) (h1 : zfc [0] μ1 μ2) (h2 : ∀ i : Int, i ≠ 17 → i ≠ 18 → i ≠ 19 → μ2 0 i = μ1 0 i) {st' : Int} (h3 : μ2 0 17 = st' ∧ μ2 0 18 = a ∧ μ2 0 19 = b) : OrC Z F (x.1, x.2.1, a, b, x.2.2.2.2) st' μ μ2 := by
  obtain ⟨a1, a2, a3, a4, a5, a6⟩ := h
  exact ⟨a1.k (fun c hc => h1 c (by simp only [List.mem_cons, List.not_mem_nil, or_false]; omega)) (by rw [h1 326 (by decide)]; exact a1.2.2.2.2.2), a2.c (fun c p q => h1 c (by simp only [List.mem_cons, List.not_mem_nil, or_false]; omega)), (unD_same a2 (fun c p q => h1 c (by simp only [List.mem_cons, List.not_mem_nil, or_false]; omega))).1.trans a3, h3, fun c p q r s => (h1 c (by simp only [List.mem_cons, List.not_mem_nil, or_false]; omega)).trans (a5 c p q r s), fun i p q r => (h2 i p q r).trans (a6 i p q r)⟩
/-- the call at a state -/
theorem orc_w {d : Nat} (hd : 11 ≤ d) {Z : Zt} {F : Option (List Cls)} {x : OrS} {st : Int} {μ μ1 : zMem} {κ : Int → Int} {k : Int} {cl : Cls} {n : Nat} {K : zRo} (hZ : okZ Z) (h : OrC Z F x st μ μ1) (hx : okO2 n x) (hn : n ≤ 1000) (hκ : μ1 323 = κ) (hk : 0 ≤ k ∧ k < 12) (hH : Hd true κ k cl) (hL : ClC true κ cl) (hcl : 0 ≤ cl.1 ∧ cl.1 ≤ 2) (h0 : ∀ μ2, (orR Z F cl x).1 = 0 → OrC Z F (orR Z F cl x).2 st μ μ2 → K (some (vi (-2147483648))) μ2) (h1 : ∀ μ2, (orR Z F cl x).1 < 0 → -5 ≤ (orR Z F cl x).1 → OrC Z F (orR Z F cl x).2 st μ μ2 → K (some (vi (orR Z F cl x).1)) μ2) (h2 : ∀ (c : Int) μ2, (orR Z F cl x).1 = 0 → 0 ≤ c → c ≤ 1000000 → OrC Z F ((orR Z F cl x).2.1, (orR Z F cl x).2.2.1, x.2.2.1, x.2.2.2.1, (orR Z F cl x).2.2.2.2.2) st μ μ2 → (orR Z F cl x).2.2.2.1 = x.2.2.1 + 1 → (orR Z F cl x).2.2.2.2.1 = zit (cl.1 = 2) x.2.2.2.1 c → μ2 323 = κ → K (some (vi c)) μ2) : zCw d y_D_runClause [vr 0, vr 323, vi k] μ1 K := by
  have hW : fillO Z x.1 (μ1 0 18) (μ1 0 19) (μ1 326) = orW Z x := by
    rw [h.2.2.2.1.2.1, h.2.2.2.1.2.2]
    exact fillO_E h.1.2.2.2.2.2.1
  have hb : bW (orW Z x) := fillO_b hx.1 (by have := hx.2.1; omega) hx.2.2
  refine zCw.use (q_D_runClause (d := 10) (by decide) h.1 h.2.1 hκ hk hH hL hcl hW hb) hd (fun q μ2 e => ?_)
  obtain ⟨n1, rfl, e1, e2, e3, e4⟩ := e
  have hU := h.2.2.1
  rcases hh : hlT cl.2.2.2.2.2.2 (orW Z x) with _ | _
  · obtain ⟨rfl, f1, f2⟩ := e3 hh
    have hR := orR_0 (F := F) hh
    refine h0 μ2 (by rw [hR]) ?_
    rw [hR]
    exact h.c e1 e2 f1 (f2.trans hU)
  · obtain ⟨rfl, f1, f2⟩ := e4 hh
    by_cases c : orC Z F x.1 cl (orW Z x) < 0
    · have hR := orR_1 (F := F) hh c
      have := (orC_in (F := F) (cl := cl) (W := orW Z x) hZ hx.1).1
      have := h1 μ2 (by rw [hR]; exact c) (by rw [hR]; exact this) (by rw [hR]; exact h.c e1 e2 (f1 c).1 ((f1 c).2.trans hU))
      rw [hR] at this
      exact this
    · have c : 0 ≤ orC Z F x.1 cl (orW Z x) := by omega
      have hR := orR_2 (F := F) hh c
      have := (orC_in (F := F) (cl := cl) (W := orW Z x) hZ hx.1).2.1
      refine h2 _ μ2 (by rw [hR]) c (by omega) ?_ (by rw [hR]) (by rw [hR]) ?_
      · rw [hR]
        exact h.c e1 e2 (f2 c).1 ((f2 c).2.trans (by rw [hU]))
      · rw [e1 323 (by omega) (by omega) (by omega)]
        exact hκ
theorem q_D_runOrders {d : Nat} (hd : 11 ≤ d) {μ : zMem} {Z : Zt} {F : Option (List Cls)} {A : Lg} {w : Int → Int} {κ : Int → Int} {cls : List Cls} (h : CTx μ Z F A w) (hs : SlO μ) (hκ : μ 323 = κ) (hL : LwC true κ cls) (hcl : ∀ cl, cl ∈ cls → (0 ≤ cl.1 ∧ cl.1 ≤ 2) ∧ 1 ≤ cl.2.1 ∧ cl.2.1 ≤ 20) : zSp d 0 0 y_D_runOrders zT0 [vr 0, vr 323] μ zT0 (fun r μ' => r = none) := by
  refine zSp.ss [vr 0, vr 323, vx 0, vx 0, vx 0, vx 0, vx 0] rfl (w_D_runOrders (Nat.le_trans (by decide) hd)) rfl rfl ?_
  (try simp only [zit_e, Bool.and_eq_true, Bool.or_eq_true, Bool.not_eq_true', Bool.and_eq_false_iff, Bool.or_eq_false_iff, Bool.not_eq_false', zbe, zdt, zdf, zb2_p, zbp_0, zbp_1, zbp_inj, zbp_01, Bool.true_eq_false, Bool.false_eq_true, true_and, and_true, Decidable.not_not, Classical.not_not, implies_true, List.nil_append, List.cons_append, List.append_assoc, Option.some.injEq, Sum.inl.injEq, zSw_c, zSw_n]); (try simp only [zit_e, Bool.and_eq_true, Bool.or_eq_true, Bool.not_eq_true', Bool.and_eq_false_iff, Bool.or_eq_false_iff, Bool.not_eq_false', zbe, zdt, zdf, zb2_p, zbp_0, zbp_1, zbp_inj, zbp_01, Bool.true_eq_false, Bool.false_eq_true, true_and, and_true, Decidable.not_not, Classical.not_not, implies_true, List.nil_append, List.cons_append, List.append_assoc, Option.some.injEq, Sum.inl.injEq, zSw_c, zSw_n, zc_0, f_D_column, g_D_column]); (try simp only [zi_cs, zi_c0, zii_cs, zii_c0, zl_cs, zl_c0, zll_cs, zll_c0, zr_cs, zr_c0, zrr_cs, zrr_c0, zxs_cs, zxs_c0, zxx_cs, zxx_c0, zfree_c0, zfree_c1, zfree_cs, zfree_cz, zlong_i, zlong_r, zlong_x, zset_0, zset_s, true_and, and_true, Option.some.injEq, Sum.inl.injEq, Sum.inr.injEq, zb2_p, zbp_0, zbp_1, zbp_inj, zbp_01, Nat.zero_add, Nat.reduceAdd, implies_true, List.nil_append, List.cons_append, List.append_assoc, Int.not_lt, Int.not_le, Decidable.not_not, Int.zero_add, Int.reduceLE, Int.reduceLT, Int.reduceEq, Int.reduceNe, Int.reduceAdd, Int.reduceSub, Int.reduceMul, Int.reduceNeg, Int.reduceToNat, Nat.reduceMul, Nat.reduceLT, Nat.reduceEqDiff, and_self, ite_true, ite_false, zx1, zx2, zRecv, List.length_cons, List.length_nil, ne_eq, not_true_eq_false, not_false_eq_true, true_or, or_true, or_false, false_or, and_false, false_and, zf01, zf10, reduceCtorEq, zSw_c, zSw_n, zm_r, zit_T, zit_F, false_implies, true_implies, zc_0, f_D_column, g_D_column])
  done


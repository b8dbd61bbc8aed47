theorem fl_Le_33 : zFl "DebtDoors$Ledger" 33 1 5 := ⟨_, rfl, by decide, (zTb_in 204 (by decide +kernel) (by decide +kernel)), rfl⟩
theorem nk_1_5 : zNk 1 5 = some 0 := rfl
def y_Le_has : zMt := (⟨"DebtDoors$Ledger", "has", "(I)Z"⟩, prog_3_method_3_code, 2, some .boolean)
theorem d_Le_has_0 : decode prog_3_method_3_code 0 = .ok (.iload_n 1, 1) := by decide +kernel
theorem d_Le_has_1 : decode prog_3_method_3_code 1 = .ok (.ifCond .lt 15, 3) := by decide +kernel
theorem d_Le_has_4 : decode prog_3_method_3_code 4 = .ok (.iload_n 1, 1) := by decide +kernel
theorem d_Le_has_5 : decode prog_3_method_3_code 5 = .ok (.aload_n 0, 1) := by decide +kernel
theorem d_Le_has_6 : decode prog_3_method_3_code 6 = .ok (.getfield 33, 3) := by decide +kernel
theorem d_Le_has_9 : decode prog_3_method_3_code 9 = .ok (.if_icmp .ge 7, 3) := by decide +kernel
theorem d_Le_has_12 : decode prog_3_method_3_code 12 = .ok (.iconst 1, 1) := by decide +kernel
theorem d_Le_has_13 : decode prog_3_method_3_code 13 = .ok (.goto 4, 3) := by decide +kernel
theorem d_Le_has_16 : decode prog_3_method_3_code 16 = .ok (.iconst 0, 1) := by decide +kernel
theorem d_Le_has_17 : decode prog_3_method_3_code 17 = .ok (.ireturn, 1) := by decide +kernel
def w_Le_has {d : Nat} (hd : 1 ≤ d) := (show SS ("DebtDoors$Ledger", prog_3_method_3_code, 2) (some .boolean) d 0 0 0 0 _ from (sRz (xE (rTb (rAnd (mm := 4) (rNot (rJ1 (tgt := 16) k_lt (rIn 1 d_Le_has_0 rfl) d_Le_has_1 (by decide))) (rNot (rJ2 (tgt := 16) j_ge (rIn 1 d_Le_has_4 rfl) (rF 5 fl_Le_33 nk_1_5 (rAn 0 d_Le_has_5 rfl) d_Le_has_6 rfl) d_Le_has_9 (by decide)))) (rGoE (p2 := 17) (rI d_Le_has_12 rfl) d_Le_has_13 (by decide)) (rI d_Le_has_16 rfl))) d_Le_has_17 rfl))
theorem fl_Le_15 : zFl "DebtDoors$Ledger" 15 1 1 := ⟨_, rfl, by decide, (zTb_in 185 (by decide +kernel) (by decide +kernel)), rfl⟩
theorem nk_1_1 : zNk 1 1 = none := rfl
theorem fl_Le_18 : zFl "DebtDoors$Ledger" 18 1 2 := ⟨_, rfl, by decide, (zTb_in 190 (by decide +kernel) (by decide +kernel)), rfl⟩
theorem nk_1_2 : zNk 1 2 = none := rfl
theorem fl_Le_21 : zFl "DebtDoors$Ledger" 21 1 3 := ⟨_, rfl, by decide, (zTb_in 195 (by decide +kernel) (by decide +kernel)), rfl⟩
theorem nk_1_3 : zNk 1 3 = none := rfl
def y_Le_owed : zMt := (⟨"DebtDoors$Ledger", "owed", "(II)I"⟩, prog_3_method_4_code, 5, some .int)
theorem d_Le_owed_0 : decode prog_3_method_4_code 0 = .ok (.iconst 0, 1) := by decide +kernel
theorem d_Le_owed_1 : decode prog_3_method_4_code 1 = .ok (.istore_n 3, 1) := by decide +kernel
theorem d_Le_owed_2 : decode prog_3_method_4_code 2 = .ok (.iconst 0, 1) := by decide +kernel
theorem d_Le_owed_3 : decode prog_3_method_4_code 3 = .ok (.istore 4, 2) := by decide +kernel
theorem d_Le_owed_5 : decode prog_3_method_4_code 5 = .ok (.iload 4, 2) := by decide +kernel
theorem d_Le_owed_7 : decode prog_3_method_4_code 7 = .ok (.aload_n 0, 1) := by decide +kernel
theorem d_Le_owed_8 : decode prog_3_method_4_code 8 = .ok (.getfield 33, 3) := by decide +kernel
theorem d_Le_owed_11 : decode prog_3_method_4_code 11 = .ok (.if_icmp .ge 41, 3) := by decide +kernel
theorem d_Le_owed_14 : decode prog_3_method_4_code 14 = .ok (.aload_n 0, 1) := by decide +kernel
theorem d_Le_owed_15 : decode prog_3_method_4_code 15 = .ok (.getfield 15, 3) := by decide +kernel
theorem d_Le_owed_18 : decode prog_3_method_4_code 18 = .ok (.iload 4, 2) := by decide +kernel
theorem d_Le_owed_20 : decode prog_3_method_4_code 20 = .ok (.iaload, 1) := by decide +kernel
theorem d_Le_owed_21 : decode prog_3_method_4_code 21 = .ok (.iload_n 1, 1) := by decide +kernel
theorem d_Le_owed_22 : decode prog_3_method_4_code 22 = .ok (.if_icmp .ne 24, 3) := by decide +kernel
theorem d_Le_owed_25 : decode prog_3_method_4_code 25 = .ok (.aload_n 0, 1) := by decide +kernel
theorem d_Le_owed_26 : decode prog_3_method_4_code 26 = .ok (.getfield 18, 3) := by decide +kernel
theorem d_Le_owed_29 : decode prog_3_method_4_code 29 = .ok (.iload 4, 2) := by decide +kernel
theorem d_Le_owed_31 : decode prog_3_method_4_code 31 = .ok (.iaload, 1) := by decide +kernel
theorem d_Le_owed_32 : decode prog_3_method_4_code 32 = .ok (.iload_n 2, 1) := by decide +kernel
theorem d_Le_owed_33 : decode prog_3_method_4_code 33 = .ok (.if_icmp .ne 13, 3) := by decide +kernel
theorem d_Le_owed_36 : decode prog_3_method_4_code 36 = .ok (.iload_n 3, 1) := by decide +kernel
theorem d_Le_owed_37 : decode prog_3_method_4_code 37 = .ok (.aload_n 0, 1) := by decide +kernel
theorem d_Le_owed_38 : decode prog_3_method_4_code 38 = .ok (.getfield 21, 3) := by decide +kernel
theorem d_Le_owed_41 : decode prog_3_method_4_code 41 = .ok (.iload 4, 2) := by decide +kernel
theorem d_Le_owed_43 : decode prog_3_method_4_code 43 = .ok (.iaload, 1) := by decide +kernel
theorem d_Le_owed_44 : decode prog_3_method_4_code 44 = .ok (.iadd, 1) := by decide +kernel
theorem d_Le_owed_45 : decode prog_3_method_4_code 45 = .ok (.istore_n 3, 1) := by decide +kernel
theorem d_Le_owed_46 : decode prog_3_method_4_code 46 = .ok (.iinc 4 1, 3) := by decide +kernel
theorem d_Le_owed_49 : decode prog_3_method_4_code 49 = .ok (.goto (-44), 3) := by decide +kernel
theorem d_Le_owed_52 : decode prog_3_method_4_code 52 = .ok (.iload_n 3, 1) := by decide +kernel
theorem d_Le_owed_53 : decode prog_3_method_4_code 53 = .ok (.ireturn, 1) := by decide +kernel
def w_Le_owed {d : Nat} (hd : 1 ≤ d) := (show SS ("DebtDoors$Ledger", prog_3_method_4_code, 5) (some .int) d 0 0 0 0 _ from (sS (p1 := 2) (sIn 3 (xE (rI d_Le_owed_0 rfl)) d_Le_owed_1 rfl (by decide)) (sS (p1 := 52) (sS (p1 := 5) (sI (xE (rI d_Le_owed_2 rfl)) d_Le_owed_3 (by decide)) (sLp (ps := 46) (tt := 14) (pn := 52) (p1 := 0) (p2 := 0) (xC (rNot (rJ2 (tgt := 52) j_ge (rIl d_Le_owed_5) (rF 5 fl_Le_33 nk_1_5 (rAn 0 d_Le_owed_7 rfl) d_Le_owed_8 rfl) d_Le_owed_11 (by decide)))) (sIf (pn := 46) (tt := 36) (xC (rAnd (mm := 25) (rNot (rJ2 (tgt := 46) j_ne (rIa (rFr fl_Le_15 nk_1_1 (rAn 0 d_Le_owed_14 rfl) d_Le_owed_15) (rIl d_Le_owed_18) d_Le_owed_20) (rIn 1 d_Le_owed_21 rfl) d_Le_owed_22 (by decide))) (rNot (rJ2 (tgt := 46) j_ne (rIa (rFr fl_Le_18 nk_1_2 (rAn 0 d_Le_owed_25 rfl) d_Le_owed_26) (rIl d_Le_owed_29) d_Le_owed_31) (rIn 2 d_Le_owed_32 rfl) d_Le_owed_33 (by decide))))) (sIn 3 (xE (r2 o_add (rIn 3 d_Le_owed_36 rfl) (rIa (rFr fl_Le_21 nk_1_3 (rAn 0 d_Le_owed_37 rfl) d_Le_owed_38) (rIl d_Le_owed_41) d_Le_owed_43) d_Le_owed_44)) d_Le_owed_45 rfl (by decide))) (sGo (pn := 5) (sInc d_Le_owed_46 (by decide)) d_Le_owed_49 (by decide)))) (sRi (xE (rIn 3 d_Le_owed_52 rfl)) d_Le_owed_53 rfl))))
def f_Le_has : List zV → zMem → Int
  | [.inr (.inr (.inl L)), .inl i], μ => zb2 (decide (0 ≤ i ∧ i < μ L 5))
  | _, _ => 0
def g_Le_has : List zV → zMem → Prop
  | [.inr (.inr (.inl L)), .inl _], _ => zO 1 L = true
  | _, _ => False
theorem p_Le_has : zPu y_Le_has 1 f_Le_has g_Le_has := by
  intro as μ h
  unfold g_Le_has at h
  split at h
  · next L i =>
    refine zSp.ss [vr L, vi i] rfl (w_Le_has (Nat.le_refl _)) rfl rfl ?_
    (try simp only [Bool.and_eq_true, Bool.or_eq_true, Bool.not_eq_true', Bool.and_eq_false_iff, Bool.or_eq_false_iff, Bool.not_eq_false', zdt, zdf, zb2_0, zb2_1, zb2_inj, zb2_01, true_and, and_true, Decidable.not_not, implies_true]); simp only [zi_cs, zi_c0, zii_cs, zii_c0, zl_cs, zl_c0, zll_cs, zll_c0, zr_cs, zr_c0, zrr_cs, zrr_c0, zxs_cs, zxs_c0, zxx_cs, zxx_c0, zfree_c0, zfree_c1, zfree_cs, zfree_cz, zlong_i, zlong_r, zlong_x, zset_0, zset_s, true_and, and_true, Option.some.injEq, Sum.inl.injEq, Sum.inr.injEq, zb2_0, zb2_1, zb2_inj, zb2_01, Nat.zero_add, Nat.reduceAdd, implies_true, List.nil_append, List.cons_append, List.append_assoc, Int.not_lt, Int.not_le, Decidable.not_not, Int.zero_add, f_Le_has]
    refine ⟨fun _ => h, ?_⟩
    by_cases h1 : i < 0 <;> by_cases h2 : μ L 5 ≤ i <;> simp [h1, h2] <;> omega
  · exact h.elim
/-- what a ledger holds: its debts, all in bounds -/
def okL (μ : zMem) (L : Nat) : Prop := zO 1 L = true ∧ 0 ≤ μ L 5 ∧ μ L 5 ≤ 16 ∧ ∀ j : Int, 0 ≤ j → j < μ L 5 → 0 ≤ μ (L + 4) j ∧ μ (L + 4) j ≤ 9999
def owN (μ : zMem) (L : Nat) (a b : Int) : Nat → Int
  | 0 => 0
  | j + 1 => if μ (L + 2) j = a ∧ μ (L + 3) j = b then owN μ L a b j + μ (L + 4) j else owN μ L a b j
theorem owN_in {μ : zMem} {L : Nat} {a b : Int} (h : okL μ L) : ∀ j : Nat, j ≤ μ L 5 → 0 ≤ owN μ L a b j ∧ owN μ L a b j ≤ 9999 * j
  | 0, _ => by simp [owN]
  | j + 1, hj => by
    have h1 := owN_in (a := a) (b := b) h j (by omega)
    have h2 := h.2.2.2 j (by omega) (by omega)
    unfold owN
    split <;> omega
def f_Le_owed : List zV → zMem → Int
  | [.inr (.inr (.inl L)), .inl a, .inl b], μ => owN μ L a b (μ L 5).toNat
  | _, _ => 0
def g_Le_owed : List zV → zMem → Prop
  | [.inr (.inr (.inl L)), .inl _, .inl _], μ => okL μ L
  | _, _ => False
theorem p_Le_owed : zPu y_Le_owed 1 f_Le_owed g_Le_owed := by
  intro as μ h
  unfold g_Le_owed at h
  split at h
  · next L a b =>
    have hO := h.1
    have hn := h.2.1
    have hm := h.2.2.1
    refine zSp.ss [vr L, vi a, vi b, vx 0, vx 0] rfl (w_Le_owed (Nat.le_refl _)) rfl rfl ?_
    (try simp only [Bool.and_eq_true, Bool.or_eq_true, Bool.not_eq_true', Bool.and_eq_false_iff, Bool.or_eq_false_iff, Bool.not_eq_false', zdt, zdf, zb2_0, zb2_1, zb2_inj, zb2_01, true_and, and_true, Decidable.not_not, implies_true]); simp only [zi_cs, zi_c0, zii_cs, zii_c0, zl_cs, zl_c0, zll_cs, zll_c0, zr_cs, zr_c0, zrr_cs, zrr_c0, zxs_cs, zxs_c0, zxx_cs, zxx_c0, zfree_c0, zfree_c1, zfree_cs, zfree_cz, zlong_i, zlong_r, zlong_x, zset_0, zset_s, true_and, and_true, Option.some.injEq, Sum.inl.injEq, Sum.inr.injEq, zb2_0, zb2_1, zb2_inj, zb2_01, Nat.zero_add, Nat.reduceAdd, implies_true, List.nil_append, List.cons_append, List.append_assoc, Int.not_lt, Int.not_le, Decidable.not_not, Int.zero_add, f_Le_owed]
    refine zLoop.up (μ L 5).toNat (fun j ρ μ1 => ρ = [vr L, vi a, vi b, vi (owN μ L a b j), vi j] ∧ μ = μ1) ⟨rfl, rfl⟩ ?_
    rintro j ρ μ1 hj ⟨rfl, rfl⟩
    (try simp only [Bool.and_eq_true, Bool.or_eq_true, Bool.not_eq_true', Bool.and_eq_false_iff, Bool.or_eq_false_iff, Bool.not_eq_false', zdt, zdf, zb2_0, zb2_1, zb2_inj, zb2_01, true_and, and_true, Decidable.not_not, implies_true]); simp only [zi_cs, zi_c0, zii_cs, zii_c0, zl_cs, zl_c0, zll_cs, zll_c0, zr_cs, zr_c0, zrr_cs, zrr_c0, zxs_cs, zxs_c0, zxx_cs, zxx_c0, zfree_c0, zfree_c1, zfree_cs, zfree_cz, zlong_i, zlong_r, zlong_x, zset_0, zset_s, true_and, and_true, Option.some.injEq, Sum.inl.injEq, Sum.inr.injEq, zb2_0, zb2_1, zb2_inj, zb2_01, Nat.zero_add, Nat.reduceAdd, implies_true, List.nil_append, List.cons_append, List.append_assoc, Int.not_lt, Int.not_le, Decidable.not_not, Int.zero_add, (zled hO).1.1, (zled hO).1.2.1, (zled hO).1.2.2.1, (zled hO).1.2.2.2.1, (zled hO).1.2.2.2.2, (zled hO).2.1.1, (zled hO).2.1.2.1, (zled hO).2.1.2.2.1, (zled hO).2.1.2.2.2.1, (zled hO).2.1.2.2.2.2, (zled hO).2.2.1.1, (zled hO).2.2.1.2.1, (zled hO).2.2.1.2.2.1, (zled hO).2.2.1.2.2.2.1, (zled hO).2.2.1.2.2.2.2, hO]
    refine zif (fun c => ?_) (fun c => ?_)
    · have hb := owN_in (a := a) (b := b) h (j + 1) (by omega)
      have hc : (j : Int) < 16 := by omega
      refine ⟨⟨⟨by omega, hc⟩, fun _ => ⟨by omega, hc⟩⟩, ?_⟩
      refine zif (fun e => ?_) (fun e => ?_)
      · have e2 : owN μ L a b (j + 1) = owN μ L a b j + μ (L + 4) j := by rw [owN, if_pos e]
        rw [← e2]
        exact ⟨⟨⟨by omega, hc⟩, zI_s (by omega) (by omega)⟩, zI_s (by omega) (by omega), znx (by omega) rfl⟩
      · have e2 : owN μ L a b (j + 1) = owN μ L a b j := by rw [owN, if_neg e]
        exact ⟨zI_s (by omega) (by omega), znx (by omega) (by rw [e2]; rfl)⟩
    · have e : j = (μ L 5).toNat := by omega
      rw [e]
  · exact h.elim

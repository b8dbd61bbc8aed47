/-! doors -/
/-- bits of what holds among the first n -/
noncomputable def bsN (p : Int → Prop) : Nat → Nat
  | 0 => 0
  | n + 1 => bsN p n + @ite Nat (p (n : Int)) (Classical.propDecidable _) (2 ^ n) 0
theorem bsN_lt {p : Int → Prop} : ∀ n : Nat, bsN p n < 2 ^ n
  | 0 => by simp [bsN]
  | n + 1 => by
    have := bsN_lt (p := p) n
    unfold bsN
    rw [Nat.pow_succ]
    split <;> omega
theorem bsN_c {p q : Int → Prop} : ∀ n : Nat, (∀ i : Int, 0 ≤ i → i < n → (p i ↔ q i)) → bsN p n = bsN q n
  | 0, _ => rfl
  | n + 1, h => by
    have h1 := bsN_c n (fun i a b => h i a (by omega))
    have h2 := h n (by omega) (by omega)
    unfold bsN
    rw [h1]
    by_cases c : q (n : Int)
    · rw [if_pos c, if_pos (h2.mpr c)]
    · rw [if_neg c, if_neg (fun z => c (h2.mp z))]
theorem zor_p {a n : Nat} (h : a < 2 ^ n) (hn : n < 31) : zor (a : Int) ((2 ^ n : Nat) : Int) = ((a + 2 ^ n : Nat) : Int) := by
  have hp : 2 ^ n < 2147483648 := Nat.lt_of_lt_of_le (Nat.pow_lt_pow_right (by decide) hn) (by decide)
  rw [zor_n (by omega) hp]
  congr 1
  have := Nat.two_pow_add_eq_or_of_lt h 1
  rw [Nat.mul_one] at this
  rw [Nat.or_comm, ← this, Nat.add_comm]
theorem bsN_y {p : Int → Prop} {n : Nat} (hn : n < 31) (h : p n) : zor (bsN p n : Int) (zshl 1 (n : Int)) = (bsN p (n + 1) : Int) := by
  rw [zshl_n hn, zor_p (bsN_lt n) hn]
  show _ = ((bsN p n + _ : Nat) : Int)
  rw [if_pos h]
theorem bsN_n {p : Int → Prop} {n : Nat} (h : ¬ p n) : bsN p (n + 1) = bsN p n := by
  show bsN p n + _ = _
  rw [if_neg h]
  rfl
theorem zor_0 {a : Nat} (h : a < 2147483648) : zor (a : Int) 0 = (a : Int) := by
  rw [show (0 : Int) = ((0 : Nat) : Int) from rfl, zor_n h (by decide), Nat.or_zero]
/-- the doors that open to one -/
noncomputable def doA (Z : Zt) (F : Option (List Cls)) (A : Lg) (w : Int → Int) (v : Int) : Int := (bsN (fun o => o ≠ v ∧ 0 < dnA Z F A w o v) Z.1.toNat : Int)
def y_D_openDoors : zMt := (⟨"DebtDoors", "openDoors", "(I)I"⟩, prog_1_method_27_code, 4, some .int)
theorem d_D_openDoors_0 : decode prog_1_method_27_code 0 = .ok (.iconst 0, 1) := by decide +kernel
theorem d_D_openDoors_1 : decode prog_1_method_27_code 1 = .ok (.istore_n 2, 1) := by decide +kernel
theorem d_D_openDoors_2 : decode prog_1_method_27_code 2 = .ok (.iconst 0, 1) := by decide +kernel
theorem d_D_openDoors_3 : decode prog_1_method_27_code 3 = .ok (.istore_n 3, 1) := by decide +kernel
theorem d_D_openDoors_4 : decode prog_1_method_27_code 4 = .ok (.iload_n 3, 1) := by decide +kernel
theorem d_D_openDoors_5 : decode prog_1_method_27_code 5 = .ok (.aload_n 0, 1) := by decide +kernel
theorem d_D_openDoors_6 : decode prog_1_method_27_code 6 = .ok (.getfield 12, 3) := by decide +kernel
theorem d_D_openDoors_9 : decode prog_1_method_27_code 9 = .ok (.getfield 112, 3) := by decide +kernel
theorem d_D_openDoors_12 : decode prog_1_method_27_code 12 = .ok (.if_icmp .ge 36, 3) := by decide +kernel
theorem d_D_openDoors_15 : decode prog_1_method_27_code 15 = .ok (.iload_n 3, 1) := by decide +kernel
theorem d_D_openDoors_16 : decode prog_1_method_27_code 16 = .ok (.iload_n 1, 1) := by decide +kernel
theorem d_D_openDoors_17 : decode prog_1_method_27_code 17 = .ok (.if_icmp .eq 25, 3) := by decide +kernel
theorem d_D_openDoors_20 : decode prog_1_method_27_code 20 = .ok (.aload_n 0, 1) := by decide +kernel
theorem d_D_openDoors_21 : decode prog_1_method_27_code 21 = .ok (.getfield 51, 3) := by decide +kernel
theorem d_D_openDoors_24 : decode prog_1_method_27_code 24 = .ok (.aload_n 0, 1) := by decide +kernel
theorem d_D_openDoors_25 : decode prog_1_method_27_code 25 = .ok (.getfield 12, 3) := by decide +kernel
theorem d_D_openDoors_28 : decode prog_1_method_27_code 28 = .ok (.iload_n 3, 1) := by decide +kernel
theorem d_D_openDoors_29 : decode prog_1_method_27_code 29 = .ok (.iload_n 1, 1) := by decide +kernel
theorem d_D_openDoors_30 : decode prog_1_method_27_code 30 = .ok (.invokevirtual 289, 3) := by decide +kernel
theorem d_D_openDoors_33 : decode prog_1_method_27_code 33 = .ok (.ifCond .le 9, 3) := by decide +kernel
theorem d_D_openDoors_36 : decode prog_1_method_27_code 36 = .ok (.iload_n 2, 1) := by decide +kernel
theorem d_D_openDoors_37 : decode prog_1_method_27_code 37 = .ok (.iconst 1, 1) := by decide +kernel
theorem d_D_openDoors_38 : decode prog_1_method_27_code 38 = .ok (.iload_n 3, 1) := by decide +kernel
theorem d_D_openDoors_39 : decode prog_1_method_27_code 39 = .ok (.ishl, 1) := by decide +kernel
theorem d_D_openDoors_40 : decode prog_1_method_27_code 40 = .ok (.ior, 1) := by decide +kernel
theorem d_D_openDoors_41 : decode prog_1_method_27_code 41 = .ok (.istore_n 2, 1) := by decide +kernel
theorem d_D_openDoors_42 : decode prog_1_method_27_code 42 = .ok (.iinc 3 1, 3) := by decide +kernel
theorem d_D_openDoors_45 : decode prog_1_method_27_code 45 = .ok (.goto (-41), 3) := by decide +kernel
theorem d_D_openDoors_48 : decode prog_1_method_27_code 48 = .ok (.iload_n 2, 1) := by decide +kernel
theorem d_D_openDoors_49 : decode prog_1_method_27_code 49 = .ok (.ireturn, 1) := by decide +kernel
def w_D_openDoors {d : Nat} (hd : 1 ≤ d) := (show SS ("DebtDoors", prog_1_method_27_code, 4) (some .int) d 0 0 0 0 _ from (sS (p1 := 2) (sIn 2 (xE (rI d_D_openDoors_0 rfl)) d_D_openDoors_1 rfl (by decide)) (sS (p1 := 48) (sS (p1 := 4) (sIn 3 (xE (rI d_D_openDoors_2 rfl)) d_D_openDoors_3 rfl (by decide)) (sLp (ps := 42) (tt := 15) (pn := 48) (p1 := 0) (p2 := 0) (xC (rNot (rJ2 (tgt := 48) j_ge (rIn 3 d_D_openDoors_4 rfl) (rF 6 fl_D_112 nk_9_6 (rFr fl_D_12 nk_11_0 (rAn 0 d_D_openDoors_5 rfl) d_D_openDoors_6) d_D_openDoors_9 rfl) d_D_openDoors_12 (by decide)))) (sIf (pn := 42) (tt := 36) (xAnd (mm := 20) (xC (rNot (rJ2 (tgt := 42) j_eq (rIn 3 d_D_openDoors_15 rfl) (rIn 1 d_D_openDoors_16 rfl) d_D_openDoors_17 (by decide)))) (xNot (xJ1 (tgt := 42) k_le (xV lv_D_289 (xA (rAi (rAi (rAr (rAr rA0 (rFr fl_D_51 nk_11_7 (rAn 0 d_D_openDoors_20 rfl) d_D_openDoors_21)) (rFr fl_D_12 nk_11_0 (rAn 0 d_D_openDoors_24 rfl) d_D_openDoors_25)) (rIn 3 d_D_openDoors_28 rfl)) (rIn 1 d_D_openDoors_29 rfl))) (by decide) d_D_openDoors_30) d_D_openDoors_33 (by decide)))) (sIn 2 (xE (r2 o_or (rIn 2 d_D_openDoors_36 rfl) (r2 o_shl (rI d_D_openDoors_37 rfl) (rIn 3 d_D_openDoors_38 rfl) d_D_openDoors_39) d_D_openDoors_40)) d_D_openDoors_41 rfl (by decide))) (sGo (pn := 4) (sInc d_D_openDoors_42 (by decide)) d_D_openDoors_45 (by decide)))) (sRi (xE (rIn 2 d_D_openDoors_48 rfl)) d_D_openDoors_49 rfl))))
def y_M_doorsOf : zMt := (⟨"DebtDoorsModel", "doorsOf", "(I)I"⟩, prog_14_method_82_code, 4, some .int)
theorem d_M_doorsOf_0 : decode prog_14_method_82_code 0 = .ok (.iconst 0, 1) := by decide +kernel
theorem d_M_doorsOf_1 : decode prog_14_method_82_code 1 = .ok (.istore_n 2, 1) := by decide +kernel
theorem d_M_doorsOf_2 : decode prog_14_method_82_code 2 = .ok (.iconst 0, 1) := by decide +kernel
theorem d_M_doorsOf_3 : decode prog_14_method_82_code 3 = .ok (.istore_n 3, 1) := by decide +kernel
theorem d_M_doorsOf_4 : decode prog_14_method_82_code 4 = .ok (.iload_n 3, 1) := by decide +kernel
theorem d_M_doorsOf_5 : decode prog_14_method_82_code 5 = .ok (.aload_n 0, 1) := by decide +kernel
theorem d_M_doorsOf_6 : decode prog_14_method_82_code 6 = .ok (.invokevirtual 133, 3) := by decide +kernel
theorem d_M_doorsOf_9 : decode prog_14_method_82_code 9 = .ok (.if_icmp .ge 33, 3) := by decide +kernel
theorem d_M_doorsOf_12 : decode prog_14_method_82_code 12 = .ok (.iload_n 2, 1) := by decide +kernel
theorem d_M_doorsOf_13 : decode prog_14_method_82_code 13 = .ok (.iload_n 3, 1) := by decide +kernel
theorem d_M_doorsOf_14 : decode prog_14_method_82_code 14 = .ok (.iload_n 1, 1) := by decide +kernel
theorem d_M_doorsOf_15 : decode prog_14_method_82_code 15 = .ok (.if_icmp .eq 18, 3) := by decide +kernel
theorem d_M_doorsOf_18 : decode prog_14_method_82_code 18 = .ok (.aload_n 0, 1) := by decide +kernel
theorem d_M_doorsOf_19 : decode prog_14_method_82_code 19 = .ok (.iload_n 3, 1) := by decide +kernel
theorem d_M_doorsOf_20 : decode prog_14_method_82_code 20 = .ok (.iload_n 1, 1) := by decide +kernel
theorem d_M_doorsOf_21 : decode prog_14_method_82_code 21 = .ok (.invokevirtual 348, 3) := by decide +kernel
theorem d_M_doorsOf_24 : decode prog_14_method_82_code 24 = .ok (.ifCond .le 9, 3) := by decide +kernel
theorem d_M_doorsOf_27 : decode prog_14_method_82_code 27 = .ok (.iconst 1, 1) := by decide +kernel
theorem d_M_doorsOf_28 : decode prog_14_method_82_code 28 = .ok (.iload_n 3, 1) := by decide +kernel
theorem d_M_doorsOf_29 : decode prog_14_method_82_code 29 = .ok (.ishl, 1) := by decide +kernel
theorem d_M_doorsOf_30 : decode prog_14_method_82_code 30 = .ok (.goto 4, 3) := by decide +kernel
theorem d_M_doorsOf_33 : decode prog_14_method_82_code 33 = .ok (.iconst 0, 1) := by decide +kernel
theorem d_M_doorsOf_34 : decode prog_14_method_82_code 34 = .ok (.ior, 1) := by decide +kernel
theorem d_M_doorsOf_35 : decode prog_14_method_82_code 35 = .ok (.istore_n 2, 1) := by decide +kernel
theorem d_M_doorsOf_36 : decode prog_14_method_82_code 36 = .ok (.iinc 3 1, 3) := by decide +kernel
theorem d_M_doorsOf_39 : decode prog_14_method_82_code 39 = .ok (.goto (-35), 3) := by decide +kernel
theorem d_M_doorsOf_42 : decode prog_14_method_82_code 42 = .ok (.iload_n 2, 1) := by decide +kernel
theorem d_M_doorsOf_43 : decode prog_14_method_82_code 43 = .ok (.ireturn, 1) := by decide +kernel
def w_M_doorsOf {d : Nat} (hd : 2 ≤ d) := (show SS ("DebtDoorsModel", prog_14_method_82_code, 4) (some .int) d 0 0 0 0 _ from (sS (p1 := 2) (sIn 2 (xE (rI d_M_doorsOf_0 rfl)) d_M_doorsOf_1 rfl (by decide)) (sS (p1 := 42) (sS (p1 := 4) (sIn 3 (xE (rI d_M_doorsOf_2 rfl)) d_M_doorsOf_3 rfl (by decide)) (sLp (ps := 36) (tt := 12) (pn := 42) (p1 := 0) (p2 := 0) (xC (rNot (rJ2 (tgt := 42) j_ge (rIn 3 d_M_doorsOf_4 rfl) (rV p_M_people (Nat.le_trans (Nat.le_of_ble_eq_true rfl) hd) lv_M_133 (rAr rA0 (rAn 0 d_M_doorsOf_5 rfl)) (by decide) d_M_doorsOf_6) d_M_doorsOf_9 (by decide)))) (sIn 2 (xx2 o_or (xE (rIn 2 d_M_doorsOf_12 rfl)) (xT2 (xAnd (mm := 18) (xC (rNot (rJ2 (tgt := 33) j_eq (rIn 3 d_M_doorsOf_13 rfl) (rIn 1 d_M_doorsOf_14 rfl) d_M_doorsOf_15 (by decide)))) (xNot (xJ1 (tgt := 33) k_le (xV lv_M_348 (xA (rAi (rAi (rAr rA0 (rAn 0 d_M_doorsOf_18 rfl)) (rIn 3 d_M_doorsOf_19 rfl)) (rIn 1 d_M_doorsOf_20 rfl))) (by decide) d_M_doorsOf_21) d_M_doorsOf_24 (by decide)))) (xE (rGoE (p2 := 34) (r2 o_shl (rI d_M_doorsOf_27 rfl) (rIn 3 d_M_doorsOf_28 rfl) d_M_doorsOf_29) d_M_doorsOf_30 (by decide))) (xE (rI d_M_doorsOf_33 rfl))) d_M_doorsOf_34) d_M_doorsOf_35 rfl (by decide)) (sGo (pn := 4) (sInc d_M_doorsOf_36 (by decide)) d_M_doorsOf_39 (by decide)))) (sRi (xE (rIn 2 d_M_doorsOf_42 rfl)) d_M_doorsOf_43 rfl))))
theorem m_D_openDoors : Cond.instanceMethod y_D_openDoors.1 ∈ zTb ∧ Cond.selects y_D_openDoors.1.cls y_D_openDoors.1 y_D_openDoors.1 ∈ zTb ∧ Cond.initialized y_D_openDoors.1.cls ∈ zTb ∧ Cond.code y_D_openDoors.1 y_D_openDoors.2.1 y_D_openDoors.2.2.1 y_D_openDoors.2.2.2 ∈ zTb ∧ (y_D_openDoors.1.cls ≠ "java/lang/invoke/MethodHandle" ∧ y_D_openDoors.1.cls ≠ "java/lang/invoke/VarHandle" ∧ (parseMethodDescriptor y_D_openDoors.1.desc).map (fun d => d.parameters.length) = some 1) ∧ y_D_openDoors.2.2.1 ≤ 20 :=
  ⟨(zTb_in 1005 (by decide +kernel) (by decide +kernel)), (List.mem_filter.mpr ⟨List.mem_append_left _ (by decide +kernel), by decide +kernel⟩), (zTb_in 139 (by decide +kernel) (by decide +kernel)), (zTb_in 1006 (by decide +kernel) (by decide +kernel)), by decide +kernel, by decide +kernel⟩
theorem lv_D_292 : zLv "DebtDoors" 292 y_D_openDoors 1 11 := ⟨⟨(zTb_in 1003 (by decide +kernel) (by decide +kernel)), m_D_openDoors.1, m_D_openDoors.2.1, m_D_openDoors.2.2⟩, _, rfl, rfl⟩
def y_D_doors : zMt := (⟨"DebtDoors", "doors", "(I)I"⟩, prog_1_method_26_code, 2, some .int)
theorem d_D_doors_0 : decode prog_1_method_26_code 0 = .ok (.aload_n 0, 1) := by decide +kernel
theorem d_D_doors_1 : decode prog_1_method_26_code 1 = .ok (.getfield 12, 3) := by decide +kernel
theorem d_D_doors_4 : decode prog_1_method_26_code 4 = .ok (.iload_n 1, 1) := by decide +kernel
theorem d_D_doors_5 : decode prog_1_method_26_code 5 = .ok (.invokevirtual 137, 3) := by decide +kernel
theorem d_D_doors_8 : decode prog_1_method_26_code 8 = .ok (.ifCond .eq 11, 3) := by decide +kernel
theorem d_D_doors_11 : decode prog_1_method_26_code 11 = .ok (.aload_n 0, 1) := by decide +kernel
theorem d_D_doors_12 : decode prog_1_method_26_code 12 = .ok (.iload_n 1, 1) := by decide +kernel
theorem d_D_doors_13 : decode prog_1_method_26_code 13 = .ok (.invokevirtual 292, 3) := by decide +kernel
theorem d_D_doors_16 : decode prog_1_method_26_code 16 = .ok (.goto 4, 3) := by decide +kernel
theorem d_D_doors_19 : decode prog_1_method_26_code 19 = .ok (.iconst (-1), 1) := by decide +kernel
theorem d_D_doors_20 : decode prog_1_method_26_code 20 = .ok (.ireturn, 1) := by decide +kernel
def w_D_doors {d : Nat} (hd : 2 ≤ d) := (show SS ("DebtDoors", prog_1_method_26_code, 2) (some .int) d 0 0 0 0 _ from (sRi (xT2 (xC (rNot (rJ1 (tgt := 19) k_eq (rV p_To_has (Nat.le_trans (Nat.le_of_ble_eq_true rfl) hd) lv_D_137 (rAi (rAr rA0 (rFr fl_D_12 nk_11_0 (rAn 0 d_D_doors_0 rfl) d_D_doors_1)) (rIn 1 d_D_doors_4 rfl)) (by decide) d_D_doors_5) d_D_doors_8 (by decide)))) (xGoE (p2 := 20) (xV lv_D_292 (xA (rAi (rAr rA0 (rAn 0 d_D_doors_11 rfl)) (rIn 1 d_D_doors_12 rfl))) (by decide) d_D_doors_13) d_D_doors_16 (by decide)) (xE (rI d_D_doors_19 rfl))) d_D_doors_20 rfl))
theorem m_M_doorsOf : Cond.instanceMethod y_M_doorsOf.1 ∈ zTb ∧ Cond.selects y_M_doorsOf.1.cls y_M_doorsOf.1 y_M_doorsOf.1 ∈ zTb ∧ Cond.initialized y_M_doorsOf.1.cls ∈ zTb ∧ Cond.code y_M_doorsOf.1 y_M_doorsOf.2.1 y_M_doorsOf.2.2.1 y_M_doorsOf.2.2.2 ∈ zTb ∧ (y_M_doorsOf.1.cls ≠ "java/lang/invoke/MethodHandle" ∧ y_M_doorsOf.1.cls ≠ "java/lang/invoke/VarHandle" ∧ (parseMethodDescriptor y_M_doorsOf.1.desc).map (fun d => d.parameters.length) = some 1) ∧ y_M_doorsOf.2.2.1 ≤ 20 :=
  ⟨(zTb_in 1812 (by decide +kernel) (by decide +kernel)), (List.mem_filter.mpr ⟨List.mem_append_left _ (by decide +kernel), by decide +kernel⟩), (zTb_in 151 (by decide +kernel) (by decide +kernel)), (zTb_in 1813 (by decide +kernel) (by decide +kernel)), by decide +kernel, by decide +kernel⟩
theorem lv_M_351 : zLv "DebtDoorsModel" 351 y_M_doorsOf 1 12 := ⟨⟨(zTb_in 1810 (by decide +kernel) (by decide +kernel)), m_M_doorsOf.1, m_M_doorsOf.2.1, m_M_doorsOf.2.2⟩, _, rfl, rfl⟩
def y_M_doors : zMt := (⟨"DebtDoorsModel", "doors", "(I)I"⟩, prog_14_method_83_code, 2, some .int)
theorem d_M_doors_0 : decode prog_14_method_83_code 0 = .ok (.aload_n 0, 1) := by decide +kernel
theorem d_M_doors_1 : decode prog_14_method_83_code 1 = .ok (.iload_n 1, 1) := by decide +kernel
theorem d_M_doors_2 : decode prog_14_method_83_code 2 = .ok (.invokevirtual 152, 3) := by decide +kernel
theorem d_M_doors_5 : decode prog_14_method_83_code 5 = .ok (.ifCond .eq 11, 3) := by decide +kernel
theorem d_M_doors_8 : decode prog_14_method_83_code 8 = .ok (.aload_n 0, 1) := by decide +kernel
theorem d_M_doors_9 : decode prog_14_method_83_code 9 = .ok (.iload_n 1, 1) := by decide +kernel
theorem d_M_doors_10 : decode prog_14_method_83_code 10 = .ok (.invokevirtual 351, 3) := by decide +kernel
theorem d_M_doors_13 : decode prog_14_method_83_code 13 = .ok (.goto 4, 3) := by decide +kernel
theorem d_M_doors_16 : decode prog_14_method_83_code 16 = .ok (.iconst (-1), 1) := by decide +kernel
theorem d_M_doors_17 : decode prog_14_method_83_code 17 = .ok (.ireturn, 1) := by decide +kernel
def w_M_doors {d : Nat} (hd : 3 ≤ d) := (show SS ("DebtDoorsModel", prog_14_method_83_code, 2) (some .int) d 0 0 0 0 _ from (sRi (xT2 (xC (rNot (rJ1 (tgt := 16) k_eq (rV p_M_isPerson (Nat.le_trans (Nat.le_of_ble_eq_true rfl) hd) lv_M_152 (rAi (rAr rA0 (rAn 0 d_M_doors_0 rfl)) (rIn 1 d_M_doors_1 rfl)) (by decide) d_M_doors_2) d_M_doors_5 (by decide)))) (xGoE (p2 := 17) (xV lv_M_351 (xA (rAi (rAr rA0 (rAn 0 d_M_doors_8 rfl)) (rIn 1 d_M_doors_9 rfl))) (by decide) d_M_doors_10) d_M_doors_13 (by decide)) (xE (rI d_M_doors_16 rfl))) d_M_doors_17 rfl))
theorem q_D_openDoors {d : Nat} (hd : 8 ≤ d) {μ : zMem} {Z : Zt} {F : Option (List Cls)} {A : Lg} {w : Int → Int} {v : Int} (h : CTx μ Z F A w) (hv : 0 ≤ v ∧ v ≤ 6) : zSp d 0 0 y_D_openDoors zT0 [vr 0, vi v] μ zT0 (fun r μ' => r = some (vi (doA Z F A w v)) ∧ CF w μ μ') := by
  have hn := h.1.1
  have hw := h.2.2.2.2.2
  refine zSp.ss [vr 0, vi v, vx 0, vx 0] rfl (w_D_openDoors (Nat.le_trans (by decide) hd)) rfl rfl ?_
  (try simp only [zit_e, Bool.and_eq_true, Bool.or_eq_true, Bool.not_eq_true', Bool.and_eq_false_iff, Bool.or_eq_false_iff, Bool.not_eq_false', zbe, zdt, zdf, zb2_p, zbp_0, zbp_1, zbp_inj, zbp_01, Bool.true_eq_false, Bool.false_eq_true, true_and, and_true, Decidable.not_not, Classical.not_not, implies_true, List.nil_append, List.cons_append, List.append_assoc, Option.some.injEq, Sum.inl.injEq, zSw_c, zSw_n]); (try simp only [zit_e, Bool.and_eq_true, Bool.or_eq_true, Bool.not_eq_true', Bool.and_eq_false_iff, Bool.or_eq_false_iff, Bool.not_eq_false', zbe, zdt, zdf, zb2_p, zbp_0, zbp_1, zbp_inj, zbp_01, Bool.true_eq_false, Bool.false_eq_true, true_and, and_true, Decidable.not_not, Classical.not_not, implies_true, List.nil_append, List.cons_append, List.append_assoc, Option.some.injEq, Sum.inl.injEq, zSw_c, zSw_n, zc_0, zc_1]); (try simp only [zi_cs, zi_c0, zii_cs, zii_c0, zl_cs, zl_c0, zll_cs, zll_c0, zr_cs, zr_c0, zrr_cs, zrr_c0, zxs_cs, zxs_c0, zxx_cs, zxx_c0, zfree_c0, zfree_c1, zfree_cs, zfree_cz, zlong_i, zlong_r, zlong_x, zset_0, zset_s, true_and, and_true, Option.some.injEq, Sum.inl.injEq, Sum.inr.injEq, zb2_p, zbp_0, zbp_1, zbp_inj, zbp_01, Nat.zero_add, Nat.reduceAdd, implies_true, List.nil_append, List.cons_append, List.append_assoc, Int.not_lt, Int.not_le, Decidable.not_not, Int.zero_add, Int.reduceLE, Int.reduceLT, Int.reduceEq, Int.reduceNe, Int.reduceAdd, Int.reduceSub, Int.reduceMul, Int.reduceNeg, Int.reduceToNat, Nat.reduceMul, Nat.reduceLT, Nat.reduceEqDiff, and_self, ite_true, ite_false, zx1, zx2, zRecv, List.length_cons, List.length_nil, ne_eq, not_true_eq_false, not_false_eq_true, true_or, or_true, or_false, false_or, and_false, false_and, zf01, zf10, reduceCtorEq, zSw_c, zSw_n, zm_r, zit_T, zit_F, false_implies, true_implies, zc_0, zc_1])
  refine zLoop.up Z.1.toNat (fun j ρ μ1 => ρ = [vr 0, vi v, vi (bsN (fun o => o ≠ v ∧ 0 < dnA Z F A w o v) j : Int), vi j] ∧ CF w μ μ1) ⟨rfl, CF.rf hw⟩ ?_
  rintro j ρ μ1 hj ⟨rfl, hF⟩
  have h1 := h.f hF
  have e6 := h1.2.2.1.1
  (try simp only [zit_e, Bool.and_eq_true, Bool.or_eq_true, Bool.not_eq_true', Bool.and_eq_false_iff, Bool.or_eq_false_iff, Bool.not_eq_false', zbe, zdt, zdf, zb2_p, zbp_0, zbp_1, zbp_inj, zbp_01, Bool.true_eq_false, Bool.false_eq_true, true_and, and_true, Decidable.not_not, Classical.not_not, implies_true, List.nil_append, List.cons_append, List.append_assoc, Option.some.injEq, Sum.inl.injEq, zSw_c, zSw_n]); (try simp only [zit_e, Bool.and_eq_true, Bool.or_eq_true, Bool.not_eq_true', Bool.and_eq_false_iff, Bool.or_eq_false_iff, Bool.not_eq_false', zbe, zdt, zdf, zb2_p, zbp_0, zbp_1, zbp_inj, zbp_01, Bool.true_eq_false, Bool.false_eq_true, true_and, and_true, Decidable.not_not, Classical.not_not, implies_true, List.nil_append, List.cons_append, List.append_assoc, Option.some.injEq, Sum.inl.injEq, zSw_c, zSw_n, zc_0, zc_1, zc_324]); (try simp only [zi_cs, zi_c0, zii_cs, zii_c0, zl_cs, zl_c0, zll_cs, zll_c0, zr_cs, zr_c0, zrr_cs, zrr_c0, zxs_cs, zxs_c0, zxx_cs, zxx_c0, zfree_c0, zfree_c1, zfree_cs, zfree_cz, zlong_i, zlong_r, zlong_x, zset_0, zset_s, true_and, and_true, Option.some.injEq, Sum.inl.injEq, Sum.inr.injEq, zb2_p, zbp_0, zbp_1, zbp_inj, zbp_01, Nat.zero_add, Nat.reduceAdd, implies_true, List.nil_append, List.cons_append, List.append_assoc, Int.not_lt, Int.not_le, Decidable.not_not, Int.zero_add, Int.reduceLE, Int.reduceLT, Int.reduceEq, Int.reduceNe, Int.reduceAdd, Int.reduceSub, Int.reduceMul, Int.reduceNeg, Int.reduceToNat, Nat.reduceMul, Nat.reduceLT, Nat.reduceEqDiff, and_self, ite_true, ite_false, zx1, zx2, zRecv, List.length_cons, List.length_nil, ne_eq, not_true_eq_false, not_false_eq_true, true_or, or_true, or_false, false_or, and_false, false_and, zf01, zf10, reduceCtorEq, zSw_c, zSw_n, zm_r, zit_T, zit_F, false_implies, true_implies, zc_0, zc_1, zc_324])
  rw [e6]
  have hlt := bsN_lt (p := fun o => o ≠ v ∧ 0 < dnA Z F A w o v) (j + 1)
  have hp : 2 ^ (j + 1) ≤ 2 ^ 8 := Nat.pow_le_pow_right (by decide) (by omega)
  have hp9 : (2 : Nat) ^ 8 = 256 := by decide
  refine zif (fun c => ?_) (fun c => ?_)
  · have nx : ∀ {b : Int} {μ2 : zMem}, b = (bsN (fun o => o ≠ v ∧ 0 < dnA Z F A w o v) (j + 1) : Int) → CF w μ μ2 → zI ((j : Int) + 1) ∧ ∃ m', m' < Z.1.toNat - j ∧ ∃ j', m' = Z.1.toNat - j' ∧ j' ≤ Z.1.toNat ∧ [vr 0, vi v, vi b, vi ((j : Int) + 1)] = [vr 0, vi v, vi (bsN (fun o => o ≠ v ∧ 0 < dnA Z F A w o v) j' : Int), vi j'] ∧ CF w μ μ2 := by
      intro b μ2 e1 e2
      exact ⟨zI_s (by omega) (by omega), znx (P := fun j' => [vr 0, vi v, vi b, vi ((j : Int) + 1)] = [vr 0, vi v, vi (bsN (fun o => o ≠ v ∧ 0 < dnA Z F A w o v) j' : Int), vi j'] ∧ CF w μ μ2) (by omega) ⟨by rw [e1]; rfl, e2⟩⟩
    refine zif (fun c2 => ?_) (fun c2 => ?_)
    · refine zCw.use (q_C_depthNow (d := 7) (by decide) h1 (by omega) hv) (by omega) (fun q μ2 e => ?_)
      obtain ⟨rfl, e2⟩ := e
      refine ⟨_, rfl, ?_⟩
      refine zif (fun c3 => ?_) (fun c3 => ?_)
      · exact nx (bsN_y (by omega) ⟨c2, c3⟩) (hF.tr e2)
      · exact nx (by rw [bsN_n (fun z => c3 z.2)]) (hF.tr e2)
    · exact nx (by rw [bsN_n (fun z => c2 z.1)]) hF
  · have e : j = Z.1.toNat := by omega
    subst e
    exact ⟨rfl, hF⟩
theorem q_M_doorsOf {d : Nat} (hd : 50 ≤ d) {μ : zMem} {Z : Zt} {F : Option (List Cls)} {A : Lg} {w : Int → Int} {v : Int} (h : MTx μ Z F A w) (hv : 0 ≤ v ∧ v ≤ 6) : zSp d 0 0 y_M_doorsOf zT0 [vr 355, vi v] μ zT0 (fun r μ' => r = some (vi (doA Z F A w v)) ∧ MF μ μ') := by
  have hn := h.1.1
  refine zSp.ss [vr 355, vi v, vx 0, vx 0] rfl (w_M_doorsOf (Nat.le_trans (by decide) hd)) rfl rfl ?_
  (try simp only [zit_e, Bool.and_eq_true, Bool.or_eq_true, Bool.not_eq_true', Bool.and_eq_false_iff, Bool.or_eq_false_iff, Bool.not_eq_false', zbe, zdt, zdf, zb2_p, zbp_0, zbp_1, zbp_inj, zbp_01, Bool.true_eq_false, Bool.false_eq_true, true_and, and_true, Decidable.not_not, Classical.not_not, implies_true, List.nil_append, List.cons_append, List.append_assoc, Option.some.injEq, Sum.inl.injEq, zSw_c, zSw_n]); (try simp only [zit_e, Bool.and_eq_true, Bool.or_eq_true, Bool.not_eq_true', Bool.and_eq_false_iff, Bool.or_eq_false_iff, Bool.not_eq_false', zbe, zdt, zdf, zb2_p, zbp_0, zbp_1, zbp_inj, zbp_01, Bool.true_eq_false, Bool.false_eq_true, true_and, and_true, Decidable.not_not, Classical.not_not, implies_true, List.nil_append, List.cons_append, List.append_assoc, Option.some.injEq, Sum.inl.injEq, zSw_c, zSw_n, zc_355]); (try simp only [zi_cs, zi_c0, zii_cs, zii_c0, zl_cs, zl_c0, zll_cs, zll_c0, zr_cs, zr_c0, zrr_cs, zrr_c0, zxs_cs, zxs_c0, zxx_cs, zxx_c0, zfree_c0, zfree_c1, zfree_cs, zfree_cz, zlong_i, zlong_r, zlong_x, zset_0, zset_s, true_and, and_true, Option.some.injEq, Sum.inl.injEq, Sum.inr.injEq, zb2_p, zbp_0, zbp_1, zbp_inj, zbp_01, Nat.zero_add, Nat.reduceAdd, implies_true, List.nil_append, List.cons_append, List.append_assoc, Int.not_lt, Int.not_le, Decidable.not_not, Int.zero_add, Int.reduceLE, Int.reduceLT, Int.reduceEq, Int.reduceNe, Int.reduceAdd, Int.reduceSub, Int.reduceMul, Int.reduceNeg, Int.reduceToNat, Nat.reduceMul, Nat.reduceLT, Nat.reduceEqDiff, and_self, ite_true, ite_false, zx1, zx2, zRecv, List.length_cons, List.length_nil, ne_eq, not_true_eq_false, not_false_eq_true, true_or, or_true, or_false, false_or, and_false, false_and, zf01, zf10, reduceCtorEq, zSw_c, zSw_n, zm_r, zit_T, zit_F, false_implies, true_implies, zc_355])
  refine zLoop.up Z.1.toNat (fun j ρ μ1 => ρ = [vr 355, vi v, vi (bsN (fun o => o ≠ v ∧ 0 < dnA Z F A w o v) j : Int), vi j] ∧ MF μ μ1) ⟨rfl, MF.rf⟩ ?_
  rintro j ρ μ1 hj ⟨rfl, hF⟩
  have h1 := h.f hF
  have e6 := h1.2.2.1.1
  (try simp only [zit_e, Bool.and_eq_true, Bool.or_eq_true, Bool.not_eq_true', Bool.and_eq_false_iff, Bool.or_eq_false_iff, Bool.not_eq_false', zbe, zdt, zdf, zb2_p, zbp_0, zbp_1, zbp_inj, zbp_01, Bool.true_eq_false, Bool.false_eq_true, true_and, and_true, Decidable.not_not, Classical.not_not, implies_true, List.nil_append, List.cons_append, List.append_assoc, Option.some.injEq, Sum.inl.injEq, zSw_c, zSw_n]); (try simp only [zit_e, Bool.and_eq_true, Bool.or_eq_true, Bool.not_eq_true', Bool.and_eq_false_iff, Bool.or_eq_false_iff, Bool.not_eq_false', zbe, zdt, zdf, zb2_p, zbp_0, zbp_1, zbp_inj, zbp_01, Bool.true_eq_false, Bool.false_eq_true, true_and, and_true, Decidable.not_not, Classical.not_not, implies_true, List.nil_append, List.cons_append, List.append_assoc, Option.some.injEq, Sum.inl.injEq, zSw_c, zSw_n, zc_355, f_M_people, g_M_people]); (try simp only [zi_cs, zi_c0, zii_cs, zii_c0, zl_cs, zl_c0, zll_cs, zll_c0, zr_cs, zr_c0, zrr_cs, zrr_c0, zxs_cs, zxs_c0, zxx_cs, zxx_c0, zfree_c0, zfree_c1, zfree_cs, zfree_cz, zlong_i, zlong_r, zlong_x, zset_0, zset_s, true_and, and_true, Option.some.injEq, Sum.inl.injEq, Sum.inr.injEq, zb2_p, zbp_0, zbp_1, zbp_inj, zbp_01, Nat.zero_add, Nat.reduceAdd, implies_true, List.nil_append, List.cons_append, List.append_assoc, Int.not_lt, Int.not_le, Decidable.not_not, Int.zero_add, Int.reduceLE, Int.reduceLT, Int.reduceEq, Int.reduceNe, Int.reduceAdd, Int.reduceSub, Int.reduceMul, Int.reduceNeg, Int.reduceToNat, Nat.reduceMul, Nat.reduceLT, Nat.reduceEqDiff, and_self, ite_true, ite_false, zx1, zx2, zRecv, List.length_cons, List.length_nil, ne_eq, not_true_eq_false, not_false_eq_true, true_or, or_true, or_false, false_or, and_false, false_and, zf01, zf10, reduceCtorEq, zSw_c, zSw_n, zm_r, zit_T, zit_F, false_implies, true_implies, zc_355, f_M_people, g_M_people])
  rw [e6]
  have hlt := bsN_lt (p := fun o => o ≠ v ∧ 0 < dnA Z F A w o v) (j + 1)
  have hp : 2 ^ (j + 1) ≤ 2 ^ 8 := Nat.pow_le_pow_right (by decide) (by omega)
  have hp9 : (2 : Nat) ^ 8 = 256 := by decide
  refine zif (fun c => ?_) (fun c => ?_)
  · have nx : ∀ {b : Int} {μ2 : zMem}, b = (bsN (fun o => o ≠ v ∧ 0 < dnA Z F A w o v) (j + 1) : Int) → MF μ μ2 → zI ((j : Int) + 1) ∧ ∃ m', m' < Z.1.toNat - j ∧ ∃ j', m' = Z.1.toNat - j' ∧ j' ≤ Z.1.toNat ∧ [vr 355, vi v, vi b, vi ((j : Int) + 1)] = [vr 355, vi v, vi (bsN (fun o => o ≠ v ∧ 0 < dnA Z F A w o v) j' : Int), vi j'] ∧ MF μ μ2 := by
      intro b μ2 e1 e2
      exact ⟨zI_s (by omega) (by omega), znx (P := fun j' => [vr 355, vi v, vi b, vi ((j : Int) + 1)] = [vr 355, vi v, vi (bsN (fun o => o ≠ v ∧ 0 < dnA Z F A w o v) j' : Int), vi j'] ∧ MF μ μ2) (by omega) ⟨by rw [e1]; rfl, e2⟩⟩
    have hs : bsN (fun o => o ≠ v ∧ 0 < dnA Z F A w o v) j < 2147483648 := by
      have := bsN_lt (p := fun o => o ≠ v ∧ 0 < dnA Z F A w o v) j
      have : 2 ^ j ≤ 2 ^ 8 := Nat.pow_le_pow_right (by decide) (by omega)
      omega
    refine zif (fun c2 => ?_) (fun c2 => ?_)
    · refine zCw.use (q_R_deepNow (d := 49) (by decide) h1 (by omega) hv) (by omega) (fun q μ2 e => ?_)
      obtain ⟨rfl, e2⟩ := e
      refine ⟨_, rfl, ?_⟩
      refine zif (fun c3 => ?_) (fun c3 => ?_)
      · exact nx (bsN_y (by omega) ⟨c2, c3⟩) (hF.tr e2)
      · exact nx (by rw [bsN_n (fun z => c3 z.2), zor_0 hs]) (hF.tr e2)
    · exact nx (by rw [bsN_n (fun z => c2 z.1), zor_0 hs]) hF
  · have e : j = Z.1.toNat := by omega
    subst e
    exact ⟨rfl, hF⟩
theorem LC_doors {v : Int} : LC y_D_doors y_M_doors [vi v] := LC.tl (f := fun Z F A w => zit (0 ≤ v ∧ v < Z.1) (doA Z F A w v) (-1)) (fun μ Z F A w h => by
    have hn := h.1.1
    have e6 := h.2.2.1.1
    refine zCw.use (zSp.ss [vr 0, vi v] rfl (w_D_doors (d := 100) (by decide)) rfl rfl ?_) (by decide) (fun q μ' e => e)
    (try simp only [zit_e, Bool.and_eq_true, Bool.or_eq_true, Bool.not_eq_true', Bool.and_eq_false_iff, Bool.or_eq_false_iff, Bool.not_eq_false', zbe, zdt, zdf, zb2_p, zbp_0, zbp_1, zbp_inj, zbp_01, Bool.true_eq_false, Bool.false_eq_true, true_and, and_true, Decidable.not_not, Classical.not_not, implies_true, List.nil_append, List.cons_append, List.append_assoc, Option.some.injEq, Sum.inl.injEq, zSw_c, zSw_n]); (try simp only [zit_e, Bool.and_eq_true, Bool.or_eq_true, Bool.not_eq_true', Bool.and_eq_false_iff, Bool.or_eq_false_iff, Bool.not_eq_false', zbe, zdt, zdf, zb2_p, zbp_0, zbp_1, zbp_inj, zbp_01, Bool.true_eq_false, Bool.false_eq_true, true_and, and_true, Decidable.not_not, Classical.not_not, implies_true, List.nil_append, List.cons_append, List.append_assoc, Option.some.injEq, Sum.inl.injEq, zSw_c, zSw_n, zc_0, zc_1, zc_324, f_To_has, g_To_has]); (try simp only [zi_cs, zi_c0, zii_cs, zii_c0, zl_cs, zl_c0, zll_cs, zll_c0, zr_cs, zr_c0, zrr_cs, zrr_c0, zxs_cs, zxs_c0, zxx_cs, zxx_c0, zfree_c0, zfree_c1, zfree_cs, zfree_cz, zlong_i, zlong_r, zlong_x, zset_0, zset_s, true_and, and_true, Option.some.injEq, Sum.inl.injEq, Sum.inr.injEq, zb2_p, zbp_0, zbp_1, zbp_inj, zbp_01, Nat.zero_add, Nat.reduceAdd, implies_true, List.nil_append, List.cons_append, List.append_assoc, Int.not_lt, Int.not_le, Decidable.not_not, Int.zero_add, Int.reduceLE, Int.reduceLT, Int.reduceEq, Int.reduceNe, Int.reduceAdd, Int.reduceSub, Int.reduceMul, Int.reduceNeg, Int.reduceToNat, Nat.reduceMul, Nat.reduceLT, Nat.reduceEqDiff, and_self, ite_true, ite_false, zx1, zx2, zRecv, List.length_cons, List.length_nil, ne_eq, not_true_eq_false, not_false_eq_true, true_or, or_true, or_false, false_or, and_false, false_and, zf01, zf10, reduceCtorEq, zSw_c, zSw_n, zm_r, zit_T, zit_F, false_implies, true_implies, zc_0, zc_1, zc_324, f_To_has, g_To_has])
    rw [e6]
    refine zif (fun c => ?_) (fun c => ?_)
    · refine zCw.use (q_D_openDoors (d := 8) (by decide) h (by omega)) (by omega) (fun q μ1 e => ?_)
      exact ⟨_, e.1, (zit_t c).symm, e.2.hm, e.2.kc⟩
    · exact ⟨(zit_f c).symm, HM.rf, KC.rf⟩) (fun μ Z F A w h => by
    have hn := h.1.1
    have e6 := h.2.2.1.1
    refine zCw.use (zSp.ss [vr 355, vi v] rfl (w_M_doors (d := 100) (by decide)) rfl rfl ?_) (by decide) (fun q μ' e => e)
    (try simp only [zit_e, Bool.and_eq_true, Bool.or_eq_true, Bool.not_eq_true', Bool.and_eq_false_iff, Bool.or_eq_false_iff, Bool.not_eq_false', zbe, zdt, zdf, zb2_p, zbp_0, zbp_1, zbp_inj, zbp_01, Bool.true_eq_false, Bool.false_eq_true, true_and, and_true, Decidable.not_not, Classical.not_not, implies_true, List.nil_append, List.cons_append, List.append_assoc, Option.some.injEq, Sum.inl.injEq, zSw_c, zSw_n]); (try simp only [zit_e, Bool.and_eq_true, Bool.or_eq_true, Bool.not_eq_true', Bool.and_eq_false_iff, Bool.or_eq_false_iff, Bool.not_eq_false', zbe, zdt, zdf, zb2_p, zbp_0, zbp_1, zbp_inj, zbp_01, Bool.true_eq_false, Bool.false_eq_true, true_and, and_true, Decidable.not_not, Classical.not_not, implies_true, List.nil_append, List.cons_append, List.append_assoc, Option.some.injEq, Sum.inl.injEq, zSw_c, zSw_n, zc_355, f_M_isPerson, g_M_isPerson]); (try simp only [zi_cs, zi_c0, zii_cs, zii_c0, zl_cs, zl_c0, zll_cs, zll_c0, zr_cs, zr_c0, zrr_cs, zrr_c0, zxs_cs, zxs_c0, zxx_cs, zxx_c0, zfree_c0, zfree_c1, zfree_cs, zfree_cz, zlong_i, zlong_r, zlong_x, zset_0, zset_s, true_and, and_true, Option.some.injEq, Sum.inl.injEq, Sum.inr.injEq, zb2_p, zbp_0, zbp_1, zbp_inj, zbp_01, Nat.zero_add, Nat.reduceAdd, implies_true, List.nil_append, List.cons_append, List.append_assoc, Int.not_lt, Int.not_le, Decidable.not_not, Int.zero_add, Int.reduceLE, Int.reduceLT, Int.reduceEq, Int.reduceNe, Int.reduceAdd, Int.reduceSub, Int.reduceMul, Int.reduceNeg, Int.reduceToNat, Nat.reduceMul, Nat.reduceLT, Nat.reduceEqDiff, and_self, ite_true, ite_false, zx1, zx2, zRecv, List.length_cons, List.length_nil, ne_eq, not_true_eq_false, not_false_eq_true, true_or, or_true, or_false, false_or, and_false, false_and, zf01, zf10, reduceCtorEq, zSw_c, zSw_n, zm_r, zit_T, zit_F, false_implies, true_implies, zc_355, f_M_isPerson, g_M_isPerson])
    rw [e6]
    refine ⟨by omega, ?_⟩
    refine zif (fun c => ?_) (fun c => ?_)
    · refine zCw.use (q_M_doorsOf (d := 50) (by decide) h (by omega)) (by omega) (fun q μ1 e => ?_)
      exact ⟨_, e.1, (zit_t (by omega)).symm, e.2.hc, e.2.km⟩
    · exact ⟨(zit_f (by omega)).symm, HC.rf, KM.rf⟩)


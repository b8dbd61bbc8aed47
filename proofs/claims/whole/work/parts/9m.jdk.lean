/-! the JDK's two methods -/
theorem kc_J_265 : Cond.constant "java/lang/Integer" 265 (Int32.ofInt 1431655765) ∈ zTb := (zTb_in 1043 (by decide +kernel) (by decide +kernel))
theorem kc_J_266 : Cond.constant "java/lang/Integer" 266 (Int32.ofInt 858993459) ∈ zTb := (zTb_in 1044 (by decide +kernel) (by decide +kernel))
theorem kc_J_267 : Cond.constant "java/lang/Integer" 267 (Int32.ofInt 252645135) ∈ zTb := (zTb_in 1045 (by decide +kernel) (by decide +kernel))
def y_J_bitCount : zMt := (⟨"java/lang/Integer", "bitCount", "(I)I"⟩, prog_15_method_49_code, 1, some .int)
theorem d_J_bitCount_0 : decode prog_15_method_49_code 0 = .ok (.iload_n 0, 1) := by decide +kernel
theorem d_J_bitCount_1 : decode prog_15_method_49_code 1 = .ok (.iload_n 0, 1) := by decide +kernel
theorem d_J_bitCount_2 : decode prog_15_method_49_code 2 = .ok (.iconst 1, 1) := by decide +kernel
theorem d_J_bitCount_3 : decode prog_15_method_49_code 3 = .ok (.iushr, 1) := by decide +kernel
theorem d_J_bitCount_4 : decode prog_15_method_49_code 4 = .ok (.ldc_w 265, 3) := by decide +kernel
theorem d_J_bitCount_7 : decode prog_15_method_49_code 7 = .ok (.iand, 1) := by decide +kernel
theorem d_J_bitCount_8 : decode prog_15_method_49_code 8 = .ok (.isub, 1) := by decide +kernel
theorem d_J_bitCount_9 : decode prog_15_method_49_code 9 = .ok (.istore_n 0, 1) := by decide +kernel
theorem d_J_bitCount_10 : decode prog_15_method_49_code 10 = .ok (.iload_n 0, 1) := by decide +kernel
theorem d_J_bitCount_11 : decode prog_15_method_49_code 11 = .ok (.ldc_w 266, 3) := by decide +kernel
theorem d_J_bitCount_14 : decode prog_15_method_49_code 14 = .ok (.iand, 1) := by decide +kernel
theorem d_J_bitCount_15 : decode prog_15_method_49_code 15 = .ok (.iload_n 0, 1) := by decide +kernel
theorem d_J_bitCount_16 : decode prog_15_method_49_code 16 = .ok (.iconst 2, 1) := by decide +kernel
theorem d_J_bitCount_17 : decode prog_15_method_49_code 17 = .ok (.iushr, 1) := by decide +kernel
theorem d_J_bitCount_18 : decode prog_15_method_49_code 18 = .ok (.ldc_w 266, 3) := by decide +kernel
theorem d_J_bitCount_21 : decode prog_15_method_49_code 21 = .ok (.iand, 1) := by decide +kernel
theorem d_J_bitCount_22 : decode prog_15_method_49_code 22 = .ok (.iadd, 1) := by decide +kernel
theorem d_J_bitCount_23 : decode prog_15_method_49_code 23 = .ok (.istore_n 0, 1) := by decide +kernel
theorem d_J_bitCount_24 : decode prog_15_method_49_code 24 = .ok (.iload_n 0, 1) := by decide +kernel
theorem d_J_bitCount_25 : decode prog_15_method_49_code 25 = .ok (.iload_n 0, 1) := by decide +kernel
theorem d_J_bitCount_26 : decode prog_15_method_49_code 26 = .ok (.iconst 4, 1) := by decide +kernel
theorem d_J_bitCount_27 : decode prog_15_method_49_code 27 = .ok (.iushr, 1) := by decide +kernel
theorem d_J_bitCount_28 : decode prog_15_method_49_code 28 = .ok (.iadd, 1) := by decide +kernel
theorem d_J_bitCount_29 : decode prog_15_method_49_code 29 = .ok (.ldc_w 267, 3) := by decide +kernel
theorem d_J_bitCount_32 : decode prog_15_method_49_code 32 = .ok (.iand, 1) := by decide +kernel
theorem d_J_bitCount_33 : decode prog_15_method_49_code 33 = .ok (.istore_n 0, 1) := by decide +kernel
theorem d_J_bitCount_34 : decode prog_15_method_49_code 34 = .ok (.iload_n 0, 1) := by decide +kernel
theorem d_J_bitCount_35 : decode prog_15_method_49_code 35 = .ok (.iload_n 0, 1) := by decide +kernel
theorem d_J_bitCount_36 : decode prog_15_method_49_code 36 = .ok (.bipush 8, 2) := by decide +kernel
theorem d_J_bitCount_38 : decode prog_15_method_49_code 38 = .ok (.iushr, 1) := by decide +kernel
theorem d_J_bitCount_39 : decode prog_15_method_49_code 39 = .ok (.iadd, 1) := by decide +kernel
theorem d_J_bitCount_40 : decode prog_15_method_49_code 40 = .ok (.istore_n 0, 1) := by decide +kernel
theorem d_J_bitCount_41 : decode prog_15_method_49_code 41 = .ok (.iload_n 0, 1) := by decide +kernel
theorem d_J_bitCount_42 : decode prog_15_method_49_code 42 = .ok (.iload_n 0, 1) := by decide +kernel
theorem d_J_bitCount_43 : decode prog_15_method_49_code 43 = .ok (.bipush 16, 2) := by decide +kernel
theorem d_J_bitCount_45 : decode prog_15_method_49_code 45 = .ok (.iushr, 1) := by decide +kernel
theorem d_J_bitCount_46 : decode prog_15_method_49_code 46 = .ok (.iadd, 1) := by decide +kernel
theorem d_J_bitCount_47 : decode prog_15_method_49_code 47 = .ok (.istore_n 0, 1) := by decide +kernel
theorem d_J_bitCount_48 : decode prog_15_method_49_code 48 = .ok (.iload_n 0, 1) := by decide +kernel
theorem d_J_bitCount_49 : decode prog_15_method_49_code 49 = .ok (.bipush 63, 2) := by decide +kernel
theorem d_J_bitCount_51 : decode prog_15_method_49_code 51 = .ok (.iand, 1) := by decide +kernel
theorem d_J_bitCount_52 : decode prog_15_method_49_code 52 = .ok (.ireturn, 1) := by decide +kernel
def w_J_bitCount {d : Nat} (hd : 1 ≤ d) := (show SS ("java/lang/Integer", prog_15_method_49_code, 1) (some .int) d 0 0 0 0 _ from (sS (p1 := 10) (sIn 0 (xE (r2 o_sub (rIn 0 d_J_bitCount_0 rfl) (r2 o_and (r2 o_ush (rIn 0 d_J_bitCount_1 rfl) (rI d_J_bitCount_2 rfl) d_J_bitCount_3) (rLw kc_J_265 d_J_bitCount_4 rfl) d_J_bitCount_7) d_J_bitCount_8)) d_J_bitCount_9 rfl (by decide)) (sS (p1 := 24) (sIn 0 (xE (r2 o_add (r2 o_and (rIn 0 d_J_bitCount_10 rfl) (rLw kc_J_266 d_J_bitCount_11 rfl) d_J_bitCount_14) (r2 o_and (r2 o_ush (rIn 0 d_J_bitCount_15 rfl) (rI d_J_bitCount_16 rfl) d_J_bitCount_17) (rLw kc_J_266 d_J_bitCount_18 rfl) d_J_bitCount_21) d_J_bitCount_22)) d_J_bitCount_23 rfl (by decide)) (sS (p1 := 34) (sIn 0 (xE (r2 o_and (r2 o_add (rIn 0 d_J_bitCount_24 rfl) (r2 o_ush (rIn 0 d_J_bitCount_25 rfl) (rI d_J_bitCount_26 rfl) d_J_bitCount_27) d_J_bitCount_28) (rLw kc_J_267 d_J_bitCount_29 rfl) d_J_bitCount_32)) d_J_bitCount_33 rfl (by decide)) (sS (p1 := 41) (sIn 0 (xE (r2 o_add (rIn 0 d_J_bitCount_34 rfl) (r2 o_ush (rIn 0 d_J_bitCount_35 rfl) (rB d_J_bitCount_36 rfl) d_J_bitCount_38) d_J_bitCount_39)) d_J_bitCount_40 rfl (by decide)) (sS (p1 := 48) (sIn 0 (xE (r2 o_add (rIn 0 d_J_bitCount_41 rfl) (r2 o_ush (rIn 0 d_J_bitCount_42 rfl) (rB d_J_bitCount_43 rfl) d_J_bitCount_45) d_J_bitCount_46)) d_J_bitCount_47 rfl (by decide)) (sRi (xE (r2 o_and (rIn 0 d_J_bitCount_48 rfl) (rB d_J_bitCount_49 rfl) d_J_bitCount_51)) d_J_bitCount_52 rfl)))))))
noncomputable def f_J_bitCount : List zV → zMem → Int
  | [.inl s], μ => onN s 16
  | _, _ => 0
def g_J_bitCount : List zV → zMem → Prop
  | [.inl s], μ => (0 ≤ s ∧ s < 65536)
  | _, _ => False
theorem p_J_bitCount : zPu y_J_bitCount 1 f_J_bitCount g_J_bitCount := by
  intro as μ h
  unfold g_J_bitCount at h
  split at h
  · next s =>
    refine zSp.ss [vi s] rfl (w_J_bitCount (Nat.le_refl _)) rfl rfl ?_
    (try simp only [zit_e, Bool.and_eq_true, Bool.or_eq_true, Bool.not_eq_true', Bool.and_eq_false_iff, Bool.or_eq_false_iff, Bool.not_eq_false', zbe, zdt, zdf, zb2_p, zbp_0, zbp_1, zbp_inj, zbp_01, Bool.true_eq_false, Bool.false_eq_true, true_and, and_true, Decidable.not_not, Classical.not_not, implies_true, List.nil_append, List.cons_append, List.append_assoc, Option.some.injEq, Sum.inl.injEq, zSw_c, zSw_n]); (try simp only [zit_e, Bool.and_eq_true, Bool.or_eq_true, Bool.not_eq_true', Bool.and_eq_false_iff, Bool.or_eq_false_iff, Bool.not_eq_false', zbe, zdt, zdf, zb2_p, zbp_0, zbp_1, zbp_inj, zbp_01, Bool.true_eq_false, Bool.false_eq_true, true_and, and_true, Decidable.not_not, Classical.not_not, implies_true, List.nil_append, List.cons_append, List.append_assoc, Option.some.injEq, Sum.inl.injEq, zSw_c, zSw_n, f_J_bitCount]); (try simp only [zi_cs, zi_c0, zii_cs, zii_c0, zl_cs, zl_c0, zll_cs, zll_c0, zr_cs, zr_c0, zrr_cs, zrr_c0, zxs_cs, zxs_c0, zxx_cs, zxx_c0, zfree_c0, zfree_c1, zfree_cs, zfree_cz, zlong_i, zlong_r, zlong_x, zset_0, zset_s, true_and, and_true, Option.some.injEq, Sum.inl.injEq, Sum.inr.injEq, zb2_p, zbp_0, zbp_1, zbp_inj, zbp_01, Nat.zero_add, Nat.reduceAdd, implies_true, List.nil_append, List.cons_append, List.append_assoc, Int.not_lt, Int.not_le, Decidable.not_not, Int.zero_add, Int.reduceLE, Int.reduceLT, Int.reduceEq, Int.reduceNe, Int.reduceAdd, Int.reduceSub, Int.reduceMul, Int.reduceNeg, Int.reduceToNat, Nat.reduceMul, Nat.reduceLT, Nat.reduceEqDiff, and_self, ite_true, ite_false, zx1, zx2, zRecv, List.length_cons, List.length_nil, ne_eq, not_true_eq_false, not_false_eq_true, true_or, or_true, or_false, false_or, and_false, false_and, zf01, zf10, reduceCtorEq, zSw_c, zSw_n, zm_r, zit_T, zit_F, false_implies, true_implies, f_J_bitCount])
    obtain ⟨n, rfl⟩ := Int.eq_ofNat_of_zero_le h.1
    have hn : n < 65536 := by omega
    have hq := bcN_p hn
    rw [onN_p, ← hq]
    unfold bcN
    simp only
    have sh : ∀ (a : Nat) (k m : Nat), a < 2147483648 → k < 32 → 2 ^ k = m → zush (a : Int) (k : Int) = ((a / m : Nat) : Int) := fun a k m h1 h2 h3 => by
      rw [zush_n h1 h2, Nat.shiftRight_eq_div_pow, h3]
    have g1 : n / 2 &&& 1431655765 ≤ n / 2 := Nat.and_le_left
    have u1 : zush (n : Int) 1 = ((n / 2 : Nat) : Int) := sh n 1 2 (by omega) (by decide) (by decide)
    have v1 : zand ((n / 2 : Nat) : Int) 1431655765 = ((n / 2 &&& 1431655765 : Nat) : Int) := zand_n (by omega) (by decide)
    rw [u1, v1]
    generalize hA : n - (n / 2 &&& 1431655765) = A
    have eA : (n : Int) - ((n / 2 &&& 1431655765 : Nat) : Int) = (A : Int) := by omega
    rw [eA]
    have bA : A < 65536 := by omega
    have u2 : zush (A : Int) 2 = ((A / 4 : Nat) : Int) := sh A 2 4 (by omega) (by decide) (by decide)
    have v2 : zand (A : Int) 858993459 = ((A &&& 858993459 : Nat) : Int) := zand_n (by omega) (by decide)
    have v3 : zand ((A / 4 : Nat) : Int) 858993459 = ((A / 4 &&& 858993459 : Nat) : Int) := zand_n (by omega) (by decide)
    rw [u2, v2, v3]
    have g2 : A &&& 858993459 ≤ A := Nat.and_le_left
    have g3 : A / 4 &&& 858993459 ≤ A / 4 := Nat.and_le_left
    generalize hB : (A &&& 858993459) + (A / 4 &&& 858993459) = B
    have eB : ((A &&& 858993459 : Nat) : Int) + ((A / 4 &&& 858993459 : Nat) : Int) = (B : Int) := by omega
    rw [eB]
    have bB : B < 131072 := by omega
    have u3 : zush (B : Int) 4 = ((B / 16 : Nat) : Int) := sh B 4 16 (by omega) (by decide) (by decide)
    rw [u3]
    have eC0 : (B : Int) + ((B / 16 : Nat) : Int) = ((B + B / 16 : Nat) : Int) := by omega
    rw [eC0]
    have v4 : zand ((B + B / 16 : Nat) : Int) 252645135 = (((B + B / 16) &&& 252645135 : Nat) : Int) := zand_n (by omega) (by decide)
    rw [v4]
    have g4 : (B + B / 16) &&& 252645135 ≤ B + B / 16 := Nat.and_le_left
    generalize hC : (B + B / 16) &&& 252645135 = C at *
    have u4 : zush (C : Int) 8 = ((C / 256 : Nat) : Int) := sh C 8 256 (by omega) (by decide) (by decide)
    rw [u4]
    generalize hD : C + C / 256 = D
    have eD : (C : Int) + ((C / 256 : Nat) : Int) = (D : Int) := by omega
    rw [eD]
    have u5 : zush (D : Int) 16 = ((D / 65536 : Nat) : Int) := sh D 16 65536 (by omega) (by decide) (by decide)
    rw [u5]
    generalize hE : D + D / 65536 = E
    have eE : (D : Int) + ((D / 65536 : Nat) : Int) = (E : Int) := by omega
    rw [eE]
    have v6 : zand (E : Int) 63 = ((E &&& 63 : Nat) : Int) := zand_n (by omega) (by decide)
    rw [v6]
    exact ⟨zI_s (by omega) (by omega), zI_s (by omega) (by omega), zI_s (by omega) (by omega), zI_s (by omega) (by omega), zI_s (by omega) (by omega), rfl⟩
  · exact h.elim
/-- the least number in a set -/
def lwN : Nat → Nat → Nat
  | 0, _ => 0
  | k + 1, s => if s % 2 = 1 then 0 else lwN k (s / 2) + 1
theorem ntz_all : (List.range 128).all (fun s => s == 0 || (Nat.ble (lwN 7 s) 6 && (zand (zxor (s : Int) (-1)) ((s : Int) - 1) == ((2 ^ lwN 7 s : Nat) : Int) - 1))) = true := by decide +kernel
theorem ntz_1 {s : Int} (h : 1 ≤ s ∧ s < 128) : lwN 7 s.toNat ≤ 6 ∧ zand (zxor s (-1)) (s - 1) = ((2 ^ lwN 7 s.toNat : Nat) : Int) - 1 := by
  have := List.all_eq_true.mp ntz_all s.toNat (List.mem_range.mpr (by omega))
  simp only [Bool.or_eq_true, Bool.and_eq_true, beq_iff_eq, Nat.ble_eq] at this
  rw [show ((s.toNat : Nat) : Int) = s by omega] at this
  rcases this with this | this
  · omega
  · exact this
theorem ntz_z : zand 0 32 = 0 ∧ zush 1 1 = 0 ∧ zush 3 1 = 1 ∧ zush 7 2 = 1 ∧ zush 15 2 = 3 ∧ zush 31 4 = 1 ∧ zush 63 4 = 3 := by decide +kernel
theorem kc_J_264 : Cond.constant "java/lang/Integer" 264 (Int32.ofInt 65536) ∈ zTb := (zTb_in 1053 (by decide +kernel) (by decide +kernel))
def y_J_ntz : zMt := (⟨"java/lang/Integer", "numberOfTrailingZeros", "(I)I"⟩, prog_15_method_48_code, 2, some .int)
theorem d_J_ntz_0 : decode prog_15_method_48_code 0 = .ok (.iload_n 0, 1) := by decide +kernel
theorem d_J_ntz_1 : decode prog_15_method_48_code 1 = .ok (.iconst (-1), 1) := by decide +kernel
theorem d_J_ntz_2 : decode prog_15_method_48_code 2 = .ok (.ixor, 1) := by decide +kernel
theorem d_J_ntz_3 : decode prog_15_method_48_code 3 = .ok (.iload_n 0, 1) := by decide +kernel
theorem d_J_ntz_4 : decode prog_15_method_48_code 4 = .ok (.iconst 1, 1) := by decide +kernel
theorem d_J_ntz_5 : decode prog_15_method_48_code 5 = .ok (.isub, 1) := by decide +kernel
theorem d_J_ntz_6 : decode prog_15_method_48_code 6 = .ok (.iand, 1) := by decide +kernel
theorem d_J_ntz_7 : decode prog_15_method_48_code 7 = .ok (.istore_n 0, 1) := by decide +kernel
theorem d_J_ntz_8 : decode prog_15_method_48_code 8 = .ok (.iload_n 0, 1) := by decide +kernel
theorem d_J_ntz_9 : decode prog_15_method_48_code 9 = .ok (.ifCond .gt 8, 3) := by decide +kernel
theorem d_J_ntz_12 : decode prog_15_method_48_code 12 = .ok (.iload_n 0, 1) := by decide +kernel
theorem d_J_ntz_13 : decode prog_15_method_48_code 13 = .ok (.bipush 32, 2) := by decide +kernel
theorem d_J_ntz_15 : decode prog_15_method_48_code 15 = .ok (.iand, 1) := by decide +kernel
theorem d_J_ntz_16 : decode prog_15_method_48_code 16 = .ok (.ireturn, 1) := by decide +kernel
theorem d_J_ntz_17 : decode prog_15_method_48_code 17 = .ok (.iconst 1, 1) := by decide +kernel
theorem d_J_ntz_18 : decode prog_15_method_48_code 18 = .ok (.istore_n 1, 1) := by decide +kernel
theorem d_J_ntz_19 : decode prog_15_method_48_code 19 = .ok (.iload_n 0, 1) := by decide +kernel
theorem d_J_ntz_20 : decode prog_15_method_48_code 20 = .ok (.ldc_w 264, 3) := by decide +kernel
theorem d_J_ntz_23 : decode prog_15_method_48_code 23 = .ok (.if_icmp .le 11, 3) := by decide +kernel
theorem d_J_ntz_26 : decode prog_15_method_48_code 26 = .ok (.iinc 1 16, 3) := by decide +kernel
theorem d_J_ntz_29 : decode prog_15_method_48_code 29 = .ok (.iload_n 0, 1) := by decide +kernel
theorem d_J_ntz_30 : decode prog_15_method_48_code 30 = .ok (.bipush 16, 2) := by decide +kernel
theorem d_J_ntz_32 : decode prog_15_method_48_code 32 = .ok (.iushr, 1) := by decide +kernel
theorem d_J_ntz_33 : decode prog_15_method_48_code 33 = .ok (.istore_n 0, 1) := by decide +kernel
theorem d_J_ntz_34 : decode prog_15_method_48_code 34 = .ok (.iload_n 0, 1) := by decide +kernel
theorem d_J_ntz_35 : decode prog_15_method_48_code 35 = .ok (.sipush 256, 3) := by decide +kernel
theorem d_J_ntz_38 : decode prog_15_method_48_code 38 = .ok (.if_icmp .le 11, 3) := by decide +kernel
theorem d_J_ntz_41 : decode prog_15_method_48_code 41 = .ok (.iinc 1 8, 3) := by decide +kernel
theorem d_J_ntz_44 : decode prog_15_method_48_code 44 = .ok (.iload_n 0, 1) := by decide +kernel
theorem d_J_ntz_45 : decode prog_15_method_48_code 45 = .ok (.bipush 8, 2) := by decide +kernel
theorem d_J_ntz_47 : decode prog_15_method_48_code 47 = .ok (.iushr, 1) := by decide +kernel
theorem d_J_ntz_48 : decode prog_15_method_48_code 48 = .ok (.istore_n 0, 1) := by decide +kernel
theorem d_J_ntz_49 : decode prog_15_method_48_code 49 = .ok (.iload_n 0, 1) := by decide +kernel
theorem d_J_ntz_50 : decode prog_15_method_48_code 50 = .ok (.bipush 16, 2) := by decide +kernel
theorem d_J_ntz_52 : decode prog_15_method_48_code 52 = .ok (.if_icmp .le 10, 3) := by decide +kernel
theorem d_J_ntz_55 : decode prog_15_method_48_code 55 = .ok (.iinc 1 4, 3) := by decide +kernel
theorem d_J_ntz_58 : decode prog_15_method_48_code 58 = .ok (.iload_n 0, 1) := by decide +kernel
theorem d_J_ntz_59 : decode prog_15_method_48_code 59 = .ok (.iconst 4, 1) := by decide +kernel
theorem d_J_ntz_60 : decode prog_15_method_48_code 60 = .ok (.iushr, 1) := by decide +kernel
theorem d_J_ntz_61 : decode prog_15_method_48_code 61 = .ok (.istore_n 0, 1) := by decide +kernel
theorem d_J_ntz_62 : decode prog_15_method_48_code 62 = .ok (.iload_n 0, 1) := by decide +kernel
theorem d_J_ntz_63 : decode prog_15_method_48_code 63 = .ok (.iconst 4, 1) := by decide +kernel
theorem d_J_ntz_64 : decode prog_15_method_48_code 64 = .ok (.if_icmp .le 10, 3) := by decide +kernel
theorem d_J_ntz_67 : decode prog_15_method_48_code 67 = .ok (.iinc 1 2, 3) := by decide +kernel
theorem d_J_ntz_70 : decode prog_15_method_48_code 70 = .ok (.iload_n 0, 1) := by decide +kernel
theorem d_J_ntz_71 : decode prog_15_method_48_code 71 = .ok (.iconst 2, 1) := by decide +kernel
theorem d_J_ntz_72 : decode prog_15_method_48_code 72 = .ok (.iushr, 1) := by decide +kernel
theorem d_J_ntz_73 : decode prog_15_method_48_code 73 = .ok (.istore_n 0, 1) := by decide +kernel
theorem d_J_ntz_74 : decode prog_15_method_48_code 74 = .ok (.iload_n 1, 1) := by decide +kernel
theorem d_J_ntz_75 : decode prog_15_method_48_code 75 = .ok (.iload_n 0, 1) := by decide +kernel
theorem d_J_ntz_76 : decode prog_15_method_48_code 76 = .ok (.iconst 1, 1) := by decide +kernel
theorem d_J_ntz_77 : decode prog_15_method_48_code 77 = .ok (.iushr, 1) := by decide +kernel
theorem d_J_ntz_78 : decode prog_15_method_48_code 78 = .ok (.iadd, 1) := by decide +kernel
theorem d_J_ntz_79 : decode prog_15_method_48_code 79 = .ok (.ireturn, 1) := by decide +kernel
def w_J_ntz {d : Nat} (hd : 1 ≤ d) := (show SS ("java/lang/Integer", prog_15_method_48_code, 2) (some .int) d 0 0 0 0 _ from (sS (p1 := 8) (sIn 0 (xE (r2 o_and (r2 o_xor (rIn 0 d_J_ntz_0 rfl) (rI d_J_ntz_1 rfl) d_J_ntz_2) (r2 o_sub (rIn 0 d_J_ntz_3 rfl) (rI d_J_ntz_4 rfl) d_J_ntz_5) d_J_ntz_6)) d_J_ntz_7 rfl (by decide)) (sS (p1 := 17) (sIf (pn := 17) (tt := 12) (xC (rNot (rJ1 (tgt := 17) k_gt (rIn 0 d_J_ntz_8 rfl) d_J_ntz_9 (by decide)))) (sRi (xE (r2 o_and (rIn 0 d_J_ntz_12 rfl) (rB d_J_ntz_13 rfl) d_J_ntz_15)) d_J_ntz_16 rfl)) (sS (p1 := 19) (sIn 1 (xE (rI d_J_ntz_17 rfl)) d_J_ntz_18 rfl (by decide)) (sS (p1 := 34) (sIf (pn := 34) (tt := 26) (xC (rNot (rJ2 (tgt := 34) j_le (rIn 0 d_J_ntz_19 rfl) (rLw kc_J_264 d_J_ntz_20 rfl) d_J_ntz_23 (by decide)))) (sS (p1 := 29) (sInc d_J_ntz_26 (by decide)) (sIn 0 (xE (r2 o_ush (rIn 0 d_J_ntz_29 rfl) (rB d_J_ntz_30 rfl) d_J_ntz_32)) d_J_ntz_33 rfl (by decide)))) (sS (p1 := 49) (sIf (pn := 49) (tt := 41) (xC (rNot (rJ2 (tgt := 49) j_le (rIn 0 d_J_ntz_34 rfl) (rSi d_J_ntz_35 rfl) d_J_ntz_38 (by decide)))) (sS (p1 := 44) (sInc d_J_ntz_41 (by decide)) (sIn 0 (xE (r2 o_ush (rIn 0 d_J_ntz_44 rfl) (rB d_J_ntz_45 rfl) d_J_ntz_47)) d_J_ntz_48 rfl (by decide)))) (sS (p1 := 62) (sIf (pn := 62) (tt := 55) (xC (rNot (rJ2 (tgt := 62) j_le (rIn 0 d_J_ntz_49 rfl) (rB d_J_ntz_50 rfl) d_J_ntz_52 (by decide)))) (sS (p1 := 58) (sInc d_J_ntz_55 (by decide)) (sIn 0 (xE (r2 o_ush (rIn 0 d_J_ntz_58 rfl) (rI d_J_ntz_59 rfl) d_J_ntz_60)) d_J_ntz_61 rfl (by decide)))) (sS (p1 := 74) (sIf (pn := 74) (tt := 67) (xC (rNot (rJ2 (tgt := 74) j_le (rIn 0 d_J_ntz_62 rfl) (rI d_J_ntz_63 rfl) d_J_ntz_64 (by decide)))) (sS (p1 := 70) (sInc d_J_ntz_67 (by decide)) (sIn 0 (xE (r2 o_ush (rIn 0 d_J_ntz_70 rfl) (rI d_J_ntz_71 rfl) d_J_ntz_72)) d_J_ntz_73 rfl (by decide)))) (sRi (xE (r2 o_add (rIn 1 d_J_ntz_74 rfl) (r2 o_ush (rIn 0 d_J_ntz_75 rfl) (rI d_J_ntz_76 rfl) d_J_ntz_77) d_J_ntz_78)) d_J_ntz_79 rfl)))))))))
noncomputable def f_J_ntz : List zV → zMem → Int
  | [.inl s], μ => (lwN 7 s.toNat : Int)
  | _, _ => 0
def g_J_ntz : List zV → zMem → Prop
  | [.inl s], μ => (1 ≤ s ∧ s < 128)
  | _, _ => False
theorem p_J_ntz : zPu y_J_ntz 1 f_J_ntz g_J_ntz := by
  intro as μ h
  unfold g_J_ntz at h
  split at h
  · next s =>
    refine zSp.ss [vi s, vx 0] rfl (w_J_ntz (Nat.le_refl _)) rfl rfl ?_
    (try simp only [zit_e, Bool.and_eq_true, Bool.or_eq_true, Bool.not_eq_true', Bool.and_eq_false_iff, Bool.or_eq_false_iff, Bool.not_eq_false', zbe, zdt, zdf, zb2_p, zbp_0, zbp_1, zbp_inj, zbp_01, Bool.true_eq_false, Bool.false_eq_true, true_and, and_true, Decidable.not_not, Classical.not_not, implies_true, List.nil_append, List.cons_append, List.append_assoc, Option.some.injEq, Sum.inl.injEq, zSw_c, zSw_n]); (try simp only [zit_e, Bool.and_eq_true, Bool.or_eq_true, Bool.not_eq_true', Bool.and_eq_false_iff, Bool.or_eq_false_iff, Bool.not_eq_false', zbe, zdt, zdf, zb2_p, zbp_0, zbp_1, zbp_inj, zbp_01, Bool.true_eq_false, Bool.false_eq_true, true_and, and_true, Decidable.not_not, Classical.not_not, implies_true, List.nil_append, List.cons_append, List.append_assoc, Option.some.injEq, Sum.inl.injEq, zSw_c, zSw_n, f_J_ntz]); (try simp only [zi_cs, zi_c0, zii_cs, zii_c0, zl_cs, zl_c0, zll_cs, zll_c0, zr_cs, zr_c0, zrr_cs, zrr_c0, zxs_cs, zxs_c0, zxx_cs, zxx_c0, zfree_c0, zfree_c1, zfree_cs, zfree_cz, zlong_i, zlong_r, zlong_x, zset_0, zset_s, true_and, and_true, Option.some.injEq, Sum.inl.injEq, Sum.inr.injEq, zb2_p, zbp_0, zbp_1, zbp_inj, zbp_01, Nat.zero_add, Nat.reduceAdd, implies_true, List.nil_append, List.cons_append, List.append_assoc, Int.not_lt, Int.not_le, Decidable.not_not, Int.zero_add, Int.reduceLE, Int.reduceLT, Int.reduceEq, Int.reduceNe, Int.reduceAdd, Int.reduceSub, Int.reduceMul, Int.reduceNeg, Int.reduceToNat, Nat.reduceMul, Nat.reduceLT, Nat.reduceEqDiff, and_self, ite_true, ite_false, zx1, zx2, zRecv, List.length_cons, List.length_nil, ne_eq, not_true_eq_false, not_false_eq_true, true_or, or_true, or_false, false_or, and_false, false_and, zf01, zf10, reduceCtorEq, zSw_c, zSw_n, zm_r, zit_T, zit_F, false_implies, true_implies, f_J_ntz])
    obtain ⟨h6, hm⟩ := ntz_1 h
    rw [hm]
    generalize lwN 7 s.toNat = p at *
    obtain ⟨z1, z2, z3, z4, z5, z6, z7⟩ := ntz_z
    refine ⟨zI_s (by omega) (by omega), ?_⟩
    rcases (show p = 0 ∨ p = 1 ∨ p = 2 ∨ p = 3 ∨ p = 4 ∨ p = 5 ∨ p = 6 by omega) with rfl | rfl | rfl | rfl | rfl | rfl | rfl
    · rw [show ((2 ^ 0 : Nat) : Int) - 1 = 0 by decide]
      simp only [z1, Int.reduceLE, if_true]
      rfl
    · rw [show ((2 ^ 1 : Nat) : Int) - 1 = 1 by decide]
      simp only [z2, Int.reduceLE, Int.reduceLT, if_false, zI_e, Int.reduceAdd, Int.reduceNeg, and_self, true_and]
      rfl
    · rw [show ((2 ^ 2 : Nat) : Int) - 1 = 3 by decide]
      simp only [z3, Int.reduceLE, Int.reduceLT, if_false, zI_e, Int.reduceAdd, Int.reduceNeg, and_self, true_and]
      rfl
    · rw [show ((2 ^ 3 : Nat) : Int) - 1 = 7 by decide]
      simp only [z4, z2, Int.reduceLE, Int.reduceLT, if_false, if_true, zI_e, Int.reduceAdd, Int.reduceNeg, and_self, true_and]
      rfl
    · rw [show ((2 ^ 4 : Nat) : Int) - 1 = 15 by decide]
      simp only [z5, z3, Int.reduceLE, Int.reduceLT, if_false, if_true, zI_e, Int.reduceAdd, Int.reduceNeg, and_self, true_and]
      rfl
    · rw [show ((2 ^ 5 : Nat) : Int) - 1 = 31 by decide]
      simp only [z6, z2, Int.reduceLE, Int.reduceLT, if_false, if_true, zI_e, Int.reduceAdd, Int.reduceNeg, and_self, true_and]
      rfl
    · rw [show ((2 ^ 6 : Nat) : Int) - 1 = 63 by decide]
      simp only [z7, z3, Int.reduceLE, Int.reduceLT, if_false, if_true, zI_e, Int.reduceAdd, Int.reduceNeg, and_self, true_and]
      rfl
  · exact h.elim


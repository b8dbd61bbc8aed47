/-! the reference goes along what it keeps of a text -/
def evV (live br : Int) (E : Option Int) : Int := if live = 1 ∧ br = 0 then E.getD 0 else 0
def evB (live br : Int) (E : Option Int) : Int := if live = 1 ∧ br = 0 ∧ E = none then 1 else br
/-- what the words of orders tell -/
def EvO (W : Int → Int) (κ ω : Int → Int) (ds : List D4) : Prop := (∀ i : Int, 0 ≤ i → i < 4 → ω i = W i) ∧ (0 ≤ κ 152 ∧ κ 152 ≤ 7) ∧ (∀ p : Int, 0 ≤ p → p ≤ 6 → W (4 + p) = zit (0 ≤ p ∧ p ≤ κ 152 - 1) (κ p) (-1)) ∧ (∀ p q : Int, 0 ≤ p → p ≤ 6 → 0 ≤ q → q ≤ 6 → W (11 + 7 * p + q) = owL p q ds)
def Ev (Q : zTk) (o : Bool) (b : Int) (W : Int → Int) (μ : zMem) : Prop := (μ 355 21 = b + Q.2.2.2 ∧ μ 355 23 = (if o = true then 1 else 0) ∧ 0 ≤ b ∧ b ≤ 2400) ∧ (∀ u : Nat, u < Q.2.2.2 → μ 357 (164 + (b + u)) = Q.1 u ∧ μ 357 (2964 + (b + u)) = Q.2.1 u) ∧ (o = false → ∀ i : Int, 0 ≤ i → i < 10 → μ 367 i = W i) ∧ (o = true → okT (μ 357 71) (fM μ) ∧ EvO W (μ 357) (μ 368) (dbM μ)) ∧ ∀ i : Int, 0 ≤ i → i < 60 → -1000000 ≤ W i ∧ W i ≤ 1000000
def FE (μ μ' : zMem) : Prop := zfc [355] μ μ' ∧ ∀ j : Int, j ≠ 20 → j ≠ 22 → μ' 355 j = μ 355 j
theorem FE.rf {μ : zMem} : FE μ μ := ⟨zfc.rf, fun _ _ _ => rfl⟩
theorem FE.tr {a b c : zMem} (h1 : FE a b) (h2 : FE b c) : FE a c := ⟨(h1.1.tr h2.1).mo (by simp), fun j a1 a2 => by rw [h2.2 j a1 a2, h1.2 j a1 a2]⟩
theorem FE_zm {μ : zMem} {j v : Int} (h : j = 20 ∨ j = 22) : FE μ (zm μ 355 j v) := ⟨zfc.rf.zm (by decide), fun i a1 a2 => zm_j (by omega)⟩
theorem Ev_c {Q : zTk} {o : Bool} {b : Int} {W : Int → Int} {μ μ' : zMem} (h : Ev Q o b W μ) (h1 : FE μ μ') : Ev Q o b W μ' := by
  obtain ⟨⟨a1, a2, a3⟩, a4, a5, a6, a7⟩ := h
  have e7 := h1.1 357 (by decide)
  refine ⟨⟨by rw [h1.2 21 (by decide) (by decide)]; exact a1, by rw [h1.2 23 (by decide) (by decide)]; exact a2, a3⟩, fun u hu => by rw [e7]; exact a4 u hu, fun q i => by rw [h1.1 367 (by decide)]; exact a5 q i, fun q => ?_, a7⟩
  have := a6 q
  unfold dbM fM at this ⊢
  rw [e7, h1.1 368 (by decide)]
  exact this
section ZEV
variable {d : Nat} {Q : zTk} {o : Bool} {b : Int} {W : Int → Int} {t l w : Nat} {μ : zMem} {K : zRo} {k : Int}
theorem Ev_code (hQ : okK Q) (h : Ev Q o b W μ) (hg : μ 355 20 = b + t) : (0 ≤ μ 355 20 ∧ μ 355 21 ≤ 2800) ∧ zit (μ 355 20 < μ 355 21) (μ 357 (164 + μ 355 20)) 0 = Q.1 t := by
  obtain ⟨⟨a1, a2, a3⟩, a4, a5, a6, a7⟩ := h
  have := hQ.1
  refine ⟨by omega, ?_⟩
  rw [hg, a1]
  by_cases c : t < Q.2.2.2
  · rw [zit_t (by omega), (a4 t c).1]
  · rw [zit_f (by omega), hQ.2.1 t (by omega)]
theorem m_M_codeAt : Cond.instanceMethod y_M_codeAt.1 ∈ zTb ∧ Cond.selects y_M_codeAt.1.cls y_M_codeAt.1 y_M_codeAt.1 ∈ zTb ∧ Cond.initialized y_M_codeAt.1.cls ∈ zTb ∧ Cond.code y_M_codeAt.1 y_M_codeAt.2.1 y_M_codeAt.2.2.1 y_M_codeAt.2.2.2 ∈ zTb ∧ (y_M_codeAt.1.cls ≠ "java/lang/invoke/MethodHandle" ∧ y_M_codeAt.1.cls ≠ "java/lang/invoke/VarHandle" ∧ (parseMethodDescriptor y_M_codeAt.1.desc).map (fun d => d.parameters.length) = some 1) ∧ y_M_codeAt.2.2.1 ≤ 20 :=
  ⟨(zTb_in 1616 (by decide +kernel) (by decide +kernel)), (List.mem_filter.mpr ⟨List.mem_append_left _ (by decide +kernel), by decide +kernel⟩), (zTb_in 151 (by decide +kernel) (by decide +kernel)), (zTb_in 1617 (by decide +kernel) (by decide +kernel)), by decide +kernel, by decide +kernel⟩
theorem lv_M_283 : zLv "DebtDoorsModel" 283 y_M_codeAt 1 12 := ⟨⟨(zTb_in 1614 (by decide +kernel) (by decide +kernel)), m_M_codeAt.1, m_M_codeAt.2.1, m_M_codeAt.2.2⟩, _, rfl, rfl⟩
theorem fl_M_280 : zFl "DebtDoorsModel" 280 12 20 := ⟨_, rfl, by decide, (zTb_in 1346 (by decide +kernel) (by decide +kernel)), rfl⟩
theorem nk_12_20 : zNk 12 20 = some 0 := rfl
theorem fp_12_20 : zFp 12 20 0 := ⟨_, rfl, rfl, rfl, by decide⟩
def y_M_passes0 : zMt := (⟨"DebtDoorsModel", "passes0", "(I)Z"⟩, prog_14_method_64_code, 3, some .boolean)
theorem d_M_passes0_0 : decode prog_14_method_64_code 0 = .ok (.aload_n 0, 1) := by decide +kernel
theorem d_M_passes0_1 : decode prog_14_method_64_code 1 = .ok (.aload_n 0, 1) := by decide +kernel
theorem d_M_passes0_2 : decode prog_14_method_64_code 2 = .ok (.getfield 280, 3) := by decide +kernel
theorem d_M_passes0_5 : decode prog_14_method_64_code 5 = .ok (.invokevirtual 283, 3) := by decide +kernel
theorem d_M_passes0_8 : decode prog_14_method_64_code 8 = .ok (.iload_n 1, 1) := by decide +kernel
theorem d_M_passes0_9 : decode prog_14_method_64_code 9 = .ok (.if_icmp .ne 7, 3) := by decide +kernel
theorem d_M_passes0_12 : decode prog_14_method_64_code 12 = .ok (.iconst 1, 1) := by decide +kernel
theorem d_M_passes0_13 : decode prog_14_method_64_code 13 = .ok (.goto 4, 3) := by decide +kernel
theorem d_M_passes0_16 : decode prog_14_method_64_code 16 = .ok (.iconst 0, 1) := by decide +kernel
theorem d_M_passes0_17 : decode prog_14_method_64_code 17 = .ok (.istore_n 2, 1) := by decide +kernel
theorem d_M_passes0_18 : decode prog_14_method_64_code 18 = .ok (.iload_n 2, 1) := by decide +kernel
theorem d_M_passes0_19 : decode prog_14_method_64_code 19 = .ok (.ifCond .eq 13, 3) := by decide +kernel
theorem d_M_passes0_22 : decode prog_14_method_64_code 22 = .ok (.aload_n 0, 1) := by decide +kernel
theorem d_M_passes0_23 : decode prog_14_method_64_code 23 = .ok (.dup, 1) := by decide +kernel
theorem d_M_passes0_24 : decode prog_14_method_64_code 24 = .ok (.getfield 280, 3) := by decide +kernel
theorem d_M_passes0_27 : decode prog_14_method_64_code 27 = .ok (.iconst 1, 1) := by decide +kernel
theorem d_M_passes0_28 : decode prog_14_method_64_code 28 = .ok (.iadd, 1) := by decide +kernel
theorem d_M_passes0_29 : decode prog_14_method_64_code 29 = .ok (.putfield 280, 3) := by decide +kernel
theorem d_M_passes0_32 : decode prog_14_method_64_code 32 = .ok (.iload_n 2, 1) := by decide +kernel
theorem d_M_passes0_33 : decode prog_14_method_64_code 33 = .ok (.ireturn, 1) := by decide +kernel
def w_M_passes0 {d : Nat} (hd : 2 ≤ d) := (show SS ("DebtDoorsModel", prog_14_method_64_code, 3) (some .boolean) d 0 0 0 0 _ from (sS (p1 := 18) (sIn 2 (xE (rTb (rNot (rJ2 (tgt := 16) j_ne (rV p_M_codeAt (Nat.le_trans (Nat.le_of_ble_eq_true rfl) hd) lv_M_283 (rAi (rAr rA0 (rAn 0 d_M_passes0_0 rfl)) (rF 20 fl_M_280 nk_12_20 (rAn 0 d_M_passes0_1 rfl) d_M_passes0_2 rfl)) (by decide) d_M_passes0_5) (rIn 1 d_M_passes0_8 rfl) d_M_passes0_9 (by decide))) (rGoE (p2 := 17) (rI d_M_passes0_12 rfl) d_M_passes0_13 (by decide)) (rI d_M_passes0_16 rfl))) d_M_passes0_17 rfl (by decide)) (sS (p1 := 32) (sIf (pn := 32) (tt := 22) (xC (rNot (rJ1 (tgt := 32) k_eq (rIn 2 d_M_passes0_18 rfl) d_M_passes0_19 (by decide)))) (sPo 20 o_add fl_M_280 fp_12_20 nk_12_20 (rAn 0 d_M_passes0_22 rfl) d_M_passes0_23 d_M_passes0_24 (rI d_M_passes0_27 rfl) d_M_passes0_28 d_M_passes0_29 rfl)) (sRz (xE (rIn 2 d_M_passes0_32 rfl)) d_M_passes0_33 rfl))))
theorem kl_M_286 : Cond.constantLong "DebtDoorsModel" 286 (Int64.ofInt 1000000000) ∈ zTb := (zTb_in 1642 (by decide +kernel) (by decide +kernel))
theorem kl_M_288 : Cond.constantLong "DebtDoorsModel" 288 (Int64.ofInt (-1000000000)) ∈ zTb := (zTb_in 1643 (by decide +kernel) (by decide +kernel))
theorem fl_M_290 : zFl "DebtDoorsModel" 290 12 22 := ⟨_, rfl, by decide, (zTb_in 1348 (by decide +kernel) (by decide +kernel)), rfl⟩
theorem fp_12_22 : zFp 12 22 1 := ⟨_, rfl, rfl, rfl, by decide⟩
theorem nk_12_22 : zNk 12 22 = some 1 := rfl
def y_M_bounded : zMt := (⟨"DebtDoorsModel", "bounded", "(JZ)J"⟩, prog_14_method_65_code, 4, some .long)
theorem d_M_bounded_0 : decode prog_14_method_65_code 0 = .ok (.iload_n 3, 1) := by decide +kernel
theorem d_M_bounded_1 : decode prog_14_method_65_code 1 = .ok (.ifCond .eq 24, 3) := by decide +kernel
theorem d_M_bounded_4 : decode prog_14_method_65_code 4 = .ok (.lload_n 1, 1) := by decide +kernel
theorem d_M_bounded_5 : decode prog_14_method_65_code 5 = .ok (.ldc2_w 286, 3) := by decide +kernel
theorem d_M_bounded_8 : decode prog_14_method_65_code 8 = .ok (.lcmp, 1) := by decide +kernel
theorem d_M_bounded_9 : decode prog_14_method_65_code 9 = .ok (.ifCond .gt 11, 3) := by decide +kernel
theorem d_M_bounded_12 : decode prog_14_method_65_code 12 = .ok (.lload_n 1, 1) := by decide +kernel
theorem d_M_bounded_13 : decode prog_14_method_65_code 13 = .ok (.ldc2_w 288, 3) := by decide +kernel
theorem d_M_bounded_16 : decode prog_14_method_65_code 16 = .ok (.lcmp, 1) := by decide +kernel
theorem d_M_bounded_17 : decode prog_14_method_65_code 17 = .ok (.ifCond .ge 8, 3) := by decide +kernel
theorem d_M_bounded_20 : decode prog_14_method_65_code 20 = .ok (.aload_n 0, 1) := by decide +kernel
theorem d_M_bounded_21 : decode prog_14_method_65_code 21 = .ok (.iconst 1, 1) := by decide +kernel
theorem d_M_bounded_22 : decode prog_14_method_65_code 22 = .ok (.putfield 290, 3) := by decide +kernel
theorem d_M_bounded_25 : decode prog_14_method_65_code 25 = .ok (.aload_n 0, 1) := by decide +kernel
theorem d_M_bounded_26 : decode prog_14_method_65_code 26 = .ok (.getfield 290, 3) := by decide +kernel
theorem d_M_bounded_29 : decode prog_14_method_65_code 29 = .ok (.ifCond .eq 7, 3) := by decide +kernel
theorem d_M_bounded_32 : decode prog_14_method_65_code 32 = .ok (.lconst 0, 1) := by decide +kernel
theorem d_M_bounded_33 : decode prog_14_method_65_code 33 = .ok (.goto 4, 3) := by decide +kernel
theorem d_M_bounded_36 : decode prog_14_method_65_code 36 = .ok (.lload_n 1, 1) := by decide +kernel
theorem d_M_bounded_37 : decode prog_14_method_65_code 37 = .ok (.lreturn, 1) := by decide +kernel
def w_M_bounded {d : Nat} (hd : 1 ≤ d) := (show SS ("DebtDoorsModel", prog_14_method_65_code, 4) (some .long) d 0 0 0 0 _ from (sS (p1 := 25) (sIf (pn := 25) (tt := 20) (xC (rAnd (mm := 4) (rNot (rJ1 (tgt := 25) k_eq (rIn 3 d_M_bounded_0 rfl) d_M_bounded_1 (by decide))) (rOr (mm := 12) (rJ1 (tgt := 20) k_gt (rCmp (rLn 1 d_M_bounded_4 rfl) (rL2 kl_M_286 d_M_bounded_5 rfl) d_M_bounded_8) d_M_bounded_9 (by decide)) (rNot (rJ1 (tgt := 25) k_ge (rCmp (rLn 1 d_M_bounded_12 rfl) (rL2 kl_M_288 d_M_bounded_13 rfl) d_M_bounded_16) d_M_bounded_17 (by decide)))))) (sP 22 fl_M_290 fp_12_22 nk_12_22 (rAn 0 d_M_bounded_20 rfl) (xE (rI d_M_bounded_21 rfl)) d_M_bounded_22 rfl)) (sRl (xLp (rT2l (rNot (rJ1 (tgt := 36) k_eq (rF 22 fl_M_290 nk_12_22 (rAn 0 d_M_bounded_25 rfl) d_M_bounded_26 rfl) d_M_bounded_29 (by decide))) (rGoL (p2 := 37) (rLc0 d_M_bounded_32) d_M_bounded_33 (by decide)) (rLn 1 d_M_bounded_36 rfl))) d_M_bounded_37 rfl)))
theorem m_M_passes0 : Cond.instanceMethod y_M_passes0.1 ∈ zTb ∧ Cond.selects y_M_passes0.1.cls y_M_passes0.1 y_M_passes0.1 ∈ zTb ∧ Cond.initialized y_M_passes0.1.cls ∈ zTb ∧ Cond.code y_M_passes0.1 y_M_passes0.2.1 y_M_passes0.2.2.1 y_M_passes0.2.2.2 ∈ zTb ∧ (y_M_passes0.1.cls ≠ "java/lang/invoke/MethodHandle" ∧ y_M_passes0.1.cls ≠ "java/lang/invoke/VarHandle" ∧ (parseMethodDescriptor y_M_passes0.1.desc).map (fun d => d.parameters.length) = some 1) ∧ y_M_passes0.2.2.1 ≤ 20 :=
  ⟨(zTb_in 1635 (by decide +kernel) (by decide +kernel)), (List.mem_filter.mpr ⟨List.mem_append_left _ (by decide +kernel), by decide +kernel⟩), (zTb_in 151 (by decide +kernel) (by decide +kernel)), (zTb_in 1636 (by decide +kernel) (by decide +kernel)), by decide +kernel, by decide +kernel⟩
theorem lv_M_304 : zLv "DebtDoorsModel" 304 y_M_passes0 1 12 := ⟨⟨(zTb_in 1633 (by decide +kernel) (by decide +kernel)), m_M_passes0.1, m_M_passes0.2.1, m_M_passes0.2.2⟩, _, rfl, rfl⟩
def y_M_sumOf : zMt := (⟨"DebtDoorsModel", "sumOf", "(Z)J"⟩, prog_14_method_66_code, 7, some .long)
theorem m_M_sumOf : Cond.instanceMethod y_M_sumOf.1 ∈ zTb ∧ Cond.selects y_M_sumOf.1.cls y_M_sumOf.1 y_M_sumOf.1 ∈ zTb ∧ Cond.initialized y_M_sumOf.1.cls ∈ zTb ∧ Cond.code y_M_sumOf.1 y_M_sumOf.2.1 y_M_sumOf.2.2.1 y_M_sumOf.2.2.2 ∈ zTb ∧ (y_M_sumOf.1.cls ≠ "java/lang/invoke/MethodHandle" ∧ y_M_sumOf.1.cls ≠ "java/lang/invoke/VarHandle" ∧ (parseMethodDescriptor y_M_sumOf.1.desc).map (fun d => d.parameters.length) = some 1) ∧ y_M_sumOf.2.2.1 ≤ 20 :=
  ⟨(zTb_in 1620 (by decide +kernel) (by decide +kernel)), (List.mem_filter.mpr ⟨List.mem_append_left _ (by decide +kernel), by decide +kernel⟩), (zTb_in 151 (by decide +kernel) (by decide +kernel)), (zTb_in 1621 (by decide +kernel) (by decide +kernel)), by decide +kernel, by decide +kernel⟩
theorem lv_M_307 : zLv "DebtDoorsModel" 307 y_M_sumOf 1 12 := ⟨⟨(zTb_in 1618 (by decide +kernel) (by decide +kernel)), m_M_sumOf.1, m_M_sumOf.2.1, m_M_sumOf.2.2⟩, _, rfl, rfl⟩
theorem fl_M_310 : zFl "DebtDoorsModel" 310 12 23 := ⟨_, rfl, by decide, (zTb_in 1349 (by decide +kernel) (by decide +kernel)), rfl⟩
theorem nk_12_23 : zNk 12 23 = some 1 := rfl
theorem nk_12_24 : zNk 12 24 = none := rfl
theorem kl_M_313 : Cond.constantLong "DebtDoorsModel" 313 (Int64.ofInt (-1)) ∈ zTb := (zTb_in 1637 (by decide +kernel) (by decide +kernel))
theorem nk_12_25 : zNk 12 25 = none := rfl
def y_M_partOf : zMt := (⟨"DebtDoorsModel", "partOf", "(Z)J"⟩, prog_14_method_68_code, 5, some .long)
theorem d_M_partOf_0 : decode prog_14_method_68_code 0 = .ok (.aload_n 0, 1) := by decide +kernel
theorem d_M_partOf_1 : decode prog_14_method_68_code 1 = .ok (.bipush 91, 2) := by decide +kernel
theorem d_M_partOf_3 : decode prog_14_method_68_code 3 = .ok (.invokestatic 249, 3) := by decide +kernel
theorem d_M_partOf_6 : decode prog_14_method_68_code 6 = .ok (.invokevirtual 304, 3) := by decide +kernel
theorem d_M_partOf_9 : decode prog_14_method_68_code 9 = .ok (.ifCond .eq 21, 3) := by decide +kernel
theorem d_M_partOf_12 : decode prog_14_method_68_code 12 = .ok (.aload_n 0, 1) := by decide +kernel
theorem d_M_partOf_13 : decode prog_14_method_68_code 13 = .ok (.iload_n 1, 1) := by decide +kernel
theorem d_M_partOf_14 : decode prog_14_method_68_code 14 = .ok (.invokevirtual 307, 3) := by decide +kernel
theorem d_M_partOf_17 : decode prog_14_method_68_code 17 = .ok (.lstore_n 2, 1) := by decide +kernel
theorem d_M_partOf_18 : decode prog_14_method_68_code 18 = .ok (.aload_n 0, 1) := by decide +kernel
theorem d_M_partOf_19 : decode prog_14_method_68_code 19 = .ok (.dup, 1) := by decide +kernel
theorem d_M_partOf_20 : decode prog_14_method_68_code 20 = .ok (.getfield 280, 3) := by decide +kernel
theorem d_M_partOf_23 : decode prog_14_method_68_code 23 = .ok (.iconst 1, 1) := by decide +kernel
theorem d_M_partOf_24 : decode prog_14_method_68_code 24 = .ok (.iadd, 1) := by decide +kernel
theorem d_M_partOf_25 : decode prog_14_method_68_code 25 = .ok (.putfield 280, 3) := by decide +kernel
theorem d_M_partOf_28 : decode prog_14_method_68_code 28 = .ok (.lload_n 2, 1) := by decide +kernel
theorem d_M_partOf_29 : decode prog_14_method_68_code 29 = .ok (.lreturn, 1) := by decide +kernel
theorem d_M_partOf_30 : decode prog_14_method_68_code 30 = .ok (.aload_n 0, 1) := by decide +kernel
theorem d_M_partOf_31 : decode prog_14_method_68_code 31 = .ok (.aload_n 0, 1) := by decide +kernel
theorem d_M_partOf_32 : decode prog_14_method_68_code 32 = .ok (.getfield 280, 3) := by decide +kernel
theorem d_M_partOf_35 : decode prog_14_method_68_code 35 = .ok (.invokevirtual 283, 3) := by decide +kernel
theorem d_M_partOf_38 : decode prog_14_method_68_code 38 = .ok (.istore_n 2, 1) := by decide +kernel
theorem d_M_partOf_39 : decode prog_14_method_68_code 39 = .ok (.iconst 0, 1) := by decide +kernel
theorem d_M_partOf_40 : decode prog_14_method_68_code 40 = .ok (.istore_n 3, 1) := by decide +kernel
theorem d_M_partOf_41 : decode prog_14_method_68_code 41 = .ok (.iconst 0, 1) := by decide +kernel
theorem d_M_partOf_42 : decode prog_14_method_68_code 42 = .ok (.istore 4, 2) := by decide +kernel
theorem d_M_partOf_44 : decode prog_14_method_68_code 44 = .ok (.aload_n 0, 1) := by decide +kernel
theorem d_M_partOf_45 : decode prog_14_method_68_code 45 = .ok (.dup, 1) := by decide +kernel
theorem d_M_partOf_46 : decode prog_14_method_68_code 46 = .ok (.getfield 280, 3) := by decide +kernel
theorem d_M_partOf_49 : decode prog_14_method_68_code 49 = .ok (.iconst 1, 1) := by decide +kernel
theorem d_M_partOf_50 : decode prog_14_method_68_code 50 = .ok (.iadd, 1) := by decide +kernel
theorem d_M_partOf_51 : decode prog_14_method_68_code 51 = .ok (.putfield 280, 3) := by decide +kernel
theorem d_M_partOf_54 : decode prog_14_method_68_code 54 = .ok (.aload_n 0, 1) := by decide +kernel
theorem d_M_partOf_55 : decode prog_14_method_68_code 55 = .ok (.getfield 310, 3) := by decide +kernel
theorem d_M_partOf_58 : decode prog_14_method_68_code 58 = .ok (.ifCond .eq 39, 3) := by decide +kernel
theorem d_M_partOf_61 : decode prog_14_method_68_code 61 = .ok (.iload_n 2, 1) := by decide +kernel
theorem d_M_partOf_62 : decode prog_14_method_68_code 62 = .ok (.bipush 22, 2) := by decide +kernel
theorem d_M_partOf_64 : decode prog_14_method_68_code 64 = .ok (.if_icmp .eq 9, 3) := by decide +kernel
theorem d_M_partOf_67 : decode prog_14_method_68_code 67 = .ok (.iload_n 2, 1) := by decide +kernel
theorem d_M_partOf_68 : decode prog_14_method_68_code 68 = .ok (.bipush 23, 2) := by decide +kernel
theorem d_M_partOf_70 : decode prog_14_method_68_code 70 = .ok (.if_icmp .ne 27, 3) := by decide +kernel
theorem d_M_partOf_73 : decode prog_14_method_68_code 73 = .ok (.aload_n 0, 1) := by decide +kernel
theorem d_M_partOf_74 : decode prog_14_method_68_code 74 = .ok (.getfield 24, 3) := by decide +kernel
theorem d_M_partOf_77 : decode prog_14_method_68_code 77 = .ok (.sipush 2964, 3) := by decide +kernel
theorem d_M_partOf_80 : decode prog_14_method_68_code 80 = .ok (.aload_n 0, 1) := by decide +kernel
theorem d_M_partOf_81 : decode prog_14_method_68_code 81 = .ok (.getfield 280, 3) := by decide +kernel
theorem d_M_partOf_84 : decode prog_14_method_68_code 84 = .ok (.iadd, 1) := by decide +kernel
theorem d_M_partOf_85 : decode prog_14_method_68_code 85 = .ok (.iaload, 1) := by decide +kernel
theorem d_M_partOf_86 : decode prog_14_method_68_code 86 = .ok (.istore_n 3, 1) := by decide +kernel
theorem d_M_partOf_87 : decode prog_14_method_68_code 87 = .ok (.aload_n 0, 1) := by decide +kernel
theorem d_M_partOf_88 : decode prog_14_method_68_code 88 = .ok (.dup, 1) := by decide +kernel
theorem d_M_partOf_89 : decode prog_14_method_68_code 89 = .ok (.getfield 280, 3) := by decide +kernel
theorem d_M_partOf_92 : decode prog_14_method_68_code 92 = .ok (.iconst 1, 1) := by decide +kernel
theorem d_M_partOf_93 : decode prog_14_method_68_code 93 = .ok (.iadd, 1) := by decide +kernel
theorem d_M_partOf_94 : decode prog_14_method_68_code 94 = .ok (.putfield 280, 3) := by decide +kernel
theorem d_M_partOf_97 : decode prog_14_method_68_code 97 = .ok (.aload_n 0, 1) := by decide +kernel
theorem d_M_partOf_98 : decode prog_14_method_68_code 98 = .ok (.getfield 310, 3) := by decide +kernel
theorem d_M_partOf_101 : decode prog_14_method_68_code 101 = .ok (.ifCond .eq 34, 3) := by decide +kernel
theorem d_M_partOf_104 : decode prog_14_method_68_code 104 = .ok (.iload_n 2, 1) := by decide +kernel
theorem d_M_partOf_105 : decode prog_14_method_68_code 105 = .ok (.bipush 23, 2) := by decide +kernel
theorem d_M_partOf_107 : decode prog_14_method_68_code 107 = .ok (.if_icmp .ne 28, 3) := by decide +kernel
theorem d_M_partOf_110 : decode prog_14_method_68_code 110 = .ok (.aload_n 0, 1) := by decide +kernel
theorem d_M_partOf_111 : decode prog_14_method_68_code 111 = .ok (.getfield 24, 3) := by decide +kernel
theorem d_M_partOf_114 : decode prog_14_method_68_code 114 = .ok (.sipush 2964, 3) := by decide +kernel
theorem d_M_partOf_117 : decode prog_14_method_68_code 117 = .ok (.aload_n 0, 1) := by decide +kernel
theorem d_M_partOf_118 : decode prog_14_method_68_code 118 = .ok (.getfield 280, 3) := by decide +kernel
theorem d_M_partOf_121 : decode prog_14_method_68_code 121 = .ok (.iadd, 1) := by decide +kernel
theorem d_M_partOf_122 : decode prog_14_method_68_code 122 = .ok (.iaload, 1) := by decide +kernel
theorem d_M_partOf_123 : decode prog_14_method_68_code 123 = .ok (.istore 4, 2) := by decide +kernel
theorem d_M_partOf_125 : decode prog_14_method_68_code 125 = .ok (.aload_n 0, 1) := by decide +kernel
theorem d_M_partOf_126 : decode prog_14_method_68_code 126 = .ok (.dup, 1) := by decide +kernel
theorem d_M_partOf_127 : decode prog_14_method_68_code 127 = .ok (.getfield 280, 3) := by decide +kernel
theorem d_M_partOf_130 : decode prog_14_method_68_code 130 = .ok (.iconst 1, 1) := by decide +kernel
theorem d_M_partOf_131 : decode prog_14_method_68_code 131 = .ok (.iadd, 1) := by decide +kernel
theorem d_M_partOf_132 : decode prog_14_method_68_code 132 = .ok (.putfield 280, 3) := by decide +kernel
theorem d_M_partOf_135 : decode prog_14_method_68_code 135 = .ok (.iload_n 1, 1) := by decide +kernel
theorem d_M_partOf_136 : decode prog_14_method_68_code 136 = .ok (.ifCond .eq 10, 3) := by decide +kernel
theorem d_M_partOf_139 : decode prog_14_method_68_code 139 = .ok (.aload_n 0, 1) := by decide +kernel
theorem d_M_partOf_140 : decode prog_14_method_68_code 140 = .ok (.getfield 290, 3) := by decide +kernel
theorem d_M_partOf_143 : decode prog_14_method_68_code 143 = .ok (.ifCond .eq 5, 3) := by decide +kernel
theorem d_M_partOf_146 : decode prog_14_method_68_code 146 = .ok (.lconst 0, 1) := by decide +kernel
theorem d_M_partOf_147 : decode prog_14_method_68_code 147 = .ok (.lreturn, 1) := by decide +kernel
theorem d_M_partOf_148 : decode prog_14_method_68_code 148 = .ok (.iload_n 2, 1) := by decide +kernel
theorem d_M_partOf_149 : decode prog_14_method_68_code 149 = .ok (.bipush 50, 2) := by decide +kernel
theorem d_M_partOf_151 : decode prog_14_method_68_code 151 = .ok (.if_icmp .ne 20, 3) := by decide +kernel
theorem d_M_partOf_154 : decode prog_14_method_68_code 154 = .ok (.aload_n 0, 1) := by decide +kernel
theorem d_M_partOf_155 : decode prog_14_method_68_code 155 = .ok (.getfield 24, 3) := by decide +kernel
theorem d_M_partOf_158 : decode prog_14_method_68_code 158 = .ok (.sipush 2964, 3) := by decide +kernel
theorem d_M_partOf_161 : decode prog_14_method_68_code 161 = .ok (.aload_n 0, 1) := by decide +kernel
theorem d_M_partOf_162 : decode prog_14_method_68_code 162 = .ok (.getfield 280, 3) := by decide +kernel
theorem d_M_partOf_165 : decode prog_14_method_68_code 165 = .ok (.iadd, 1) := by decide +kernel
theorem d_M_partOf_166 : decode prog_14_method_68_code 166 = .ok (.iconst 1, 1) := by decide +kernel
theorem d_M_partOf_167 : decode prog_14_method_68_code 167 = .ok (.isub, 1) := by decide +kernel
theorem d_M_partOf_168 : decode prog_14_method_68_code 168 = .ok (.iaload, 1) := by decide +kernel
theorem d_M_partOf_169 : decode prog_14_method_68_code 169 = .ok (.i2l, 1) := by decide +kernel
theorem d_M_partOf_170 : decode prog_14_method_68_code 170 = .ok (.lreturn, 1) := by decide +kernel
theorem d_M_partOf_171 : decode prog_14_method_68_code 171 = .ok (.aload_n 0, 1) := by decide +kernel
theorem d_M_partOf_172 : decode prog_14_method_68_code 172 = .ok (.getfield 310, 3) := by decide +kernel
theorem d_M_partOf_175 : decode prog_14_method_68_code 175 = .ok (.ifCond .ne 14, 3) := by decide +kernel
theorem d_M_partOf_178 : decode prog_14_method_68_code 178 = .ok (.aload_n 0, 1) := by decide +kernel
theorem d_M_partOf_179 : decode prog_14_method_68_code 179 = .ok (.getfield 59, 3) := by decide +kernel
theorem d_M_partOf_182 : decode prog_14_method_68_code 182 = .ok (.iload_n 2, 1) := by decide +kernel
theorem d_M_partOf_183 : decode prog_14_method_68_code 183 = .ok (.bipush 9, 2) := by decide +kernel
theorem d_M_partOf_185 : decode prog_14_method_68_code 185 = .ok (.isub, 1) := by decide +kernel
theorem d_M_partOf_186 : decode prog_14_method_68_code 186 = .ok (.iaload, 1) := by decide +kernel
theorem d_M_partOf_187 : decode prog_14_method_68_code 187 = .ok (.i2l, 1) := by decide +kernel
theorem d_M_partOf_188 : decode prog_14_method_68_code 188 = .ok (.lreturn, 1) := by decide +kernel
theorem d_M_partOf_189 : decode prog_14_method_68_code 189 = .ok (.iload_n 2, 1) := by decide +kernel
theorem d_M_partOf_190 : decode prog_14_method_68_code 190 = .ok (.bipush 22, 2) := by decide +kernel
theorem d_M_partOf_192 : decode prog_14_method_68_code 192 = .ok (.if_icmp .ne 27, 3) := by decide +kernel
theorem d_M_partOf_195 : decode prog_14_method_68_code 195 = .ok (.aload_n 0, 1) := by decide +kernel
theorem d_M_partOf_196 : decode prog_14_method_68_code 196 = .ok (.iload_n 3, 1) := by decide +kernel
theorem d_M_partOf_197 : decode prog_14_method_68_code 197 = .ok (.invokevirtual 152, 3) := by decide +kernel
theorem d_M_partOf_200 : decode prog_14_method_68_code 200 = .ok (.ifCond .eq 15, 3) := by decide +kernel
theorem d_M_partOf_203 : decode prog_14_method_68_code 203 = .ok (.aload_n 0, 1) := by decide +kernel
theorem d_M_partOf_204 : decode prog_14_method_68_code 204 = .ok (.getfield 24, 3) := by decide +kernel
theorem d_M_partOf_207 : decode prog_14_method_68_code 207 = .ok (.iconst 0, 1) := by decide +kernel
theorem d_M_partOf_208 : decode prog_14_method_68_code 208 = .ok (.iload_n 3, 1) := by decide +kernel
theorem d_M_partOf_209 : decode prog_14_method_68_code 209 = .ok (.iadd, 1) := by decide +kernel
theorem d_M_partOf_210 : decode prog_14_method_68_code 210 = .ok (.iaload, 1) := by decide +kernel
theorem d_M_partOf_211 : decode prog_14_method_68_code 211 = .ok (.i2l, 1) := by decide +kernel
theorem d_M_partOf_212 : decode prog_14_method_68_code 212 = .ok (.goto 6, 3) := by decide +kernel
theorem d_M_partOf_215 : decode prog_14_method_68_code 215 = .ok (.ldc2_w 313, 3) := by decide +kernel
theorem d_M_partOf_218 : decode prog_14_method_68_code 218 = .ok (.lreturn, 1) := by decide +kernel
theorem d_M_partOf_219 : decode prog_14_method_68_code 219 = .ok (.iload_n 2, 1) := by decide +kernel
theorem d_M_partOf_220 : decode prog_14_method_68_code 220 = .ok (.bipush 23, 2) := by decide +kernel
theorem d_M_partOf_222 : decode prog_14_method_68_code 222 = .ok (.if_icmp .ne 12, 3) := by decide +kernel
theorem d_M_partOf_225 : decode prog_14_method_68_code 225 = .ok (.aload_n 0, 1) := by decide +kernel
theorem d_M_partOf_226 : decode prog_14_method_68_code 226 = .ok (.iload_n 3, 1) := by decide +kernel
theorem d_M_partOf_227 : decode prog_14_method_68_code 227 = .ok (.iload 4, 2) := by decide +kernel
theorem d_M_partOf_229 : decode prog_14_method_68_code 229 = .ok (.invokevirtual 178, 3) := by decide +kernel
theorem d_M_partOf_232 : decode prog_14_method_68_code 232 = .ok (.i2l, 1) := by decide +kernel
theorem d_M_partOf_233 : decode prog_14_method_68_code 233 = .ok (.lreturn, 1) := by decide +kernel
theorem d_M_partOf_234 : decode prog_14_method_68_code 234 = .ok (.aload_n 0, 1) := by decide +kernel
theorem d_M_partOf_235 : decode prog_14_method_68_code 235 = .ok (.getfield 62, 3) := by decide +kernel
theorem d_M_partOf_238 : decode prog_14_method_68_code 238 = .ok (.iload_n 2, 1) := by decide +kernel
theorem d_M_partOf_239 : decode prog_14_method_68_code 239 = .ok (.bipush 17, 2) := by decide +kernel
theorem d_M_partOf_241 : decode prog_14_method_68_code 241 = .ok (.if_icmp .ne 7, 3) := by decide +kernel
theorem d_M_partOf_244 : decode prog_14_method_68_code 244 = .ok (.iconst 0, 1) := by decide +kernel
theorem d_M_partOf_245 : decode prog_14_method_68_code 245 = .ok (.goto 9, 3) := by decide +kernel
theorem d_M_partOf_248 : decode prog_14_method_68_code 248 = .ok (.iload_n 2, 1) := by decide +kernel
theorem d_M_partOf_249 : decode prog_14_method_68_code 249 = .ok (.bipush 19, 2) := by decide +kernel
theorem d_M_partOf_251 : decode prog_14_method_68_code 251 = .ok (.isub, 1) := by decide +kernel
theorem d_M_partOf_252 : decode prog_14_method_68_code 252 = .ok (.iconst 1, 1) := by decide +kernel
theorem d_M_partOf_253 : decode prog_14_method_68_code 253 = .ok (.iadd, 1) := by decide +kernel
theorem d_M_partOf_254 : decode prog_14_method_68_code 254 = .ok (.iaload, 1) := by decide +kernel
theorem d_M_partOf_255 : decode prog_14_method_68_code 255 = .ok (.i2l, 1) := by decide +kernel
theorem d_M_partOf_256 : decode prog_14_method_68_code 256 = .ok (.lreturn, 1) := by decide +kernel
def w_M_partOf {d : Nat} (hd : 3 ≤ d) := (show SS ("DebtDoorsModel", prog_14_method_68_code, 5) (some .long) d 0 0 0 0 _ from (sS (p1 := 30) (sIf (pn := 30) (tt := 12) (xNot (xJ1 (tgt := 30) k_eq (xV lv_M_304 (xA (rAi (rAr rA0 (rAn 0 d_M_partOf_0 rfl)) (rS p_M_sign (Nat.le_trans (Nat.le_of_ble_eq_true rfl) hd) ls_M_249 (rAi rA0 (rB d_M_partOf_1 rfl)) (by decide) d_M_partOf_3))) (by decide) d_M_partOf_6) d_M_partOf_9 (by decide))) (sS (p1 := 18) (sLn 2 (xVL lv_M_307 (xA (rAi (rAr rA0 (rAn 0 d_M_partOf_12 rfl)) (rIn 1 d_M_partOf_13 rfl))) (by decide) d_M_partOf_14) d_M_partOf_17 rfl (by decide)) (sS (p1 := 28) (sPo 20 o_add fl_M_280 fp_12_20 nk_12_20 (rAn 0 d_M_partOf_18 rfl) d_M_partOf_19 d_M_partOf_20 (rI d_M_partOf_23 rfl) d_M_partOf_24 d_M_partOf_25 rfl) (sRl (xLp (rLn 2 d_M_partOf_28 rfl)) d_M_partOf_29 rfl)))) (sS (p1 := 39) (sIn 2 (xE (rV p_M_codeAt (Nat.le_trans (Nat.le_of_ble_eq_true rfl) hd) lv_M_283 (rAi (rAr rA0 (rAn 0 d_M_partOf_30 rfl)) (rF 20 fl_M_280 nk_12_20 (rAn 0 d_M_partOf_31 rfl) d_M_partOf_32 rfl)) (by decide) d_M_partOf_35)) d_M_partOf_38 rfl (by decide)) (sS (p1 := 41) (sIn 3 (xE (rI d_M_partOf_39 rfl)) d_M_partOf_40 rfl (by decide)) (sS (p1 := 44) (sI (xE (rI d_M_partOf_41 rfl)) d_M_partOf_42 (by decide)) (sS (p1 := 54) (sPo 20 o_add fl_M_280 fp_12_20 nk_12_20 (rAn 0 d_M_partOf_44 rfl) d_M_partOf_45 d_M_partOf_46 (rI d_M_partOf_49 rfl) d_M_partOf_50 d_M_partOf_51 rfl) (sS (p1 := 97) (sIf (pn := 97) (tt := 73) (xC (rAnd (mm := 61) (rNot (rJ1 (tgt := 97) k_eq (rF 23 fl_M_310 nk_12_23 (rAn 0 d_M_partOf_54 rfl) d_M_partOf_55 rfl) d_M_partOf_58 (by decide))) (rOr (mm := 67) (rJ2 (tgt := 73) j_eq (rIn 2 d_M_partOf_61 rfl) (rB d_M_partOf_62 rfl) d_M_partOf_64 (by decide)) (rNot (rJ2 (tgt := 97) j_ne (rIn 2 d_M_partOf_67 rfl) (rB d_M_partOf_68 rfl) d_M_partOf_70 (by decide)))))) (sS (p1 := 87) (sIn 3 (xE (rIa (rFr fl_M_24 nk_12_2 (rAn 0 d_M_partOf_73 rfl) d_M_partOf_74) (r2 o_add (rSi d_M_partOf_77 rfl) (rF 20 fl_M_280 nk_12_20 (rAn 0 d_M_partOf_80 rfl) d_M_partOf_81 rfl) d_M_partOf_84) d_M_partOf_85)) d_M_partOf_86 rfl (by decide)) (sPo 20 o_add fl_M_280 fp_12_20 nk_12_20 (rAn 0 d_M_partOf_87 rfl) d_M_partOf_88 d_M_partOf_89 (rI d_M_partOf_92 rfl) d_M_partOf_93 d_M_partOf_94 rfl))) (sS (p1 := 135) (sIf (pn := 135) (tt := 110) (xC (rAnd (mm := 104) (rNot (rJ1 (tgt := 135) k_eq (rF 23 fl_M_310 nk_12_23 (rAn 0 d_M_partOf_97 rfl) d_M_partOf_98 rfl) d_M_partOf_101 (by decide))) (rNot (rJ2 (tgt := 135) j_ne (rIn 2 d_M_partOf_104 rfl) (rB d_M_partOf_105 rfl) d_M_partOf_107 (by decide))))) (sS (p1 := 125) (sI (xE (rIa (rFr fl_M_24 nk_12_2 (rAn 0 d_M_partOf_110 rfl) d_M_partOf_111) (r2 o_add (rSi d_M_partOf_114 rfl) (rF 20 fl_M_280 nk_12_20 (rAn 0 d_M_partOf_117 rfl) d_M_partOf_118 rfl) d_M_partOf_121) d_M_partOf_122)) d_M_partOf_123 (by decide)) (sPo 20 o_add fl_M_280 fp_12_20 nk_12_20 (rAn 0 d_M_partOf_125 rfl) d_M_partOf_126 d_M_partOf_127 (rI d_M_partOf_130 rfl) d_M_partOf_131 d_M_partOf_132 rfl))) (sS (p1 := 148) (sIf (pn := 148) (tt := 146) (xC (rOr (mm := 139) (rNot (rNot (rJ1 (tgt := 146) k_eq (rIn 1 d_M_partOf_135 rfl) d_M_partOf_136 (by decide)))) (rNot (rJ1 (tgt := 148) k_eq (rF 22 fl_M_290 nk_12_22 (rAn 0 d_M_partOf_139 rfl) d_M_partOf_140 rfl) d_M_partOf_143 (by decide))))) (sRl (xLp (rLc0 d_M_partOf_146)) d_M_partOf_147 rfl)) (sS (p1 := 171) (sIf (pn := 171) (tt := 154) (xC (rNot (rJ2 (tgt := 171) j_ne (rIn 2 d_M_partOf_148 rfl) (rB d_M_partOf_149 rfl) d_M_partOf_151 (by decide)))) (sRl (xLp (rI2L (rIa (rFr fl_M_24 nk_12_2 (rAn 0 d_M_partOf_154 rfl) d_M_partOf_155) (r2 o_sub (r2 o_add (rSi d_M_partOf_158 rfl) (rF 20 fl_M_280 nk_12_20 (rAn 0 d_M_partOf_161 rfl) d_M_partOf_162 rfl) d_M_partOf_165) (rI d_M_partOf_166 rfl) d_M_partOf_167) d_M_partOf_168) d_M_partOf_169)) d_M_partOf_170 rfl)) (sS (p1 := 189) (sIf (pn := 189) (tt := 178) (xC (rNot (rJ1 (tgt := 189) k_ne (rF 23 fl_M_310 nk_12_23 (rAn 0 d_M_partOf_171 rfl) d_M_partOf_172 rfl) d_M_partOf_175 (by decide)))) (sRl (xLp (rI2L (rIa (rFr fl_M_59 nk_12_24 (rAn 0 d_M_partOf_178 rfl) d_M_partOf_179) (r2 o_sub (rIn 2 d_M_partOf_182 rfl) (rB d_M_partOf_183 rfl) d_M_partOf_185) d_M_partOf_186) d_M_partOf_187)) d_M_partOf_188 rfl)) (sS (p1 := 219) (sIf (pn := 219) (tt := 195) (xC (rNot (rJ2 (tgt := 219) j_ne (rIn 2 d_M_partOf_189 rfl) (rB d_M_partOf_190 rfl) d_M_partOf_192 (by decide)))) (sRl (xLp (rT2l (rNot (rJ1 (tgt := 215) k_eq (rV p_M_isPerson (Nat.le_trans (Nat.le_of_ble_eq_true rfl) hd) lv_M_152 (rAi (rAr rA0 (rAn 0 d_M_partOf_195 rfl)) (rIn 3 d_M_partOf_196 rfl)) (by decide) d_M_partOf_197) d_M_partOf_200 (by decide))) (rGoL (p2 := 218) (rI2L (rIa (rFr fl_M_24 nk_12_2 (rAn 0 d_M_partOf_203 rfl) d_M_partOf_204) (r2 o_add (rI d_M_partOf_207 rfl) (rIn 3 d_M_partOf_208 rfl) d_M_partOf_209) d_M_partOf_210) d_M_partOf_211) d_M_partOf_212 (by decide)) (rL2 kl_M_313 d_M_partOf_215 rfl))) d_M_partOf_218 rfl)) (sS (p1 := 234) (sIf (pn := 234) (tt := 225) (xC (rNot (rJ2 (tgt := 234) j_ne (rIn 2 d_M_partOf_219 rfl) (rB d_M_partOf_220 rfl) d_M_partOf_222 (by decide)))) (sRl (xLp (rI2L (rV p_M_owed (Nat.le_trans (Nat.le_of_ble_eq_true rfl) hd) lv_M_178 (rAi (rAi (rAr rA0 (rAn 0 d_M_partOf_225 rfl)) (rIn 3 d_M_partOf_226 rfl)) (rIl d_M_partOf_227)) (by decide) d_M_partOf_229) d_M_partOf_232)) d_M_partOf_233 rfl)) (sRl (xLp (rI2L (rIa (rFr fl_M_62 nk_12_25 (rAn 0 d_M_partOf_234 rfl) d_M_partOf_235) (rT2 (rNot (rJ2 (tgt := 248) j_ne (rIn 2 d_M_partOf_238 rfl) (rB d_M_partOf_239 rfl) d_M_partOf_241 (by decide))) (rGoE (p2 := 254) (rI d_M_partOf_244 rfl) d_M_partOf_245 (by decide)) (r2 o_add (r2 o_sub (rIn 2 d_M_partOf_248 rfl) (rB d_M_partOf_249 rfl) d_M_partOf_251) (rI d_M_partOf_252 rfl) d_M_partOf_253)) d_M_partOf_254) d_M_partOf_255)) d_M_partOf_256 rfl))))))))))))))
theorem m_M_partOf : Cond.instanceMethod y_M_partOf.1 ∈ zTb ∧ Cond.selects y_M_partOf.1.cls y_M_partOf.1 y_M_partOf.1 ∈ zTb ∧ Cond.initialized y_M_partOf.1.cls ∈ zTb ∧ Cond.code y_M_partOf.1 y_M_partOf.2.1 y_M_partOf.2.2.1 y_M_partOf.2.2.2 ∈ zTb ∧ (y_M_partOf.1.cls ≠ "java/lang/invoke/MethodHandle" ∧ y_M_partOf.1.cls ≠ "java/lang/invoke/VarHandle" ∧ (parseMethodDescriptor y_M_partOf.1.desc).map (fun d => d.parameters.length) = some 1) ∧ y_M_partOf.2.2.1 ≤ 20 :=
  ⟨(zTb_in 1628 (by decide +kernel) (by decide +kernel)), (List.mem_filter.mpr ⟨List.mem_append_left _ (by decide +kernel), by decide +kernel⟩), (zTb_in 151 (by decide +kernel) (by decide +kernel)), (zTb_in 1629 (by decide +kernel) (by decide +kernel)), by decide +kernel, by decide +kernel⟩
theorem lv_M_301 : zLv "DebtDoorsModel" 301 y_M_partOf 1 12 := ⟨⟨(zTb_in 1626 (by decide +kernel) (by decide +kernel)), m_M_partOf.1, m_M_partOf.2.1, m_M_partOf.2.2⟩, _, rfl, rfl⟩
theorem m_M_bounded : Cond.instanceMethod y_M_bounded.1 ∈ zTb ∧ Cond.selects y_M_bounded.1.cls y_M_bounded.1 y_M_bounded.1 ∈ zTb ∧ Cond.initialized y_M_bounded.1.cls ∈ zTb ∧ Cond.code y_M_bounded.1 y_M_bounded.2.1 y_M_bounded.2.2.1 y_M_bounded.2.2.2 ∈ zTb ∧ (y_M_bounded.1.cls ≠ "java/lang/invoke/MethodHandle" ∧ y_M_bounded.1.cls ≠ "java/lang/invoke/VarHandle" ∧ (parseMethodDescriptor y_M_bounded.1.desc).map (fun d => d.parameters.length) = some 2) ∧ y_M_bounded.2.2.1 ≤ 20 :=
  ⟨(zTb_in 1640 (by decide +kernel) (by decide +kernel)), (List.mem_filter.mpr ⟨List.mem_append_left _ (by decide +kernel), by decide +kernel⟩), (zTb_in 151 (by decide +kernel) (by decide +kernel)), (zTb_in 1641 (by decide +kernel) (by decide +kernel)), by decide +kernel, by decide +kernel⟩
theorem lv_M_297 : zLv "DebtDoorsModel" 297 y_M_bounded 2 12 := ⟨⟨(zTb_in 1638 (by decide +kernel) (by decide +kernel)), m_M_bounded.1, m_M_bounded.2.1, m_M_bounded.2.2⟩, _, rfl, rfl⟩
def y_M_termOf : zMt := (⟨"DebtDoorsModel", "termOf", "(Z)J"⟩, prog_14_method_67_code, 7, some .long)
theorem d_M_termOf_0 : decode prog_14_method_67_code 0 = .ok (.aload_n 0, 1) := by decide +kernel
theorem d_M_termOf_1 : decode prog_14_method_67_code 1 = .ok (.iload_n 1, 1) := by decide +kernel
theorem d_M_termOf_2 : decode prog_14_method_67_code 2 = .ok (.invokevirtual 301, 3) := by decide +kernel
theorem d_M_termOf_5 : decode prog_14_method_67_code 5 = .ok (.lstore_n 2, 1) := by decide +kernel
theorem d_M_termOf_6 : decode prog_14_method_67_code 6 = .ok (.aload_n 0, 1) := by decide +kernel
theorem d_M_termOf_7 : decode prog_14_method_67_code 7 = .ok (.aload_n 0, 1) := by decide +kernel
theorem d_M_termOf_8 : decode prog_14_method_67_code 8 = .ok (.getfield 280, 3) := by decide +kernel
theorem d_M_termOf_11 : decode prog_14_method_67_code 11 = .ok (.invokevirtual 283, 3) := by decide +kernel
theorem d_M_termOf_14 : decode prog_14_method_67_code 14 = .ok (.bipush 42, 2) := by decide +kernel
theorem d_M_termOf_16 : decode prog_14_method_67_code 16 = .ok (.invokestatic 249, 3) := by decide +kernel
theorem d_M_termOf_19 : decode prog_14_method_67_code 19 = .ok (.if_icmp .eq 35, 3) := by decide +kernel
theorem d_M_termOf_22 : decode prog_14_method_67_code 22 = .ok (.aload_n 0, 1) := by decide +kernel
theorem d_M_termOf_23 : decode prog_14_method_67_code 23 = .ok (.aload_n 0, 1) := by decide +kernel
theorem d_M_termOf_24 : decode prog_14_method_67_code 24 = .ok (.getfield 280, 3) := by decide +kernel
theorem d_M_termOf_27 : decode prog_14_method_67_code 27 = .ok (.invokevirtual 283, 3) := by decide +kernel
theorem d_M_termOf_30 : decode prog_14_method_67_code 30 = .ok (.bipush 47, 2) := by decide +kernel
theorem d_M_termOf_32 : decode prog_14_method_67_code 32 = .ok (.invokestatic 249, 3) := by decide +kernel
theorem d_M_termOf_35 : decode prog_14_method_67_code 35 = .ok (.if_icmp .eq 19, 3) := by decide +kernel
theorem d_M_termOf_38 : decode prog_14_method_67_code 38 = .ok (.aload_n 0, 1) := by decide +kernel
theorem d_M_termOf_39 : decode prog_14_method_67_code 39 = .ok (.aload_n 0, 1) := by decide +kernel
theorem d_M_termOf_40 : decode prog_14_method_67_code 40 = .ok (.getfield 280, 3) := by decide +kernel
theorem d_M_termOf_43 : decode prog_14_method_67_code 43 = .ok (.invokevirtual 283, 3) := by decide +kernel
theorem d_M_termOf_46 : decode prog_14_method_67_code 46 = .ok (.bipush 37, 2) := by decide +kernel
theorem d_M_termOf_48 : decode prog_14_method_67_code 48 = .ok (.invokestatic 249, 3) := by decide +kernel
theorem d_M_termOf_51 : decode prog_14_method_67_code 51 = .ok (.if_icmp .ne 117, 3) := by decide +kernel
theorem d_M_termOf_54 : decode prog_14_method_67_code 54 = .ok (.aload_n 0, 1) := by decide +kernel
theorem d_M_termOf_55 : decode prog_14_method_67_code 55 = .ok (.aload_n 0, 1) := by decide +kernel
theorem d_M_termOf_56 : decode prog_14_method_67_code 56 = .ok (.getfield 280, 3) := by decide +kernel
theorem d_M_termOf_59 : decode prog_14_method_67_code 59 = .ok (.invokevirtual 283, 3) := by decide +kernel
theorem d_M_termOf_62 : decode prog_14_method_67_code 62 = .ok (.istore 4, 2) := by decide +kernel
theorem d_M_termOf_64 : decode prog_14_method_67_code 64 = .ok (.aload_n 0, 1) := by decide +kernel
theorem d_M_termOf_65 : decode prog_14_method_67_code 65 = .ok (.dup, 1) := by decide +kernel
theorem d_M_termOf_66 : decode prog_14_method_67_code 66 = .ok (.getfield 280, 3) := by decide +kernel
theorem d_M_termOf_69 : decode prog_14_method_67_code 69 = .ok (.iconst 1, 1) := by decide +kernel
theorem d_M_termOf_70 : decode prog_14_method_67_code 70 = .ok (.iadd, 1) := by decide +kernel
theorem d_M_termOf_71 : decode prog_14_method_67_code 71 = .ok (.putfield 280, 3) := by decide +kernel
theorem d_M_termOf_74 : decode prog_14_method_67_code 74 = .ok (.aload_n 0, 1) := by decide +kernel
theorem d_M_termOf_75 : decode prog_14_method_67_code 75 = .ok (.iload_n 1, 1) := by decide +kernel
theorem d_M_termOf_76 : decode prog_14_method_67_code 76 = .ok (.invokevirtual 301, 3) := by decide +kernel
theorem d_M_termOf_79 : decode prog_14_method_67_code 79 = .ok (.lstore 5, 2) := by decide +kernel
theorem d_M_termOf_81 : decode prog_14_method_67_code 81 = .ok (.iload 4, 2) := by decide +kernel
theorem d_M_termOf_83 : decode prog_14_method_67_code 83 = .ok (.bipush 42, 2) := by decide +kernel
theorem d_M_termOf_85 : decode prog_14_method_67_code 85 = .ok (.invokestatic 249, 3) := by decide +kernel
theorem d_M_termOf_88 : decode prog_14_method_67_code 88 = .ok (.if_icmp .eq 33, 3) := by decide +kernel
theorem d_M_termOf_91 : decode prog_14_method_67_code 91 = .ok (.lload 5, 2) := by decide +kernel
theorem d_M_termOf_93 : decode prog_14_method_67_code 93 = .ok (.lconst 0, 1) := by decide +kernel
theorem d_M_termOf_94 : decode prog_14_method_67_code 94 = .ok (.lcmp, 1) := by decide +kernel
theorem d_M_termOf_95 : decode prog_14_method_67_code 95 = .ok (.ifCond .ne 26, 3) := by decide +kernel
theorem d_M_termOf_98 : decode prog_14_method_67_code 98 = .ok (.aload_n 0, 1) := by decide +kernel
theorem d_M_termOf_99 : decode prog_14_method_67_code 99 = .ok (.aload_n 0, 1) := by decide +kernel
theorem d_M_termOf_100 : decode prog_14_method_67_code 100 = .ok (.getfield 290, 3) := by decide +kernel
theorem d_M_termOf_103 : decode prog_14_method_67_code 103 = .ok (.ifCond .ne 7, 3) := by decide +kernel
theorem d_M_termOf_106 : decode prog_14_method_67_code 106 = .ok (.iload_n 1, 1) := by decide +kernel
theorem d_M_termOf_107 : decode prog_14_method_67_code 107 = .ok (.ifCond .eq 7, 3) := by decide +kernel
theorem d_M_termOf_110 : decode prog_14_method_67_code 110 = .ok (.iconst 1, 1) := by decide +kernel
theorem d_M_termOf_111 : decode prog_14_method_67_code 111 = .ok (.goto 4, 3) := by decide +kernel
theorem d_M_termOf_114 : decode prog_14_method_67_code 114 = .ok (.iconst 0, 1) := by decide +kernel
theorem d_M_termOf_115 : decode prog_14_method_67_code 115 = .ok (.putfield 290, 3) := by decide +kernel
theorem d_M_termOf_118 : decode prog_14_method_67_code 118 = .ok (.lconst 1, 1) := by decide +kernel
theorem d_M_termOf_119 : decode prog_14_method_67_code 119 = .ok (.lstore 5, 2) := by decide +kernel
theorem d_M_termOf_121 : decode prog_14_method_67_code 121 = .ok (.aload_n 0, 1) := by decide +kernel
theorem d_M_termOf_122 : decode prog_14_method_67_code 122 = .ok (.iload 4, 2) := by decide +kernel
theorem d_M_termOf_124 : decode prog_14_method_67_code 124 = .ok (.bipush 42, 2) := by decide +kernel
theorem d_M_termOf_126 : decode prog_14_method_67_code 126 = .ok (.invokestatic 249, 3) := by decide +kernel
theorem d_M_termOf_129 : decode prog_14_method_67_code 129 = .ok (.if_icmp .ne 10, 3) := by decide +kernel
theorem d_M_termOf_132 : decode prog_14_method_67_code 132 = .ok (.lload_n 2, 1) := by decide +kernel
theorem d_M_termOf_133 : decode prog_14_method_67_code 133 = .ok (.lload 5, 2) := by decide +kernel
theorem d_M_termOf_135 : decode prog_14_method_67_code 135 = .ok (.lmul, 1) := by decide +kernel
theorem d_M_termOf_136 : decode prog_14_method_67_code 136 = .ok (.goto 24, 3) := by decide +kernel
theorem d_M_termOf_139 : decode prog_14_method_67_code 139 = .ok (.iload 4, 2) := by decide +kernel
theorem d_M_termOf_141 : decode prog_14_method_67_code 141 = .ok (.bipush 47, 2) := by decide +kernel
theorem d_M_termOf_143 : decode prog_14_method_67_code 143 = .ok (.invokestatic 249, 3) := by decide +kernel
theorem d_M_termOf_146 : decode prog_14_method_67_code 146 = .ok (.if_icmp .ne 10, 3) := by decide +kernel
theorem d_M_termOf_149 : decode prog_14_method_67_code 149 = .ok (.lload_n 2, 1) := by decide +kernel
theorem d_M_termOf_150 : decode prog_14_method_67_code 150 = .ok (.lload 5, 2) := by decide +kernel
theorem d_M_termOf_152 : decode prog_14_method_67_code 152 = .ok (.ldiv, 1) := by decide +kernel
theorem d_M_termOf_153 : decode prog_14_method_67_code 153 = .ok (.goto 7, 3) := by decide +kernel
theorem d_M_termOf_156 : decode prog_14_method_67_code 156 = .ok (.lload_n 2, 1) := by decide +kernel
theorem d_M_termOf_157 : decode prog_14_method_67_code 157 = .ok (.lload 5, 2) := by decide +kernel
theorem d_M_termOf_159 : decode prog_14_method_67_code 159 = .ok (.lrem, 1) := by decide +kernel
theorem d_M_termOf_160 : decode prog_14_method_67_code 160 = .ok (.iload_n 1, 1) := by decide +kernel
theorem d_M_termOf_161 : decode prog_14_method_67_code 161 = .ok (.invokevirtual 297, 3) := by decide +kernel
theorem d_M_termOf_164 : decode prog_14_method_67_code 164 = .ok (.lstore_n 2, 1) := by decide +kernel
theorem d_M_termOf_165 : decode prog_14_method_67_code 165 = .ok (.goto (-159), 3) := by decide +kernel
theorem d_M_termOf_168 : decode prog_14_method_67_code 168 = .ok (.lload_n 2, 1) := by decide +kernel
theorem d_M_termOf_169 : decode prog_14_method_67_code 169 = .ok (.lreturn, 1) := by decide +kernel
def w_M_termOf {d : Nat} (hd : 2 ≤ d) := (show SS ("DebtDoorsModel", prog_14_method_67_code, 7) (some .long) d 0 0 0 0 _ from (sS (p1 := 6) (sLn 2 (xVL lv_M_301 (xA (rAi (rAr rA0 (rAn 0 d_M_termOf_0 rfl)) (rIn 1 d_M_termOf_1 rfl))) (by decide) d_M_termOf_2) d_M_termOf_5 rfl (by decide)) (sS (p1 := 168) (sLp (ps := 6) (tt := 54) (pn := 168) (p1 := 0) (p2 := 0) (xC (rOr (mm := 38) (rOr (mm := 22) (rJ2 (tgt := 54) j_eq (rV p_M_codeAt (Nat.le_trans (Nat.le_of_ble_eq_true rfl) hd) lv_M_283 (rAi (rAr rA0 (rAn 0 d_M_termOf_6 rfl)) (rF 20 fl_M_280 nk_12_20 (rAn 0 d_M_termOf_7 rfl) d_M_termOf_8 rfl)) (by decide) d_M_termOf_11) (rS p_M_sign (Nat.le_trans (Nat.le_of_ble_eq_true rfl) hd) ls_M_249 (rAi rA0 (rB d_M_termOf_14 rfl)) (by decide) d_M_termOf_16) d_M_termOf_19 (by decide)) (rJ2 (tgt := 54) j_eq (rV p_M_codeAt (Nat.le_trans (Nat.le_of_ble_eq_true rfl) hd) lv_M_283 (rAi (rAr rA0 (rAn 0 d_M_termOf_22 rfl)) (rF 20 fl_M_280 nk_12_20 (rAn 0 d_M_termOf_23 rfl) d_M_termOf_24 rfl)) (by decide) d_M_termOf_27) (rS p_M_sign (Nat.le_trans (Nat.le_of_ble_eq_true rfl) hd) ls_M_249 (rAi rA0 (rB d_M_termOf_30 rfl)) (by decide) d_M_termOf_32) d_M_termOf_35 (by decide))) (rNot (rJ2 (tgt := 168) j_ne (rV p_M_codeAt (Nat.le_trans (Nat.le_of_ble_eq_true rfl) hd) lv_M_283 (rAi (rAr rA0 (rAn 0 d_M_termOf_38 rfl)) (rF 20 fl_M_280 nk_12_20 (rAn 0 d_M_termOf_39 rfl) d_M_termOf_40 rfl)) (by decide) d_M_termOf_43) (rS p_M_sign (Nat.le_trans (Nat.le_of_ble_eq_true rfl) hd) ls_M_249 (rAi rA0 (rB d_M_termOf_46 rfl)) (by decide) d_M_termOf_48) d_M_termOf_51 (by decide))))) (sS (p1 := 64) (sI (xE (rV p_M_codeAt (Nat.le_trans (Nat.le_of_ble_eq_true rfl) hd) lv_M_283 (rAi (rAr rA0 (rAn 0 d_M_termOf_54 rfl)) (rF 20 fl_M_280 nk_12_20 (rAn 0 d_M_termOf_55 rfl) d_M_termOf_56 rfl)) (by decide) d_M_termOf_59)) d_M_termOf_62 (by decide)) (sS (p1 := 74) (sPo 20 o_add fl_M_280 fp_12_20 nk_12_20 (rAn 0 d_M_termOf_64 rfl) d_M_termOf_65 d_M_termOf_66 (rI d_M_termOf_69 rfl) d_M_termOf_70 d_M_termOf_71 rfl) (sS (p1 := 81) (sL (xVL lv_M_301 (xA (rAi (rAr rA0 (rAn 0 d_M_termOf_74 rfl)) (rIn 1 d_M_termOf_75 rfl))) (by decide) d_M_termOf_76) d_M_termOf_79 (by decide)) (sS (p1 := 121) (sIf (pn := 121) (tt := 98) (xC (rAnd (mm := 91) (rNot (rJ2 (tgt := 121) j_eq (rIl d_M_termOf_81) (rS p_M_sign (Nat.le_trans (Nat.le_of_ble_eq_true rfl) hd) ls_M_249 (rAi rA0 (rB d_M_termOf_83 rfl)) (by decide) d_M_termOf_85) d_M_termOf_88 (by decide))) (rNot (rJ1 (tgt := 121) k_ne (rCmp (rLl d_M_termOf_91) (rLc0 d_M_termOf_93) d_M_termOf_94) d_M_termOf_95 (by decide))))) (sS (p1 := 118) (sP 22 fl_M_290 fp_12_22 nk_12_22 (rAn 0 d_M_termOf_98 rfl) (xE (rTb (rOr (mm := 106) (rJ1 (tgt := 110) k_ne (rF 22 fl_M_290 nk_12_22 (rAn 0 d_M_termOf_99 rfl) d_M_termOf_100 rfl) d_M_termOf_103 (by decide)) (rNot (rJ1 (tgt := 114) k_eq (rIn 1 d_M_termOf_106 rfl) d_M_termOf_107 (by decide)))) (rGoE (p2 := 115) (rI d_M_termOf_110 rfl) d_M_termOf_111 (by decide)) (rI d_M_termOf_114 rfl))) d_M_termOf_115 rfl) (sL (xLp (rLc1 d_M_termOf_118)) d_M_termOf_119 (by decide)))) (sGo (pn := 6) (sLn 2 (xVL lv_M_297 (xA (rAi (rAL (rAr rA0 (rAn 0 d_M_termOf_121 rfl)) (rT2l (rNot (rJ2 (tgt := 139) j_ne (rIl d_M_termOf_122) (rS p_M_sign (Nat.le_trans (Nat.le_of_ble_eq_true rfl) hd) ls_M_249 (rAi rA0 (rB d_M_termOf_124 rfl)) (by decide) d_M_termOf_126) d_M_termOf_129 (by decide))) (rGoL (p2 := 160) (rl2 o_lmul (rLn 2 d_M_termOf_132 rfl) (rLl d_M_termOf_133) d_M_termOf_135) d_M_termOf_136 (by decide)) (rT2l (rNot (rJ2 (tgt := 156) j_ne (rIl d_M_termOf_139) (rS p_M_sign (Nat.le_trans (Nat.le_of_ble_eq_true rfl) hd) ls_M_249 (rAi rA0 (rB d_M_termOf_141 rfl)) (by decide) d_M_termOf_143) d_M_termOf_146 (by decide))) (rGoL (p2 := 160) (rl2 o_ldiv (rLn 2 d_M_termOf_149 rfl) (rLl d_M_termOf_150) d_M_termOf_152) d_M_termOf_153 (by decide)) (rl2 o_lrem (rLn 2 d_M_termOf_156 rfl) (rLl d_M_termOf_157) d_M_termOf_159)))) (rIn 1 d_M_termOf_160 rfl))) (by decide) d_M_termOf_161) d_M_termOf_164 rfl (by decide)) d_M_termOf_165 (by decide)))))) s0) (sRl (xLp (rLn 2 d_M_termOf_168 rfl)) d_M_termOf_169 rfl))))
theorem m_M_termOf : Cond.instanceMethod y_M_termOf.1 ∈ zTb ∧ Cond.selects y_M_termOf.1.cls y_M_termOf.1 y_M_termOf.1 ∈ zTb ∧ Cond.initialized y_M_termOf.1.cls ∈ zTb ∧ Cond.code y_M_termOf.1 y_M_termOf.2.1 y_M_termOf.2.2.1 y_M_termOf.2.2.2 ∈ zTb ∧ (y_M_termOf.1.cls ≠ "java/lang/invoke/MethodHandle" ∧ y_M_termOf.1.cls ≠ "java/lang/invoke/VarHandle" ∧ (parseMethodDescriptor y_M_termOf.1.desc).map (fun d => d.parameters.length) = some 1) ∧ y_M_termOf.2.2.1 ≤ 20 :=
  ⟨(zTb_in 1624 (by decide +kernel) (by decide +kernel)), (List.mem_filter.mpr ⟨List.mem_append_left _ (by decide +kernel), by decide +kernel⟩), (zTb_in 151 (by decide +kernel) (by decide +kernel)), (zTb_in 1625 (by decide +kernel) (by decide +kernel)), by decide +kernel, by decide +kernel⟩
theorem lv_M_293 : zLv "DebtDoorsModel" 293 y_M_termOf 1 12 := ⟨⟨(zTb_in 1622 (by decide +kernel) (by decide +kernel)), m_M_termOf.1, m_M_termOf.2.1, m_M_termOf.2.2⟩, _, rfl, rfl⟩
theorem d_M_sumOf_0 : decode prog_14_method_66_code 0 = .ok (.aload_n 0, 1) := by decide +kernel
theorem d_M_sumOf_1 : decode prog_14_method_66_code 1 = .ok (.iload_n 1, 1) := by decide +kernel
theorem d_M_sumOf_2 : decode prog_14_method_66_code 2 = .ok (.invokevirtual 293, 3) := by decide +kernel
theorem d_M_sumOf_5 : decode prog_14_method_66_code 5 = .ok (.lstore_n 2, 1) := by decide +kernel
theorem d_M_sumOf_6 : decode prog_14_method_66_code 6 = .ok (.aload_n 0, 1) := by decide +kernel
theorem d_M_sumOf_7 : decode prog_14_method_66_code 7 = .ok (.aload_n 0, 1) := by decide +kernel
theorem d_M_sumOf_8 : decode prog_14_method_66_code 8 = .ok (.getfield 280, 3) := by decide +kernel
theorem d_M_sumOf_11 : decode prog_14_method_66_code 11 = .ok (.invokevirtual 283, 3) := by decide +kernel
theorem d_M_sumOf_14 : decode prog_14_method_66_code 14 = .ok (.bipush 43, 2) := by decide +kernel
theorem d_M_sumOf_16 : decode prog_14_method_66_code 16 = .ok (.invokestatic 249, 3) := by decide +kernel
theorem d_M_sumOf_19 : decode prog_14_method_66_code 19 = .ok (.if_icmp .eq 19, 3) := by decide +kernel
theorem d_M_sumOf_22 : decode prog_14_method_66_code 22 = .ok (.aload_n 0, 1) := by decide +kernel
theorem d_M_sumOf_23 : decode prog_14_method_66_code 23 = .ok (.aload_n 0, 1) := by decide +kernel
theorem d_M_sumOf_24 : decode prog_14_method_66_code 24 = .ok (.getfield 280, 3) := by decide +kernel
theorem d_M_sumOf_27 : decode prog_14_method_66_code 27 = .ok (.invokevirtual 283, 3) := by decide +kernel
theorem d_M_sumOf_30 : decode prog_14_method_66_code 30 = .ok (.bipush 45, 2) := by decide +kernel
theorem d_M_sumOf_32 : decode prog_14_method_66_code 32 = .ok (.invokestatic 249, 3) := by decide +kernel
theorem d_M_sumOf_35 : decode prog_14_method_66_code 35 = .ok (.if_icmp .ne 68, 3) := by decide +kernel
theorem d_M_sumOf_38 : decode prog_14_method_66_code 38 = .ok (.aload_n 0, 1) := by decide +kernel
theorem d_M_sumOf_39 : decode prog_14_method_66_code 39 = .ok (.aload_n 0, 1) := by decide +kernel
theorem d_M_sumOf_40 : decode prog_14_method_66_code 40 = .ok (.getfield 280, 3) := by decide +kernel
theorem d_M_sumOf_43 : decode prog_14_method_66_code 43 = .ok (.invokevirtual 283, 3) := by decide +kernel
theorem d_M_sumOf_46 : decode prog_14_method_66_code 46 = .ok (.bipush 43, 2) := by decide +kernel
theorem d_M_sumOf_48 : decode prog_14_method_66_code 48 = .ok (.invokestatic 249, 3) := by decide +kernel
theorem d_M_sumOf_51 : decode prog_14_method_66_code 51 = .ok (.if_icmp .ne 7, 3) := by decide +kernel
theorem d_M_sumOf_54 : decode prog_14_method_66_code 54 = .ok (.iconst 1, 1) := by decide +kernel
theorem d_M_sumOf_55 : decode prog_14_method_66_code 55 = .ok (.goto 4, 3) := by decide +kernel
theorem d_M_sumOf_58 : decode prog_14_method_66_code 58 = .ok (.iconst 0, 1) := by decide +kernel
theorem d_M_sumOf_59 : decode prog_14_method_66_code 59 = .ok (.istore 4, 2) := by decide +kernel
theorem d_M_sumOf_61 : decode prog_14_method_66_code 61 = .ok (.aload_n 0, 1) := by decide +kernel
theorem d_M_sumOf_62 : decode prog_14_method_66_code 62 = .ok (.dup, 1) := by decide +kernel
theorem d_M_sumOf_63 : decode prog_14_method_66_code 63 = .ok (.getfield 280, 3) := by decide +kernel
theorem d_M_sumOf_66 : decode prog_14_method_66_code 66 = .ok (.iconst 1, 1) := by decide +kernel
theorem d_M_sumOf_67 : decode prog_14_method_66_code 67 = .ok (.iadd, 1) := by decide +kernel
theorem d_M_sumOf_68 : decode prog_14_method_66_code 68 = .ok (.putfield 280, 3) := by decide +kernel
theorem d_M_sumOf_71 : decode prog_14_method_66_code 71 = .ok (.aload_n 0, 1) := by decide +kernel
theorem d_M_sumOf_72 : decode prog_14_method_66_code 72 = .ok (.iload_n 1, 1) := by decide +kernel
theorem d_M_sumOf_73 : decode prog_14_method_66_code 73 = .ok (.invokevirtual 293, 3) := by decide +kernel
theorem d_M_sumOf_76 : decode prog_14_method_66_code 76 = .ok (.lstore 5, 2) := by decide +kernel
theorem d_M_sumOf_78 : decode prog_14_method_66_code 78 = .ok (.aload_n 0, 1) := by decide +kernel
theorem d_M_sumOf_79 : decode prog_14_method_66_code 79 = .ok (.iload 4, 2) := by decide +kernel
theorem d_M_sumOf_81 : decode prog_14_method_66_code 81 = .ok (.ifCond .eq 10, 3) := by decide +kernel
theorem d_M_sumOf_84 : decode prog_14_method_66_code 84 = .ok (.lload_n 2, 1) := by decide +kernel
theorem d_M_sumOf_85 : decode prog_14_method_66_code 85 = .ok (.lload 5, 2) := by decide +kernel
theorem d_M_sumOf_87 : decode prog_14_method_66_code 87 = .ok (.ladd, 1) := by decide +kernel
theorem d_M_sumOf_88 : decode prog_14_method_66_code 88 = .ok (.goto 7, 3) := by decide +kernel
theorem d_M_sumOf_91 : decode prog_14_method_66_code 91 = .ok (.lload_n 2, 1) := by decide +kernel
theorem d_M_sumOf_92 : decode prog_14_method_66_code 92 = .ok (.lload 5, 2) := by decide +kernel
theorem d_M_sumOf_94 : decode prog_14_method_66_code 94 = .ok (.lsub, 1) := by decide +kernel
theorem d_M_sumOf_95 : decode prog_14_method_66_code 95 = .ok (.iload_n 1, 1) := by decide +kernel
theorem d_M_sumOf_96 : decode prog_14_method_66_code 96 = .ok (.invokevirtual 297, 3) := by decide +kernel
theorem d_M_sumOf_99 : decode prog_14_method_66_code 99 = .ok (.lstore_n 2, 1) := by decide +kernel
theorem d_M_sumOf_100 : decode prog_14_method_66_code 100 = .ok (.goto (-94), 3) := by decide +kernel
theorem d_M_sumOf_103 : decode prog_14_method_66_code 103 = .ok (.lload_n 2, 1) := by decide +kernel
theorem d_M_sumOf_104 : decode prog_14_method_66_code 104 = .ok (.lreturn, 1) := by decide +kernel
def w_M_sumOf {d : Nat} (hd : 2 ≤ d) := (show SS ("DebtDoorsModel", prog_14_method_66_code, 7) (some .long) d 0 0 0 0 _ from (sS (p1 := 6) (sLn 2 (xVL lv_M_293 (xA (rAi (rAr rA0 (rAn 0 d_M_sumOf_0 rfl)) (rIn 1 d_M_sumOf_1 rfl))) (by decide) d_M_sumOf_2) d_M_sumOf_5 rfl (by decide)) (sS (p1 := 103) (sLp (ps := 6) (tt := 38) (pn := 103) (p1 := 0) (p2 := 0) (xC (rOr (mm := 22) (rJ2 (tgt := 38) j_eq (rV p_M_codeAt (Nat.le_trans (Nat.le_of_ble_eq_true rfl) hd) lv_M_283 (rAi (rAr rA0 (rAn 0 d_M_sumOf_6 rfl)) (rF 20 fl_M_280 nk_12_20 (rAn 0 d_M_sumOf_7 rfl) d_M_sumOf_8 rfl)) (by decide) d_M_sumOf_11) (rS p_M_sign (Nat.le_trans (Nat.le_of_ble_eq_true rfl) hd) ls_M_249 (rAi rA0 (rB d_M_sumOf_14 rfl)) (by decide) d_M_sumOf_16) d_M_sumOf_19 (by decide)) (rNot (rJ2 (tgt := 103) j_ne (rV p_M_codeAt (Nat.le_trans (Nat.le_of_ble_eq_true rfl) hd) lv_M_283 (rAi (rAr rA0 (rAn 0 d_M_sumOf_22 rfl)) (rF 20 fl_M_280 nk_12_20 (rAn 0 d_M_sumOf_23 rfl) d_M_sumOf_24 rfl)) (by decide) d_M_sumOf_27) (rS p_M_sign (Nat.le_trans (Nat.le_of_ble_eq_true rfl) hd) ls_M_249 (rAi rA0 (rB d_M_sumOf_30 rfl)) (by decide) d_M_sumOf_32) d_M_sumOf_35 (by decide))))) (sS (p1 := 61) (sI (xE (rTb (rNot (rJ2 (tgt := 58) j_ne (rV p_M_codeAt (Nat.le_trans (Nat.le_of_ble_eq_true rfl) hd) lv_M_283 (rAi (rAr rA0 (rAn 0 d_M_sumOf_38 rfl)) (rF 20 fl_M_280 nk_12_20 (rAn 0 d_M_sumOf_39 rfl) d_M_sumOf_40 rfl)) (by decide) d_M_sumOf_43) (rS p_M_sign (Nat.le_trans (Nat.le_of_ble_eq_true rfl) hd) ls_M_249 (rAi rA0 (rB d_M_sumOf_46 rfl)) (by decide) d_M_sumOf_48) d_M_sumOf_51 (by decide))) (rGoE (p2 := 59) (rI d_M_sumOf_54 rfl) d_M_sumOf_55 (by decide)) (rI d_M_sumOf_58 rfl))) d_M_sumOf_59 (by decide)) (sS (p1 := 71) (sPo 20 o_add fl_M_280 fp_12_20 nk_12_20 (rAn 0 d_M_sumOf_61 rfl) d_M_sumOf_62 d_M_sumOf_63 (rI d_M_sumOf_66 rfl) d_M_sumOf_67 d_M_sumOf_68 rfl) (sS (p1 := 78) (sL (xVL lv_M_293 (xA (rAi (rAr rA0 (rAn 0 d_M_sumOf_71 rfl)) (rIn 1 d_M_sumOf_72 rfl))) (by decide) d_M_sumOf_73) d_M_sumOf_76 (by decide)) (sGo (pn := 6) (sLn 2 (xVL lv_M_297 (xA (rAi (rAL (rAr rA0 (rAn 0 d_M_sumOf_78 rfl)) (rT2l (rNot (rJ1 (tgt := 91) k_eq (rIl d_M_sumOf_79) d_M_sumOf_81 (by decide))) (rGoL (p2 := 95) (rl2 o_ladd (rLn 2 d_M_sumOf_84 rfl) (rLl d_M_sumOf_85) d_M_sumOf_87) d_M_sumOf_88 (by decide)) (rl2 o_lsub (rLn 2 d_M_sumOf_91 rfl) (rLl d_M_sumOf_92) d_M_sumOf_94))) (rIn 1 d_M_sumOf_95 rfl))) (by decide) d_M_sumOf_96) d_M_sumOf_99 rfl (by decide)) d_M_sumOf_100 (by decide))))) s0) (sRl (xLp (rLn 2 d_M_sumOf_103 rfl)) d_M_sumOf_104 rfl))))
def y_M_bothOf : zMt := (⟨"DebtDoorsModel", "bothOf", "(Z)Z"⟩, prog_14_method_70_code, 4, some .boolean)
theorem m_M_bothOf : Cond.instanceMethod y_M_bothOf.1 ∈ zTb ∧ Cond.selects y_M_bothOf.1.cls y_M_bothOf.1 y_M_bothOf.1 ∈ zTb ∧ Cond.initialized y_M_bothOf.1.cls ∈ zTb ∧ Cond.code y_M_bothOf.1 y_M_bothOf.2.1 y_M_bothOf.2.2.1 y_M_bothOf.2.2.2 ∈ zTb ∧ (y_M_bothOf.1.cls ≠ "java/lang/invoke/MethodHandle" ∧ y_M_bothOf.1.cls ≠ "java/lang/invoke/VarHandle" ∧ (parseMethodDescriptor y_M_bothOf.1.desc).map (fun d => d.parameters.length) = some 1) ∧ y_M_bothOf.2.2.1 ≤ 20 :=
  ⟨(zTb_in 1650 (by decide +kernel) (by decide +kernel)), (List.mem_filter.mpr ⟨List.mem_append_left _ (by decide +kernel), by decide +kernel⟩), (zTb_in 151 (by decide +kernel) (by decide +kernel)), (zTb_in 1651 (by decide +kernel) (by decide +kernel)), by decide +kernel, by decide +kernel⟩
theorem lv_M_315 : zLv "DebtDoorsModel" 315 y_M_bothOf 1 12 := ⟨⟨(zTb_in 1648 (by decide +kernel) (by decide +kernel)), m_M_bothOf.1, m_M_bothOf.2.1, m_M_bothOf.2.2⟩, _, rfl, rfl⟩
def y_M_testOf : zMt := (⟨"DebtDoorsModel", "testOf", "(Z)Z"⟩, prog_14_method_69_code, 4, some .boolean)
theorem d_M_testOf_0 : decode prog_14_method_69_code 0 = .ok (.aload_n 0, 1) := by decide +kernel
theorem d_M_testOf_1 : decode prog_14_method_69_code 1 = .ok (.iload_n 1, 1) := by decide +kernel
theorem d_M_testOf_2 : decode prog_14_method_69_code 2 = .ok (.invokevirtual 315, 3) := by decide +kernel
theorem d_M_testOf_5 : decode prog_14_method_69_code 5 = .ok (.istore_n 2, 1) := by decide +kernel
theorem d_M_testOf_6 : decode prog_14_method_69_code 6 = .ok (.aload_n 0, 1) := by decide +kernel
theorem d_M_testOf_7 : decode prog_14_method_69_code 7 = .ok (.bipush 6, 2) := by decide +kernel
theorem d_M_testOf_9 : decode prog_14_method_69_code 9 = .ok (.invokevirtual 304, 3) := by decide +kernel
theorem d_M_testOf_12 : decode prog_14_method_69_code 12 = .ok (.ifCond .eq 38, 3) := by decide +kernel
theorem d_M_testOf_15 : decode prog_14_method_69_code 15 = .ok (.aload_n 0, 1) := by decide +kernel
theorem d_M_testOf_16 : decode prog_14_method_69_code 16 = .ok (.iload_n 1, 1) := by decide +kernel
theorem d_M_testOf_17 : decode prog_14_method_69_code 17 = .ok (.ifCond .eq 11, 3) := by decide +kernel
theorem d_M_testOf_20 : decode prog_14_method_69_code 20 = .ok (.iload_n 2, 1) := by decide +kernel
theorem d_M_testOf_21 : decode prog_14_method_69_code 21 = .ok (.ifCond .ne 7, 3) := by decide +kernel
theorem d_M_testOf_24 : decode prog_14_method_69_code 24 = .ok (.iconst 1, 1) := by decide +kernel
theorem d_M_testOf_25 : decode prog_14_method_69_code 25 = .ok (.goto 4, 3) := by decide +kernel
theorem d_M_testOf_28 : decode prog_14_method_69_code 28 = .ok (.iconst 0, 1) := by decide +kernel
theorem d_M_testOf_29 : decode prog_14_method_69_code 29 = .ok (.invokevirtual 315, 3) := by decide +kernel
theorem d_M_testOf_32 : decode prog_14_method_69_code 32 = .ok (.istore_n 3, 1) := by decide +kernel
theorem d_M_testOf_33 : decode prog_14_method_69_code 33 = .ok (.iload_n 2, 1) := by decide +kernel
theorem d_M_testOf_34 : decode prog_14_method_69_code 34 = .ok (.ifCond .ne 7, 3) := by decide +kernel
theorem d_M_testOf_37 : decode prog_14_method_69_code 37 = .ok (.iload_n 3, 1) := by decide +kernel
theorem d_M_testOf_38 : decode prog_14_method_69_code 38 = .ok (.ifCond .eq 7, 3) := by decide +kernel
theorem d_M_testOf_41 : decode prog_14_method_69_code 41 = .ok (.iconst 1, 1) := by decide +kernel
theorem d_M_testOf_42 : decode prog_14_method_69_code 42 = .ok (.goto 4, 3) := by decide +kernel
theorem d_M_testOf_45 : decode prog_14_method_69_code 45 = .ok (.iconst 0, 1) := by decide +kernel
theorem d_M_testOf_46 : decode prog_14_method_69_code 46 = .ok (.istore_n 2, 1) := by decide +kernel
theorem d_M_testOf_47 : decode prog_14_method_69_code 47 = .ok (.goto (-41), 3) := by decide +kernel
theorem d_M_testOf_50 : decode prog_14_method_69_code 50 = .ok (.iload_n 2, 1) := by decide +kernel
theorem d_M_testOf_51 : decode prog_14_method_69_code 51 = .ok (.ireturn, 1) := by decide +kernel
def w_M_testOf {d : Nat} (hd : 1 ≤ d) := (show SS ("DebtDoorsModel", prog_14_method_69_code, 4) (some .boolean) d 0 0 0 0 _ from (sS (p1 := 6) (sIn 2 (xV lv_M_315 (xA (rAi (rAr rA0 (rAn 0 d_M_testOf_0 rfl)) (rIn 1 d_M_testOf_1 rfl))) (by decide) d_M_testOf_2) d_M_testOf_5 rfl (by decide)) (sS (p1 := 50) (sLp (ps := 6) (tt := 15) (pn := 50) (p1 := 0) (p2 := 0) (xNot (xJ1 (tgt := 50) k_eq (xV lv_M_304 (xA (rAi (rAr rA0 (rAn 0 d_M_testOf_6 rfl)) (rB d_M_testOf_7 rfl))) (by decide) d_M_testOf_9) d_M_testOf_12 (by decide))) (sS (p1 := 33) (sIn 3 (xV lv_M_315 (xA (rAi (rAr rA0 (rAn 0 d_M_testOf_15 rfl)) (rTb (rAnd (mm := 20) (rNot (rJ1 (tgt := 28) k_eq (rIn 1 d_M_testOf_16 rfl) d_M_testOf_17 (by decide))) (rNot (rJ1 (tgt := 28) k_ne (rIn 2 d_M_testOf_20 rfl) d_M_testOf_21 (by decide)))) (rGoE (p2 := 29) (rI d_M_testOf_24 rfl) d_M_testOf_25 (by decide)) (rI d_M_testOf_28 rfl)))) (by decide) d_M_testOf_29) d_M_testOf_32 rfl (by decide)) (sGo (pn := 6) (sIn 2 (xE (rTb (rOr (mm := 37) (rJ1 (tgt := 41) k_ne (rIn 2 d_M_testOf_33 rfl) d_M_testOf_34 (by decide)) (rNot (rJ1 (tgt := 45) k_eq (rIn 3 d_M_testOf_37 rfl) d_M_testOf_38 (by decide)))) (rGoE (p2 := 46) (rI d_M_testOf_41 rfl) d_M_testOf_42 (by decide)) (rI d_M_testOf_45 rfl))) d_M_testOf_46 rfl (by decide)) d_M_testOf_47 (by decide))) s0) (sRz (xE (rIn 2 d_M_testOf_50 rfl)) d_M_testOf_51 rfl))))
def y_M_plainOf : zMt := (⟨"DebtDoorsModel", "plainOf", "(Z)Z"⟩, prog_14_method_71_code, 3, some .boolean)
theorem m_M_plainOf : Cond.instanceMethod y_M_plainOf.1 ∈ zTb ∧ Cond.selects y_M_plainOf.1.cls y_M_plainOf.1 y_M_plainOf.1 ∈ zTb ∧ Cond.initialized y_M_plainOf.1.cls ∈ zTb ∧ Cond.code y_M_plainOf.1 y_M_plainOf.2.1 y_M_plainOf.2.2.1 y_M_plainOf.2.2.2 ∈ zTb ∧ (y_M_plainOf.1.cls ≠ "java/lang/invoke/MethodHandle" ∧ y_M_plainOf.1.cls ≠ "java/lang/invoke/VarHandle" ∧ (parseMethodDescriptor y_M_plainOf.1.desc).map (fun d => d.parameters.length) = some 1) ∧ y_M_plainOf.2.2.1 ≤ 20 :=
  ⟨(zTb_in 1654 (by decide +kernel) (by decide +kernel)), (List.mem_filter.mpr ⟨List.mem_append_left _ (by decide +kernel), by decide +kernel⟩), (zTb_in 151 (by decide +kernel) (by decide +kernel)), (zTb_in 1655 (by decide +kernel) (by decide +kernel)), by decide +kernel, by decide +kernel⟩
theorem lv_M_319 : zLv "DebtDoorsModel" 319 y_M_plainOf 1 12 := ⟨⟨(zTb_in 1652 (by decide +kernel) (by decide +kernel)), m_M_plainOf.1, m_M_plainOf.2.1, m_M_plainOf.2.2⟩, _, rfl, rfl⟩
theorem d_M_bothOf_0 : decode prog_14_method_70_code 0 = .ok (.aload_n 0, 1) := by decide +kernel
theorem d_M_bothOf_1 : decode prog_14_method_70_code 1 = .ok (.iload_n 1, 1) := by decide +kernel
theorem d_M_bothOf_2 : decode prog_14_method_70_code 2 = .ok (.invokevirtual 319, 3) := by decide +kernel
theorem d_M_bothOf_5 : decode prog_14_method_70_code 5 = .ok (.istore_n 2, 1) := by decide +kernel
theorem d_M_bothOf_6 : decode prog_14_method_70_code 6 = .ok (.aload_n 0, 1) := by decide +kernel
theorem d_M_bothOf_7 : decode prog_14_method_70_code 7 = .ok (.bipush 7, 2) := by decide +kernel
theorem d_M_bothOf_9 : decode prog_14_method_70_code 9 = .ok (.invokevirtual 304, 3) := by decide +kernel
theorem d_M_bothOf_12 : decode prog_14_method_70_code 12 = .ok (.ifCond .eq 38, 3) := by decide +kernel
theorem d_M_bothOf_15 : decode prog_14_method_70_code 15 = .ok (.aload_n 0, 1) := by decide +kernel
theorem d_M_bothOf_16 : decode prog_14_method_70_code 16 = .ok (.iload_n 1, 1) := by decide +kernel
theorem d_M_bothOf_17 : decode prog_14_method_70_code 17 = .ok (.ifCond .eq 11, 3) := by decide +kernel
theorem d_M_bothOf_20 : decode prog_14_method_70_code 20 = .ok (.iload_n 2, 1) := by decide +kernel
theorem d_M_bothOf_21 : decode prog_14_method_70_code 21 = .ok (.ifCond .eq 7, 3) := by decide +kernel
theorem d_M_bothOf_24 : decode prog_14_method_70_code 24 = .ok (.iconst 1, 1) := by decide +kernel
theorem d_M_bothOf_25 : decode prog_14_method_70_code 25 = .ok (.goto 4, 3) := by decide +kernel
theorem d_M_bothOf_28 : decode prog_14_method_70_code 28 = .ok (.iconst 0, 1) := by decide +kernel
theorem d_M_bothOf_29 : decode prog_14_method_70_code 29 = .ok (.invokevirtual 319, 3) := by decide +kernel
theorem d_M_bothOf_32 : decode prog_14_method_70_code 32 = .ok (.istore_n 3, 1) := by decide +kernel
theorem d_M_bothOf_33 : decode prog_14_method_70_code 33 = .ok (.iload_n 2, 1) := by decide +kernel
theorem d_M_bothOf_34 : decode prog_14_method_70_code 34 = .ok (.ifCond .eq 11, 3) := by decide +kernel
theorem d_M_bothOf_37 : decode prog_14_method_70_code 37 = .ok (.iload_n 3, 1) := by decide +kernel
theorem d_M_bothOf_38 : decode prog_14_method_70_code 38 = .ok (.ifCond .eq 7, 3) := by decide +kernel
theorem d_M_bothOf_41 : decode prog_14_method_70_code 41 = .ok (.iconst 1, 1) := by decide +kernel
theorem d_M_bothOf_42 : decode prog_14_method_70_code 42 = .ok (.goto 4, 3) := by decide +kernel
theorem d_M_bothOf_45 : decode prog_14_method_70_code 45 = .ok (.iconst 0, 1) := by decide +kernel
theorem d_M_bothOf_46 : decode prog_14_method_70_code 46 = .ok (.istore_n 2, 1) := by decide +kernel
theorem d_M_bothOf_47 : decode prog_14_method_70_code 47 = .ok (.goto (-41), 3) := by decide +kernel
theorem d_M_bothOf_50 : decode prog_14_method_70_code 50 = .ok (.iload_n 2, 1) := by decide +kernel
theorem d_M_bothOf_51 : decode prog_14_method_70_code 51 = .ok (.ireturn, 1) := by decide +kernel
def w_M_bothOf {d : Nat} (hd : 1 ≤ d) := (show SS ("DebtDoorsModel", prog_14_method_70_code, 4) (some .boolean) d 0 0 0 0 _ from (sS (p1 := 6) (sIn 2 (xV lv_M_319 (xA (rAi (rAr rA0 (rAn 0 d_M_bothOf_0 rfl)) (rIn 1 d_M_bothOf_1 rfl))) (by decide) d_M_bothOf_2) d_M_bothOf_5 rfl (by decide)) (sS (p1 := 50) (sLp (ps := 6) (tt := 15) (pn := 50) (p1 := 0) (p2 := 0) (xNot (xJ1 (tgt := 50) k_eq (xV lv_M_304 (xA (rAi (rAr rA0 (rAn 0 d_M_bothOf_6 rfl)) (rB d_M_bothOf_7 rfl))) (by decide) d_M_bothOf_9) d_M_bothOf_12 (by decide))) (sS (p1 := 33) (sIn 3 (xV lv_M_319 (xA (rAi (rAr rA0 (rAn 0 d_M_bothOf_15 rfl)) (rTb (rAnd (mm := 20) (rNot (rJ1 (tgt := 28) k_eq (rIn 1 d_M_bothOf_16 rfl) d_M_bothOf_17 (by decide))) (rNot (rJ1 (tgt := 28) k_eq (rIn 2 d_M_bothOf_20 rfl) d_M_bothOf_21 (by decide)))) (rGoE (p2 := 29) (rI d_M_bothOf_24 rfl) d_M_bothOf_25 (by decide)) (rI d_M_bothOf_28 rfl)))) (by decide) d_M_bothOf_29) d_M_bothOf_32 rfl (by decide)) (sGo (pn := 6) (sIn 2 (xE (rTb (rAnd (mm := 37) (rNot (rJ1 (tgt := 45) k_eq (rIn 2 d_M_bothOf_33 rfl) d_M_bothOf_34 (by decide))) (rNot (rJ1 (tgt := 45) k_eq (rIn 3 d_M_bothOf_37 rfl) d_M_bothOf_38 (by decide)))) (rGoE (p2 := 46) (rI d_M_bothOf_41 rfl) d_M_bothOf_42 (by decide)) (rI d_M_bothOf_45 rfl))) d_M_bothOf_46 rfl (by decide)) d_M_bothOf_47 (by decide))) s0) (sRz (xE (rIn 2 d_M_bothOf_50 rfl)) d_M_bothOf_51 rfl))))
def y_M_positiveOf : zMt := (⟨"DebtDoorsModel", "positiveOf", "(Z)Z"⟩, prog_14_method_72_code, 7, some .boolean)
theorem m_M_positiveOf : Cond.instanceMethod y_M_positiveOf.1 ∈ zTb ∧ Cond.selects y_M_positiveOf.1.cls y_M_positiveOf.1 y_M_positiveOf.1 ∈ zTb ∧ Cond.initialized y_M_positiveOf.1.cls ∈ zTb ∧ Cond.code y_M_positiveOf.1 y_M_positiveOf.2.1 y_M_positiveOf.2.2.1 y_M_positiveOf.2.2.2 ∈ zTb ∧ (y_M_positiveOf.1.cls ≠ "java/lang/invoke/MethodHandle" ∧ y_M_positiveOf.1.cls ≠ "java/lang/invoke/VarHandle" ∧ (parseMethodDescriptor y_M_positiveOf.1.desc).map (fun d => d.parameters.length) = some 1) ∧ y_M_positiveOf.2.2.1 ≤ 20 :=
  ⟨(zTb_in 1658 (by decide +kernel) (by decide +kernel)), (List.mem_filter.mpr ⟨List.mem_append_left _ (by decide +kernel), by decide +kernel⟩), (zTb_in 151 (by decide +kernel) (by decide +kernel)), (zTb_in 1659 (by decide +kernel) (by decide +kernel)), by decide +kernel, by decide +kernel⟩
theorem lv_M_322 : zLv "DebtDoorsModel" 322 y_M_positiveOf 1 12 := ⟨⟨(zTb_in 1656 (by decide +kernel) (by decide +kernel)), m_M_positiveOf.1, m_M_positiveOf.2.1, m_M_positiveOf.2.2⟩, _, rfl, rfl⟩
theorem d_M_plainOf_0 : decode prog_14_method_71_code 0 = .ok (.iconst 0, 1) := by decide +kernel
theorem d_M_plainOf_1 : decode prog_14_method_71_code 1 = .ok (.istore_n 2, 1) := by decide +kernel
theorem d_M_plainOf_2 : decode prog_14_method_71_code 2 = .ok (.aload_n 0, 1) := by decide +kernel
theorem d_M_plainOf_3 : decode prog_14_method_71_code 3 = .ok (.bipush 8, 2) := by decide +kernel
theorem d_M_plainOf_5 : decode prog_14_method_71_code 5 = .ok (.invokevirtual 304, 3) := by decide +kernel
theorem d_M_plainOf_8 : decode prog_14_method_71_code 8 = .ok (.ifCond .eq 16, 3) := by decide +kernel
theorem d_M_plainOf_11 : decode prog_14_method_71_code 11 = .ok (.iload_n 2, 1) := by decide +kernel
theorem d_M_plainOf_12 : decode prog_14_method_71_code 12 = .ok (.ifCond .ne 7, 3) := by decide +kernel
theorem d_M_plainOf_15 : decode prog_14_method_71_code 15 = .ok (.iconst 1, 1) := by decide +kernel
theorem d_M_plainOf_16 : decode prog_14_method_71_code 16 = .ok (.goto 4, 3) := by decide +kernel
theorem d_M_plainOf_19 : decode prog_14_method_71_code 19 = .ok (.iconst 0, 1) := by decide +kernel
theorem d_M_plainOf_20 : decode prog_14_method_71_code 20 = .ok (.istore_n 2, 1) := by decide +kernel
theorem d_M_plainOf_21 : decode prog_14_method_71_code 21 = .ok (.goto (-19), 3) := by decide +kernel
theorem d_M_plainOf_24 : decode prog_14_method_71_code 24 = .ok (.aload_n 0, 1) := by decide +kernel
theorem d_M_plainOf_25 : decode prog_14_method_71_code 25 = .ok (.iload_n 1, 1) := by decide +kernel
theorem d_M_plainOf_26 : decode prog_14_method_71_code 26 = .ok (.invokevirtual 322, 3) := by decide +kernel
theorem d_M_plainOf_29 : decode prog_14_method_71_code 29 = .ok (.iload_n 2, 1) := by decide +kernel
theorem d_M_plainOf_30 : decode prog_14_method_71_code 30 = .ok (.if_icmp .eq 7, 3) := by decide +kernel
theorem d_M_plainOf_33 : decode prog_14_method_71_code 33 = .ok (.iconst 1, 1) := by decide +kernel
theorem d_M_plainOf_34 : decode prog_14_method_71_code 34 = .ok (.goto 4, 3) := by decide +kernel
theorem d_M_plainOf_37 : decode prog_14_method_71_code 37 = .ok (.iconst 0, 1) := by decide +kernel
theorem d_M_plainOf_38 : decode prog_14_method_71_code 38 = .ok (.ireturn, 1) := by decide +kernel
def w_M_plainOf {d : Nat} (hd : 1 ≤ d) := (show SS ("DebtDoorsModel", prog_14_method_71_code, 3) (some .boolean) d 0 0 0 0 _ from (sS (p1 := 2) (sIn 2 (xE (rI d_M_plainOf_0 rfl)) d_M_plainOf_1 rfl (by decide)) (sS (p1 := 24) (sLp (ps := 2) (tt := 11) (pn := 24) (p1 := 0) (p2 := 0) (xNot (xJ1 (tgt := 24) k_eq (xV lv_M_304 (xA (rAi (rAr rA0 (rAn 0 d_M_plainOf_2 rfl)) (rB d_M_plainOf_3 rfl))) (by decide) d_M_plainOf_5) d_M_plainOf_8 (by decide))) (sGo (pn := 2) (sIn 2 (xE (rTb (rNot (rJ1 (tgt := 19) k_ne (rIn 2 d_M_plainOf_11 rfl) d_M_plainOf_12 (by decide))) (rGoE (p2 := 20) (rI d_M_plainOf_15 rfl) d_M_plainOf_16 (by decide)) (rI d_M_plainOf_19 rfl))) d_M_plainOf_20 rfl (by decide)) d_M_plainOf_21 (by decide)) s0) (sRz (xTb (xNot (xJ2 (tgt := 37) j_eq (xV lv_M_322 (xA (rAi (rAr rA0 (rAn 0 d_M_plainOf_24 rfl)) (rIn 1 d_M_plainOf_25 rfl))) (by decide) d_M_plainOf_26) (xE (rIn 2 d_M_plainOf_29 rfl)) d_M_plainOf_30 (by decide))) (rGoE (p2 := 38) (rI d_M_plainOf_33 rfl) d_M_plainOf_34 (by decide)) (rI d_M_plainOf_37 rfl)) d_M_plainOf_38 rfl))))
theorem m_M_testOf : Cond.instanceMethod y_M_testOf.1 ∈ zTb ∧ Cond.selects y_M_testOf.1.cls y_M_testOf.1 y_M_testOf.1 ∈ zTb ∧ Cond.initialized y_M_testOf.1.cls ∈ zTb ∧ Cond.code y_M_testOf.1 y_M_testOf.2.1 y_M_testOf.2.2.1 y_M_testOf.2.2.2 ∈ zTb ∧ (y_M_testOf.1.cls ≠ "java/lang/invoke/MethodHandle" ∧ y_M_testOf.1.cls ≠ "java/lang/invoke/VarHandle" ∧ (parseMethodDescriptor y_M_testOf.1.desc).map (fun d => d.parameters.length) = some 1) ∧ y_M_testOf.2.2.1 ≤ 20 :=
  ⟨(zTb_in 1646 (by decide +kernel) (by decide +kernel)), (List.mem_filter.mpr ⟨List.mem_append_left _ (by decide +kernel), by decide +kernel⟩), (zTb_in 151 (by decide +kernel) (by decide +kernel)), (zTb_in 1647 (by decide +kernel) (by decide +kernel)), by decide +kernel, by decide +kernel⟩
theorem lv_M_325 : zLv "DebtDoorsModel" 325 y_M_testOf 1 12 := ⟨⟨(zTb_in 1644 (by decide +kernel) (by decide +kernel)), m_M_testOf.1, m_M_testOf.2.1, m_M_testOf.2.2⟩, _, rfl, rfl⟩
theorem d_M_positiveOf_0 : decode prog_14_method_72_code 0 = .ok (.aload_n 0, 1) := by decide +kernel
theorem d_M_positiveOf_1 : decode prog_14_method_72_code 1 = .ok (.bipush 40, 2) := by decide +kernel
theorem d_M_positiveOf_3 : decode prog_14_method_72_code 3 = .ok (.invokestatic 249, 3) := by decide +kernel
theorem d_M_positiveOf_6 : decode prog_14_method_72_code 6 = .ok (.invokevirtual 304, 3) := by decide +kernel
theorem d_M_positiveOf_9 : decode prog_14_method_72_code 9 = .ok (.ifCond .eq 21, 3) := by decide +kernel
theorem d_M_positiveOf_12 : decode prog_14_method_72_code 12 = .ok (.aload_n 0, 1) := by decide +kernel
theorem d_M_positiveOf_13 : decode prog_14_method_72_code 13 = .ok (.iload_n 1, 1) := by decide +kernel
theorem d_M_positiveOf_14 : decode prog_14_method_72_code 14 = .ok (.invokevirtual 325, 3) := by decide +kernel
theorem d_M_positiveOf_17 : decode prog_14_method_72_code 17 = .ok (.istore_n 2, 1) := by decide +kernel
theorem d_M_positiveOf_18 : decode prog_14_method_72_code 18 = .ok (.aload_n 0, 1) := by decide +kernel
theorem d_M_positiveOf_19 : decode prog_14_method_72_code 19 = .ok (.dup, 1) := by decide +kernel
theorem d_M_positiveOf_20 : decode prog_14_method_72_code 20 = .ok (.getfield 280, 3) := by decide +kernel
theorem d_M_positiveOf_23 : decode prog_14_method_72_code 23 = .ok (.iconst 1, 1) := by decide +kernel
theorem d_M_positiveOf_24 : decode prog_14_method_72_code 24 = .ok (.iadd, 1) := by decide +kernel
theorem d_M_positiveOf_25 : decode prog_14_method_72_code 25 = .ok (.putfield 280, 3) := by decide +kernel
theorem d_M_positiveOf_28 : decode prog_14_method_72_code 28 = .ok (.iload_n 2, 1) := by decide +kernel
theorem d_M_positiveOf_29 : decode prog_14_method_72_code 29 = .ok (.ireturn, 1) := by decide +kernel
theorem d_M_positiveOf_30 : decode prog_14_method_72_code 30 = .ok (.aload_n 0, 1) := by decide +kernel
theorem d_M_positiveOf_31 : decode prog_14_method_72_code 31 = .ok (.iload_n 1, 1) := by decide +kernel
theorem d_M_positiveOf_32 : decode prog_14_method_72_code 32 = .ok (.invokevirtual 307, 3) := by decide +kernel
theorem d_M_positiveOf_35 : decode prog_14_method_72_code 35 = .ok (.lstore_n 2, 1) := by decide +kernel
theorem d_M_positiveOf_36 : decode prog_14_method_72_code 36 = .ok (.aload_n 0, 1) := by decide +kernel
theorem d_M_positiveOf_37 : decode prog_14_method_72_code 37 = .ok (.aload_n 0, 1) := by decide +kernel
theorem d_M_positiveOf_38 : decode prog_14_method_72_code 38 = .ok (.getfield 280, 3) := by decide +kernel
theorem d_M_positiveOf_41 : decode prog_14_method_72_code 41 = .ok (.invokevirtual 283, 3) := by decide +kernel
theorem d_M_positiveOf_44 : decode prog_14_method_72_code 44 = .ok (.istore 4, 2) := by decide +kernel
theorem d_M_positiveOf_46 : decode prog_14_method_72_code 46 = .ok (.aload_n 0, 1) := by decide +kernel
theorem d_M_positiveOf_47 : decode prog_14_method_72_code 47 = .ok (.dup, 1) := by decide +kernel
theorem d_M_positiveOf_48 : decode prog_14_method_72_code 48 = .ok (.getfield 280, 3) := by decide +kernel
theorem d_M_positiveOf_51 : decode prog_14_method_72_code 51 = .ok (.iconst 1, 1) := by decide +kernel
theorem d_M_positiveOf_52 : decode prog_14_method_72_code 52 = .ok (.iadd, 1) := by decide +kernel
theorem d_M_positiveOf_53 : decode prog_14_method_72_code 53 = .ok (.putfield 280, 3) := by decide +kernel
theorem d_M_positiveOf_56 : decode prog_14_method_72_code 56 = .ok (.aload_n 0, 1) := by decide +kernel
theorem d_M_positiveOf_57 : decode prog_14_method_72_code 57 = .ok (.iload_n 1, 1) := by decide +kernel
theorem d_M_positiveOf_58 : decode prog_14_method_72_code 58 = .ok (.invokevirtual 307, 3) := by decide +kernel
theorem d_M_positiveOf_61 : decode prog_14_method_72_code 61 = .ok (.lstore 5, 2) := by decide +kernel
theorem d_M_positiveOf_63 : decode prog_14_method_72_code 63 = .ok (.iload_n 1, 1) := by decide +kernel
theorem d_M_positiveOf_64 : decode prog_14_method_72_code 64 = .ok (.ifCond .eq 61, 3) := by decide +kernel
theorem d_M_positiveOf_67 : decode prog_14_method_72_code 67 = .ok (.aload_n 0, 1) := by decide +kernel
theorem d_M_positiveOf_68 : decode prog_14_method_72_code 68 = .ok (.getfield 290, 3) := by decide +kernel
theorem d_M_positiveOf_71 : decode prog_14_method_72_code 71 = .ok (.ifCond .ne 54, 3) := by decide +kernel
theorem d_M_positiveOf_74 : decode prog_14_method_72_code 74 = .ok (.iload 4, 2) := by decide +kernel
theorem d_M_positiveOf_76 : decode prog_14_method_72_code 76 = .ok (.bipush 60, 2) := by decide +kernel
theorem d_M_positiveOf_78 : decode prog_14_method_72_code 78 = .ok (.invokestatic 249, 3) := by decide +kernel
theorem d_M_positiveOf_81 : decode prog_14_method_72_code 81 = .ok (.if_icmp .ne 13, 3) := by decide +kernel
theorem d_M_positiveOf_84 : decode prog_14_method_72_code 84 = .ok (.lload_n 2, 1) := by decide +kernel
theorem d_M_positiveOf_85 : decode prog_14_method_72_code 85 = .ok (.lload 5, 2) := by decide +kernel
theorem d_M_positiveOf_87 : decode prog_14_method_72_code 87 = .ok (.lcmp, 1) := by decide +kernel
theorem d_M_positiveOf_88 : decode prog_14_method_72_code 88 = .ok (.ifCond .ge 37, 3) := by decide +kernel
theorem d_M_positiveOf_91 : decode prog_14_method_72_code 91 = .ok (.goto 30, 3) := by decide +kernel
theorem d_M_positiveOf_94 : decode prog_14_method_72_code 94 = .ok (.iload 4, 2) := by decide +kernel
theorem d_M_positiveOf_96 : decode prog_14_method_72_code 96 = .ok (.bipush 62, 2) := by decide +kernel
theorem d_M_positiveOf_98 : decode prog_14_method_72_code 98 = .ok (.invokestatic 249, 3) := by decide +kernel
theorem d_M_positiveOf_101 : decode prog_14_method_72_code 101 = .ok (.if_icmp .ne 13, 3) := by decide +kernel
theorem d_M_positiveOf_104 : decode prog_14_method_72_code 104 = .ok (.lload_n 2, 1) := by decide +kernel
theorem d_M_positiveOf_105 : decode prog_14_method_72_code 105 = .ok (.lload 5, 2) := by decide +kernel
theorem d_M_positiveOf_107 : decode prog_14_method_72_code 107 = .ok (.lcmp, 1) := by decide +kernel
theorem d_M_positiveOf_108 : decode prog_14_method_72_code 108 = .ok (.ifCond .le 17, 3) := by decide +kernel
theorem d_M_positiveOf_111 : decode prog_14_method_72_code 111 = .ok (.goto 10, 3) := by decide +kernel
theorem d_M_positiveOf_114 : decode prog_14_method_72_code 114 = .ok (.lload_n 2, 1) := by decide +kernel
theorem d_M_positiveOf_115 : decode prog_14_method_72_code 115 = .ok (.lload 5, 2) := by decide +kernel
theorem d_M_positiveOf_117 : decode prog_14_method_72_code 117 = .ok (.lcmp, 1) := by decide +kernel
theorem d_M_positiveOf_118 : decode prog_14_method_72_code 118 = .ok (.ifCond .ne 7, 3) := by decide +kernel
theorem d_M_positiveOf_121 : decode prog_14_method_72_code 121 = .ok (.iconst 1, 1) := by decide +kernel
theorem d_M_positiveOf_122 : decode prog_14_method_72_code 122 = .ok (.goto 4, 3) := by decide +kernel
theorem d_M_positiveOf_125 : decode prog_14_method_72_code 125 = .ok (.iconst 0, 1) := by decide +kernel
theorem d_M_positiveOf_126 : decode prog_14_method_72_code 126 = .ok (.ireturn, 1) := by decide +kernel
def w_M_positiveOf {d : Nat} (hd : 2 ≤ d) := (show SS ("DebtDoorsModel", prog_14_method_72_code, 7) (some .boolean) d 0 0 0 0 _ from (sS (p1 := 30) (sIf (pn := 30) (tt := 12) (xNot (xJ1 (tgt := 30) k_eq (xV lv_M_304 (xA (rAi (rAr rA0 (rAn 0 d_M_positiveOf_0 rfl)) (rS p_M_sign (Nat.le_trans (Nat.le_of_ble_eq_true rfl) hd) ls_M_249 (rAi rA0 (rB d_M_positiveOf_1 rfl)) (by decide) d_M_positiveOf_3))) (by decide) d_M_positiveOf_6) d_M_positiveOf_9 (by decide))) (sS (p1 := 18) (sIn 2 (xV lv_M_325 (xA (rAi (rAr rA0 (rAn 0 d_M_positiveOf_12 rfl)) (rIn 1 d_M_positiveOf_13 rfl))) (by decide) d_M_positiveOf_14) d_M_positiveOf_17 rfl (by decide)) (sS (p1 := 28) (sPo 20 o_add fl_M_280 fp_12_20 nk_12_20 (rAn 0 d_M_positiveOf_18 rfl) d_M_positiveOf_19 d_M_positiveOf_20 (rI d_M_positiveOf_23 rfl) d_M_positiveOf_24 d_M_positiveOf_25 rfl) (sRz (xE (rIn 2 d_M_positiveOf_28 rfl)) d_M_positiveOf_29 rfl)))) (sS (p1 := 36) (sLn 2 (xVL lv_M_307 (xA (rAi (rAr rA0 (rAn 0 d_M_positiveOf_30 rfl)) (rIn 1 d_M_positiveOf_31 rfl))) (by decide) d_M_positiveOf_32) d_M_positiveOf_35 rfl (by decide)) (sS (p1 := 46) (sI (xE (rV p_M_codeAt (Nat.le_trans (Nat.le_of_ble_eq_true rfl) hd) lv_M_283 (rAi (rAr rA0 (rAn 0 d_M_positiveOf_36 rfl)) (rF 20 fl_M_280 nk_12_20 (rAn 0 d_M_positiveOf_37 rfl) d_M_positiveOf_38 rfl)) (by decide) d_M_positiveOf_41)) d_M_positiveOf_44 (by decide)) (sS (p1 := 56) (sPo 20 o_add fl_M_280 fp_12_20 nk_12_20 (rAn 0 d_M_positiveOf_46 rfl) d_M_positiveOf_47 d_M_positiveOf_48 (rI d_M_positiveOf_51 rfl) d_M_positiveOf_52 d_M_positiveOf_53 rfl) (sS (p1 := 63) (sL (xVL lv_M_307 (xA (rAi (rAr rA0 (rAn 0 d_M_positiveOf_56 rfl)) (rIn 1 d_M_positiveOf_57 rfl))) (by decide) d_M_positiveOf_58) d_M_positiveOf_61 (by decide)) (sRz (xE (rTb (rAnd (mm := 74) (rAnd (mm := 67) (rNot (rJ1 (tgt := 125) k_eq (rIn 1 d_M_positiveOf_63 rfl) d_M_positiveOf_64 (by decide))) (rNot (rJ1 (tgt := 125) k_ne (rF 22 fl_M_290 nk_12_22 (rAn 0 d_M_positiveOf_67 rfl) d_M_positiveOf_68 rfl) d_M_positiveOf_71 (by decide)))) (rTc (mm := 84) (p1 := 94) (rNot (rJ2 (tgt := 94) j_ne (rIl d_M_positiveOf_74) (rS p_M_sign (Nat.le_trans (Nat.le_of_ble_eq_true rfl) hd) ls_M_249 (rAi rA0 (rB d_M_positiveOf_76 rfl)) (by decide) d_M_positiveOf_78) d_M_positiveOf_81 (by decide))) (rGt (p2 := 121) (rNot (rJ1 (tgt := 125) k_ge (rCmp (rLn 2 d_M_positiveOf_84 rfl) (rLl d_M_positiveOf_85) d_M_positiveOf_87) d_M_positiveOf_88 (by decide))) d_M_positiveOf_91 (by decide)) (rTc (mm := 104) (p1 := 114) (rNot (rJ2 (tgt := 114) j_ne (rIl d_M_positiveOf_94) (rS p_M_sign (Nat.le_trans (Nat.le_of_ble_eq_true rfl) hd) ls_M_249 (rAi rA0 (rB d_M_positiveOf_96 rfl)) (by decide) d_M_positiveOf_98) d_M_positiveOf_101 (by decide))) (rGt (p2 := 121) (rNot (rJ1 (tgt := 125) k_le (rCmp (rLn 2 d_M_positiveOf_104 rfl) (rLl d_M_positiveOf_105) d_M_positiveOf_107) d_M_positiveOf_108 (by decide))) d_M_positiveOf_111 (by decide)) (rNot (rJ1 (tgt := 125) k_ne (rCmp (rLn 2 d_M_positiveOf_114 rfl) (rLl d_M_positiveOf_115) d_M_positiveOf_117) d_M_positiveOf_118 (by decide)))))) (rGoE (p2 := 126) (rI d_M_positiveOf_121 rfl) d_M_positiveOf_122 (by decide)) (rI d_M_positiveOf_125 rfl))) d_M_positiveOf_126 rfl)))))))
theorem q_M_passes0 (hd : 2 ≤ d) (hQ : okK Q) (h : Ev Q o b W μ) (hg : μ 355 20 = b + t) (ht : t ≤ 400) : zSp d 0 0 y_M_passes0 zT0 [vr 355, vi k] μ zT0 (fun r μ' => r = some (vi (zbp (Q.1 t = k))) ∧ (Q.1 t = k → μ' = zm μ 355 20 (b + t + 1)) ∧ (¬ Q.1 t = k → μ' = μ)) := by
  refine zSp.ss [vr 355, vi k, vx 0] rfl (w_M_passes0 (Nat.le_trans (by decide) hd)) rfl rfl ?_
  (try simp only [zit_e, Bool.and_eq_true, Bool.or_eq_true, Bool.not_eq_true', Bool.and_eq_false_iff, Bool.or_eq_false_iff, Bool.not_eq_false', zbe, zdt, zdf, zb2_p, zbp_0, zbp_1, zbp_inj, zbp_01, Bool.true_eq_false, Bool.false_eq_true, true_and, and_true, Decidable.not_not, Classical.not_not, implies_true, List.nil_append, List.cons_append, List.append_assoc, Option.some.injEq, Sum.inl.injEq, zSw_c, zSw_n]); (try simp only [zit_e, Bool.and_eq_true, Bool.or_eq_true, Bool.not_eq_true', Bool.and_eq_false_iff, Bool.or_eq_false_iff, Bool.not_eq_false', zbe, zdt, zdf, zb2_p, zbp_0, zbp_1, zbp_inj, zbp_01, Bool.true_eq_false, Bool.false_eq_true, true_and, and_true, Decidable.not_not, Classical.not_not, implies_true, List.nil_append, List.cons_append, List.append_assoc, Option.some.injEq, Sum.inl.injEq, zSw_c, zSw_n, zc_355, f_M_codeAt, g_M_codeAt]); (try simp only [zi_cs, zi_c0, zii_cs, zii_c0, zl_cs, zl_c0, zll_cs, zll_c0, zr_cs, zr_c0, zrr_cs, zrr_c0, zxs_cs, zxs_c0, zxx_cs, zxx_c0, zfree_c0, zfree_c1, zfree_cs, zfree_cz, zlong_i, zlong_r, zlong_x, zset_0, zset_s, true_and, and_true, Option.some.injEq, Sum.inl.injEq, Sum.inr.injEq, zb2_p, zbp_0, zbp_1, zbp_inj, zbp_01, Nat.zero_add, Nat.reduceAdd, implies_true, List.nil_append, List.cons_append, List.append_assoc, Int.not_lt, Int.not_le, Decidable.not_not, Int.zero_add, Int.reduceLE, Int.reduceLT, Int.reduceEq, Int.reduceNe, Int.reduceAdd, Int.reduceSub, Int.reduceMul, Int.reduceNeg, Int.reduceToNat, Nat.reduceMul, Nat.reduceLT, Nat.reduceEqDiff, and_self, ite_true, ite_false, zx1, zx2, zRecv, List.length_cons, List.length_nil, ne_eq, not_true_eq_false, not_false_eq_true, true_or, or_true, or_false, false_or, and_false, false_and, zf01, zf10, reduceCtorEq, zSw_c, zSw_n, zm_r, zit_T, zit_F, false_implies, true_implies, zc_355, f_M_codeAt, g_M_codeAt])
  have hc := Ev_code hQ h hg
  rw [hc.2]
  refine ⟨hc.1, ?_⟩
  have hb := h.1.2.2
  refine zif (fun c => ?_) (fun c => ?_)
  · exact ⟨zI_s (by omega) (by omega), Or.inr c, Iff.rfl, fun _ => by rw [hg], fun q => absurd c q⟩
  · exact ⟨Or.inl c, Iff.rfl, fun q => absurd q c⟩
theorem zcmp_p {a b : Int} : (0 < zcmp a b ↔ b < a) ∧ (zcmp a b < 0 ↔ a < b) ∧ (zcmp a b = 0 ↔ a = b) := by
  unfold zcmp
  repeat' split
  all_goals omega
theorem q_M_bounded {v live : Int} (hd : 1 ≤ d) (hl : live = 0 ∨ live = 1) (hb : μ 355 22 = 0 ∨ μ 355 22 = 1) : zSp d 0 0 y_M_bounded zT0 [vr 355, vl v, vi live] μ zT0 (fun r μ' => ∃ br' : Int, br' = (if live = 1 ∧ (1000000000 < v ∨ v < -1000000000) then 1 else μ 355 22) ∧ r = some (vl (if br' = 1 then 0 else v)) ∧ μ' 355 22 = br' ∧ μ' 355 20 = μ 355 20 ∧ FE μ μ') := by
  refine zSp.ss [vr 355, vl v, vx 0, vi live] rfl (w_M_bounded (Nat.le_trans (by decide) hd)) rfl rfl ?_
  (try simp only [zit_e, Bool.and_eq_true, Bool.or_eq_true, Bool.not_eq_true', Bool.and_eq_false_iff, Bool.or_eq_false_iff, Bool.not_eq_false', zbe, zdt, zdf, zb2_p, zbp_0, zbp_1, zbp_inj, zbp_01, Bool.true_eq_false, Bool.false_eq_true, true_and, and_true, Decidable.not_not, Classical.not_not, implies_true, List.nil_append, List.cons_append, List.append_assoc, Option.some.injEq, Sum.inl.injEq, zSw_c, zSw_n]); (try simp only [zit_e, Bool.and_eq_true, Bool.or_eq_true, Bool.not_eq_true', Bool.and_eq_false_iff, Bool.or_eq_false_iff, Bool.not_eq_false', zbe, zdt, zdf, zb2_p, zbp_0, zbp_1, zbp_inj, zbp_01, Bool.true_eq_false, Bool.false_eq_true, true_and, and_true, Decidable.not_not, Classical.not_not, implies_true, List.nil_append, List.cons_append, List.append_assoc, Option.some.injEq, Sum.inl.injEq, zSw_c, zSw_n, zc_355, f_M_codeAt, g_M_codeAt]); (try simp only [zi_cs, zi_c0, zii_cs, zii_c0, zl_cs, zl_c0, zll_cs, zll_c0, zr_cs, zr_c0, zrr_cs, zrr_c0, zxs_cs, zxs_c0, zxx_cs, zxx_c0, zfree_c0, zfree_c1, zfree_cs, zfree_cz, zlong_i, zlong_r, zlong_x, zset_0, zset_s, true_and, and_true, Option.some.injEq, Sum.inl.injEq, Sum.inr.injEq, zb2_p, zbp_0, zbp_1, zbp_inj, zbp_01, Nat.zero_add, Nat.reduceAdd, implies_true, List.nil_append, List.cons_append, List.append_assoc, Int.not_lt, Int.not_le, Decidable.not_not, Int.zero_add, Int.reduceLE, Int.reduceLT, Int.reduceEq, Int.reduceNe, Int.reduceAdd, Int.reduceSub, Int.reduceMul, Int.reduceNeg, Int.reduceToNat, Nat.reduceMul, Nat.reduceLT, Nat.reduceEqDiff, and_self, ite_true, ite_false, zx1, zx2, zRecv, List.length_cons, List.length_nil, ne_eq, not_true_eq_false, not_false_eq_true, true_or, or_true, or_false, false_or, and_false, false_and, zf01, zf10, reduceCtorEq, zSw_c, zSw_n, zm_r, zit_T, zit_F, false_implies, true_implies, zc_355, f_M_codeAt, g_M_codeAt])
  have z1 := (zcmp_p (a := v) (b := 1000000000)).1
  have z2 := (zcmp_p (a := v) (b := -1000000000)).2.1
  refine zif (fun c => ?_) (fun c => ?_)
  · refine ⟨1, ?_, ?_, rfl, FE_zm (Or.inr rfl)⟩
    · rw [zit_t (by omega)]
    · rw [zit_t rfl]
  · refine ⟨μ 355 22, ?_, ?_, rfl, FE.rf⟩
    · rw [zit_f (by omega)]
    · unfold zit
      repeat' split
      all_goals omega
end ZEV


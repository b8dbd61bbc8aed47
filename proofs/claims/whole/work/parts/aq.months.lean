/-! lending, paying, by the town -/
theorem q_C_lendOut {d : Nat} (hd : 3 ≤ d) {μ : zMem} {Z : Zt} {F : Option (List Cls)} {A : Lg} {w : Int → Int} {g t m : Int} (h : CTx μ Z F A w) : zSp d 0 0 y_D_lendOut zT0 [vr 1, vi g, vi t, vi m] μ zT0 (fun q μ' => q = some (vi (lendA Z A g t m)) ∧ (lendA Z A g t m < 0 → μ' = μ) ∧ (0 ≤ lendA Z A g t m → lendA Z A g t m = m ∧ CTx μ' Z F (ldA A g t m) w ∧ zfc [2, 3, 4, 5, 6, 7] μ μ')) := by
  obtain ⟨n1, n2, n3, n4, n5, n6, n7⟩ := h.n
  obtain ⟨hp, hk⟩ := h.p
  have hz7 := h.1.1.2
  have hcl : lendA Z A g t m = lendC (μ 1 6) (μ 3) (μ 2 5) g t m := by
    unfold lendA
    rw [n2, n6]
    exact (lendC_c h.1.1.2 hp).symm
  refine (q_D_lendOut hd n1 hk n5).imp (fun q μ' e => ?_)
  rw [← hcl] at e
  obtain ⟨rfl, e1, e2⟩ := e
  refine ⟨rfl, e1, fun hc => ?_⟩
  obtain ⟨f1, f2, f3, f4, f5, f6⟩ := e2 hc
  have hg := lendC_0 hc
  refine ⟨f1, h.up (ldA_ok h.1 h.2.1 hc) (lgO_is ?_ ?_ ?_) (by omega) (fun c hc => f6 c (by simp only [List.mem_cons, List.not_mem_nil, or_false]; omega)) (by rw [f6 326 (by decide)]; exact h.2.2.2.2.2), f6⟩
  · rw [f2]
    refine mvP_e (p := μ 3) hp (by omega) (fun j _ _ => ?_)
    simp only [zm_r, zit_T]
  · rw [f3, n3, n4]
    rfl
  · rw [f5, n4]
    rfl
theorem payA_m {Z : Zt} {A : Lg} {a b m : Int} (h : 0 ≤ payA Z A a b m) : payA Z A a b m = muchC (puA A) A.2.1 a b m := (payC_0 h).2.2.2.2
theorem q_C_payBack {d : Nat} (hd : 5 ≤ d) {μ : zMem} {Z : Zt} {F : Option (List Cls)} {A : Lg} {w : Int → Int} {a b m : Int} (h : CTx μ Z F A w) : zSp d 0 0 y_D_payBack zT0 [vr 1, vi a, vi b, vi m] μ zT0 (fun q μ' => q = some (vi (payA Z A a b m)) ∧ (payA Z A a b m < 0 → μ' = μ) ∧ (0 ≤ payA Z A a b m → CTx μ' Z F (pdA A a b (payA Z A a b m)) w ∧ zfc [2, 3, 4, 5, 6, 7] μ μ')) := by
  obtain ⟨n1, n2, n3, n4, n5, n6, n7⟩ := h.n
  obtain ⟨hp, hk⟩ := h.p
  have hz7 := h.1.1.2
  have hcl : payA Z A a b m = payC (μ 1 6) (μ 3) (dbD μ) a b m := by
    unfold payA
    rw [n2, n3]
    exact (payC_c h.1.1.2 hp).1.symm
  have hmu : 0 ≤ payA Z A a b m → muchC (μ 3) (dbD μ) a b m = payA Z A a b m := fun q => by
    rw [payA_m q, n3]
    exact (payC_c (D := A.2.1) (m := m) hz7 hp).2 (payC_0 q).2.1
  refine (q_D_payBack hd n1 hk h.d.2.2.2.1).imp (fun q μ' e => ?_)
  rw [← hcl] at e
  obtain ⟨rfl, e1, e2⟩ := e
  refine ⟨rfl, e1, fun hc => ?_⟩
  obtain ⟨f1, f2, f3, f4, f5, f6, f7⟩ := e2 hc
  have hg := payC_0 hc
  rw [hmu hc] at f3 f4
  refine ⟨h.up (by rw [payA_m hc]; exact pdA_ok h.1 h.2.1 hc) (lgO_is ?_ ?_ ?_) f5.1 (fun c hc => f7 c (by simp only [List.mem_cons, List.not_mem_nil, or_false]; omega)) (by rw [f7 326 (by decide)]; exact h.2.2.2.2.2), f7⟩
  · rw [f3]
    refine mvP_e (p := μ 3) hp (by omega) (fun j _ _ => ?_)
    simp only [zm_r, zit_T]
  · rw [f4, n3]
    rfl
  · rw [f6, n4]
    rfl
theorem q_R_lends {d : Nat} (hd : 3 ≤ d) {μ : zMem} {Z : Zt} {F : Option (List Cls)} {A : Lg} {w : Int → Int} {g t m : Int} (h : MTx μ Z F A w) (hc : 0 ≤ lendA Z A g t m) : zSp d 0 0 y_M_lends zT0 [vr 355, vi g, vi t, vi m] μ zT0 (fun q μ' => q = none ∧ MTx μ' Z F (ldA A g t m) w ∧ (∀ i : Int, 73 ≤ i → μ' 357 i = μ 357 i) ∧ zfc [357] μ μ') := by
  obtain ⟨n1, n2, n3, n4, n5, n6, n7⟩ := h.n
  obtain ⟨hp, hk⟩ := h.p
  have hg := lendC_0 hc
  have hz7 := h.1.1.2
  have hpg := hk g (by omega) (by omega)
  have hpt := hk t (by omega) (by omega)
  have hgt : ∀ v : Int, zm μ 357 g v 357 t = μ 357 t := fun v => zm_o (by omega)
  refine (q_M_lends hd (g := g) (t := t) (m := m) (by omega) (by omega) (by omega) ⟨by ((try simp only [zI_e]); (first | done | omega | skip)), by rw [hgt]; ((try simp only [zI_e]); (first | done | omega | skip))⟩).imp (fun q μ' e => ?_)
  obtain ⟨rfl, e1, e2, e3, e4⟩ := e
  rw [hgt] at e3
  have e73 : ∀ i : Int, 73 ≤ i → μ' 357 i = μ 357 i := fun i hi => by
    rw [e3 i (by omega)]
    (repeat rw [zm_o (by omega)])
  refine ⟨rfl, h.up (ldA_ok h.1 h.2.1 hc) (lgM_is ?_ ?_ ?_) (by omega) e73, e73, e4⟩
  · refine mvP_e (p := μ 357) hp (by omega) (fun j _ _ => ?_)
    rw [e3 j (by omega)]
    simp only [zm_r, zit_T]
  · rw [e1, n3, n4]
    rfl
  · rw [e3 72 (by omega)]
    (repeat rw [zm_o (by omega)])
    exact n4
theorem q_R_repays {d : Nat} (hd : 4 ≤ d) {μ : zMem} {Z : Zt} {F : Option (List Cls)} {A : Lg} {w : Int → Int} {a b m x : Int} (h : MTx μ Z F A w) (hc : 0 ≤ payA Z A a b x) (hm : payA Z A a b x = m) : zSp d 0 0 y_M_repays zT0 [vr 355, vi a, vi b, vi m] μ zT0 (fun q μ' => q = none ∧ MTx μ' Z F (pdA A a b m) w ∧ (∀ i : Int, 73 ≤ i → μ' 357 i = μ 357 i) ∧ zfc [357] μ μ') := by
  obtain ⟨n1, n2, n3, n4, n5, n6, n7⟩ := h.n
  obtain ⟨hp, hk⟩ := h.p
  have hg := payC_0 hc
  have hz7 := h.1.1.2
  have hpa := hk a (by omega) (by omega)
  have hpb := hk b (by omega) (by omega)
  have hmm : m = muchC (puA A) A.2.1 a b x := by rw [← hm]; exact payA_m hc
  have hmb : 0 ≤ m ∧ m ≤ μ 357 a ∧ m ≤ 9999 - μ 357 b := by
    rw [hp a (by omega) (by omega), hp b (by omega) (by omega), hmm]
    have := hg.2.2.2.1
    unfold muchC at *
    omega
  refine (q_M_repays hd (a := a) (b := b) (m := m) h.d.2.2.2.1 (by omega) (by omega) (by omega) ⟨by ((try simp only [zI_e]); (first | done | omega | skip)), by rw [zit_f (by omega)]; ((try simp only [zI_e]); (first | done | omega | skip))⟩).imp (fun q μ' e => ?_)
  obtain ⟨rfl, e1, e2, e3, e4⟩ := e
  have e73 : ∀ i : Int, 73 ≤ i → μ' 357 i = μ 357 i := fun i hi => by
    rw [e3 i (by omega), zit_f (by omega), zit_f (by omega)]
  refine ⟨rfl, h.up (by rw [hmm]; exact pdA_ok h.1 h.2.1 hc) (lgM_is ?_ ?_ ?_) e2.1 e73, e73, e4⟩
  · refine mvP_e (p := μ 357) hp (by omega) (fun j _ _ => ?_)
    rw [e3 j (by omega), zit_f (show ¬ b = a by omega)]
  · rw [e1, n3]
    rfl
  · rw [e3 72 (by omega), zit_f (by omega), zit_f (by omega)]
    exact n4
/-! a month passes -/
def drS (s : Int) : Int := (1103 * s + 12345) % 1000003
def drK (s : Int) : Nat → Int
  | 0 => s
  | k + 1 => drS (drK s k)
theorem drS_in {s : Int} : 0 ≤ drS s ∧ drS s ≤ 1000002 := by unfold drS; omega
theorem fl_Mo_15 : zFl "DebtDoors$Month" 15 4 1 := ⟨_, rfl, by decide, (zTb_in 524 (by decide +kernel) (by decide +kernel)), rfl⟩
theorem fp_4_1 : zFp 4 1 0 := ⟨_, rfl, rfl, rfl, by decide⟩
theorem nk_4_1 : zNk 4 1 = some 0 := rfl
theorem kc_Mo_45 : Cond.constant "DebtDoors$Month" 45 (Int32.ofInt 1000003) ∈ zTb := (zTb_in 1278 (by decide +kernel) (by decide +kernel))
def y_Mo_draw : zMt := (⟨"DebtDoors$Month", "draw", "(I)I"⟩, prog_6_method_3_code, 2, some .int)
theorem d_Mo_draw_0 : decode prog_6_method_3_code 0 = .ok (.aload_n 0, 1) := by decide +kernel
theorem d_Mo_draw_1 : decode prog_6_method_3_code 1 = .ok (.aload_n 0, 1) := by decide +kernel
theorem d_Mo_draw_2 : decode prog_6_method_3_code 2 = .ok (.getfield 15, 3) := by decide +kernel
theorem d_Mo_draw_5 : decode prog_6_method_3_code 5 = .ok (.sipush 1103, 3) := by decide +kernel
theorem d_Mo_draw_8 : decode prog_6_method_3_code 8 = .ok (.imul, 1) := by decide +kernel
theorem d_Mo_draw_9 : decode prog_6_method_3_code 9 = .ok (.sipush 12345, 3) := by decide +kernel
theorem d_Mo_draw_12 : decode prog_6_method_3_code 12 = .ok (.iadd, 1) := by decide +kernel
theorem d_Mo_draw_13 : decode prog_6_method_3_code 13 = .ok (.ldc 45, 2) := by decide +kernel
theorem d_Mo_draw_15 : decode prog_6_method_3_code 15 = .ok (.irem, 1) := by decide +kernel
theorem d_Mo_draw_16 : decode prog_6_method_3_code 16 = .ok (.putfield 15, 3) := by decide +kernel
theorem d_Mo_draw_19 : decode prog_6_method_3_code 19 = .ok (.iload_n 1, 1) := by decide +kernel
theorem d_Mo_draw_20 : decode prog_6_method_3_code 20 = .ok (.ifCond .le 12, 3) := by decide +kernel
theorem d_Mo_draw_23 : decode prog_6_method_3_code 23 = .ok (.aload_n 0, 1) := by decide +kernel
theorem d_Mo_draw_24 : decode prog_6_method_3_code 24 = .ok (.getfield 15, 3) := by decide +kernel
theorem d_Mo_draw_27 : decode prog_6_method_3_code 27 = .ok (.iload_n 1, 1) := by decide +kernel
theorem d_Mo_draw_28 : decode prog_6_method_3_code 28 = .ok (.irem, 1) := by decide +kernel
theorem d_Mo_draw_29 : decode prog_6_method_3_code 29 = .ok (.goto 4, 3) := by decide +kernel
theorem d_Mo_draw_32 : decode prog_6_method_3_code 32 = .ok (.iconst 0, 1) := by decide +kernel
theorem d_Mo_draw_33 : decode prog_6_method_3_code 33 = .ok (.ireturn, 1) := by decide +kernel
def w_Mo_draw {d : Nat} (hd : 1 ≤ d) := (show SS ("DebtDoors$Month", prog_6_method_3_code, 2) (some .int) d 0 0 0 0 _ from (sS (p1 := 19) (sP 1 fl_Mo_15 fp_4_1 nk_4_1 (rAn 0 d_Mo_draw_0 rfl) (xE (r2 o_rem (r2 o_add (r2 o_mul (rF 1 fl_Mo_15 nk_4_1 (rAn 0 d_Mo_draw_1 rfl) d_Mo_draw_2 rfl) (rSi d_Mo_draw_5 rfl) d_Mo_draw_8) (rSi d_Mo_draw_9 rfl) d_Mo_draw_12) (rLd kc_Mo_45 d_Mo_draw_13 rfl) d_Mo_draw_15)) d_Mo_draw_16 rfl) (sRi (xE (rT2 (rNot (rJ1 (tgt := 32) k_le (rIn 1 d_Mo_draw_19 rfl) d_Mo_draw_20 (by decide))) (rGoE (p2 := 33) (r2 o_rem (rF 1 fl_Mo_15 nk_4_1 (rAn 0 d_Mo_draw_23 rfl) d_Mo_draw_24 rfl) (rIn 1 d_Mo_draw_27 rfl) d_Mo_draw_28) d_Mo_draw_29 (by decide)) (rI d_Mo_draw_32 rfl))) d_Mo_draw_33 rfl)))
theorem fl_M_507 : zFl "DebtDoorsModel" 507 12 60 := ⟨_, rfl, by decide, (zTb_in 1386 (by decide +kernel) (by decide +kernel)), rfl⟩
theorem fp_12_60 : zFp 12 60 0 := ⟨_, rfl, rfl, rfl, by decide⟩
theorem nk_12_60 : zNk 12 60 = some 0 := rfl
theorem kl_M_505 : Cond.constantLong "DebtDoorsModel" 505 (Int64.ofInt 1103) ∈ zTb := (zTb_in 2066 (by decide +kernel) (by decide +kernel))
theorem kl_M_510 : Cond.constantLong "DebtDoorsModel" 510 (Int64.ofInt 12345) ∈ zTb := (zTb_in 2067 (by decide +kernel) (by decide +kernel))
theorem kl_M_512 : Cond.constantLong "DebtDoorsModel" 512 (Int64.ofInt 1000003) ∈ zTb := (zTb_in 2068 (by decide +kernel) (by decide +kernel))
def y_M_draws : zMt := (⟨"DebtDoorsModel", "draws", "(I)I"⟩, prog_14_method_140_code, 2, some .int)
theorem d_M_draws_0 : decode prog_14_method_140_code 0 = .ok (.aload_n 0, 1) := by decide +kernel
theorem d_M_draws_1 : decode prog_14_method_140_code 1 = .ok (.ldc2_w 505, 3) := by decide +kernel
theorem d_M_draws_4 : decode prog_14_method_140_code 4 = .ok (.aload_n 0, 1) := by decide +kernel
theorem d_M_draws_5 : decode prog_14_method_140_code 5 = .ok (.getfield 507, 3) := by decide +kernel
theorem d_M_draws_8 : decode prog_14_method_140_code 8 = .ok (.i2l, 1) := by decide +kernel
theorem d_M_draws_9 : decode prog_14_method_140_code 9 = .ok (.lmul, 1) := by decide +kernel
theorem d_M_draws_10 : decode prog_14_method_140_code 10 = .ok (.ldc2_w 510, 3) := by decide +kernel
theorem d_M_draws_13 : decode prog_14_method_140_code 13 = .ok (.ladd, 1) := by decide +kernel
theorem d_M_draws_14 : decode prog_14_method_140_code 14 = .ok (.ldc2_w 512, 3) := by decide +kernel
theorem d_M_draws_17 : decode prog_14_method_140_code 17 = .ok (.lrem, 1) := by decide +kernel
theorem d_M_draws_18 : decode prog_14_method_140_code 18 = .ok (.l2i, 1) := by decide +kernel
theorem d_M_draws_19 : decode prog_14_method_140_code 19 = .ok (.putfield 507, 3) := by decide +kernel
theorem d_M_draws_22 : decode prog_14_method_140_code 22 = .ok (.aload_n 0, 1) := by decide +kernel
theorem d_M_draws_23 : decode prog_14_method_140_code 23 = .ok (.getfield 507, 3) := by decide +kernel
theorem d_M_draws_26 : decode prog_14_method_140_code 26 = .ok (.iload_n 1, 1) := by decide +kernel
theorem d_M_draws_27 : decode prog_14_method_140_code 27 = .ok (.irem, 1) := by decide +kernel
theorem d_M_draws_28 : decode prog_14_method_140_code 28 = .ok (.ireturn, 1) := by decide +kernel
def w_M_draws {d : Nat} (hd : 1 ≤ d) := (show SS ("DebtDoorsModel", prog_14_method_140_code, 2) (some .int) d 0 0 0 0 _ from (sS (p1 := 22) (sP 60 fl_M_507 fp_12_60 nk_12_60 (rAn 0 d_M_draws_0 rfl) (xE (rL2I (rl2 o_lrem (rl2 o_ladd (rl2 o_lmul (rL2 kl_M_505 d_M_draws_1 rfl) (rI2L (rF 60 fl_M_507 nk_12_60 (rAn 0 d_M_draws_4 rfl) d_M_draws_5 rfl) d_M_draws_8) d_M_draws_9) (rL2 kl_M_510 d_M_draws_10 rfl) d_M_draws_13) (rL2 kl_M_512 d_M_draws_14 rfl) d_M_draws_17) d_M_draws_18)) d_M_draws_19 rfl) (sRi (xE (r2 o_rem (rF 60 fl_M_507 nk_12_60 (rAn 0 d_M_draws_22 rfl) d_M_draws_23 rfl) (rIn 1 d_M_draws_26 rfl) d_M_draws_27)) d_M_draws_28 rfl)))
theorem m_Mo_draw : Cond.instanceMethod y_Mo_draw.1 ∈ zTb ∧ Cond.selects y_Mo_draw.1.cls y_Mo_draw.1 y_Mo_draw.1 ∈ zTb ∧ Cond.initialized y_Mo_draw.1.cls ∈ zTb ∧ Cond.code y_Mo_draw.1 y_Mo_draw.2.1 y_Mo_draw.2.2.1 y_Mo_draw.2.2.2 ∈ zTb ∧ (y_Mo_draw.1.cls ≠ "java/lang/invoke/MethodHandle" ∧ y_Mo_draw.1.cls ≠ "java/lang/invoke/VarHandle" ∧ (parseMethodDescriptor y_Mo_draw.1.desc).map (fun d => d.parameters.length) = some 1) ∧ y_Mo_draw.2.2.1 ≤ 20 :=
  ⟨(zTb_in 1276 (by decide +kernel) (by decide +kernel)), (List.mem_filter.mpr ⟨List.mem_append_left _ (by decide +kernel), by decide +kernel⟩), (zTb_in 150 (by decide +kernel) (by decide +kernel)), (zTb_in 1277 (by decide +kernel) (by decide +kernel)), by decide +kernel, by decide +kernel⟩
theorem lv_Mo_24 : zLv "DebtDoors$Month" 24 y_Mo_draw 1 4 := ⟨⟨(zTb_in 1274 (by decide +kernel) (by decide +kernel)), m_Mo_draw.1, m_Mo_draw.2.1, m_Mo_draw.2.2⟩, _, rfl, rfl⟩
theorem fl_Mo_19 : zFl "DebtDoors$Month" 19 9 6 := ⟨_, rfl, by decide, (zTb_in 247 (by decide +kernel) (by decide +kernel)), rfl⟩
theorem km_Mo_32 : Cond.methodLink "DebtDoors$Month" 32 Lib.Math.max.name ∈ zTb := (zTb_in 1280 (by decide +kernel) (by decide +kernel))
theorem ls_Mo_28 : zLs "DebtDoors$Month" 28 y_D_lendOut 4 := Or.inr ⟨⟨"DebtDoors", List.mem_of_getElem? (i := 1279) (by decide +kernel)⟩, m_D_lendOut⟩
theorem ls_Mo_38 : zLs "DebtDoors$Month" 38 y_D_payBack 4 := Or.inr ⟨⟨"DebtDoors", List.mem_of_getElem? (i := 1281) (by decide +kernel)⟩, m_D_payBack⟩
theorem ls_Mo_41 : zLs "DebtDoors$Month" 41 y_D_nextDay 2 := Or.inr ⟨⟨"DebtDoors", List.mem_of_getElem? (i := 1282) (by decide +kernel)⟩, m_D_nextDay⟩
def y_Mo_pass : zMt := (⟨"DebtDoors$Month", "pass", "(LDebtDoors$Town;LDebtDoors$Rules;II)I"⟩, prog_6_method_2_code, 12, some .int)
theorem d_Mo_pass_0 : decode prog_6_method_2_code 0 = .ok (.aload_n 0, 1) := by decide +kernel
theorem d_Mo_pass_1 : decode prog_6_method_2_code 1 = .ok (.iload_n 3, 1) := by decide +kernel
theorem d_Mo_pass_2 : decode prog_6_method_2_code 2 = .ok (.putfield 15, 3) := by decide +kernel
theorem d_Mo_pass_5 : decode prog_6_method_2_code 5 = .ok (.iconst 0, 1) := by decide +kernel
theorem d_Mo_pass_6 : decode prog_6_method_2_code 6 = .ok (.istore 5, 2) := by decide +kernel
theorem d_Mo_pass_8 : decode prog_6_method_2_code 8 = .ok (.iconst 0, 1) := by decide +kernel
theorem d_Mo_pass_9 : decode prog_6_method_2_code 9 = .ok (.istore 6, 2) := by decide +kernel
theorem d_Mo_pass_11 : decode prog_6_method_2_code 11 = .ok (.iload 6, 2) := by decide +kernel
theorem d_Mo_pass_13 : decode prog_6_method_2_code 13 = .ok (.iload 4, 2) := by decide +kernel
theorem d_Mo_pass_15 : decode prog_6_method_2_code 15 = .ok (.if_icmp .ge 101, 3) := by decide +kernel
theorem d_Mo_pass_18 : decode prog_6_method_2_code 18 = .ok (.aload_n 0, 1) := by decide +kernel
theorem d_Mo_pass_19 : decode prog_6_method_2_code 19 = .ok (.aload_n 1, 1) := by decide +kernel
theorem d_Mo_pass_20 : decode prog_6_method_2_code 20 = .ok (.getfield 19, 3) := by decide +kernel
theorem d_Mo_pass_23 : decode prog_6_method_2_code 23 = .ok (.invokevirtual 24, 3) := by decide +kernel
theorem d_Mo_pass_26 : decode prog_6_method_2_code 26 = .ok (.istore 7, 2) := by decide +kernel
theorem d_Mo_pass_28 : decode prog_6_method_2_code 28 = .ok (.aload_n 0, 1) := by decide +kernel
theorem d_Mo_pass_29 : decode prog_6_method_2_code 29 = .ok (.aload_n 1, 1) := by decide +kernel
theorem d_Mo_pass_30 : decode prog_6_method_2_code 30 = .ok (.getfield 19, 3) := by decide +kernel
theorem d_Mo_pass_33 : decode prog_6_method_2_code 33 = .ok (.invokevirtual 24, 3) := by decide +kernel
theorem d_Mo_pass_36 : decode prog_6_method_2_code 36 = .ok (.istore 8, 2) := by decide +kernel
theorem d_Mo_pass_38 : decode prog_6_method_2_code 38 = .ok (.aload_n 0, 1) := by decide +kernel
theorem d_Mo_pass_39 : decode prog_6_method_2_code 39 = .ok (.bipush 50, 2) := by decide +kernel
theorem d_Mo_pass_41 : decode prog_6_method_2_code 41 = .ok (.invokevirtual 24, 3) := by decide +kernel
theorem d_Mo_pass_44 : decode prog_6_method_2_code 44 = .ok (.iconst 1, 1) := by decide +kernel
theorem d_Mo_pass_45 : decode prog_6_method_2_code 45 = .ok (.iadd, 1) := by decide +kernel
theorem d_Mo_pass_46 : decode prog_6_method_2_code 46 = .ok (.istore 9, 2) := by decide +kernel
theorem d_Mo_pass_48 : decode prog_6_method_2_code 48 = .ok (.iload 5, 2) := by decide +kernel
theorem d_Mo_pass_50 : decode prog_6_method_2_code 50 = .ok (.iconst 0, 1) := by decide +kernel
theorem d_Mo_pass_51 : decode prog_6_method_2_code 51 = .ok (.aload_n 1, 1) := by decide +kernel
theorem d_Mo_pass_52 : decode prog_6_method_2_code 52 = .ok (.iload 7, 2) := by decide +kernel
theorem d_Mo_pass_54 : decode prog_6_method_2_code 54 = .ok (.iload 8, 2) := by decide +kernel
theorem d_Mo_pass_56 : decode prog_6_method_2_code 56 = .ok (.iload 9, 2) := by decide +kernel
theorem d_Mo_pass_58 : decode prog_6_method_2_code 58 = .ok (.invokestatic 28, 3) := by decide +kernel
theorem d_Mo_pass_61 : decode prog_6_method_2_code 61 = .ok (.invokestatic 32, 3) := by decide +kernel
theorem d_Mo_pass_64 : decode prog_6_method_2_code 64 = .ok (.iadd, 1) := by decide +kernel
theorem d_Mo_pass_65 : decode prog_6_method_2_code 65 = .ok (.istore 5, 2) := by decide +kernel
theorem d_Mo_pass_67 : decode prog_6_method_2_code 67 = .ok (.aload_n 0, 1) := by decide +kernel
theorem d_Mo_pass_68 : decode prog_6_method_2_code 68 = .ok (.aload_n 1, 1) := by decide +kernel
theorem d_Mo_pass_69 : decode prog_6_method_2_code 69 = .ok (.getfield 19, 3) := by decide +kernel
theorem d_Mo_pass_72 : decode prog_6_method_2_code 72 = .ok (.invokevirtual 24, 3) := by decide +kernel
theorem d_Mo_pass_75 : decode prog_6_method_2_code 75 = .ok (.istore 10, 2) := by decide +kernel
theorem d_Mo_pass_77 : decode prog_6_method_2_code 77 = .ok (.aload_n 0, 1) := by decide +kernel
theorem d_Mo_pass_78 : decode prog_6_method_2_code 78 = .ok (.aload_n 1, 1) := by decide +kernel
theorem d_Mo_pass_79 : decode prog_6_method_2_code 79 = .ok (.getfield 19, 3) := by decide +kernel
theorem d_Mo_pass_82 : decode prog_6_method_2_code 82 = .ok (.invokevirtual 24, 3) := by decide +kernel
theorem d_Mo_pass_85 : decode prog_6_method_2_code 85 = .ok (.istore 11, 2) := by decide +kernel
theorem d_Mo_pass_87 : decode prog_6_method_2_code 87 = .ok (.aload_n 1, 1) := by decide +kernel
theorem d_Mo_pass_88 : decode prog_6_method_2_code 88 = .ok (.iload 10, 2) := by decide +kernel
theorem d_Mo_pass_90 : decode prog_6_method_2_code 90 = .ok (.iload 11, 2) := by decide +kernel
theorem d_Mo_pass_92 : decode prog_6_method_2_code 92 = .ok (.sipush 9999, 3) := by decide +kernel
theorem d_Mo_pass_95 : decode prog_6_method_2_code 95 = .ok (.invokestatic 38, 3) := by decide +kernel
theorem d_Mo_pass_98 : decode prog_6_method_2_code 98 = .ok (.pop, 1) := by decide +kernel
theorem d_Mo_pass_99 : decode prog_6_method_2_code 99 = .ok (.aload_n 1, 1) := by decide +kernel
theorem d_Mo_pass_100 : decode prog_6_method_2_code 100 = .ok (.aload_n 2, 1) := by decide +kernel
theorem d_Mo_pass_101 : decode prog_6_method_2_code 101 = .ok (.invokestatic 41, 3) := by decide +kernel
theorem d_Mo_pass_104 : decode prog_6_method_2_code 104 = .ok (.ifCond .ge 6, 3) := by decide +kernel
theorem d_Mo_pass_107 : decode prog_6_method_2_code 107 = .ok (.goto 9, 3) := by decide +kernel
theorem d_Mo_pass_110 : decode prog_6_method_2_code 110 = .ok (.iinc 6 1, 3) := by decide +kernel
theorem d_Mo_pass_113 : decode prog_6_method_2_code 113 = .ok (.goto (-102), 3) := by decide +kernel
theorem d_Mo_pass_116 : decode prog_6_method_2_code 116 = .ok (.iload 5, 2) := by decide +kernel
theorem d_Mo_pass_118 : decode prog_6_method_2_code 118 = .ok (.ireturn, 1) := by decide +kernel
def w_Mo_pass {d : Nat} (hd : 3 ≤ d) := (show SS ("DebtDoors$Month", prog_6_method_2_code, 12) (some .int) d 0 0 0 0 _ from (sS (p1 := 5) (sP 1 fl_Mo_15 fp_4_1 nk_4_1 (rAn 0 d_Mo_pass_0 rfl) (xE (rIn 3 d_Mo_pass_1 rfl)) d_Mo_pass_2 rfl) (sS (p1 := 8) (sI (xE (rI d_Mo_pass_5 rfl)) d_Mo_pass_6 (by decide)) (sS (p1 := 116) (sS (p1 := 11) (sI (xE (rI d_Mo_pass_8 rfl)) d_Mo_pass_9 (by decide)) (sLp (ps := 110) (tt := 18) (pn := 116) (p1 := 0) (p2 := 0) (xC (rNot (rJ2 (tgt := 116) j_ge (rIl d_Mo_pass_11) (rIl d_Mo_pass_13) d_Mo_pass_15 (by decide)))) (sS (p1 := 28) (sI (xV lv_Mo_24 (xA (rAi (rAr rA0 (rAn 0 d_Mo_pass_18 rfl)) (rF 6 fl_Mo_19 nk_9_6 (rAn 1 d_Mo_pass_19 rfl) d_Mo_pass_20 rfl))) (by decide) d_Mo_pass_23) d_Mo_pass_26 (by decide)) (sS (p1 := 38) (sI (xV lv_Mo_24 (xA (rAi (rAr rA0 (rAn 0 d_Mo_pass_28 rfl)) (rF 6 fl_Mo_19 nk_9_6 (rAn 1 d_Mo_pass_29 rfl) d_Mo_pass_30 rfl))) (by decide) d_Mo_pass_33) d_Mo_pass_36 (by decide)) (sS (p1 := 48) (sI (xx2 o_add (xV lv_Mo_24 (xA (rAi (rAr rA0 (rAn 0 d_Mo_pass_38 rfl)) (rB d_Mo_pass_39 rfl))) (by decide) d_Mo_pass_41) (xE (rI d_Mo_pass_44 rfl)) d_Mo_pass_45) d_Mo_pass_46 (by decide)) (sS (p1 := 67) (sI (xx2 o_add (xE (rIl d_Mo_pass_48)) (xMax km_Mo_32 (xE (rI d_Mo_pass_50 rfl)) (xS ls_Mo_28 (xA (rAi (rAi (rAi (rAr rA0 (rAn 1 d_Mo_pass_51 rfl)) (rIl d_Mo_pass_52)) (rIl d_Mo_pass_54)) (rIl d_Mo_pass_56))) (by decide) d_Mo_pass_58) (by decide) (Nat.le_trans (Nat.le_of_ble_eq_true rfl) hd) d_Mo_pass_61) d_Mo_pass_64) d_Mo_pass_65 (by decide)) (sS (p1 := 77) (sI (xV lv_Mo_24 (xA (rAi (rAr rA0 (rAn 0 d_Mo_pass_67 rfl)) (rF 6 fl_Mo_19 nk_9_6 (rAn 1 d_Mo_pass_68 rfl) d_Mo_pass_69 rfl))) (by decide) d_Mo_pass_72) d_Mo_pass_75 (by decide)) (sS (p1 := 87) (sI (xV lv_Mo_24 (xA (rAi (rAr rA0 (rAn 0 d_Mo_pass_77 rfl)) (rF 6 fl_Mo_19 nk_9_6 (rAn 1 d_Mo_pass_78 rfl) d_Mo_pass_79 rfl))) (by decide) d_Mo_pass_82) d_Mo_pass_85 (by decide)) (sS (p1 := 99) (sVp (xS ls_Mo_38 (xA (rAi (rAi (rAi (rAr rA0 (rAn 1 d_Mo_pass_87 rfl)) (rIl d_Mo_pass_88)) (rIl d_Mo_pass_90)) (rSi d_Mo_pass_92 rfl))) (by decide) d_Mo_pass_95) d_Mo_pass_98) (sIf (pn := 110) (tt := 116) (xGt (p2 := 116) (xNot (xJ1 (tgt := 110) k_ge (xS ls_Mo_41 (xA (rAr (rAr rA0 (rAn 1 d_Mo_pass_99 rfl)) (rAn 2 d_Mo_pass_100 rfl))) (by decide) d_Mo_pass_101) d_Mo_pass_104 (by decide))) d_Mo_pass_107 (by decide)) sBr0)))))))) (sGo (pn := 11) (sInc d_Mo_pass_110 (by decide)) d_Mo_pass_113 (by decide)))) (sRi (xE (rIl d_Mo_pass_116)) d_Mo_pass_118 rfl)))))
theorem q_Mo_draw {d : Nat} (hd : 1 ≤ d) {μ : zMem} {m s : Int} (hs : μ 351 1 = s) (h : 0 ≤ s ∧ s ≤ 1000002) (hm : 1 ≤ m) : zSp d 0 0 y_Mo_draw zT0 [vr 351, vi m] μ zT0 (fun q μ' => q = some (vi (drS s % m)) ∧ μ' = zm μ 351 1 (drS s)) := by
  refine zSp.ss [vr 351, vi m] rfl (w_Mo_draw hd) rfl rfl ?_
  (try simp only [zit_e, Bool.and_eq_true, Bool.or_eq_true, Bool.not_eq_true', Bool.and_eq_false_iff, Bool.or_eq_false_iff, Bool.not_eq_false', zbe, zdt, zdf, zb2_p, zbp_0, zbp_1, zbp_inj, zbp_01, Bool.true_eq_false, Bool.false_eq_true, true_and, and_true, Decidable.not_not, Classical.not_not, implies_true, List.nil_append, List.cons_append, List.append_assoc, Option.some.injEq, Sum.inl.injEq, zSw_c, zSw_n]); (try simp only [zit_e, Bool.and_eq_true, Bool.or_eq_true, Bool.not_eq_true', Bool.and_eq_false_iff, Bool.or_eq_false_iff, Bool.not_eq_false', zbe, zdt, zdf, zb2_p, zbp_0, zbp_1, zbp_inj, zbp_01, Bool.true_eq_false, Bool.false_eq_true, true_and, and_true, Decidable.not_not, Classical.not_not, implies_true, List.nil_append, List.cons_append, List.append_assoc, Option.some.injEq, Sum.inl.injEq, zSw_c, zSw_n, zc_351]); (try simp only [zi_cs, zi_c0, zii_cs, zii_c0, zl_cs, zl_c0, zll_cs, zll_c0, zr_cs, zr_c0, zrr_cs, zrr_c0, zxs_cs, zxs_c0, zxx_cs, zxx_c0, zfree_c0, zfree_c1, zfree_cs, zfree_cz, zlong_i, zlong_r, zlong_x, zset_0, zset_s, true_and, and_true, Option.some.injEq, Sum.inl.injEq, Sum.inr.injEq, zb2_p, zbp_0, zbp_1, zbp_inj, zbp_01, Nat.zero_add, Nat.reduceAdd, implies_true, List.nil_append, List.cons_append, List.append_assoc, Int.not_lt, Int.not_le, Decidable.not_not, Int.zero_add, Int.reduceLE, Int.reduceLT, Int.reduceEq, Int.reduceNe, Int.reduceAdd, Int.reduceSub, Int.reduceMul, Int.reduceNeg, Int.reduceToNat, Nat.reduceMul, Nat.reduceLT, Nat.reduceEqDiff, and_self, ite_true, ite_false, zx1, zx2, zRecv, List.length_cons, List.length_nil, ne_eq, not_true_eq_false, not_false_eq_true, true_or, or_true, or_false, false_or, and_false, false_and, zf01, zf10, reduceCtorEq, zSw_c, zSw_n, zm_r, zit_T, zit_F, false_implies, true_implies, zc_351])
  rw [hs]
  have e1 : (s * 1103 + 12345).tmod 1000003 = drS s := by
    rw [Int.tmod_eq_emod_of_nonneg (by omega), Int.mul_comm]
    rfl
  have e2 : (drS s).tmod m = drS s % m := Int.tmod_eq_emod_of_nonneg drS_in.1
  rw [e1]
  have := drS_in (s := s)
  exact ⟨⟨by ((try simp only [zI_e]); (first | done | omega | skip)), by ((try simp only [zI_e]); (first | done | omega | skip))⟩, fun _ => by omega, by rw [zit_t (by omega), e2], rfl⟩
theorem q_M_draws {d : Nat} (hd : 1 ≤ d) {μ : zMem} {m s : Int} (hs : μ 355 60 = s) (h : 0 ≤ s ∧ s ≤ 1000002) (hm : 1 ≤ m) : zSp d 0 0 y_M_draws zT0 [vr 355, vi m] μ zT0 (fun q μ' => q = some (vi (drS s % m)) ∧ μ' = zm μ 355 60 (drS s)) := by
  refine zSp.ss [vr 355, vi m] rfl (w_M_draws hd) rfl rfl ?_
  (try simp only [zit_e, Bool.and_eq_true, Bool.or_eq_true, Bool.not_eq_true', Bool.and_eq_false_iff, Bool.or_eq_false_iff, Bool.not_eq_false', zbe, zdt, zdf, zb2_p, zbp_0, zbp_1, zbp_inj, zbp_01, Bool.true_eq_false, Bool.false_eq_true, true_and, and_true, Decidable.not_not, Classical.not_not, implies_true, List.nil_append, List.cons_append, List.append_assoc, Option.some.injEq, Sum.inl.injEq, zSw_c, zSw_n]); (try simp only [zit_e, Bool.and_eq_true, Bool.or_eq_true, Bool.not_eq_true', Bool.and_eq_false_iff, Bool.or_eq_false_iff, Bool.not_eq_false', zbe, zdt, zdf, zb2_p, zbp_0, zbp_1, zbp_inj, zbp_01, Bool.true_eq_false, Bool.false_eq_true, true_and, and_true, Decidable.not_not, Classical.not_not, implies_true, List.nil_append, List.cons_append, List.append_assoc, Option.some.injEq, Sum.inl.injEq, zSw_c, zSw_n, zc_355]); (try simp only [zi_cs, zi_c0, zii_cs, zii_c0, zl_cs, zl_c0, zll_cs, zll_c0, zr_cs, zr_c0, zrr_cs, zrr_c0, zxs_cs, zxs_c0, zxx_cs, zxx_c0, zfree_c0, zfree_c1, zfree_cs, zfree_cz, zlong_i, zlong_r, zlong_x, zset_0, zset_s, true_and, and_true, Option.some.injEq, Sum.inl.injEq, Sum.inr.injEq, zb2_p, zbp_0, zbp_1, zbp_inj, zbp_01, Nat.zero_add, Nat.reduceAdd, implies_true, List.nil_append, List.cons_append, List.append_assoc, Int.not_lt, Int.not_le, Decidable.not_not, Int.zero_add, Int.reduceLE, Int.reduceLT, Int.reduceEq, Int.reduceNe, Int.reduceAdd, Int.reduceSub, Int.reduceMul, Int.reduceNeg, Int.reduceToNat, Nat.reduceMul, Nat.reduceLT, Nat.reduceEqDiff, and_self, ite_true, ite_false, zx1, zx2, zRecv, List.length_cons, List.length_nil, ne_eq, not_true_eq_false, not_false_eq_true, true_or, or_true, or_false, false_or, and_false, false_and, zf01, zf10, reduceCtorEq, zSw_c, zSw_n, zm_r, zit_T, zit_F, false_implies, true_implies, zc_355])
  rw [hs]
  have e1 : (1103 * s + 12345).tmod 1000003 = drS s := Int.tmod_eq_emod_of_nonneg (by omega)
  have e2 : (drS s).tmod m = drS s % m := Int.tmod_eq_emod_of_nonneg drS_in.1
  rw [e1]
  have := drS_in (s := s)
  exact ⟨⟨⟨⟨by unfold zL; omega, by unfold zL; omega⟩, by unfold zL; omega⟩, by ((try simp only [zI_e]); (first | done | omega | skip))⟩, by omega, e2, rfl⟩
noncomputable def mnA (Z : Zt) (A : Lg) (g t m : Int) : Lg := if 0 ≤ lendA Z A g t m then ldA A g t m else A
noncomputable def mnP (Z : Zt) (A : Lg) (a b : Int) : Lg := if 0 ≤ payA Z A a b 9999 then pdA A a b (payA Z A a b 9999) else A
noncomputable def mnB (Z : Zt) (A : Lg) (s : Int) : Lg := mnP Z (mnA Z A (drK s 1 % Z.1) (drK s 2 % Z.1) (drK s 3 % 50 + 1)) (drK s 4 % Z.1) (drK s 5 % Z.1)
noncomputable def mnL (Z : Zt) (A : Lg) (s : Int) : Int := max 0 (lendA Z A (drK s 1 % Z.1) (drK s 2 % Z.1) (drK s 3 % 50 + 1))
noncomputable def mnW (Z : Zt) (F : Option (List Cls)) (w : Int → Int) (A : Lg) : Lg := if A.2.2 < 999 then (grw Z F w A A.2.1.length).1 else A
noncomputable def mnN (Z : Zt) (F : Option (List Cls)) (w : Int → Int) (A : Lg) (s : Int) : Nat → (Lg × Int × Int) × Bool
  | 0 => ((A, s, 0), true)
  | j + 1 => if (mnN Z F w A s j).2 = true then ((mnW Z F w (mnB Z (mnN Z F w A s j).1.1 (mnN Z F w A s j).1.2.1), drK (mnN Z F w A s j).1.2.1 5, (mnN Z F w A s j).1.2.2 + mnL Z (mnN Z F w A s j).1.1 (mnN Z F w A s j).1.2.1), decide ((mnB Z (mnN Z F w A s j).1.1 (mnN Z F w A s j).1.2.1).2.2 < 999)) else mnN Z F w A s j
theorem mnA_ok {Z : Zt} {A : Lg} {g t m : Int} (hZ : okZ Z) (hA : okA A) : okA (mnA Z A g t m) := by
  unfold mnA
  split
  · next c => exact ldA_ok hZ hA c
  · exact hA
theorem mnP_ok {Z : Zt} {A : Lg} {a b : Int} (hZ : okZ Z) (hA : okA A) : okA (mnP Z A a b) := by
  unfold mnP
  split
  · next c =>
    rw [payA_m c]
    exact pdA_ok hZ hA c
  · exact hA
theorem mnB_ok {Z : Zt} {A : Lg} {s : Int} (hZ : okZ Z) (hA : okA A) : okA (mnB Z A s) := mnP_ok hZ (mnA_ok hZ hA)
theorem mnW_ok {Z : Zt} {F : Option (List Cls)} {w : Int → Int} {A : Lg} (hA : okA A) : okA (mnW Z F w A) := by
  unfold mnW
  split
  · next c => exact (grw_ok hA c _ (Int.le_refl _)).1
  · exact hA
theorem mnL_in {Z : Zt} {A : Lg} {s : Int} : 0 ≤ mnL Z A s ∧ mnL Z A s ≤ 50 := by
  have h3 : 0 ≤ drK s 3 := drS_in.1
  unfold mnL
  by_cases c : 0 ≤ lendA Z A (drK s 1 % Z.1) (drK s 2 % Z.1) (drK s 3 % 50 + 1)
  · have := (lendC_0 c).2.2.2.2.2
    have e : lendA Z A (drK s 1 % Z.1) (drK s 2 % Z.1) (drK s 3 % 50 + 1) = drK s 3 % 50 + 1 := this
    omega
  · omega
theorem mnN_ok {Z : Zt} {F : Option (List Cls)} {w : Int → Int} {A : Lg} {s : Int} (hZ : okZ Z) (hA : okA A) (hs : 0 ≤ s ∧ s ≤ 1000002) : ∀ j : Nat, okA (mnN Z F w A s j).1.1 ∧ (0 ≤ (mnN Z F w A s j).1.2.1 ∧ (mnN Z F w A s j).1.2.1 ≤ 1000002) ∧ 0 ≤ (mnN Z F w A s j).1.2.2 ∧ (mnN Z F w A s j).1.2.2 ≤ 50 * j
  | 0 => ⟨hA, hs, Int.le_refl _, Int.le_refl _⟩
  | j + 1 => by
    obtain ⟨i1, i2, i3, i4⟩ := mnN_ok (F := F) (w := w) hZ hA hs j
    rw [mnN]
    split
    · have := mnL_in (Z := Z) (A := (mnN Z F w A s j).1.1) (s := (mnN Z F w A s j).1.2.1)
      refine ⟨mnW_ok (mnB_ok hZ i1), drS_in, ?_, ?_⟩
      · show 0 ≤ (mnN Z F w A s j).1.2.2 + mnL _ _ _
        omega
      · show (mnN Z F w A s j).1.2.2 + mnL _ _ _ ≤ _
        omega
    · exact ⟨i1, i2, i3, by omega⟩
theorem mnN_st {Z : Zt} {F : Option (List Cls)} {w : Int → Int} {A : Lg} {s : Int} {j : Nat} (h : ¬ (mnN Z F w A s j).2 = true) : ∀ i : Nat, mnN Z F w A s (j + i) = mnN Z F w A s j
  | 0 => rfl
  | i + 1 => by
    have ih := mnN_st h i
    show (if (mnN Z F w A s (j + i)).2 = true then _ else mnN Z F w A s (j + i)) = _
    rw [ih, if_neg h]
theorem dr_w {d : Nat} {μ : zMem} {Z : Zt} {F : Option (List Cls)} {A : Lg} {w : Int → Int} {m s : Int} {K : zRo} (hd : 2 ≤ d) (h : CTx μ Z F A w) (hs : μ 351 1 = s) (h1 : 0 ≤ s ∧ s ≤ 1000002) (hm : 1 ≤ m) (hk : ∀ μ', CTx μ' Z F A w → μ' 351 1 = drS s → (∀ j : Int, j ≠ 1 → μ' 351 j = μ 351 j) → zfc [351] μ μ' → K (some (vi (drS s % m))) μ') : zCw d y_Mo_draw [vr 351, vi m] μ K := by
  refine zCw.use (q_Mo_draw (d := 1) (by decide) hs h1 hm) hd (fun q μ' e => ?_)
  obtain ⟨rfl, rfl⟩ := e
  exact hk _ (h.k (fun c hc => zm_off _ (by omega)) (by rw [zm_off _ (by decide)]; exact h.2.2.2.2.2)) zm_s (fun j hj => zm_o (by omega)) (zfc.rf.zm (by decide))
theorem lo_w {d : Nat} {μ : zMem} {Z : Zt} {F : Option (List Cls)} {A : Lg} {w : Int → Int} {g t m : Int} {K : zRo} (hd : 4 ≤ d) (h : CTx μ Z F A w) (hk : ∀ μ', CTx μ' Z F (mnA Z A g t m) w → zfc [2, 3, 4, 5, 6, 7] μ μ' → K (some (vi (lendA Z A g t m))) μ') : zCw d y_D_lendOut [vr 1, vi g, vi t, vi m] μ K := by
  refine zCw.use (q_C_lendOut (d := 3) (by decide) h) hd (fun q μ' e => ?_)
  obtain ⟨rfl, e1, e2⟩ := e
  unfold mnA at hk
  by_cases c : 0 ≤ lendA Z A g t m
  · rw [if_pos c] at hk
    exact hk _ (e2 c).2.1 (e2 c).2.2
  · rw [if_neg c] at hk
    obtain rfl := e1 (by omega)
    exact hk _ h zfc.rf
theorem pk_w {d : Nat} {μ : zMem} {Z : Zt} {F : Option (List Cls)} {A : Lg} {w : Int → Int} {a b : Int} {K : zRo} (hd : 6 ≤ d) (h : CTx μ Z F A w) (hk : ∀ μ', CTx μ' Z F (mnP Z A a b) w → zfc [2, 3, 4, 5, 6, 7] μ μ' → K (some (vi (payA Z A a b 9999))) μ') : zCw d y_D_payBack [vr 1, vi a, vi b, vi 9999] μ K := by
  refine zCw.use (q_C_payBack (d := 5) (by decide) h) hd (fun q μ' e => ?_)
  obtain ⟨rfl, e1, e2⟩ := e
  unfold mnP at hk
  by_cases c : 0 ≤ payA Z A a b 9999
  · rw [if_pos c] at hk
    exact hk _ (e2 c).1 (e2 c).2
  · rw [if_neg c] at hk
    obtain rfl := e1 (by omega)
    exact hk _ h zfc.rf
theorem dr_b {m s : Int} (hm : 1 ≤ m) : 0 ≤ drS s % m ∧ drS s % m < m := ⟨Int.emod_nonneg _ (by omega), Int.emod_lt_of_pos _ (by omega)⟩
theorem q_Mo_pass {d : Nat} (hd : 10 ≤ d) {μ : zMem} {Z : Zt} {F : Option (List Cls)} {A : Lg} {w : Int → Int} {s : Int} {n : Nat} (h : CTx μ Z F A w) (hz : 1 ≤ Z.1) (hs : 0 ≤ s ∧ s ≤ 1000000) (hn : n ≤ 30) : zSp d 0 0 y_Mo_pass zT0 [vr 351, vr 1, vr 324, vi s, vi n] μ zT0 (fun q μ' => q = some (vi (mnN Z F w A s n).1.2.2) ∧ CTx μ' Z F (mnN Z F w A s n).1.1 w ∧ (∀ j : Int, j ≠ 1 → μ' 351 j = μ 351 j) ∧ zfc [2, 3, 4, 5, 6, 7, 325, 326, 327, 351] μ μ') := by
  have hz7 := h.1.1.2
  have hok := fun j => mnN_ok (F := F) (w := w) (s := s) h.1 h.2.1 (by omega) j
  refine zSp.ss [vr 351, vr 1, vr 324, vi s, vi n, vx 0, vx 0, vx 0, vx 0, vx 0, vx 0, vx 0] rfl (w_Mo_pass (Nat.le_trans (by decide) hd)) rfl rfl ?_
  (try simp only [zit_e, Bool.and_eq_true, Bool.or_eq_true, Bool.not_eq_true', Bool.and_eq_false_iff, Bool.or_eq_false_iff, Bool.not_eq_false', zbe, zdt, zdf, zb2_p, zbp_0, zbp_1, zbp_inj, zbp_01, Bool.true_eq_false, Bool.false_eq_true, true_and, and_true, Decidable.not_not, Classical.not_not, implies_true, List.nil_append, List.cons_append, List.append_assoc, Option.some.injEq, Sum.inl.injEq, zSw_c, zSw_n]); (try simp only [zit_e, Bool.and_eq_true, Bool.or_eq_true, Bool.not_eq_true', Bool.and_eq_false_iff, Bool.or_eq_false_iff, Bool.not_eq_false', zbe, zdt, zdf, zb2_p, zbp_0, zbp_1, zbp_inj, zbp_01, Bool.true_eq_false, Bool.false_eq_true, true_and, and_true, Decidable.not_not, Classical.not_not, implies_true, List.nil_append, List.cons_append, List.append_assoc, Option.some.injEq, Sum.inl.injEq, zSw_c, zSw_n, zc_351, zc_1, zc_324]); (try simp only [zi_cs, zi_c0, zii_cs, zii_c0, zl_cs, zl_c0, zll_cs, zll_c0, zr_cs, zr_c0, zrr_cs, zrr_c0, zxs_cs, zxs_c0, zxx_cs, zxx_c0, zfree_c0, zfree_c1, zfree_cs, zfree_cz, zlong_i, zlong_r, zlong_x, zset_0, zset_s, true_and, and_true, Option.some.injEq, Sum.inl.injEq, Sum.inr.injEq, zb2_p, zbp_0, zbp_1, zbp_inj, zbp_01, Nat.zero_add, Nat.reduceAdd, implies_true, List.nil_append, List.cons_append, List.append_assoc, Int.not_lt, Int.not_le, Decidable.not_not, Int.zero_add, Int.reduceLE, Int.reduceLT, Int.reduceEq, Int.reduceNe, Int.reduceAdd, Int.reduceSub, Int.reduceMul, Int.reduceNeg, Int.reduceToNat, Nat.reduceMul, Nat.reduceLT, Nat.reduceEqDiff, and_self, ite_true, ite_false, zx1, zx2, zRecv, List.length_cons, List.length_nil, ne_eq, not_true_eq_false, not_false_eq_true, true_or, or_true, or_false, false_or, and_false, false_and, zf01, zf10, reduceCtorEq, zSw_c, zSw_n, zm_r, zit_T, zit_F, false_implies, true_implies, zc_351, zc_1, zc_324])
  refine zLoop.up n (fun j ρ μ1 => ∃ x7 x8 x9 x10 x11 : zV, ρ = [vr 351, vr 1, vr 324, vi s, vi n, vi (mnN Z F w A s j).1.2.2, vi j, x7, x8, x9, x10, x11] ∧ CTx μ1 Z F (mnN Z F w A s j).1.1 w ∧ μ1 351 1 = (mnN Z F w A s j).1.2.1 ∧ (mnN Z F w A s j).2 = true ∧ (∀ j : Int, j ≠ 1 → μ1 351 j = μ 351 j) ∧ zfc [2, 3, 4, 5, 6, 7, 325, 326, 327, 351] μ μ1) ⟨_, _, _, _, _, rfl, h.k (fun c hc => zm_off _ (by omega)) (by rw [zm_off _ (by decide)]; exact h.2.2.2.2.2), zm_s, rfl, fun j hj => zm_o (by omega), zfc.rf.zm (by decide)⟩ ?_
  rintro j ρ μ1 hj ⟨x7, x8, x9, x10, x11, rfl, hC, e1, eg, e5, hf⟩
  (try simp only [zit_e, Bool.and_eq_true, Bool.or_eq_true, Bool.not_eq_true', Bool.and_eq_false_iff, Bool.or_eq_false_iff, Bool.not_eq_false', zbe, zdt, zdf, zb2_p, zbp_0, zbp_1, zbp_inj, zbp_01, Bool.true_eq_false, Bool.false_eq_true, true_and, and_true, Decidable.not_not, Classical.not_not, implies_true, List.nil_append, List.cons_append, List.append_assoc, Option.some.injEq, Sum.inl.injEq, zSw_c, zSw_n]); (try simp only [zit_e, Bool.and_eq_true, Bool.or_eq_true, Bool.not_eq_true', Bool.and_eq_false_iff, Bool.or_eq_false_iff, Bool.not_eq_false', zbe, zdt, zdf, zb2_p, zbp_0, zbp_1, zbp_inj, zbp_01, Bool.true_eq_false, Bool.false_eq_true, true_and, and_true, Decidable.not_not, Classical.not_not, implies_true, List.nil_append, List.cons_append, List.append_assoc, Option.some.injEq, Sum.inl.injEq, zSw_c, zSw_n, zc_351, zc_1, zc_324]); (try simp only [zi_cs, zi_c0, zii_cs, zii_c0, zl_cs, zl_c0, zll_cs, zll_c0, zr_cs, zr_c0, zrr_cs, zrr_c0, zxs_cs, zxs_c0, zxx_cs, zxx_c0, zfree_c0, zfree_c1, zfree_cs, zfree_cz, zlong_i, zlong_r, zlong_x, zset_0, zset_s, true_and, and_true, Option.some.injEq, Sum.inl.injEq, Sum.inr.injEq, zb2_p, zbp_0, zbp_1, zbp_inj, zbp_01, Nat.zero_add, Nat.reduceAdd, implies_true, List.nil_append, List.cons_append, List.append_assoc, Int.not_lt, Int.not_le, Decidable.not_not, Int.zero_add, Int.reduceLE, Int.reduceLT, Int.reduceEq, Int.reduceNe, Int.reduceAdd, Int.reduceSub, Int.reduceMul, Int.reduceNeg, Int.reduceToNat, Nat.reduceMul, Nat.reduceLT, Nat.reduceEqDiff, and_self, ite_true, ite_false, zx1, zx2, zRecv, List.length_cons, List.length_nil, ne_eq, not_true_eq_false, not_false_eq_true, true_or, or_true, or_false, false_or, and_false, false_and, zf01, zf10, reduceCtorEq, zSw_c, zSw_n, zm_r, zit_T, zit_F, false_implies, true_implies, zc_351, zc_1, zc_324])
  obtain ⟨k1, k2, k3, k4⟩ := hok j
  refine zif (fun c => ?_) (fun c => ?_)
  · have hnx : mnN Z F w A s (j + 1) = ((mnW Z F w (mnB Z (mnN Z F w A s j).1.1 (mnN Z F w A s j).1.2.1), drK (mnN Z F w A s j).1.2.1 5, (mnN Z F w A s j).1.2.2 + mnL Z (mnN Z F w A s j).1.1 (mnN Z F w A s j).1.2.1), decide ((mnB Z (mnN Z F w A s j).1.1 (mnN Z F w A s j).1.2.1).2.2 < 999)) := by
      rw [mnN, if_pos eg]
    have k5 := hok (j + 1)
    have hBok := mnB_ok (s := (mnN Z F w A s j).1.2.1) h.1 k1
    generalize hX : mnN Z F w A s j = X at *
    generalize hA0 : X.1.1 = A0 at *
    generalize hs0 : X.1.2.1 = s0 at *
    have n6 : ∀ {ν : zMem} {B : Lg}, CTx ν Z F B w → ν 1 6 = Z.1 := fun hh => hh.2.2.1.1
    have z3 : 0 ≤ drS (drS (drS s0)) % 50 ∧ drS (drS (drS s0)) % 50 < 50 := dr_b (by decide)
    rw [n6 hC]
    refine dr_w (by omega) hC e1 k2 hz (fun μ2 hC2 s2 f2 g2 => ⟨_, rfl, ?_⟩)
    rw [n6 hC2]
    refine dr_w (by omega) hC2 s2 drS_in hz (fun μ3 hC3 s3 f3 g3 => ⟨_, rfl, ?_⟩)
    refine dr_w (by omega) hC3 s3 drS_in (by decide) (fun μ4 hC4 s4 f4 g4 => ⟨_, rfl, by ((try simp only [zI_e]); (first | done | omega | skip)), ?_⟩)
    refine lo_w (by omega) hC4 (fun μ5 hC5 g5 => ⟨_, rfl, ?_⟩)
    have eL : max 0 (lendA Z A0 (drS s0 % Z.1) (drS (drS s0) % Z.1) (drS (drS (drS s0)) % 50 + 1)) = mnL Z A0 s0 := rfl
    have hL := mnL_in (Z := Z) (A := A0) (s := s0)
    rw [eL, n6 hC5]
    refine ⟨by ((try simp only [zI_e]); (first | done | omega | skip)), ?_⟩
    have s5 : μ5 351 1 = drS (drS (drS s0)) := by rw [g5 351 (by decide)]; exact s4
    refine dr_w (by omega) hC5 s5 drS_in hz (fun μ6 hC6 s6 f6 g6 => ⟨_, rfl, ?_⟩)
    rw [n6 hC6]
    refine dr_w (by omega) hC6 s6 drS_in hz (fun μ7 hC7 s7 f7 g7 => ⟨_, rfl, ?_⟩)
    refine pk_w (by omega) hC7 (fun μ8 hC8 g8 => ⟨_, rfl, ?_⟩)
    have hC8 : CTx μ8 Z F (mnB Z A0 s0) w := hC8
    have s8 : μ8 351 1 = drK s0 5 := by rw [g8 351 (by decide)]; exact s7
    have f8 : ∀ j : Int, j ≠ 1 → μ8 351 j = μ 351 j := fun j hj => by rw [g8 351 (by decide), f7 j hj, f6 j hj, g5 351 (by decide), f4 j hj, f3 j hj, f2 j hj, e5 j hj]
    have g9 : zfc [2, 3, 4, 5, 6, 7, 325, 326, 327, 351] μ μ8 := (((((((hf.tr g2).tr g3).tr g4).tr g5).tr g6).tr g7).tr g8).mo (by simp)
    clear hC2 hC3 hC4 hC5 hC6 hC7 s2 s3 s4 s5 s6 s7 f2 f3 f4 f6 f7 g2 g3 g4 g5 g6 g7 g8 e1 e5 hf hC
    by_cases cd : (mnB Z A0 s0).2.2 < 999
    · have hgr := grw_ok (Z := Z) (F := F) (w := w) hBok cd _ (Int.le_refl _)
      refine zCw.use (q_D_nextDay (d := 8) (by decide) hC8 cd) (by omega) (fun q μ9 e => ?_)
      obtain ⟨rfl, hC9, hf9⟩ := e
      refine ⟨_, rfl, ?_⟩
      rw [if_neg (by omega)]
      have eW : (grw Z F w (mnB Z A0 s0) (mnB Z A0 s0).2.1.length).1 = mnW Z F w (mnB Z A0 s0) := by
        unfold mnW
        rw [if_pos cd]
      refine ⟨by ((try simp only [zI_e]); (first | done | omega | skip)), n - (j + 1), by omega, j + 1, rfl, by omega, ?_⟩
      rw [hnx]
      refine ⟨_, _, _, _, _, rfl, by rw [← eW]; exact hC9, by rw [hf9 351 (by decide)]; exact s8, decide_eq_true cd, fun j hj => by rw [hf9 351 (by decide)]; exact f8 j hj, (g9.tr hf9).mo (by simp)⟩
    · refine zCw.use (q_D_nextDay0 (d := 8) (by decide) (by rw [hC8.n.2.2.2.1]; omega)) (by omega) (fun q μ9 e => ?_)
      obtain ⟨rfl, rfl⟩ := e
      refine ⟨_, rfl, ?_⟩
      rw [if_pos (by decide)]
      have est : mnN Z F w A s n = mnN Z F w A s (j + 1) := by
        have := mnN_st (Z := Z) (F := F) (w := w) (A := A) (s := s) (j := j + 1) (by rw [hnx]; simpa using cd) (n - (j + 1))
        rwa [show j + 1 + (n - (j + 1)) = n by omega] at this
      have eW : mnB Z A0 s0 = mnW Z F w (mnB Z A0 s0) := by
        unfold mnW
        rw [if_neg cd]
      rw [est, hnx]
      exact ⟨rfl, by rw [← eW]; exact hC8, f8, g9⟩
  · have : j = n := by omega
    subst this
    exact ⟨rfl, hC, e5, hf⟩



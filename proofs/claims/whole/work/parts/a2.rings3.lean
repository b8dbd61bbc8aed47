/-! rings: the class's search -/
theorem lw_all : (List.range 128).all (fun s => s == 0 || (s.testBit (lwN 7 s) && Nat.ble (lwN 7 s) 6 && (List.range (lwN 7 s)).all (fun i => !(s.testBit i)))) = true := by decide +kernel
theorem lw_1 {s : Nat} (h0 : 1 ≤ s) (h1 : s < 128) : s.testBit (lwN 7 s) = true ∧ lwN 7 s ≤ 6 ∧ ∀ i, i < lwN 7 s → s.testBit i = false := by
  have := List.all_eq_true.mp lw_all s (List.mem_range.mpr h1)
  rw [Bool.or_eq_true, beq_iff_eq, Bool.and_eq_true, Bool.and_eq_true, Nat.ble_eq] at this
  rcases this with this | ⟨⟨a, b⟩, c⟩
  · omega
  · refine ⟨a, b, fun i hi => ?_⟩
    have := List.all_eq_true.mp c i (List.mem_range.mpr hi)
    simpa using this
noncomputable def rgR (E : Nat → Nat → Prop) (s : Nat) : Option (List Nat) := (wk E (lwN 7 s) 6 (lwN 7 s) (s - 2 ^ lwN 7 s)).map (fun r => lwN 7 s :: r)
theorem pc_sub {s p : Nat} (hs : s < 128) (hp : p < 7) (h : s.testBit p = true) : pcN 8 (s - 2 ^ p) + 1 = pcN 8 s := by
  obtain ⟨s1, s2⟩ := sub_tb (c := s) (p := p) (by omega) (by omega) h
  have hnb : (s - 2 ^ p).testBit p = false := by rw [s2]; simp
  have b8 := (bit8 (c := s - 2 ^ p) (i := p) (Nat.lt_of_le_of_lt (Nat.sub_le _ _) (by omega)) (by omega) hnb).2.1
  rw [Nat.sub_add_cancel s1] at b8
  omega
theorem rg_p {E : Nat → Nat → Prop} {n s : Nat} (hn : n ≤ 7) (h0 : 1 ≤ s) (h1 : s < 2 ^ n) : (rgR E s = none → ∀ l, CP E n l → rgB l ≠ s) ∧ (∀ l, rgR E s = some l → 2 ≤ pcN 8 s → CP E n l ∧ rgB l = s ∧ ∀ l', CP E n l' → rgB l' = s → lx l l') := by
  have h27 : 2 ^ n ≤ 2 ^ 7 := Nat.pow_le_pow_right (by decide) hn
  have h27' : (2 : Nat) ^ 7 = 128 := by decide
  have hs : s < 128 := by omega
  obtain ⟨w1, w2, w3⟩ := lw_1 h0 hs
  unfold rgR
  generalize lwN 7 s = p0 at *
  obtain ⟨s1, s2⟩ := sub_tb (c := s) (p := p0) (by omega) (by omega) w1
  have hlt : s - 2 ^ p0 < 128 := Nat.lt_of_le_of_lt (Nat.sub_le _ _) hs
  have hpc7 := pc_le (n := 7) (c := s) (by decide) (by omega)
  have hps := pc_sub hs (by omega) w1
  have hwk := wk_p (E := E) (p0 := p0) 6 p0 (s - 2 ^ p0) hlt (by omega)
  have hX : ∀ l', CP E n l' → rgB l' = s → ∃ r, l' = p0 :: r ∧ XR E p0 p0 (s - 2 ^ p0) r := by
    rintro l' ⟨q0, r, rfl, g1, g2, g3⟩ hb
    have hq : 2 ^ q0 < 128 := by
      have : 2 ^ q0 ≤ 2 ^ 6 := Nat.pow_le_pow_right (by decide) (by omega)
      have h26 : (2 : Nat) ^ 6 = 64 := by decide
      omega
    obtain ⟨i1, i2, i3, -, -⟩ := ER_X hn hq g3
    have hb : 2 ^ q0 + rgB r = s := hb
    have hnq : (rgB r).testBit q0 = false := by
      cases z : (rgB r).testBit q0 with
      | false => rfl
      | true =>
        have := (i2 q0 z).1
        omega
    have htb := fun i => tb_or (c := rgB r) (p := q0) (i := i) (by omega) (by omega) hnq
    rw [Nat.add_comm, hb] at htb
    have e0 : q0 = p0 := by
      have hq0 : s.testBit q0 = true := by rw [htb]; simp
      have hle : p0 ≤ q0 := by
        rcases Nat.lt_or_ge q0 p0 with z | z
        · rw [w3 q0 z] at hq0
          cases hq0
        · exact z
      have := htb p0
      rw [w1] at this
      rcases Nat.lt_or_ge p0 q0 with z | z
      · rw [decide_eq_false (by omega), Bool.or_false] at this
        have := (i2 p0 this.symm).1
        omega
      · omega
    subst e0
    exact ⟨r, rfl, by rw [show s - 2 ^ q0 = rgB r by omega]; exact i1⟩
  refine ⟨fun h l hl hb => ?_, fun l h hp2 => ?_⟩
  · rw [Option.map_eq_none_iff] at h
    obtain ⟨r, rfl, hx⟩ := hX l hl hb
    exact hwk.1 h r hx
  · rw [Option.map_eq_some_iff] at h
    obtain ⟨r, r1, rfl⟩ := h
    obtain ⟨x1, x2⟩ := hwk.2 r r1
    have hbits : ∀ i, (s - 2 ^ p0).testBit i = true → p0 < i ∧ i < n ∧ (2 ^ p0).testBit i = false := by
      intro i hi
      rw [s2 i, Bool.and_eq_true, Bool.not_eq_true', decide_eq_false_iff_not] at hi
      refine ⟨?_, ?_, ?_⟩
      · rcases Nat.lt_trichotomy i p0 with z | z | z
        · rw [w3 i z] at hi
          cases hi.1
        · exact absurd z hi.2
        · exact z
      · rcases Nat.lt_or_ge i n with z | z
        · exact z
        · have := Nat.testBit_lt_two_pow (Nat.lt_of_lt_of_le h1 (Nat.pow_le_pow_right (by decide) z))
          rw [this] at hi
          cases hi.1
      · rw [Nat.testBit_two_pow]
        exact decide_eq_false (fun z => hi.2 z.symm)
    have hp128 : 2 ^ p0 < 128 := by omega
    obtain ⟨y1, y2⟩ := XR_E hn hlt hp128 hbits x1
    have hp0n : p0 < n := by
      rcases Nat.lt_or_ge p0 n with z | z
      · exact z
      · have := Nat.testBit_lt_two_pow (Nat.lt_of_lt_of_le h1 (Nat.pow_le_pow_right (by decide) z))
        rw [this] at w1
        cases w1
    refine ⟨⟨p0, r, rfl, fun z => ?_, hp0n, y1⟩, by show 2 ^ p0 + rgB r = s; rw [y2]; omega, fun l' hl' hb' => ?_⟩
    · subst z
      have hz : s - 2 ^ p0 = 0 := x1.1
      rw [hz, show pcN 8 0 = 0 by decide] at hps
      omega
    · obtain ⟨r', rfl, hx'⟩ := hX l' hl' hb'
      exact Or.inr ⟨rfl, x2 r' hx'⟩
theorem m_J_ntz : Cond.static y_J_ntz.1 ∈ zTb ∧ Cond.initialized y_J_ntz.1.cls ∈ zTb ∧ Cond.code y_J_ntz.1 y_J_ntz.2.1 y_J_ntz.2.2.1 y_J_ntz.2.2.2 ∈ zTb ∧ (y_J_ntz.1.cls ≠ "java/lang/invoke/MethodHandle" ∧ y_J_ntz.1.cls ≠ "java/lang/invoke/VarHandle" ∧ (parseMethodDescriptor y_J_ntz.1.desc).map (fun d => d.parameters.length) = some 1) ∧ y_J_ntz.2.2.1 ≤ 20 :=
  ⟨(zTb_in 1051 (by decide +kernel) (by decide +kernel)), (zTb_in 158 (by decide +kernel) (by decide +kernel)), (zTb_in 1052 (by decide +kernel) (by decide +kernel)), by decide +kernel, by decide +kernel⟩
theorem ls_Cl_58 : zLs "DebtDoors$Clearing" 58 y_J_ntz 1 := Or.inl ⟨(zTb_in 1050 (by decide +kernel) (by decide +kernel)), m_J_ntz⟩
def y_Cl_ringOf : zMt := (⟨"DebtDoors$Clearing", "ringOf", "(I)Z"⟩, prog_2_method_3_code, 2, some .boolean)
theorem d_Cl_ringOf_0 : decode prog_2_method_3_code 0 = .ok (.aload_n 0, 1) := by decide +kernel
theorem d_Cl_ringOf_1 : decode prog_2_method_3_code 1 = .ok (.getfield 21, 3) := by decide +kernel
theorem d_Cl_ringOf_4 : decode prog_2_method_3_code 4 = .ok (.iconst 0, 1) := by decide +kernel
theorem d_Cl_ringOf_5 : decode prog_2_method_3_code 5 = .ok (.iload_n 1, 1) := by decide +kernel
theorem d_Cl_ringOf_6 : decode prog_2_method_3_code 6 = .ok (.invokestatic 58, 3) := by decide +kernel
theorem d_Cl_ringOf_9 : decode prog_2_method_3_code 9 = .ok (.iastore, 1) := by decide +kernel
theorem d_Cl_ringOf_10 : decode prog_2_method_3_code 10 = .ok (.aload_n 0, 1) := by decide +kernel
theorem d_Cl_ringOf_11 : decode prog_2_method_3_code 11 = .ok (.iload_n 1, 1) := by decide +kernel
theorem d_Cl_ringOf_12 : decode prog_2_method_3_code 12 = .ok (.iconst 1, 1) := by decide +kernel
theorem d_Cl_ringOf_13 : decode prog_2_method_3_code 13 = .ok (.aload_n 0, 1) := by decide +kernel
theorem d_Cl_ringOf_14 : decode prog_2_method_3_code 14 = .ok (.getfield 21, 3) := by decide +kernel
theorem d_Cl_ringOf_17 : decode prog_2_method_3_code 17 = .ok (.iconst 0, 1) := by decide +kernel
theorem d_Cl_ringOf_18 : decode prog_2_method_3_code 18 = .ok (.iaload, 1) := by decide +kernel
theorem d_Cl_ringOf_19 : decode prog_2_method_3_code 19 = .ok (.ishl, 1) := by decide +kernel
theorem d_Cl_ringOf_20 : decode prog_2_method_3_code 20 = .ok (.iconst (-1), 1) := by decide +kernel
theorem d_Cl_ringOf_21 : decode prog_2_method_3_code 21 = .ok (.ixor, 1) := by decide +kernel
theorem d_Cl_ringOf_22 : decode prog_2_method_3_code 22 = .ok (.iand, 1) := by decide +kernel
theorem d_Cl_ringOf_23 : decode prog_2_method_3_code 23 = .ok (.iconst 1, 1) := by decide +kernel
theorem d_Cl_ringOf_24 : decode prog_2_method_3_code 24 = .ok (.invokevirtual 61, 3) := by decide +kernel
theorem d_Cl_ringOf_27 : decode prog_2_method_3_code 27 = .ok (.ireturn, 1) := by decide +kernel
def w_Cl_ringOf {d : Nat} (hd : 2 ≤ d) := (show SS ("DebtDoors$Clearing", prog_2_method_3_code, 2) (some .boolean) d 0 0 0 0 _ from (sS (p1 := 10) (sAs (rFr fl_Cl_21 nk_0_3 (rAn 0 d_Cl_ringOf_0 rfl) d_Cl_ringOf_1) (rI d_Cl_ringOf_4 rfl) (xE (rS p_J_ntz (Nat.le_trans (Nat.le_of_ble_eq_true rfl) hd) ls_Cl_58 (rAi rA0 (rIn 1 d_Cl_ringOf_5 rfl)) (by decide) d_Cl_ringOf_6)) d_Cl_ringOf_9) (sRz (xV lv_Cl_61 (xA (rAi (rAi (rAr rA0 (rAn 0 d_Cl_ringOf_10 rfl)) (r2 o_and (rIn 1 d_Cl_ringOf_11 rfl) (r2 o_xor (r2 o_shl (rI d_Cl_ringOf_12 rfl) (rIa (rFr fl_Cl_21 nk_0_3 (rAn 0 d_Cl_ringOf_13 rfl) d_Cl_ringOf_14) (rI d_Cl_ringOf_17 rfl) d_Cl_ringOf_18) d_Cl_ringOf_19) (rI d_Cl_ringOf_20 rfl) d_Cl_ringOf_21) d_Cl_ringOf_22)) (rI d_Cl_ringOf_23 rfl))) (by decide) d_Cl_ringOf_24) d_Cl_ringOf_27 rfl)))
theorem q_Cl_ringOf {E : Nat → Nat → Prop} {d : Nat} (hd : 10 ≤ d) {μ : zMem} {s : Nat} (hE : owC E μ) (h0 : 1 ≤ s) (h1 : s < 128) : zSp d 0 0 y_Cl_ringOf zT0 [vr 346, vi s] μ zT0 (fun q μ' => zfc [350] μ μ' ∧ (rgR E s = none → q = some (vi 0)) ∧ (∀ l, rgR E s = some l → q = some (vi 1) ∧ ∀ i : Nat, i < l.length → μ' 350 (i : Int) = ((l.getD i 0 : Nat) : Int))) := by
  obtain ⟨w1, w2, w3⟩ := lw_1 h0 h1
  refine zSp.ss [vr 346, vi s] rfl (w_Cl_ringOf (Nat.le_trans (by decide) hd)) rfl rfl ?_
  (try simp only [zit_e, Bool.and_eq_true, Bool.or_eq_true, Bool.not_eq_true', Bool.and_eq_false_iff, Bool.or_eq_false_iff, Bool.not_eq_false', zbe, zdt, zdf, zb2_p, zbp_0, zbp_1, zbp_inj, zbp_01, Bool.true_eq_false, Bool.false_eq_true, true_and, and_true, Decidable.not_not, Classical.not_not, implies_true, List.nil_append, List.cons_append, List.append_assoc, Option.some.injEq, Sum.inl.injEq, zSw_c, zSw_n]); (try simp only [zit_e, Bool.and_eq_true, Bool.or_eq_true, Bool.not_eq_true', Bool.and_eq_false_iff, Bool.or_eq_false_iff, Bool.not_eq_false', zbe, zdt, zdf, zb2_p, zbp_0, zbp_1, zbp_inj, zbp_01, Bool.true_eq_false, Bool.false_eq_true, true_and, and_true, Decidable.not_not, Classical.not_not, implies_true, List.nil_append, List.cons_append, List.append_assoc, Option.some.injEq, Sum.inl.injEq, zSw_c, zSw_n, zc_346, f_J_ntz, g_J_ntz]); (try simp only [zi_cs, zi_c0, zii_cs, zii_c0, zl_cs, zl_c0, zll_cs, zll_c0, zr_cs, zr_c0, zrr_cs, zrr_c0, zxs_cs, zxs_c0, zxx_cs, zxx_c0, zfree_c0, zfree_c1, zfree_cs, zfree_cz, zlong_i, zlong_r, zlong_x, zset_0, zset_s, true_and, and_true, Option.some.injEq, Sum.inl.injEq, Sum.inr.injEq, zb2_p, zbp_0, zbp_1, zbp_inj, zbp_01, Nat.zero_add, Nat.reduceAdd, implies_true, List.nil_append, List.cons_append, List.append_assoc, Int.not_lt, Int.not_le, Decidable.not_not, Int.zero_add, Int.reduceLE, Int.reduceLT, Int.reduceEq, Int.reduceNe, Int.reduceAdd, Int.reduceSub, Int.reduceMul, Int.reduceNeg, Int.reduceToNat, Nat.reduceMul, Nat.reduceLT, Nat.reduceEqDiff, and_self, ite_true, ite_false, zx1, zx2, zRecv, List.length_cons, List.length_nil, ne_eq, not_true_eq_false, not_false_eq_true, true_or, or_true, or_false, false_or, and_false, false_and, zf01, zf10, reduceCtorEq, zSw_c, zSw_n, zm_r, zit_T, zit_F, false_implies, true_implies, zc_346, f_J_ntz, g_J_ntz])
  rw [Int.toNat_natCast]
  unfold rgR
  generalize lwN 7 s = p0 at *
  obtain ⟨s1, s2⟩ := sub_tb (c := s) (p := p0) (by omega) (by omega) w1
  have hlt : s - 2 ^ p0 < 128 := Nat.lt_of_le_of_lt (Nat.sub_le _ _) h1
  have hz : zand (s : Int) (zxor (zshl 1 (p0 : Int)) (-1)) = ((s - 2 ^ p0 : Nat) : Int) := by
    rw [zandn (by omega) (by omega) (by omega) (by omega) (zbit_n.mpr w1), Int.toNat_natCast]
    omega
  rw [hz]
  have hE1 : owC E (zm μ 350 0 (p0 : Int)) := fun a ha => by
    rw [zm_off _ (by decide)]
    exact hE a ha
  have := q_Cl_walk (E := E) 6 (d := 9) (Nat.le_refl _) (μ := zm μ 350 0 (p0 : Int)) (p0 := p0) (last := p0) (left := s - 2 ^ p0) (place := 1) hE1 (by decide) (by decide) hlt (by omega) (by omega) zm_s zm_s
  refine ⟨by omega, ?_⟩
  refine zCw.use this (by omega) (fun q μ2 e => ?_)
  obtain ⟨f1, f2, f3, f4⟩ := e
  have hF : zfc [350] μ μ2 := (((zfc.rf (cs := [350])).zm (by decide)).tr f1).mo (by simp)
  rcases hwk : wk E p0 6 p0 (s - 2 ^ p0) with _ | r
  · have := f3 hwk
    subst this
    exact ⟨0, rfl, Or.inl rfl, hF, fun _ => rfl, fun l q => (by cases q)⟩
  · obtain ⟨rfl, f5⟩ := f4 r hwk
    refine ⟨1, rfl, Or.inr rfl, hF, fun q => (by cases q), fun l q => ?_⟩
    cases q
    refine ⟨rfl, fun i hi => ?_⟩
    cases i with
    | zero =>
      rw [f2 _ (by decide), Int.natCast_zero, zm_s]
      rfl
    | succ i =>
      rw [List.length_cons] at hi
      have := f5 i (by omega)
      rw [show ((i + 1 : Nat) : Int) = ((1 : Nat) : Int) + i by omega, this]
      rfl
/-- a ring as the class keeps it -/
def RgC (B : Option (List Nat)) (μ : zMem) : Prop := match B with
  | none => μ 346 4 = 0
  | some l => μ 346 4 = (l.length : Int) ∧ ∀ i : Nat, i < l.length → μ 350 (i : Int) = ((l.getD i 0 : Nat) : Int)
def eA (A : Lg) : Nat → Nat → Prop := fun a b => 0 < owL a b A.2.1
theorem CP_lt {E : Nat → Nat → Prop} {n : Nat} (hn : n ≤ 7) {l : List Nat} (h : CP E n l) : rgB l < 2 ^ n := by
  obtain ⟨p0, r, rfl, h1, h2, h3⟩ := h
  have hp : 2 ^ p0 < 128 := by
    have : 2 ^ p0 ≤ 2 ^ 6 := Nat.pow_le_pow_right (by decide) (by omega)
    have h26 : (2 : Nat) ^ 6 = 64 := by decide
    omega
  obtain ⟨-, i2, i3, -, -⟩ := ER_X hn hp h3
  have hnq : (rgB r).testBit p0 = false := by
    cases z : (rgB r).testBit p0 with
    | false => rfl
    | true =>
      have := (i2 p0 z).1
      omega
  refine Nat.lt_pow_two_of_testBit _ (fun i hi => ?_)
  show (2 ^ p0 + rgB r).testBit i = false
  rw [Nat.add_comm, tb_or (by omega) (by omega) hnq, decide_eq_false (by omega), Bool.or_false]
  cases z : (rgB r).testBit i with
  | false => rfl
  | true =>
    have := (i2 i z).2.1
    omega
theorem owL_ex {a b : Int} : ∀ {l : List D4}, (∀ x, x ∈ l → okd x) → (0 < owL a b l ↔ ∃ x, x ∈ l ∧ x.1 = a ∧ x.2.1 = b)
  | [], _ => ⟨fun q => absurd (show (0 : Int) < 0 from q) (by decide), fun ⟨x, hx, _⟩ => by cases hx⟩
  | (p, q, m, s) :: l, h => by
    have ih := owL_ex (a := a) (b := b) (l := l) (fun x hx => h x (List.mem_cons_of_mem _ hx))
    have h1 := owL_l (a := a) (b := b) (l := l) (fun x hx => h x (List.mem_cons_of_mem _ hx))
    have h2 := (h (p, q, m, s) List.mem_cons_self).2.2.2.1
    simp only at h2
    rw [owL]
    constructor
    · intro z
      by_cases c : p = a ∧ q = b
      · exact ⟨(p, q, m, s), List.mem_cons_self, c⟩
      · rw [if_neg c, Int.zero_add] at z
        obtain ⟨x, x1, x2⟩ := ih.mp z
        exact ⟨x, List.mem_cons_of_mem _ x1, x2⟩
    · rintro ⟨x, x1, x2⟩
      rcases List.mem_cons.mp x1 with rfl | x1
      · rw [if_pos x2]
        omega
      · have := ih.mpr ⟨x, x1, x2⟩
        split <;> omega
theorem pc16 {s : Nat} (h : s < 256) : onN (s : Int) 16 = (pcN 8 s : Int) := by
  rw [onN_p, show (16 : Nat) = 8 + 8 by decide, pcN_add, show s / 2 ^ 8 = 0 by omega]
  rfl
theorem fl_Cl_30 : zFl "DebtDoors$Clearing" 30 1 5 := ⟨_, rfl, by decide, (zTb_in 201 (by decide +kernel) (by decide +kernel)), rfl⟩
theorem fl_Cl_36 : zFl "DebtDoors$Clearing" 36 1 1 := ⟨_, rfl, by decide, (zTb_in 185 (by decide +kernel) (by decide +kernel)), rfl⟩
theorem fl_Cl_39 : zFl "DebtDoors$Clearing" 39 1 2 := ⟨_, rfl, by decide, (zTb_in 190 (by decide +kernel) (by decide +kernel)), rfl⟩
theorem fl_Cl_42 : zFl "DebtDoors$Clearing" 42 0 4 := ⟨_, rfl, by decide, (zTb_in 504 (by decide +kernel) (by decide +kernel)), rfl⟩
theorem fp_0_4 : zFp 0 4 0 := ⟨_, rfl, rfl, rfl, by decide⟩
theorem nk_0_4 : zNk 0 4 = some 0 := rfl
theorem ls_Cl_48 : zLs "DebtDoors$Clearing" 48 y_J_bitCount 1 := Or.inl ⟨(zTb_in 1040 (by decide +kernel) (by decide +kernel)), m_J_bitCount⟩
theorem m_Cl_ringOf : Cond.instanceMethod y_Cl_ringOf.1 ∈ zTb ∧ Cond.selects y_Cl_ringOf.1.cls y_Cl_ringOf.1 y_Cl_ringOf.1 ∈ zTb ∧ Cond.initialized y_Cl_ringOf.1.cls ∈ zTb ∧ Cond.code y_Cl_ringOf.1 y_Cl_ringOf.2.1 y_Cl_ringOf.2.2.1 y_Cl_ringOf.2.2.2 ∈ zTb ∧ (y_Cl_ringOf.1.cls ≠ "java/lang/invoke/MethodHandle" ∧ y_Cl_ringOf.1.cls ≠ "java/lang/invoke/VarHandle" ∧ (parseMethodDescriptor y_Cl_ringOf.1.desc).map (fun d => d.parameters.length) = some 1) ∧ y_Cl_ringOf.2.2.1 ≤ 20 :=
  ⟨(zTb_in 1048 (by decide +kernel) (by decide +kernel)), (List.mem_filter.mpr ⟨List.mem_append_left _ (by decide +kernel), by decide +kernel⟩), (zTb_in 149 (by decide +kernel) (by decide +kernel)), (zTb_in 1049 (by decide +kernel) (by decide +kernel)), by decide +kernel, by decide +kernel⟩
theorem lv_Cl_54 : zLv "DebtDoors$Clearing" 54 y_Cl_ringOf 1 0 := ⟨⟨(zTb_in 1046 (by decide +kernel) (by decide +kernel)), m_Cl_ringOf.1, m_Cl_ringOf.2.1, m_Cl_ringOf.2.2⟩, _, rfl, rfl⟩
def y_Cl_seek : zMt := (⟨"DebtDoors$Clearing", "seek", "(LDebtDoors$Town;)V"⟩, prog_2_method_2_code, 5, none)
theorem d_Cl_seek_0 : decode prog_2_method_2_code 0 = .ok (.aload_n 1, 1) := by decide +kernel
theorem d_Cl_seek_1 : decode prog_2_method_2_code 1 = .ok (.getfield 24, 3) := by decide +kernel
theorem d_Cl_seek_4 : decode prog_2_method_2_code 4 = .ok (.astore_n 2, 1) := by decide +kernel
theorem d_Cl_seek_5 : decode prog_2_method_2_code 5 = .ok (.iconst 0, 1) := by decide +kernel
theorem d_Cl_seek_6 : decode prog_2_method_2_code 6 = .ok (.istore_n 3, 1) := by decide +kernel
theorem d_Cl_seek_7 : decode prog_2_method_2_code 7 = .ok (.iload_n 3, 1) := by decide +kernel
theorem d_Cl_seek_8 : decode prog_2_method_2_code 8 = .ok (.bipush 7, 2) := by decide +kernel
theorem d_Cl_seek_10 : decode prog_2_method_2_code 10 = .ok (.if_icmp .ge 16, 3) := by decide +kernel
theorem d_Cl_seek_13 : decode prog_2_method_2_code 13 = .ok (.aload_n 0, 1) := by decide +kernel
theorem d_Cl_seek_14 : decode prog_2_method_2_code 14 = .ok (.getfield 9, 3) := by decide +kernel
theorem d_Cl_seek_17 : decode prog_2_method_2_code 17 = .ok (.iload_n 3, 1) := by decide +kernel
theorem d_Cl_seek_18 : decode prog_2_method_2_code 18 = .ok (.iconst 0, 1) := by decide +kernel
theorem d_Cl_seek_19 : decode prog_2_method_2_code 19 = .ok (.iastore, 1) := by decide +kernel
theorem d_Cl_seek_20 : decode prog_2_method_2_code 20 = .ok (.iinc 3 1, 3) := by decide +kernel
theorem d_Cl_seek_23 : decode prog_2_method_2_code 23 = .ok (.goto (-16), 3) := by decide +kernel
theorem d_Cl_seek_26 : decode prog_2_method_2_code 26 = .ok (.iconst 0, 1) := by decide +kernel
theorem d_Cl_seek_27 : decode prog_2_method_2_code 27 = .ok (.istore_n 3, 1) := by decide +kernel
theorem d_Cl_seek_28 : decode prog_2_method_2_code 28 = .ok (.iload_n 3, 1) := by decide +kernel
theorem d_Cl_seek_29 : decode prog_2_method_2_code 29 = .ok (.aload_n 2, 1) := by decide +kernel
theorem d_Cl_seek_30 : decode prog_2_method_2_code 30 = .ok (.getfield 30, 3) := by decide +kernel
theorem d_Cl_seek_33 : decode prog_2_method_2_code 33 = .ok (.if_icmp .ge 31, 3) := by decide +kernel
theorem d_Cl_seek_36 : decode prog_2_method_2_code 36 = .ok (.aload_n 0, 1) := by decide +kernel
theorem d_Cl_seek_37 : decode prog_2_method_2_code 37 = .ok (.getfield 9, 3) := by decide +kernel
theorem d_Cl_seek_40 : decode prog_2_method_2_code 40 = .ok (.aload_n 2, 1) := by decide +kernel
theorem d_Cl_seek_41 : decode prog_2_method_2_code 41 = .ok (.getfield 36, 3) := by decide +kernel
theorem d_Cl_seek_44 : decode prog_2_method_2_code 44 = .ok (.iload_n 3, 1) := by decide +kernel
theorem d_Cl_seek_45 : decode prog_2_method_2_code 45 = .ok (.iaload, 1) := by decide +kernel
theorem d_Cl_seek_46 : decode prog_2_method_2_code 46 = .ok (.dup2, 1) := by decide +kernel
theorem d_Cl_seek_47 : decode prog_2_method_2_code 47 = .ok (.iaload, 1) := by decide +kernel
theorem d_Cl_seek_48 : decode prog_2_method_2_code 48 = .ok (.iconst 1, 1) := by decide +kernel
theorem d_Cl_seek_49 : decode prog_2_method_2_code 49 = .ok (.aload_n 2, 1) := by decide +kernel
theorem d_Cl_seek_50 : decode prog_2_method_2_code 50 = .ok (.getfield 39, 3) := by decide +kernel
theorem d_Cl_seek_53 : decode prog_2_method_2_code 53 = .ok (.iload_n 3, 1) := by decide +kernel
theorem d_Cl_seek_54 : decode prog_2_method_2_code 54 = .ok (.iaload, 1) := by decide +kernel
theorem d_Cl_seek_55 : decode prog_2_method_2_code 55 = .ok (.ishl, 1) := by decide +kernel
theorem d_Cl_seek_56 : decode prog_2_method_2_code 56 = .ok (.ior, 1) := by decide +kernel
theorem d_Cl_seek_57 : decode prog_2_method_2_code 57 = .ok (.iastore, 1) := by decide +kernel
theorem d_Cl_seek_58 : decode prog_2_method_2_code 58 = .ok (.iinc 3 1, 3) := by decide +kernel
theorem d_Cl_seek_61 : decode prog_2_method_2_code 61 = .ok (.goto (-33), 3) := by decide +kernel
theorem d_Cl_seek_64 : decode prog_2_method_2_code 64 = .ok (.aload_n 0, 1) := by decide +kernel
theorem d_Cl_seek_65 : decode prog_2_method_2_code 65 = .ok (.iconst 0, 1) := by decide +kernel
theorem d_Cl_seek_66 : decode prog_2_method_2_code 66 = .ok (.putfield 42, 3) := by decide +kernel
theorem d_Cl_seek_69 : decode prog_2_method_2_code 69 = .ok (.iconst 2, 1) := by decide +kernel
theorem d_Cl_seek_70 : decode prog_2_method_2_code 70 = .ok (.istore_n 3, 1) := by decide +kernel
theorem d_Cl_seek_71 : decode prog_2_method_2_code 71 = .ok (.iload_n 3, 1) := by decide +kernel
theorem d_Cl_seek_72 : decode prog_2_method_2_code 72 = .ok (.aload_n 1, 1) := by decide +kernel
theorem d_Cl_seek_73 : decode prog_2_method_2_code 73 = .ok (.getfield 45, 3) := by decide +kernel
theorem d_Cl_seek_76 : decode prog_2_method_2_code 76 = .ok (.if_icmp .gt 53, 3) := by decide +kernel
theorem d_Cl_seek_79 : decode prog_2_method_2_code 79 = .ok (.iconst 0, 1) := by decide +kernel
theorem d_Cl_seek_80 : decode prog_2_method_2_code 80 = .ok (.istore 4, 2) := by decide +kernel
theorem d_Cl_seek_82 : decode prog_2_method_2_code 82 = .ok (.iload 4, 2) := by decide +kernel
theorem d_Cl_seek_84 : decode prog_2_method_2_code 84 = .ok (.iconst 1, 1) := by decide +kernel
theorem d_Cl_seek_85 : decode prog_2_method_2_code 85 = .ok (.aload_n 1, 1) := by decide +kernel
theorem d_Cl_seek_86 : decode prog_2_method_2_code 86 = .ok (.getfield 45, 3) := by decide +kernel
theorem d_Cl_seek_89 : decode prog_2_method_2_code 89 = .ok (.ishl, 1) := by decide +kernel
theorem d_Cl_seek_90 : decode prog_2_method_2_code 90 = .ok (.if_icmp .ge 33, 3) := by decide +kernel
theorem d_Cl_seek_93 : decode prog_2_method_2_code 93 = .ok (.iload 4, 2) := by decide +kernel
theorem d_Cl_seek_95 : decode prog_2_method_2_code 95 = .ok (.invokestatic 48, 3) := by decide +kernel
theorem d_Cl_seek_98 : decode prog_2_method_2_code 98 = .ok (.iload_n 3, 1) := by decide +kernel
theorem d_Cl_seek_99 : decode prog_2_method_2_code 99 = .ok (.if_icmp .ne 18, 3) := by decide +kernel
theorem d_Cl_seek_102 : decode prog_2_method_2_code 102 = .ok (.aload_n 0, 1) := by decide +kernel
theorem d_Cl_seek_103 : decode prog_2_method_2_code 103 = .ok (.iload 4, 2) := by decide +kernel
theorem d_Cl_seek_105 : decode prog_2_method_2_code 105 = .ok (.invokevirtual 54, 3) := by decide +kernel
theorem d_Cl_seek_108 : decode prog_2_method_2_code 108 = .ok (.ifCond .eq 9, 3) := by decide +kernel
theorem d_Cl_seek_111 : decode prog_2_method_2_code 111 = .ok (.aload_n 0, 1) := by decide +kernel
theorem d_Cl_seek_112 : decode prog_2_method_2_code 112 = .ok (.iload_n 3, 1) := by decide +kernel
theorem d_Cl_seek_113 : decode prog_2_method_2_code 113 = .ok (.putfield 42, 3) := by decide +kernel
theorem d_Cl_seek_116 : decode prog_2_method_2_code 116 = .ok (.return_, 1) := by decide +kernel
theorem d_Cl_seek_117 : decode prog_2_method_2_code 117 = .ok (.iinc 4 1, 3) := by decide +kernel
theorem d_Cl_seek_120 : decode prog_2_method_2_code 120 = .ok (.goto (-38), 3) := by decide +kernel
theorem d_Cl_seek_123 : decode prog_2_method_2_code 123 = .ok (.iinc 3 1, 3) := by decide +kernel
theorem d_Cl_seek_126 : decode prog_2_method_2_code 126 = .ok (.goto (-55), 3) := by decide +kernel
theorem d_Cl_seek_129 : decode prog_2_method_2_code 129 = .ok (.return_, 1) := by decide +kernel
def w_Cl_seek {d : Nat} (hd : 2 ≤ d) := (show SS ("DebtDoors$Clearing", prog_2_method_2_code, 5) (none) d 0 0 0 0 _ from (sS (p1 := 5) (sRn 2 (rFr fl_Cl_24 nk_9_0 (rAn 1 d_Cl_seek_0 rfl) d_Cl_seek_1) d_Cl_seek_4 rfl (by decide)) (sS (p1 := 26) (sS (p1 := 7) (sIn 3 (xE (rI d_Cl_seek_5 rfl)) d_Cl_seek_6 rfl (by decide)) (sLp (ps := 20) (tt := 13) (pn := 26) (p1 := 0) (p2 := 0) (xC (rNot (rJ2 (tgt := 26) j_ge (rIn 3 d_Cl_seek_7 rfl) (rB d_Cl_seek_8 rfl) d_Cl_seek_10 (by decide)))) (sAs (rFr fl_Cl_9 nk_0_0 (rAn 0 d_Cl_seek_13 rfl) d_Cl_seek_14) (rIn 3 d_Cl_seek_17 rfl) (xE (rI d_Cl_seek_18 rfl)) d_Cl_seek_19) (sGo (pn := 7) (sInc d_Cl_seek_20 (by decide)) d_Cl_seek_23 (by decide)))) (sS (p1 := 64) (sS (p1 := 28) (sIn 3 (xE (rI d_Cl_seek_26 rfl)) d_Cl_seek_27 rfl (by decide)) (sLp (ps := 58) (tt := 36) (pn := 64) (p1 := 0) (p2 := 0) (xC (rNot (rJ2 (tgt := 64) j_ge (rIn 3 d_Cl_seek_28 rfl) (rF 5 fl_Cl_30 nk_1_5 (rAn 2 d_Cl_seek_29 rfl) d_Cl_seek_30 rfl) d_Cl_seek_33 (by decide)))) (sAo o_or (rFr fl_Cl_9 nk_0_0 (rAn 0 d_Cl_seek_36 rfl) d_Cl_seek_37) (rIa (rFr fl_Cl_36 nk_1_1 (rAn 2 d_Cl_seek_40 rfl) d_Cl_seek_41) (rIn 3 d_Cl_seek_44 rfl) d_Cl_seek_45) d_Cl_seek_46 d_Cl_seek_47 (r2 o_shl (rI d_Cl_seek_48 rfl) (rIa (rFr fl_Cl_39 nk_1_2 (rAn 2 d_Cl_seek_49 rfl) d_Cl_seek_50) (rIn 3 d_Cl_seek_53 rfl) d_Cl_seek_54) d_Cl_seek_55) d_Cl_seek_56 d_Cl_seek_57) (sGo (pn := 28) (sInc d_Cl_seek_58 (by decide)) d_Cl_seek_61 (by decide)))) (sS (p1 := 69) (sP 4 fl_Cl_42 fp_0_4 nk_0_4 (rAn 0 d_Cl_seek_64 rfl) (xE (rI d_Cl_seek_65 rfl)) d_Cl_seek_66 rfl) (sS (p1 := 129) (sS (p1 := 71) (sIn 3 (xE (rI d_Cl_seek_69 rfl)) d_Cl_seek_70 rfl (by decide)) (sLp (ps := 123) (tt := 79) (pn := 129) (p1 := 0) (p2 := 0) (xC (rNot (rJ2 (tgt := 129) j_gt (rIn 3 d_Cl_seek_71 rfl) (rF 6 fl_Cl_45 nk_9_6 (rAn 1 d_Cl_seek_72 rfl) d_Cl_seek_73 rfl) d_Cl_seek_76 (by decide)))) (sS (p1 := 82) (sI (xE (rI d_Cl_seek_79 rfl)) d_Cl_seek_80 (by decide)) (sLp (ps := 117) (tt := 93) (pn := 123) (p1 := 0) (p2 := 0) (xC (rNot (rJ2 (tgt := 123) j_ge (rIl d_Cl_seek_82) (r2 o_shl (rI d_Cl_seek_84 rfl) (rF 6 fl_Cl_45 nk_9_6 (rAn 1 d_Cl_seek_85 rfl) d_Cl_seek_86 rfl) d_Cl_seek_89) d_Cl_seek_90 (by decide)))) (sIf (pn := 117) (tt := 111) (xAnd (mm := 102) (xC (rNot (rJ2 (tgt := 117) j_ne (rS p_J_bitCount (Nat.le_trans (Nat.le_of_ble_eq_true rfl) hd) ls_Cl_48 (rAi rA0 (rIl d_Cl_seek_93)) (by decide) d_Cl_seek_95) (rIn 3 d_Cl_seek_98 rfl) d_Cl_seek_99 (by decide)))) (xNot (xJ1 (tgt := 117) k_eq (xV lv_Cl_54 (xA (rAi (rAr rA0 (rAn 0 d_Cl_seek_102 rfl)) (rIl d_Cl_seek_103))) (by decide) d_Cl_seek_105) d_Cl_seek_108 (by decide)))) (sS (p1 := 116) (sP 4 fl_Cl_42 fp_0_4 nk_0_4 (rAn 0 d_Cl_seek_111 rfl) (xE (rIn 3 d_Cl_seek_112 rfl)) d_Cl_seek_113 rfl) (sRv d_Cl_seek_116 rfl))) (sGo (pn := 82) (sInc d_Cl_seek_117 (by decide)) d_Cl_seek_120 (by decide)))) (sGo (pn := 71) (sInc d_Cl_seek_123 (by decide)) d_Cl_seek_126 (by decide)))) (sRv d_Cl_seek_129 rfl)))))))
theorem q_Cl_seek {d : Nat} (hd : 12 ≤ d) {μ : zMem} {Z : Zt} {F : Option (List Cls)} {A : Lg} {w : Int → Int} (h : CTx μ Z F A w) : zSp d 0 0 y_Cl_seek zT0 [vr 346, vr 1] μ zT0 (fun q μ' => q = none ∧ zfc [346, 347, 350] μ μ' ∧ ∃ B, LR (eA A) Z.1.toNat B ∧ RgC B μ') := by
  refine zSp.ss [vr 346, vr 1, vx 0, vx 0, vx 0] rfl (w_Cl_seek (Nat.le_trans (by decide) hd)) rfl rfl ?_
  have hn := h.1.1
  have hd0 := h.d
  have h16 := h.2.1.2.1.1
  (try simp only [zit_e, Bool.and_eq_true, Bool.or_eq_true, Bool.not_eq_true', Bool.and_eq_false_iff, Bool.or_eq_false_iff, Bool.not_eq_false', zbe, zdt, zdf, zb2_p, zbp_0, zbp_1, zbp_inj, zbp_01, Bool.true_eq_false, Bool.false_eq_true, true_and, and_true, Decidable.not_not, Classical.not_not, implies_true, List.nil_append, List.cons_append, List.append_assoc, Option.some.injEq, Sum.inl.injEq, zSw_c, zSw_n]); (try simp only [zit_e, Bool.and_eq_true, Bool.or_eq_true, Bool.not_eq_true', Bool.and_eq_false_iff, Bool.or_eq_false_iff, Bool.not_eq_false', zbe, zdt, zdf, zb2_p, zbp_0, zbp_1, zbp_inj, zbp_01, Bool.true_eq_false, Bool.false_eq_true, true_and, and_true, Decidable.not_not, Classical.not_not, implies_true, List.nil_append, List.cons_append, List.append_assoc, Option.some.injEq, Sum.inl.injEq, zSw_c, zSw_n, zc_346, zc_1, zc_2]); (try simp only [zi_cs, zi_c0, zii_cs, zii_c0, zl_cs, zl_c0, zll_cs, zll_c0, zr_cs, zr_c0, zrr_cs, zrr_c0, zxs_cs, zxs_c0, zxx_cs, zxx_c0, zfree_c0, zfree_c1, zfree_cs, zfree_cz, zlong_i, zlong_r, zlong_x, zset_0, zset_s, true_and, and_true, Option.some.injEq, Sum.inl.injEq, Sum.inr.injEq, zb2_p, zbp_0, zbp_1, zbp_inj, zbp_01, Nat.zero_add, Nat.reduceAdd, implies_true, List.nil_append, List.cons_append, List.append_assoc, Int.not_lt, Int.not_le, Decidable.not_not, Int.zero_add, Int.reduceLE, Int.reduceLT, Int.reduceEq, Int.reduceNe, Int.reduceAdd, Int.reduceSub, Int.reduceMul, Int.reduceNeg, Int.reduceToNat, Nat.reduceMul, Nat.reduceLT, Nat.reduceEqDiff, and_self, ite_true, ite_false, zx1, zx2, zRecv, List.length_cons, List.length_nil, ne_eq, not_true_eq_false, not_false_eq_true, true_or, or_true, or_false, false_or, and_false, false_and, zf01, zf10, reduceCtorEq, zSw_c, zSw_n, zm_r, zit_T, zit_F, false_implies, true_implies, zc_346, zc_1, zc_2])
  refine zLoop.up 7 (fun j ρ μ1 => ∃ x4 : zV, ρ = [vr 346, vr 1, vr 2, vi j, x4] ∧ (∀ a : Int, 0 ≤ a → a < j → μ1 347 a = 0) ∧ zfc [346, 347, 350] μ μ1) ⟨_, rfl, fun a x y => by omega, zfc.rf⟩ ?_
  rintro j ρ μ1 hj ⟨x4, rfl, hz, hF⟩
  (try simp only [zit_e, Bool.and_eq_true, Bool.or_eq_true, Bool.not_eq_true', Bool.and_eq_false_iff, Bool.or_eq_false_iff, Bool.not_eq_false', zbe, zdt, zdf, zb2_p, zbp_0, zbp_1, zbp_inj, zbp_01, Bool.true_eq_false, Bool.false_eq_true, true_and, and_true, Decidable.not_not, Classical.not_not, implies_true, List.nil_append, List.cons_append, List.append_assoc, Option.some.injEq, Sum.inl.injEq, zSw_c, zSw_n]); (try simp only [zit_e, Bool.and_eq_true, Bool.or_eq_true, Bool.not_eq_true', Bool.and_eq_false_iff, Bool.or_eq_false_iff, Bool.not_eq_false', zbe, zdt, zdf, zb2_p, zbp_0, zbp_1, zbp_inj, zbp_01, Bool.true_eq_false, Bool.false_eq_true, true_and, and_true, Decidable.not_not, Classical.not_not, implies_true, List.nil_append, List.cons_append, List.append_assoc, Option.some.injEq, Sum.inl.injEq, zSw_c, zSw_n, zc_346, zc_1, zc_2]); (try simp only [zi_cs, zi_c0, zii_cs, zii_c0, zl_cs, zl_c0, zll_cs, zll_c0, zr_cs, zr_c0, zrr_cs, zrr_c0, zxs_cs, zxs_c0, zxx_cs, zxx_c0, zfree_c0, zfree_c1, zfree_cs, zfree_cz, zlong_i, zlong_r, zlong_x, zset_0, zset_s, true_and, and_true, Option.some.injEq, Sum.inl.injEq, Sum.inr.injEq, zb2_p, zbp_0, zbp_1, zbp_inj, zbp_01, Nat.zero_add, Nat.reduceAdd, implies_true, List.nil_append, List.cons_append, List.append_assoc, Int.not_lt, Int.not_le, Decidable.not_not, Int.zero_add, Int.reduceLE, Int.reduceLT, Int.reduceEq, Int.reduceNe, Int.reduceAdd, Int.reduceSub, Int.reduceMul, Int.reduceNeg, Int.reduceToNat, Nat.reduceMul, Nat.reduceLT, Nat.reduceEqDiff, and_self, ite_true, ite_false, zx1, zx2, zRecv, List.length_cons, List.length_nil, ne_eq, not_true_eq_false, not_false_eq_true, true_or, or_true, or_false, false_or, and_false, false_and, zf01, zf10, reduceCtorEq, zSw_c, zSw_n, zm_r, zit_T, zit_F, false_implies, true_implies, zc_346, zc_1, zc_2])
  refine zif (fun c => ?_) (fun c => ?_)
  · refine ⟨by omega, by omega, zI_s (by omega) (by omega), 7 - (j + 1), by omega, j + 1, rfl, by omega, _, rfl, fun a x y => ?_, hF.zm (by decide)⟩
    by_cases ea : a = j
    · rw [zit_t ea]
    · rw [zit_f ea]
      exact hz a x (by omega)
  have ej : j = 7 := by omega
  subst ej
  refine zLoop.up A.2.1.length (fun j ρ μ2 => ∃ x4 : zV, ρ = [vr 346, vr 1, vr 2, vi j, x4] ∧ (∀ a : Nat, a < 7 → ∃ m : Nat, μ2 347 (a : Int) = (m : Int) ∧ m < 128 ∧ ∀ b, m.testBit b = true ↔ ∃ d : Nat, d < j ∧ (dbt A d).1 = (a : Int) ∧ (dbt A d).2.1 = (b : Int)) ∧ zfc [346, 347, 350] μ μ2) ⟨_, rfl, fun a ha => ⟨0, hz a (by omega) (by omega), by decide, fun b => by rw [Nat.zero_testBit]; exact ⟨fun q => (by cases q), fun ⟨d, hd, _⟩ => absurd hd (Nat.not_lt_zero d)⟩⟩, hF⟩ ?_
  clear hz hF
  rintro j ρ μ2 hj2 ⟨x4, rfl, hm, hF⟩
  have h1 : CTx μ2 Z F A w := h.k (fun c hc => hF c (by simp only [List.mem_cons, List.not_mem_nil, or_false]; omega)) (by rw [hF 326 (by decide)]; exact h.2.2.2.2.2)
  have hd1 := h1.d
  have e6 := h1.2.2.1.1
  (try simp only [zit_e, Bool.and_eq_true, Bool.or_eq_true, Bool.not_eq_true', Bool.and_eq_false_iff, Bool.or_eq_false_iff, Bool.not_eq_false', zbe, zdt, zdf, zb2_p, zbp_0, zbp_1, zbp_inj, zbp_01, Bool.true_eq_false, Bool.false_eq_true, true_and, and_true, Decidable.not_not, Classical.not_not, implies_true, List.nil_append, List.cons_append, List.append_assoc, Option.some.injEq, Sum.inl.injEq, zSw_c, zSw_n]); (try simp only [zit_e, Bool.and_eq_true, Bool.or_eq_true, Bool.not_eq_true', Bool.and_eq_false_iff, Bool.or_eq_false_iff, Bool.not_eq_false', zbe, zdt, zdf, zb2_p, zbp_0, zbp_1, zbp_inj, zbp_01, Bool.true_eq_false, Bool.false_eq_true, true_and, and_true, Decidable.not_not, Classical.not_not, implies_true, List.nil_append, List.cons_append, List.append_assoc, Option.some.injEq, Sum.inl.injEq, zSw_c, zSw_n, zc_346, zc_1, zc_2]); (try simp only [zi_cs, zi_c0, zii_cs, zii_c0, zl_cs, zl_c0, zll_cs, zll_c0, zr_cs, zr_c0, zrr_cs, zrr_c0, zxs_cs, zxs_c0, zxx_cs, zxx_c0, zfree_c0, zfree_c1, zfree_cs, zfree_cz, zlong_i, zlong_r, zlong_x, zset_0, zset_s, true_and, and_true, Option.some.injEq, Sum.inl.injEq, Sum.inr.injEq, zb2_p, zbp_0, zbp_1, zbp_inj, zbp_01, Nat.zero_add, Nat.reduceAdd, implies_true, List.nil_append, List.cons_append, List.append_assoc, Int.not_lt, Int.not_le, Decidable.not_not, Int.zero_add, Int.reduceLE, Int.reduceLT, Int.reduceEq, Int.reduceNe, Int.reduceAdd, Int.reduceSub, Int.reduceMul, Int.reduceNeg, Int.reduceToNat, Nat.reduceMul, Nat.reduceLT, Nat.reduceEqDiff, and_self, ite_true, ite_false, zx1, zx2, zRecv, List.length_cons, List.length_nil, ne_eq, not_true_eq_false, not_false_eq_true, true_or, or_true, or_false, false_or, and_false, false_and, zf01, zf10, reduceCtorEq, zSw_c, zSw_n, zm_r, zit_T, zit_F, false_implies, true_implies, zc_346, zc_1, zc_2])
  rw [hd1.2.2.2.2]
  refine zif (fun c0 => ?_) (fun c0 => ?_)
  · obtain ⟨e1, e2⟩ := h1.e (k := j) (by omega) c0
    have e4 : μ2 4 (j : Int) = (dbt A j).1 ∧ μ2 5 (j : Int) = (dbt A j).2.1 := ⟨congrArg (fun x => x.1) e1, congrArg (fun x => x.2.1) e1⟩
    obtain ⟨o1, o2, o3, -⟩ := e2
    rw [e4.1, e4.2]
    obtain ⟨a0, ha0⟩ : ∃ a0 : Nat, (dbt A j).1 = a0 := ⟨_, (Int.toNat_of_nonneg o1.1).symm⟩
    obtain ⟨b0, hb0⟩ : ∃ b0 : Nat, (dbt A j).2.1 = b0 := ⟨_, (Int.toNat_of_nonneg o2.1).symm⟩
    obtain ⟨m0, m1, m2, m3⟩ := hm a0 (by omega)
    have hp7 : 2 ^ b0 ≤ 2 ^ 6 := Nat.pow_le_pow_right (by decide) (by omega)
    have h26 : (2 : Nat) ^ 6 = 64 := by decide
    have hor : zor (m0 : Int) (zshl 1 (b0 : Int)) = ((m0 ||| 2 ^ b0 : Nat) : Int) := by
      rw [zshl_n (by omega), zor_n (by omega) (by omega)]
    have hor7 : m0 ||| 2 ^ b0 < 2 ^ 7 := Nat.or_lt_two_pow (show m0 < 2 ^ 7 by exact m2) (by omega)
    rw [ha0, hb0, m1, hor]
    refine ⟨by omega, by omega, by omega, by omega, zI_s (by omega) (by omega), A.2.1.length - (j + 1), by omega, j + 1, rfl, by omega, _, rfl, fun a ha => ?_, hF.zm (by decide)⟩
    by_cases ea : a = a0
    · subst ea
      refine ⟨m0 ||| 2 ^ b0, zit_t rfl, by omega, fun b => ?_⟩
      rw [Nat.testBit_or, Bool.or_eq_true, m3, Nat.testBit_two_pow, decide_eq_true_iff]
      constructor
      · rintro (⟨d, q1, q2⟩ | rfl)
        · exact ⟨d, by omega, q2⟩
        · exact ⟨j, by omega, ha0, hb0⟩
      · rintro ⟨d, q1, q2, q3⟩
        by_cases ed : d = j
        · subst ed
          exact Or.inr (by omega)
        · exact Or.inl ⟨d, by omega, q2, q3⟩
    · obtain ⟨m, k1, k2, k3⟩ := hm a ha
      refine ⟨m, by rw [zit_f (by omega)]; exact k1, k2, fun b => ?_⟩
      rw [k3]
      constructor
      · rintro ⟨d, q1, q2⟩
        exact ⟨d, by omega, q2⟩
      · rintro ⟨d, q1, q2, q3⟩
        by_cases ed : d = j
        · subst ed
          omega
        · exact ⟨d, by omega, q2, q3⟩
  have ej2 : j = A.2.1.length := by omega
  subst ej2
  have hE : owC (eA A) μ2 := by
    intro a ha
    obtain ⟨m, k1, k2, k3⟩ := hm a ha
    refine ⟨m, k1, k2, fun b => ?_⟩
    rw [k3]
    unfold eA
    rw [owL_ex h.2.1.2.1.2]
    constructor
    · rintro ⟨d, q1, q2⟩
      exact ⟨dbt A d, dbt_m (by omega) (by omega), q2⟩
    · rintro ⟨x, x1, x2⟩
      obtain ⟨d, hd2, hx⟩ := List.getElem_of_mem x1
      refine ⟨d, hd2, ?_⟩
      have : dbt A d = x := by
        have q := dfV_m (V := A.2.1) (k := d) (by omega) (by omega)
        rw [Int.toNat_natCast, List.getElem?_eq_getElem hd2] at q
        rw [← hx]
        exact (Option.some.inj q).symm
      rw [this]
      exact x2
  generalize hnn : Z.1.toNat = n
  have hn7 : n ≤ 7 := by omega
  have hpn : 2 ^ n ≤ 2 ^ 7 := Nat.pow_le_pow_right (by decide) hn7
  have h27 : (2 : Nat) ^ 7 = 128 := by decide
  have hsh : zshl 1 Z.1 = ((2 ^ n : Nat) : Int) := by
    have := zshl_n (k := n) (by omega)
    rwa [show (n : Int) = Z.1 by omega] at this
  generalize hEE : eA A = E at *
  refine zLoop.up n (fun j ρ μ3 => ∃ x4 : zV, ρ = [vr 346, vr 1, vr 2, vi (2 + j), x4] ∧ owC E μ3 ∧ μ3 346 4 = 0 ∧ zfc [346, 347, 350] μ μ3 ∧ ∀ l, CP E n l → 2 + j ≤ l.length) ⟨_, rfl, fun a ha => by rw [zm_off _ (by decide)]; exact hE a ha, zm_s, hF.zm (by decide), fun l hl => (CP_b hn7 hl).2.2⟩ ?_
  clear hm hE hd1 h1 e6 hF
  rintro j ρ μ3 hj3 ⟨x4, rfl, hE, h4, hF, hlen⟩
  have h1 : CTx μ3 Z F A w := h.k (fun c hc => hF c (by simp only [List.mem_cons, List.not_mem_nil, or_false]; omega)) (by rw [hF 326 (by decide)]; exact h.2.2.2.2.2)
  have e6 := h1.2.2.1.1
  (try simp only [zit_e, Bool.and_eq_true, Bool.or_eq_true, Bool.not_eq_true', Bool.and_eq_false_iff, Bool.or_eq_false_iff, Bool.not_eq_false', zbe, zdt, zdf, zb2_p, zbp_0, zbp_1, zbp_inj, zbp_01, Bool.true_eq_false, Bool.false_eq_true, true_and, and_true, Decidable.not_not, Classical.not_not, implies_true, List.nil_append, List.cons_append, List.append_assoc, Option.some.injEq, Sum.inl.injEq, zSw_c, zSw_n]); (try simp only [zit_e, Bool.and_eq_true, Bool.or_eq_true, Bool.not_eq_true', Bool.and_eq_false_iff, Bool.or_eq_false_iff, Bool.not_eq_false', zbe, zdt, zdf, zb2_p, zbp_0, zbp_1, zbp_inj, zbp_01, Bool.true_eq_false, Bool.false_eq_true, true_and, and_true, Decidable.not_not, Classical.not_not, implies_true, List.nil_append, List.cons_append, List.append_assoc, Option.some.injEq, Sum.inl.injEq, zSw_c, zSw_n, zc_346, zc_1, zc_2]); (try simp only [zi_cs, zi_c0, zii_cs, zii_c0, zl_cs, zl_c0, zll_cs, zll_c0, zr_cs, zr_c0, zrr_cs, zrr_c0, zxs_cs, zxs_c0, zxx_cs, zxx_c0, zfree_c0, zfree_c1, zfree_cs, zfree_cz, zlong_i, zlong_r, zlong_x, zset_0, zset_s, true_and, and_true, Option.some.injEq, Sum.inl.injEq, Sum.inr.injEq, zb2_p, zbp_0, zbp_1, zbp_inj, zbp_01, Nat.zero_add, Nat.reduceAdd, implies_true, List.nil_append, List.cons_append, List.append_assoc, Int.not_lt, Int.not_le, Decidable.not_not, Int.zero_add, Int.reduceLE, Int.reduceLT, Int.reduceEq, Int.reduceNe, Int.reduceAdd, Int.reduceSub, Int.reduceMul, Int.reduceNeg, Int.reduceToNat, Nat.reduceMul, Nat.reduceLT, Nat.reduceEqDiff, and_self, ite_true, ite_false, zx1, zx2, zRecv, List.length_cons, List.length_nil, ne_eq, not_true_eq_false, not_false_eq_true, true_or, or_true, or_false, false_or, and_false, false_and, zf01, zf10, reduceCtorEq, zSw_c, zSw_n, zm_r, zit_T, zit_F, false_implies, true_implies, zc_346, zc_1, zc_2])
  rw [e6]
  refine zif (fun c1 => ?_) (fun c1 => ?_)
  · refine zLoop.up (2 ^ n) (fun s ρ μ4 => ρ = [vr 346, vr 1, vr 2, vi (2 + j), vi s] ∧ owC E μ4 ∧ μ4 346 4 = 0 ∧ zfc [346, 347, 350] μ μ4 ∧ ∀ l, CP E n l → l.length = 2 + j → s ≤ rgB l) ⟨rfl, hE, h4, hF, fun _ _ _ => Nat.zero_le _⟩ ?_
    clear hE h4 hF h1 e6
    rintro s ρ μ4 hs ⟨rfl, hE, h4, hF, hbs⟩
    have h1 : CTx μ4 Z F A w := h.k (fun c hc => hF c (by simp only [List.mem_cons, List.not_mem_nil, or_false]; omega)) (by rw [hF 326 (by decide)]; exact h.2.2.2.2.2)
    have e6 := h1.2.2.1.1
    (try simp only [zit_e, Bool.and_eq_true, Bool.or_eq_true, Bool.not_eq_true', Bool.and_eq_false_iff, Bool.or_eq_false_iff, Bool.not_eq_false', zbe, zdt, zdf, zb2_p, zbp_0, zbp_1, zbp_inj, zbp_01, Bool.true_eq_false, Bool.false_eq_true, true_and, and_true, Decidable.not_not, Classical.not_not, implies_true, List.nil_append, List.cons_append, List.append_assoc, Option.some.injEq, Sum.inl.injEq, zSw_c, zSw_n]); (try simp only [zit_e, Bool.and_eq_true, Bool.or_eq_true, Bool.not_eq_true', Bool.and_eq_false_iff, Bool.or_eq_false_iff, Bool.not_eq_false', zbe, zdt, zdf, zb2_p, zbp_0, zbp_1, zbp_inj, zbp_01, Bool.true_eq_false, Bool.false_eq_true, true_and, and_true, Decidable.not_not, Classical.not_not, implies_true, List.nil_append, List.cons_append, List.append_assoc, Option.some.injEq, Sum.inl.injEq, zSw_c, zSw_n, zc_346, zc_1, zc_2, f_J_bitCount, g_J_bitCount]); (try simp only [zi_cs, zi_c0, zii_cs, zii_c0, zl_cs, zl_c0, zll_cs, zll_c0, zr_cs, zr_c0, zrr_cs, zrr_c0, zxs_cs, zxs_c0, zxx_cs, zxx_c0, zfree_c0, zfree_c1, zfree_cs, zfree_cz, zlong_i, zlong_r, zlong_x, zset_0, zset_s, true_and, and_true, Option.some.injEq, Sum.inl.injEq, Sum.inr.injEq, zb2_p, zbp_0, zbp_1, zbp_inj, zbp_01, Nat.zero_add, Nat.reduceAdd, implies_true, List.nil_append, List.cons_append, List.append_assoc, Int.not_lt, Int.not_le, Decidable.not_not, Int.zero_add, Int.reduceLE, Int.reduceLT, Int.reduceEq, Int.reduceNe, Int.reduceAdd, Int.reduceSub, Int.reduceMul, Int.reduceNeg, Int.reduceToNat, Nat.reduceMul, Nat.reduceLT, Nat.reduceEqDiff, and_self, ite_true, ite_false, zx1, zx2, zRecv, List.length_cons, List.length_nil, ne_eq, not_true_eq_false, not_false_eq_true, true_or, or_true, or_false, false_or, and_false, false_and, zf01, zf10, reduceCtorEq, zSw_c, zSw_n, zm_r, zit_T, zit_F, false_implies, true_implies, zc_346, zc_1, zc_2, f_J_bitCount, g_J_bitCount])
    have hpl := fun {l : List Nat} (q : CP E n l) => CP_b hn7 q
    have hplt := fun {l : List Nat} (q : CP E n l) => CP_lt hn7 q
    rw [e6, hsh]
    refine zif (fun c2 => ?_) (fun c2 => ?_)
    · have hs2 : s < 2 ^ n := by omega
      have nx : ∀ {μ5 : zMem}, owC E μ5 → μ5 346 4 = 0 → zfc [346, 347, 350] μ μ5 → (∀ l, CP E n l → l.length = 2 + j → s ≠ rgB l) → zI ((s : Int) + 1) ∧ ∃ m', m' < 2 ^ n - s ∧ ∃ j', m' = 2 ^ n - j' ∧ j' ≤ 2 ^ n ∧ [vr 346, vr 1, vr 2, vi (2 + (j : Int)), vi ((s : Int) + 1)] = [vr 346, vr 1, vr 2, vi (2 + (j : Int)), vi j'] ∧ owC E μ5 ∧ μ5 346 4 = 0 ∧ zfc [346, 347, 350] μ μ5 ∧ ∀ l, CP E n l → l.length = 2 + j → j' ≤ rgB l := by
        intro μ5 q1 q2 q3 q4
        refine ⟨zI_s (by omega) (by omega), 2 ^ n - (s + 1), by omega, s + 1, rfl, by omega, rfl, q1, q2, q3, fun l hl h2 => ?_⟩
        have := hbs l hl h2
        have := q4 l hl h2
        omega
      rw [pc16 (by omega)]
      refine ⟨by omega, ?_⟩
      refine zif (fun c3 => ?_) (fun c3 => ?_)
      · have hs1 : 1 ≤ s := by
          rcases Nat.eq_zero_or_pos s with z | z
          · subst z
            rw [show pcN 8 0 = 0 by decide] at c3
            omega
          · exact z
        have hrg := rg_p (E := E) hn7 hs1 hs2
        refine zCw.use (q_Cl_ringOf (d := 10) (by decide) hE hs1 (by omega)) (by omega) (fun q μ5 e => ?_)
        obtain ⟨f1, f2, f3⟩ := e
        have hF5 : zfc [346, 347, 350] μ μ5 := (hF.tr f1).mo (by simp)
        have hE5 : owC E μ5 := fun a ha => by
          rw [f1 347 (by decide)]
          exact hE a ha
        rcases hr : rgR E s with _ | l
        · have := f2 hr
          subst this
          refine ⟨_, rfl, ?_⟩
          rw [if_neg (fun q => q rfl)]
          exact nx hE5 (by rw [f1 346 (by decide)]; exact h4) hF5 (fun l hl _ q => hrg.1 hr l hl q.symm)
        · obtain ⟨rfl, f4⟩ := f3 l hr
          obtain ⟨g1, g2, g3⟩ := hrg.2 l hr (by omega)
          have gl := hpl g1
          have hll : l.length = 2 + j := by rw [← gl.2.1, g2]; omega
          refine ⟨_, rfl, ?_⟩
          rw [if_pos (by decide)]
          refine ⟨hF5.zm (by decide), some l, ⟨g1, fun l' hl' => ?_⟩, ?_, fun i hi => ?_⟩
          · have k1 := hlen l' hl'
            have k2 := hpl hl'
            unfold kyL
            by_cases q : l'.length = 2 + j
            · have k3 := hbs l' hl' q
              exact ⟨by omega, fun z => g3 l' hl' (by omega)⟩
            · exact ⟨by omega, fun z => by omega⟩
          · rw [zm_s, hll]
            omega
          · rw [zm_off _ (by decide)]
            exact f4 i hi
      · refine nx hE h4 hF (fun l hl h2 q => c3 ?_)
        have := (hpl hl).2.1
        rw [← q, h2] at this
        omega
    · refine ⟨zI_s (by omega) (by omega), n - (j + 1), by omega, j + 1, rfl, by omega, vi s, by rw [show 2 + (j : Int) + 1 = 2 + ((j + 1 : Nat) : Int) by omega], hE, h4, hF, fun l hl => ?_⟩
      have k1 := hlen l hl
      rcases Nat.lt_or_ge (2 + j) l.length with q | q
      · omega
      · have := hbs l hl (by omega)
        have := hplt hl
        omega
  · refine ⟨hF, none, fun l hl => ?_, h4⟩
    have k1 := hlen l hl
    have k2 := CP_b hn7 hl
    have k3 := pc_le (n := n) (c := rgB l) (by omega) (CP_lt hn7 hl)
    omega

